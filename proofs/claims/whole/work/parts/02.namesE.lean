set_option maxRecDepth 20000 in
theorem ggX3_init_X2_init : GoodIn wsX3_init wsX2_init := goodIn_r _ [10, 11, 2, 3, 12, 13, 14, 15, 16, 17, 18, 19, 20, 21, 22, 23, 24, 25, 26, 27, 28, 29, 30] (by decide +kernel) (by decide +kernel)
set_option maxRecDepth 20000 in
theorem gX3_init_X2_init_n9 : GoodIn wsX3_init (wsX2_init) := ggX3_init_X2_init
theorem dX3_init_0 : decode cX3_init 0 = .ok (.aload_n 0, 1) := by decide +kernel
theorem dX3_init_1 : decode cX3_init 1 = .ok (.invokespecial 1, 3) := by decide +kernel
theorem dX3_init_4 : decode cX3_init 4 = .ok (.aload_n 0, 1) := by decide +kernel
theorem dX3_init_5 : decode cX3_init 5 = .ok (.new 7, 3) := by decide +kernel
theorem dX3_init_8 : decode cX3_init 8 = .ok (.dup, 1) := by decide +kernel
theorem dX3_init_9 : decode cX3_init 9 = .ok (.invokespecial 9, 3) := by decide +kernel
theorem dX3_init_12 : decode cX3_init 12 = .ok (.putfield 10, 3) := by decide +kernel
theorem dX3_init_15 : decode cX3_init 15 = .ok (.aload_n 0, 1) := by decide +kernel
theorem dX3_init_16 : decode cX3_init 16 = .ok (.new 7, 3) := by decide +kernel
theorem dX3_init_19 : decode cX3_init 19 = .ok (.dup, 1) := by decide +kernel
theorem dX3_init_20 : decode cX3_init 20 = .ok (.invokespecial 9, 3) := by decide +kernel
theorem dX3_init_23 : decode cX3_init 23 = .ok (.putfield 16, 3) := by decide +kernel
theorem dX3_init_26 : decode cX3_init 26 = .ok (.return_, 1) := by decide +kernel
theorem dX3_thrown_0 : decode cX3_thrown 0 = .ok (.aload_n 0, 1) := by decide +kernel
theorem dX3_thrown_1 : decode cX3_thrown 1 = .ok (.getfield 19, 3) := by decide +kernel
theorem dX3_thrown_4 : decode cX3_thrown 4 = .ok (.ireturn, 1) := by decide +kernel
theorem dX3_no_0 : decode cX3_no 0 = .ok (.aload_n 0, 1) := by decide +kernel
theorem dX3_no_1 : decode cX3_no 1 = .ok (.iload_n 1, 1) := by decide +kernel
theorem dX3_no_2 : decode cX3_no 2 = .ok (.putfield 19, 3) := by decide +kernel
theorem dX3_no_5 : decode cX3_no 5 = .ok (.iconst 0, 1) := by decide +kernel
theorem dX3_no_6 : decode cX3_no 6 = .ok (.ireturn, 1) := by decide +kernel
theorem dX3_isIn_0 : decode cX3_isIn 0 = .ok (.iload_n 0, 1) := by decide +kernel
theorem dX3_isIn_1 : decode cX3_isIn 1 = .ok (.iload_n 1, 1) := by decide +kernel
theorem dX3_isIn_2 : decode cX3_isIn 2 = .ok (.if_icmp .lt 12, 3) := by decide +kernel
theorem dX3_isIn_5 : decode cX3_isIn 5 = .ok (.iload_n 0, 1) := by decide +kernel
theorem dX3_isIn_6 : decode cX3_isIn 6 = .ok (.iload_n 2, 1) := by decide +kernel
theorem dX3_isIn_7 : decode cX3_isIn 7 = .ok (.if_icmp .gt 7, 3) := by decide +kernel
theorem dX3_isIn_10 : decode cX3_isIn 10 = .ok (.iconst 1, 1) := by decide +kernel
theorem dX3_isIn_11 : decode cX3_isIn 11 = .ok (.goto 4, 3) := by decide +kernel
theorem dX3_isIn_14 : decode cX3_isIn 14 = .ok (.iconst 0, 1) := by decide +kernel
theorem dX3_isIn_15 : decode cX3_isIn 15 = .ok (.ireturn, 1) := by decide +kernel
set_option maxRecDepth 20000 in
theorem ggX3_isWrestler_X3_isIn : GoodIn wsX3_isWrestler wsX3_isIn := goodIn_r _ [5] (by decide +kernel) (by decide +kernel)
set_option maxRecDepth 20000 in
theorem gX3_isWrestler_X3_isIn : GoodIn wsX3_isWrestler (va_wsS RX3 26 yX3_isIn wsX3_isIn) := goodIn_app (goodIn_of _ (by decide +kernel)) ggX3_isWrestler_X3_isIn
theorem dX3_isWrestler_0 : decode cX3_isWrestler 0 = .ok (.iload_n 1, 1) := by decide +kernel
theorem dX3_isWrestler_1 : decode cX3_isWrestler 1 = .ok (.iconst 0, 1) := by decide +kernel
theorem dX3_isWrestler_2 : decode cX3_isWrestler 2 = .ok (.aload_n 0, 1) := by decide +kernel
theorem dX3_isWrestler_3 : decode cX3_isWrestler 3 = .ok (.getfield 10, 3) := by decide +kernel
theorem dX3_isWrestler_6 : decode cX3_isWrestler 6 = .ok (.getfield 23, 3) := by decide +kernel
theorem dX3_isWrestler_9 : decode cX3_isWrestler 9 = .ok (.iconst 1, 1) := by decide +kernel
theorem dX3_isWrestler_10 : decode cX3_isWrestler 10 = .ok (.isub, 1) := by decide +kernel
theorem dX3_isWrestler_11 : decode cX3_isWrestler 11 = .ok (.invokestatic 26, 3) := by decide +kernel
theorem dX3_isWrestler_14 : decode cX3_isWrestler 14 = .ok (.ireturn, 1) := by decide +kernel
set_option maxRecDepth 20000 in
theorem ggX3_join_X3_isIn : GoodIn wsX3_join wsX3_isIn := goodIn_r _ [6] (by decide +kernel) (by decide +kernel)
set_option maxRecDepth 20000 in
theorem gX3_join_X3_isIn : GoodIn wsX3_join (va_wsS RX3 26 yX3_isIn wsX3_isIn) := goodIn_app (goodIn_of _ (by decide +kernel)) ggX3_join_X3_isIn
set_option maxRecDepth 20000 in
theorem ggX3_join_X3_no : GoodIn wsX3_join wsX3_no := goodIn_r _ [10, 1, 11, 12, 13] (by decide +kernel) (by decide +kernel)
set_option maxRecDepth 20000 in
theorem gX3_join_X3_no : GoodIn wsX3_join (wsV RX3 30 RX3 yX3_no wsX3_no) := goodIn_app (goodIn_of _ (by decide +kernel)) ggX3_join_X3_no
theorem dX3_join_0 : decode cX3_join 0 = .ok (.aload_n 0, 1) := by decide +kernel
theorem dX3_join_1 : decode cX3_join 1 = .ok (.iconst 0, 1) := by decide +kernel
theorem dX3_join_2 : decode cX3_join 2 = .ok (.putfield 19, 3) := by decide +kernel
theorem dX3_join_5 : decode cX3_join 5 = .ok (.iload_n 1, 1) := by decide +kernel
theorem dX3_join_6 : decode cX3_join 6 = .ok (.iconst 0, 1) := by decide +kernel
theorem dX3_join_7 : decode cX3_join 7 = .ok (.iconst 2, 1) := by decide +kernel
theorem dX3_join_8 : decode cX3_join 8 = .ok (.invokestatic 26, 3) := by decide +kernel
theorem dX3_join_11 : decode cX3_join 11 = .ok (.ifCond .ne 9, 3) := by decide +kernel
theorem dX3_join_14 : decode cX3_join 14 = .ok (.aload_n 0, 1) := by decide +kernel
theorem dX3_join_15 : decode cX3_join 15 = .ok (.iconst 1, 1) := by decide +kernel
theorem dX3_join_16 : decode cX3_join 16 = .ok (.invokevirtual 30, 3) := by decide +kernel
theorem dX3_join_19 : decode cX3_join 19 = .ok (.ireturn, 1) := by decide +kernel
theorem dX3_join_20 : decode cX3_join 20 = .ok (.aload_n 0, 1) := by decide +kernel
theorem dX3_join_21 : decode cX3_join 21 = .ok (.getfield 10, 3) := by decide +kernel
theorem dX3_join_24 : decode cX3_join 24 = .ok (.getfield 23, 3) := by decide +kernel
theorem dX3_join_27 : decode cX3_join 27 = .ok (.bipush 12, 2) := by decide +kernel
theorem dX3_join_29 : decode cX3_join 29 = .ok (.if_icmp .ne 9, 3) := by decide +kernel
theorem dX3_join_32 : decode cX3_join 32 = .ok (.aload_n 0, 1) := by decide +kernel
theorem dX3_join_33 : decode cX3_join 33 = .ok (.iconst 2, 1) := by decide +kernel
theorem dX3_join_34 : decode cX3_join 34 = .ok (.invokevirtual 30, 3) := by decide +kernel
theorem dX3_join_37 : decode cX3_join 37 = .ok (.ireturn, 1) := by decide +kernel
theorem dX3_join_38 : decode cX3_join 38 = .ok (.aload_n 0, 1) := by decide +kernel
theorem dX3_join_39 : decode cX3_join 39 = .ok (.getfield 10, 3) := by decide +kernel
theorem dX3_join_42 : decode cX3_join 42 = .ok (.getfield 23, 3) := by decide +kernel
theorem dX3_join_45 : decode cX3_join 45 = .ok (.istore_n 2, 1) := by decide +kernel
theorem dX3_join_46 : decode cX3_join 46 = .ok (.aload_n 0, 1) := by decide +kernel
theorem dX3_join_47 : decode cX3_join 47 = .ok (.getfield 10, 3) := by decide +kernel
theorem dX3_join_50 : decode cX3_join 50 = .ok (.getfield 34, 3) := by decide +kernel
theorem dX3_join_53 : decode cX3_join 53 = .ok (.iload_n 2, 1) := by decide +kernel
theorem dX3_join_54 : decode cX3_join 54 = .ok (.sipush 1000, 3) := by decide +kernel
theorem dX3_join_57 : decode cX3_join 57 = .ok (.iastore, 1) := by decide +kernel
theorem dX3_join_58 : decode cX3_join 58 = .ok (.aload_n 0, 1) := by decide +kernel
theorem dX3_join_59 : decode cX3_join 59 = .ok (.getfield 10, 3) := by decide +kernel
theorem dX3_join_62 : decode cX3_join 62 = .ok (.getfield 38, 3) := by decide +kernel
theorem dX3_join_65 : decode cX3_join 65 = .ok (.iload_n 2, 1) := by decide +kernel
theorem dX3_join_66 : decode cX3_join 66 = .ok (.sipush 1000, 3) := by decide +kernel
theorem dX3_join_69 : decode cX3_join 69 = .ok (.iastore, 1) := by decide +kernel
theorem dX3_join_70 : decode cX3_join 70 = .ok (.aload_n 0, 1) := by decide +kernel
theorem dX3_join_71 : decode cX3_join 71 = .ok (.getfield 10, 3) := by decide +kernel
theorem dX3_join_74 : decode cX3_join 74 = .ok (.getfield 41, 3) := by decide +kernel
theorem dX3_join_77 : decode cX3_join 77 = .ok (.iload_n 2, 1) := by decide +kernel
theorem dX3_join_78 : decode cX3_join 78 = .ok (.iload_n 1, 1) := by decide +kernel
theorem dX3_join_79 : decode cX3_join 79 = .ok (.iastore, 1) := by decide +kernel
theorem dX3_join_80 : decode cX3_join 80 = .ok (.aload_n 0, 1) := by decide +kernel
theorem dX3_join_81 : decode cX3_join 81 = .ok (.getfield 10, 3) := by decide +kernel
theorem dX3_join_84 : decode cX3_join 84 = .ok (.dup, 1) := by decide +kernel
theorem dX3_join_85 : decode cX3_join 85 = .ok (.getfield 23, 3) := by decide +kernel
theorem dX3_join_88 : decode cX3_join 88 = .ok (.iconst 1, 1) := by decide +kernel
theorem dX3_join_89 : decode cX3_join 89 = .ok (.iadd, 1) := by decide +kernel
theorem dX3_join_90 : decode cX3_join 90 = .ok (.putfield 23, 3) := by decide +kernel
theorem dX3_join_93 : decode cX3_join 93 = .ok (.iload_n 2, 1) := by decide +kernel
theorem dX3_join_94 : decode cX3_join 94 = .ok (.ireturn, 1) := by decide +kernel
set_option maxRecDepth 20000 in
theorem ggX3_rate_X3_isWrestler : GoodIn wsX3_rate wsX3_isWrestler := goodIn_r _ [7, 2, 8, 9, 6, 10, 26, 27, 28, 29, 30, 31, 32, 33, 34, 35, 36, 37, 38, 39] (by decide +kernel) (by decide +kernel)
set_option maxRecDepth 20000 in
theorem gX3_rate_X3_isWrestler : GoodIn wsX3_rate (wsV RX3 44 RX3 yX3_isWrestler wsX3_isWrestler) := goodIn_app (goodIn_of _ (by decide +kernel)) ggX3_rate_X3_isWrestler
set_option maxRecDepth 20000 in
theorem ggX3_rate_X3_no : GoodIn wsX3_rate wsX3_no := goodIn_r _ [14, 1, 26, 27, 28] (by decide +kernel) (by decide +kernel)
set_option maxRecDepth 20000 in
theorem gX3_rate_X3_no : GoodIn wsX3_rate (wsV RX3 30 RX3 yX3_no wsX3_no) := goodIn_app (goodIn_of _ (by decide +kernel)) ggX3_rate_X3_no
set_option maxRecDepth 20000 in
theorem ggX3_rate_X3_isIn : GoodIn wsX3_rate wsX3_isIn := goodIn_r _ [10] (by decide +kernel) (by decide +kernel)
set_option maxRecDepth 20000 in
theorem gX3_rate_X3_isIn : GoodIn wsX3_rate (va_wsS RX3 26 yX3_isIn wsX3_isIn) := goodIn_app (goodIn_of _ (by decide +kernel)) ggX3_rate_X3_isIn
set_option maxRecDepth 20000 in
theorem ggX3_rate_X2_setRating : GoodIn wsX3_rate wsX2_setRating := goodIn_r _ [19, 20, 21, 22, 23, 24, 25, 29, 30, 31, 32, 33, 34, 35, 36, 37, 38, 39] (by decide +kernel) (by decide +kernel)
set_option maxRecDepth 20000 in
theorem gX3_rate_X2_setRating : GoodIn wsX3_rate (wsV RX3 48 RX2 yX2_setRating wsX2_setRating) := goodIn_app (goodIn_of _ (by decide +kernel)) ggX3_rate_X2_setRating
theorem dX3_rate_0 : decode cX3_rate 0 = .ok (.aload_n 0, 1) := by decide +kernel
theorem dX3_rate_1 : decode cX3_rate 1 = .ok (.iconst 0, 1) := by decide +kernel
theorem dX3_rate_2 : decode cX3_rate 2 = .ok (.putfield 19, 3) := by decide +kernel
theorem dX3_rate_5 : decode cX3_rate 5 = .ok (.aload_n 0, 1) := by decide +kernel
theorem dX3_rate_6 : decode cX3_rate 6 = .ok (.iload_n 1, 1) := by decide +kernel
theorem dX3_rate_7 : decode cX3_rate 7 = .ok (.invokevirtual 44, 3) := by decide +kernel
theorem dX3_rate_10 : decode cX3_rate 10 = .ok (.ifCond .ne 9, 3) := by decide +kernel
theorem dX3_rate_13 : decode cX3_rate 13 = .ok (.aload_n 0, 1) := by decide +kernel
theorem dX3_rate_14 : decode cX3_rate 14 = .ok (.iconst 1, 1) := by decide +kernel
theorem dX3_rate_15 : decode cX3_rate 15 = .ok (.invokevirtual 30, 3) := by decide +kernel
theorem dX3_rate_18 : decode cX3_rate 18 = .ok (.ireturn, 1) := by decide +kernel
theorem dX3_rate_19 : decode cX3_rate 19 = .ok (.iload_n 2, 1) := by decide +kernel
theorem dX3_rate_20 : decode cX3_rate 20 = .ok (.bipush 100, 2) := by decide +kernel
theorem dX3_rate_22 : decode cX3_rate 22 = .ok (.sipush 3000, 3) := by decide +kernel
theorem dX3_rate_25 : decode cX3_rate 25 = .ok (.invokestatic 26, 3) := by decide +kernel
theorem dX3_rate_28 : decode cX3_rate 28 = .ok (.ifCond .ne 9, 3) := by decide +kernel
theorem dX3_rate_31 : decode cX3_rate 31 = .ok (.aload_n 0, 1) := by decide +kernel
theorem dX3_rate_32 : decode cX3_rate 32 = .ok (.iconst 2, 1) := by decide +kernel
theorem dX3_rate_33 : decode cX3_rate 33 = .ok (.invokevirtual 30, 3) := by decide +kernel
theorem dX3_rate_36 : decode cX3_rate 36 = .ok (.ireturn, 1) := by decide +kernel
theorem dX3_rate_37 : decode cX3_rate 37 = .ok (.aload_n 0, 1) := by decide +kernel
theorem dX3_rate_38 : decode cX3_rate 38 = .ok (.getfield 10, 3) := by decide +kernel
theorem dX3_rate_41 : decode cX3_rate 41 = .ok (.getfield 34, 3) := by decide +kernel
theorem dX3_rate_44 : decode cX3_rate 44 = .ok (.iload_n 1, 1) := by decide +kernel
theorem dX3_rate_45 : decode cX3_rate 45 = .ok (.iaload, 1) := by decide +kernel
theorem dX3_rate_46 : decode cX3_rate 46 = .ok (.istore_n 3, 1) := by decide +kernel
theorem dX3_rate_47 : decode cX3_rate 47 = .ok (.aload_n 0, 1) := by decide +kernel
theorem dX3_rate_48 : decode cX3_rate 48 = .ok (.getfield 10, 3) := by decide +kernel
theorem dX3_rate_51 : decode cX3_rate 51 = .ok (.iload_n 1, 1) := by decide +kernel
theorem dX3_rate_52 : decode cX3_rate 52 = .ok (.iload_n 2, 1) := by decide +kernel
theorem dX3_rate_53 : decode cX3_rate 53 = .ok (.invokevirtual 48, 3) := by decide +kernel
theorem dX3_rate_56 : decode cX3_rate 56 = .ok (.iload_n 3, 1) := by decide +kernel
theorem dX3_rate_57 : decode cX3_rate 57 = .ok (.ireturn, 1) := by decide +kernel
set_option maxRecDepth 20000 in
theorem ggX3_bout_X3_isWrestler : GoodIn wsX3_bout wsX3_isWrestler := goodIn_r _ [7, 2, 8, 9, 6, 10, 58, 59, 60, 61, 62, 63, 64, 65, 66, 67, 68, 69, 70, 71] (by decide +kernel) (by decide +kernel)
set_option maxRecDepth 20000 in
theorem gX3_bout_X3_isWrestler : GoodIn wsX3_bout (wsV RX3 44 RX3 yX3_isWrestler wsX3_isWrestler) := goodIn_app (goodIn_of _ (by decide +kernel)) ggX3_bout_X3_isWrestler
set_option maxRecDepth 20000 in
theorem ggX3_bout_X3_no : GoodIn wsX3_bout wsX3_no := goodIn_r _ [14, 1, 58, 59, 60] (by decide +kernel) (by decide +kernel)
set_option maxRecDepth 20000 in
theorem gX3_bout_X3_no : GoodIn wsX3_bout (wsV RX3 30 RX3 yX3_no wsX3_no) := goodIn_app (goodIn_of _ (by decide +kernel)) ggX3_bout_X3_no
set_option maxRecDepth 20000 in
theorem ggX3_bout_X3_isIn : GoodIn wsX3_bout wsX3_isIn := goodIn_r _ [10] (by decide +kernel) (by decide +kernel)
set_option maxRecDepth 20000 in
theorem gX3_bout_X3_isIn : GoodIn wsX3_bout (va_wsS RX3 26 yX3_isIn wsX3_isIn) := goodIn_app (goodIn_of _ (by decide +kernel)) ggX3_bout_X3_isIn
set_option maxRecDepth 20000 in
theorem ggX3_bout_X2_bout : GoodIn wsX3_bout wsX2_bout := goodIn_r _ [19, 20, 21, 22, 23, 24, 18, 25, 26, 27, 28, 29, 30, 31, 32, 33, 34, 35, 36, 37, 38, 39, 40, 41, 42, 43, 44, 45, 46, 47, 48, 49, 50, 51, 52, 53, 54, 55, 56, 57, 61, 62, 63, 64, 65, 66, 67, 68, 69, 70, 71] (by decide +kernel) (by decide +kernel)
set_option maxRecDepth 20000 in
theorem gX3_bout_X2_bout : GoodIn wsX3_bout (wsV RX3 52 RX2 yX2_bout wsX2_bout) := goodIn_app (goodIn_of _ (by decide +kernel)) ggX3_bout_X2_bout
theorem dX3_bout_0 : decode cX3_bout 0 = .ok (.aload_n 0, 1) := by decide +kernel
theorem dX3_bout_1 : decode cX3_bout 1 = .ok (.iconst 0, 1) := by decide +kernel
theorem dX3_bout_2 : decode cX3_bout 2 = .ok (.putfield 19, 3) := by decide +kernel
theorem dX3_bout_5 : decode cX3_bout 5 = .ok (.aload_n 0, 1) := by decide +kernel
theorem dX3_bout_6 : decode cX3_bout 6 = .ok (.iload_n 1, 1) := by decide +kernel
theorem dX3_bout_7 : decode cX3_bout 7 = .ok (.invokevirtual 44, 3) := by decide +kernel
theorem dX3_bout_10 : decode cX3_bout 10 = .ok (.ifCond .eq 11, 3) := by decide +kernel
theorem dX3_bout_13 : decode cX3_bout 13 = .ok (.aload_n 0, 1) := by decide +kernel
theorem dX3_bout_14 : decode cX3_bout 14 = .ok (.iload_n 2, 1) := by decide +kernel
theorem dX3_bout_15 : decode cX3_bout 15 = .ok (.invokevirtual 44, 3) := by decide +kernel
theorem dX3_bout_18 : decode cX3_bout 18 = .ok (.ifCond .ne 9, 3) := by decide +kernel
theorem dX3_bout_21 : decode cX3_bout 21 = .ok (.aload_n 0, 1) := by decide +kernel
theorem dX3_bout_22 : decode cX3_bout 22 = .ok (.iconst 1, 1) := by decide +kernel
theorem dX3_bout_23 : decode cX3_bout 23 = .ok (.invokevirtual 30, 3) := by decide +kernel
theorem dX3_bout_26 : decode cX3_bout 26 = .ok (.ireturn, 1) := by decide +kernel
theorem dX3_bout_27 : decode cX3_bout 27 = .ok (.iload_n 1, 1) := by decide +kernel
theorem dX3_bout_28 : decode cX3_bout 28 = .ok (.iload_n 2, 1) := by decide +kernel
theorem dX3_bout_29 : decode cX3_bout 29 = .ok (.if_icmp .eq 12, 3) := by decide +kernel
theorem dX3_bout_32 : decode cX3_bout 32 = .ok (.iload_n 3, 1) := by decide +kernel
theorem dX3_bout_33 : decode cX3_bout 33 = .ok (.iconst 0, 1) := by decide +kernel
theorem dX3_bout_34 : decode cX3_bout 34 = .ok (.iconst 2, 1) := by decide +kernel
theorem dX3_bout_35 : decode cX3_bout 35 = .ok (.invokestatic 26, 3) := by decide +kernel
theorem dX3_bout_38 : decode cX3_bout 38 = .ok (.ifCond .ne 9, 3) := by decide +kernel
theorem dX3_bout_41 : decode cX3_bout 41 = .ok (.aload_n 0, 1) := by decide +kernel
theorem dX3_bout_42 : decode cX3_bout 42 = .ok (.iconst 2, 1) := by decide +kernel
theorem dX3_bout_43 : decode cX3_bout 43 = .ok (.invokevirtual 30, 3) := by decide +kernel
theorem dX3_bout_46 : decode cX3_bout 46 = .ok (.ireturn, 1) := by decide +kernel
theorem dX3_bout_47 : decode cX3_bout 47 = .ok (.aload_n 0, 1) := by decide +kernel
theorem dX3_bout_48 : decode cX3_bout 48 = .ok (.getfield 10, 3) := by decide +kernel
theorem dX3_bout_51 : decode cX3_bout 51 = .ok (.getfield 34, 3) := by decide +kernel
theorem dX3_bout_54 : decode cX3_bout 54 = .ok (.iload_n 1, 1) := by decide +kernel
theorem dX3_bout_55 : decode cX3_bout 55 = .ok (.iaload, 1) := by decide +kernel
theorem dX3_bout_56 : decode cX3_bout 56 = .ok (.istore 4, 2) := by decide +kernel
theorem dX3_bout_58 : decode cX3_bout 58 = .ok (.aload_n 0, 1) := by decide +kernel
theorem dX3_bout_59 : decode cX3_bout 59 = .ok (.getfield 10, 3) := by decide +kernel
theorem dX3_bout_62 : decode cX3_bout 62 = .ok (.iload_n 1, 1) := by decide +kernel
theorem dX3_bout_63 : decode cX3_bout 63 = .ok (.iload_n 2, 1) := by decide +kernel
theorem dX3_bout_64 : decode cX3_bout 64 = .ok (.sipush 500, 3) := by decide +kernel
theorem dX3_bout_67 : decode cX3_bout 67 = .ok (.iload_n 3, 1) := by decide +kernel
theorem dX3_bout_68 : decode cX3_bout 68 = .ok (.imul, 1) := by decide +kernel
theorem dX3_bout_69 : decode cX3_bout 69 = .ok (.invokevirtual 52, 3) := by decide +kernel
theorem dX3_bout_72 : decode cX3_bout 72 = .ok (.aload_n 0, 1) := by decide +kernel
theorem dX3_bout_73 : decode cX3_bout 73 = .ok (.getfield 10, 3) := by decide +kernel
theorem dX3_bout_76 : decode cX3_bout 76 = .ok (.getfield 34, 3) := by decide +kernel
theorem dX3_bout_79 : decode cX3_bout 79 = .ok (.iload_n 1, 1) := by decide +kernel
theorem dX3_bout_80 : decode cX3_bout 80 = .ok (.iaload, 1) := by decide +kernel
theorem dX3_bout_81 : decode cX3_bout 81 = .ok (.iload 4, 2) := by decide +kernel
theorem dX3_bout_83 : decode cX3_bout 83 = .ok (.isub, 1) := by decide +kernel
theorem dX3_bout_84 : decode cX3_bout 84 = .ok (.ireturn, 1) := by decide +kernel
set_option maxRecDepth 20000 in
theorem ggX3_end_X2_end : GoodIn wsX3_end wsX2_end := goodIn_r _ [7, 8, 9, 10, 11, 12, 13, 14, 15, 16, 6, 17, 18, 19, 20, 21, 22, 23, 24, 25, 26, 27, 28, 29, 30, 31, 32, 33, 34, 35, 36, 37, 38, 42, 43, 44, 45, 46, 47, 48, 49, 50, 51, 52] (by decide +kernel) (by decide +kernel)
set_option maxRecDepth 20000 in
theorem gX3_end_X2_end : GoodIn wsX3_end (wsV RX3 56 RX2 yX2_end wsX2_end) := goodIn_app (goodIn_of _ (by decide +kernel)) ggX3_end_X2_end
theorem dX3_end_0 : decode cX3_end 0 = .ok (.aload_n 0, 1) := by decide +kernel
theorem dX3_end_1 : decode cX3_end 1 = .ok (.iconst 0, 1) := by decide +kernel
theorem dX3_end_2 : decode cX3_end 2 = .ok (.putfield 19, 3) := by decide +kernel
theorem dX3_end_5 : decode cX3_end 5 = .ok (.aload_n 0, 1) := by decide +kernel
theorem dX3_end_6 : decode cX3_end 6 = .ok (.getfield 10, 3) := by decide +kernel
theorem dX3_end_9 : decode cX3_end 9 = .ok (.invokevirtual 56, 3) := by decide +kernel
theorem dX3_end_12 : decode cX3_end 12 = .ok (.ireturn, 1) := by decide +kernel
set_option maxRecDepth 20000 in
theorem ggX3_expected_X3_isWrestler : GoodIn wsX3_expected wsX3_isWrestler := goodIn_r _ [7, 2, 8, 9, 6, 10, 28, 29, 30, 31, 32, 33, 34, 35, 36, 37, 38, 39, 40, 41] (by decide +kernel) (by decide +kernel)
set_option maxRecDepth 20000 in
theorem gX3_expected_X3_isWrestler : GoodIn wsX3_expected (wsV RX3 44 RX3 yX3_isWrestler wsX3_isWrestler) := goodIn_app (goodIn_of _ (by decide +kernel)) ggX3_expected_X3_isWrestler
set_option maxRecDepth 20000 in
theorem ggX3_expected_X2_expected : GoodIn wsX3_expected wsX2_expected := goodIn_r _ [15, 16, 17, 18, 19, 20, 21, 22, 23, 31, 32, 33, 34, 35, 36, 37, 38, 39, 40, 41] (by decide +kernel) (by decide +kernel)
set_option maxRecDepth 20000 in
theorem gX3_expected_X2_expected : GoodIn wsX3_expected (wsV RX3 60 RX2 yX2_expected wsX2_expected) := goodIn_app (goodIn_of _ (by decide +kernel)) ggX3_expected_X2_expected
set_option maxRecDepth 20000 in
theorem ggX3_expected_X3_no : GoodIn wsX3_expected wsX3_no := goodIn_r _ [27, 1, 28, 29, 30] (by decide +kernel) (by decide +kernel)
set_option maxRecDepth 20000 in
theorem gX3_expected_X3_no : GoodIn wsX3_expected (wsV RX3 30 RX3 yX3_no wsX3_no) := goodIn_app (goodIn_of _ (by decide +kernel)) ggX3_expected_X3_no
theorem dX3_expected_0 : decode cX3_expected 0 = .ok (.aload_n 0, 1) := by decide +kernel
theorem dX3_expected_1 : decode cX3_expected 1 = .ok (.iconst 0, 1) := by decide +kernel
theorem dX3_expected_2 : decode cX3_expected 2 = .ok (.putfield 19, 3) := by decide +kernel
theorem dX3_expected_5 : decode cX3_expected 5 = .ok (.aload_n 0, 1) := by decide +kernel
theorem dX3_expected_6 : decode cX3_expected 6 = .ok (.iload_n 1, 1) := by decide +kernel
theorem dX3_expected_7 : decode cX3_expected 7 = .ok (.invokevirtual 44, 3) := by decide +kernel
theorem dX3_expected_10 : decode cX3_expected 10 = .ok (.ifCond .eq 23, 3) := by decide +kernel
theorem dX3_expected_13 : decode cX3_expected 13 = .ok (.aload_n 0, 1) := by decide +kernel
theorem dX3_expected_14 : decode cX3_expected 14 = .ok (.iload_n 2, 1) := by decide +kernel
theorem dX3_expected_15 : decode cX3_expected 15 = .ok (.invokevirtual 44, 3) := by decide +kernel
theorem dX3_expected_18 : decode cX3_expected 18 = .ok (.ifCond .eq 15, 3) := by decide +kernel
theorem dX3_expected_21 : decode cX3_expected 21 = .ok (.aload_n 0, 1) := by decide +kernel
theorem dX3_expected_22 : decode cX3_expected 22 = .ok (.getfield 10, 3) := by decide +kernel
theorem dX3_expected_25 : decode cX3_expected 25 = .ok (.iload_n 1, 1) := by decide +kernel
theorem dX3_expected_26 : decode cX3_expected 26 = .ok (.iload_n 2, 1) := by decide +kernel
theorem dX3_expected_27 : decode cX3_expected 27 = .ok (.invokevirtual 60, 3) := by decide +kernel
theorem dX3_expected_30 : decode cX3_expected 30 = .ok (.goto 8, 3) := by decide +kernel
theorem dX3_expected_33 : decode cX3_expected 33 = .ok (.aload_n 0, 1) := by decide +kernel
theorem dX3_expected_34 : decode cX3_expected 34 = .ok (.iconst 1, 1) := by decide +kernel
theorem dX3_expected_35 : decode cX3_expected 35 = .ok (.invokevirtual 30, 3) := by decide +kernel
theorem dX3_expected_38 : decode cX3_expected 38 = .ok (.ireturn, 1) := by decide +kernel
set_option maxRecDepth 20000 in
theorem ggX3_wrestlerTold_X2_place : GoodIn wsX3_wrestlerTold wsX2_place := goodIn_r _ [6, 7, 8, 9, 10, 11, 5, 12, 13, 14, 23, 24, 25, 26, 27, 28, 29, 30, 31, 32, 33] (by decide +kernel) (by decide +kernel)
set_option maxRecDepth 20000 in
theorem gX3_wrestlerTold_X2_place : GoodIn wsX3_wrestlerTold (wsV RX3 76 RX2 yX2_place wsX2_place) := goodIn_app (goodIn_of _ (by decide +kernel)) ggX3_wrestlerTold_X2_place
set_option maxRecDepth 20000 in
theorem ggX3_wrestlerTold_X2_weight : GoodIn wsX3_wrestlerTold wsX2_weight := goodIn_r _ [18, 19, 14, 23, 24, 25, 26, 27, 28, 29, 30, 31, 32, 33] (by decide +kernel) (by decide +kernel)
set_option maxRecDepth 20000 in
theorem gX3_wrestlerTold_X2_weight : GoodIn wsX3_wrestlerTold (wsV RX3 79 RX2 yX2_weight wsX2_weight) := goodIn_app (goodIn_of _ (by decide +kernel)) ggX3_wrestlerTold_X2_weight
theorem dX3_wrestlerTold_0 : decode cX3_wrestlerTold 0 = .ok (.iload_n 2, 1) := by decide +kernel
theorem dX3_wrestlerTold_1 : decode cX3_wrestlerTold 1 = .ok (.tableswitch 126 0 7 #[47, 57, 67, 77, 87, 97, 107, 117], 47) := by decide +kernel
theorem dX3_wrestlerTold_48 : decode cX3_wrestlerTold 48 = .ok (.aload_n 0, 1) := by decide +kernel
theorem dX3_wrestlerTold_49 : decode cX3_wrestlerTold 49 = .ok (.getfield 10, 3) := by decide +kernel
theorem dX3_wrestlerTold_52 : decode cX3_wrestlerTold 52 = .ok (.getfield 34, 3) := by decide +kernel
theorem dX3_wrestlerTold_55 : decode cX3_wrestlerTold 55 = .ok (.iload_n 1, 1) := by decide +kernel
theorem dX3_wrestlerTold_56 : decode cX3_wrestlerTold 56 = .ok (.iaload, 1) := by decide +kernel
theorem dX3_wrestlerTold_57 : decode cX3_wrestlerTold 57 = .ok (.ireturn, 1) := by decide +kernel
theorem dX3_wrestlerTold_58 : decode cX3_wrestlerTold 58 = .ok (.aload_n 0, 1) := by decide +kernel
theorem dX3_wrestlerTold_59 : decode cX3_wrestlerTold 59 = .ok (.getfield 10, 3) := by decide +kernel
theorem dX3_wrestlerTold_62 : decode cX3_wrestlerTold 62 = .ok (.getfield 41, 3) := by decide +kernel
theorem dX3_wrestlerTold_65 : decode cX3_wrestlerTold 65 = .ok (.iload_n 1, 1) := by decide +kernel
theorem dX3_wrestlerTold_66 : decode cX3_wrestlerTold 66 = .ok (.iaload, 1) := by decide +kernel
theorem dX3_wrestlerTold_67 : decode cX3_wrestlerTold 67 = .ok (.ireturn, 1) := by decide +kernel
theorem dX3_wrestlerTold_68 : decode cX3_wrestlerTold 68 = .ok (.aload_n 0, 1) := by decide +kernel
theorem dX3_wrestlerTold_69 : decode cX3_wrestlerTold 69 = .ok (.getfield 10, 3) := by decide +kernel
theorem dX3_wrestlerTold_72 : decode cX3_wrestlerTold 72 = .ok (.getfield 64, 3) := by decide +kernel
theorem dX3_wrestlerTold_75 : decode cX3_wrestlerTold 75 = .ok (.iload_n 1, 1) := by decide +kernel
theorem dX3_wrestlerTold_76 : decode cX3_wrestlerTold 76 = .ok (.iaload, 1) := by decide +kernel
theorem dX3_wrestlerTold_77 : decode cX3_wrestlerTold 77 = .ok (.ireturn, 1) := by decide +kernel
theorem dX3_wrestlerTold_78 : decode cX3_wrestlerTold 78 = .ok (.aload_n 0, 1) := by decide +kernel
theorem dX3_wrestlerTold_79 : decode cX3_wrestlerTold 79 = .ok (.getfield 10, 3) := by decide +kernel
theorem dX3_wrestlerTold_82 : decode cX3_wrestlerTold 82 = .ok (.getfield 67, 3) := by decide +kernel
theorem dX3_wrestlerTold_85 : decode cX3_wrestlerTold 85 = .ok (.iload_n 1, 1) := by decide +kernel
theorem dX3_wrestlerTold_86 : decode cX3_wrestlerTold 86 = .ok (.iaload, 1) := by decide +kernel
theorem dX3_wrestlerTold_87 : decode cX3_wrestlerTold 87 = .ok (.ireturn, 1) := by decide +kernel
theorem dX3_wrestlerTold_88 : decode cX3_wrestlerTold 88 = .ok (.aload_n 0, 1) := by decide +kernel
theorem dX3_wrestlerTold_89 : decode cX3_wrestlerTold 89 = .ok (.getfield 10, 3) := by decide +kernel
theorem dX3_wrestlerTold_92 : decode cX3_wrestlerTold 92 = .ok (.getfield 70, 3) := by decide +kernel
theorem dX3_wrestlerTold_95 : decode cX3_wrestlerTold 95 = .ok (.iload_n 1, 1) := by decide +kernel
theorem dX3_wrestlerTold_96 : decode cX3_wrestlerTold 96 = .ok (.iaload, 1) := by decide +kernel
theorem dX3_wrestlerTold_97 : decode cX3_wrestlerTold 97 = .ok (.ireturn, 1) := by decide +kernel
theorem dX3_wrestlerTold_98 : decode cX3_wrestlerTold 98 = .ok (.aload_n 0, 1) := by decide +kernel
theorem dX3_wrestlerTold_99 : decode cX3_wrestlerTold 99 = .ok (.getfield 10, 3) := by decide +kernel
theorem dX3_wrestlerTold_102 : decode cX3_wrestlerTold 102 = .ok (.getfield 73, 3) := by decide +kernel
theorem dX3_wrestlerTold_105 : decode cX3_wrestlerTold 105 = .ok (.iload_n 1, 1) := by decide +kernel
theorem dX3_wrestlerTold_106 : decode cX3_wrestlerTold 106 = .ok (.iaload, 1) := by decide +kernel
theorem dX3_wrestlerTold_107 : decode cX3_wrestlerTold 107 = .ok (.ireturn, 1) := by decide +kernel
theorem dX3_wrestlerTold_108 : decode cX3_wrestlerTold 108 = .ok (.aload_n 0, 1) := by decide +kernel
theorem dX3_wrestlerTold_109 : decode cX3_wrestlerTold 109 = .ok (.getfield 10, 3) := by decide +kernel
theorem dX3_wrestlerTold_112 : decode cX3_wrestlerTold 112 = .ok (.getfield 38, 3) := by decide +kernel
theorem dX3_wrestlerTold_115 : decode cX3_wrestlerTold 115 = .ok (.iload_n 1, 1) := by decide +kernel
theorem dX3_wrestlerTold_116 : decode cX3_wrestlerTold 116 = .ok (.iaload, 1) := by decide +kernel
theorem dX3_wrestlerTold_117 : decode cX3_wrestlerTold 117 = .ok (.ireturn, 1) := by decide +kernel
theorem dX3_wrestlerTold_118 : decode cX3_wrestlerTold 118 = .ok (.aload_n 0, 1) := by decide +kernel
theorem dX3_wrestlerTold_119 : decode cX3_wrestlerTold 119 = .ok (.getfield 10, 3) := by decide +kernel
theorem dX3_wrestlerTold_122 : decode cX3_wrestlerTold 122 = .ok (.iload_n 1, 1) := by decide +kernel
theorem dX3_wrestlerTold_123 : decode cX3_wrestlerTold 123 = .ok (.invokevirtual 76, 3) := by decide +kernel
theorem dX3_wrestlerTold_126 : decode cX3_wrestlerTold 126 = .ok (.ireturn, 1) := by decide +kernel
theorem dX3_wrestlerTold_127 : decode cX3_wrestlerTold 127 = .ok (.aload_n 0, 1) := by decide +kernel
theorem dX3_wrestlerTold_128 : decode cX3_wrestlerTold 128 = .ok (.getfield 10, 3) := by decide +kernel
theorem dX3_wrestlerTold_131 : decode cX3_wrestlerTold 131 = .ok (.iload_n 1, 1) := by decide +kernel
theorem dX3_wrestlerTold_132 : decode cX3_wrestlerTold 132 = .ok (.invokevirtual 79, 3) := by decide +kernel
theorem dX3_wrestlerTold_135 : decode cX3_wrestlerTold 135 = .ok (.ireturn, 1) := by decide +kernel
set_option maxRecDepth 20000 in
theorem ggX3_told_X3_isWrestler : GoodIn wsX3_told wsX3_isWrestler := goodIn_r _ [6, 7, 8, 9, 5, 10, 37, 38, 39, 40, 41, 42, 43, 44, 45, 46, 47, 48, 49, 50] (by decide +kernel) (by decide +kernel)
set_option maxRecDepth 20000 in
theorem gX3_told_X3_isWrestler : GoodIn wsX3_told (wsV RX3 44 RX3 yX3_isWrestler wsX3_isWrestler) := goodIn_app (goodIn_of _ (by decide +kernel)) ggX3_told_X3_isWrestler
set_option maxRecDepth 20000 in
theorem ggX3_told_X3_isIn : GoodIn wsX3_told wsX3_isIn := goodIn_r _ [10] (by decide +kernel) (by decide +kernel)
set_option maxRecDepth 20000 in
theorem gX3_told_X3_isIn : GoodIn wsX3_told (va_wsS RX3 26 yX3_isIn wsX3_isIn) := goodIn_app (goodIn_of _ (by decide +kernel)) ggX3_told_X3_isIn
set_option maxRecDepth 20000 in
theorem ggX3_told_X3_wrestlerTold : GoodIn wsX3_told wsX3_wrestlerTold := goodIn_r _ [14, 7, 15, 16, 17, 18, 19, 20, 21, 22, 23, 24, 25, 26, 27, 28, 29, 30, 31, 32, 37, 38, 39, 40, 41, 42, 43, 44, 45, 46, 47, 48, 49, 50] (by decide +kernel) (by decide +kernel)
set_option maxRecDepth 20000 in
theorem gX3_told_X3_wrestlerTold : GoodIn wsX3_told (wsV RX3 82 RX3 yX3_wrestlerTold wsX3_wrestlerTold) := goodIn_app (goodIn_of _ (by decide +kernel)) ggX3_told_X3_wrestlerTold
set_option maxRecDepth 20000 in
theorem ggX3_told_X3_no : GoodIn wsX3_told wsX3_no := goodIn_r _ [36, 1, 37, 38, 39] (by decide +kernel) (by decide +kernel)
set_option maxRecDepth 20000 in
theorem gX3_told_X3_no : GoodIn wsX3_told (wsV RX3 30 RX3 yX3_no wsX3_no) := goodIn_app (goodIn_of _ (by decide +kernel)) ggX3_told_X3_no
theorem dX3_told_0 : decode cX3_told 0 = .ok (.aload_n 0, 1) := by decide +kernel
theorem dX3_told_1 : decode cX3_told 1 = .ok (.iconst 0, 1) := by decide +kernel
theorem dX3_told_2 : decode cX3_told 2 = .ok (.putfield 19, 3) := by decide +kernel
theorem dX3_told_5 : decode cX3_told 5 = .ok (.aload_n 0, 1) := by decide +kernel
theorem dX3_told_6 : decode cX3_told 6 = .ok (.iload_n 1, 1) := by decide +kernel
theorem dX3_told_7 : decode cX3_told 7 = .ok (.invokevirtual 44, 3) := by decide +kernel
theorem dX3_told_10 : decode cX3_told 10 = .ok (.ifCond .eq 22, 3) := by decide +kernel
theorem dX3_told_13 : decode cX3_told 13 = .ok (.iload_n 2, 1) := by decide +kernel
theorem dX3_told_14 : decode cX3_told 14 = .ok (.iconst 0, 1) := by decide +kernel
theorem dX3_told_15 : decode cX3_told 15 = .ok (.bipush 8, 2) := by decide +kernel
theorem dX3_told_17 : decode cX3_told 17 = .ok (.invokestatic 26, 3) := by decide +kernel
theorem dX3_told_20 : decode cX3_told 20 = .ok (.ifCond .eq 12, 3) := by decide +kernel
theorem dX3_told_23 : decode cX3_told 23 = .ok (.aload_n 0, 1) := by decide +kernel
theorem dX3_told_24 : decode cX3_told 24 = .ok (.iload_n 1, 1) := by decide +kernel
theorem dX3_told_25 : decode cX3_told 25 = .ok (.iload_n 2, 1) := by decide +kernel
theorem dX3_told_26 : decode cX3_told 26 = .ok (.invokevirtual 82, 3) := by decide +kernel
theorem dX3_told_29 : decode cX3_told 29 = .ok (.goto 8, 3) := by decide +kernel
theorem dX3_told_32 : decode cX3_told 32 = .ok (.aload_n 0, 1) := by decide +kernel
theorem dX3_told_33 : decode cX3_told 33 = .ok (.iconst 1, 1) := by decide +kernel
theorem dX3_told_34 : decode cX3_told 34 = .ok (.invokevirtual 30, 3) := by decide +kernel
theorem dX3_told_37 : decode cX3_told 37 = .ok (.ireturn, 1) := by decide +kernel
set_option maxRecDepth 20000 in
theorem ggX3_at_X3_isIn : GoodIn wsX3_at wsX3_isIn := goodIn_r _ [6] (by decide +kernel) (by decide +kernel)
set_option maxRecDepth 20000 in
theorem gX3_at_X3_isIn : GoodIn wsX3_at (va_wsS RX3 26 yX3_isIn wsX3_isIn) := goodIn_app (goodIn_of _ (by decide +kernel)) ggX3_at_X3_isIn
set_option maxRecDepth 20000 in
theorem ggX3_at_X2_many : GoodIn wsX3_at wsX2_many := goodIn_r _ [11, 12, 13, 35, 36, 37, 38, 39, 40, 41, 42, 43, 44, 45] (by decide +kernel) (by decide +kernel)
set_option maxRecDepth 20000 in
theorem gX3_at_X2_many : GoodIn wsX3_at (wsV RX3 85 RX2 yX2_many wsX2_many) := goodIn_app (goodIn_of _ (by decide +kernel)) ggX3_at_X2_many
set_option maxRecDepth 20000 in
theorem ggX3_at_X2_at : GoodIn wsX3_at wsX2_at := goodIn_r _ [17, 12, 13, 18, 19, 20, 10, 21, 22, 23, 24, 25, 26, 27, 35, 36, 37, 38, 39, 40, 41, 42, 43, 44, 45] (by decide +kernel) (by decide +kernel)
set_option maxRecDepth 20000 in
theorem gX3_at_X2_at : GoodIn wsX3_at (wsV RX3 88 RX2 yX2_at wsX2_at) := goodIn_app (goodIn_of _ (by decide +kernel)) ggX3_at_X2_at
set_option maxRecDepth 20000 in
theorem ggX3_at_X3_no : GoodIn wsX3_at wsX3_no := goodIn_r _ [31, 1, 32, 33, 34] (by decide +kernel) (by decide +kernel)
set_option maxRecDepth 20000 in
theorem gX3_at_X3_no : GoodIn wsX3_at (wsV RX3 30 RX3 yX3_no wsX3_no) := goodIn_app (goodIn_of _ (by decide +kernel)) ggX3_at_X3_no
theorem dX3_at_0 : decode cX3_at 0 = .ok (.aload_n 0, 1) := by decide +kernel
theorem dX3_at_1 : decode cX3_at 1 = .ok (.iconst 0, 1) := by decide +kernel
theorem dX3_at_2 : decode cX3_at 2 = .ok (.putfield 19, 3) := by decide +kernel
theorem dX3_at_5 : decode cX3_at 5 = .ok (.iload_n 1, 1) := by decide +kernel
theorem dX3_at_6 : decode cX3_at 6 = .ok (.iconst 0, 1) := by decide +kernel
theorem dX3_at_7 : decode cX3_at 7 = .ok (.iconst 2, 1) := by decide +kernel
theorem dX3_at_8 : decode cX3_at 8 = .ok (.invokestatic 26, 3) := by decide +kernel
theorem dX3_at_11 : decode cX3_at 11 = .ok (.ifCond .eq 31, 3) := by decide +kernel
theorem dX3_at_14 : decode cX3_at 14 = .ok (.iload_n 2, 1) := by decide +kernel
theorem dX3_at_15 : decode cX3_at 15 = .ok (.iconst 1, 1) := by decide +kernel
theorem dX3_at_16 : decode cX3_at 16 = .ok (.aload_n 0, 1) := by decide +kernel
theorem dX3_at_17 : decode cX3_at 17 = .ok (.getfield 10, 3) := by decide +kernel
theorem dX3_at_20 : decode cX3_at 20 = .ok (.iload_n 1, 1) := by decide +kernel
theorem dX3_at_21 : decode cX3_at 21 = .ok (.invokevirtual 85, 3) := by decide +kernel
theorem dX3_at_24 : decode cX3_at 24 = .ok (.invokestatic 26, 3) := by decide +kernel
theorem dX3_at_27 : decode cX3_at 27 = .ok (.ifCond .eq 15, 3) := by decide +kernel
theorem dX3_at_30 : decode cX3_at 30 = .ok (.aload_n 0, 1) := by decide +kernel
theorem dX3_at_31 : decode cX3_at 31 = .ok (.getfield 10, 3) := by decide +kernel
theorem dX3_at_34 : decode cX3_at 34 = .ok (.iload_n 1, 1) := by decide +kernel
theorem dX3_at_35 : decode cX3_at 35 = .ok (.iload_n 2, 1) := by decide +kernel
theorem dX3_at_36 : decode cX3_at 36 = .ok (.invokevirtual 88, 3) := by decide +kernel
theorem dX3_at_39 : decode cX3_at 39 = .ok (.goto 8, 3) := by decide +kernel
theorem dX3_at_42 : decode cX3_at 42 = .ok (.aload_n 0, 1) := by decide +kernel
theorem dX3_at_43 : decode cX3_at 43 = .ok (.iconst 1, 1) := by decide +kernel
theorem dX3_at_44 : decode cX3_at 44 = .ok (.invokevirtual 30, 3) := by decide +kernel
theorem dX3_at_47 : decode cX3_at 47 = .ok (.ireturn, 1) := by decide +kernel
set_option maxRecDepth 20000 in
theorem ggX3_counted_X2_highest : GoodIn wsX3_counted wsX2_highest := goodIn_r _ [6, 7, 8, 9, 10, 11, 12, 29, 30, 31, 32, 33, 34, 35, 36, 37, 38, 39] (by decide +kernel) (by decide +kernel)
set_option maxRecDepth 20000 in
theorem gX3_counted_X2_highest : GoodIn wsX3_counted (wsV RX3 100 RX2 yX2_highest wsX2_highest) := goodIn_app (goodIn_of _ (by decide +kernel)) ggX3_counted_X2_highest
set_option maxRecDepth 20000 in
theorem ggX3_counted_X2_lowest : GoodIn wsX3_counted wsX2_lowest := goodIn_r _ [16, 7, 8, 17, 18, 11, 19, 20, 3, 4, 5, 6, 9, 10, 12, 29, 30, 31, 32, 33, 34, 35, 36, 37, 38, 39] (by decide +kernel) (by decide +kernel)
set_option maxRecDepth 20000 in
theorem gX3_counted_X2_lowest : GoodIn wsX3_counted (wsV RX3 103 RX2 yX2_lowest wsX2_lowest) := goodIn_app (goodIn_of _ (by decide +kernel)) ggX3_counted_X2_lowest
set_option maxRecDepth 20000 in
theorem ggX3_counted_X2_many : GoodIn wsX3_counted wsX2_many := goodIn_r _ [24, 7, 25, 29, 30, 31, 32, 33, 34, 35, 36, 37, 38, 39] (by decide +kernel) (by decide +kernel)
set_option maxRecDepth 20000 in
theorem gX3_counted_X2_many : GoodIn wsX3_counted (wsV RX3 85 RX2 yX2_many wsX2_many) := goodIn_app (goodIn_of _ (by decide +kernel)) ggX3_counted_X2_many
theorem dX3_counted_0 : decode cX3_counted 0 = .ok (.iload_n 1, 1) := by decide +kernel
theorem dX3_counted_1 : decode cX3_counted 1 = .ok (.tableswitch 99 0 8 #[51, 59, 67, 75, 99, 99, 99, 83, 91], 51) := by decide +kernel
theorem dX3_counted_52 : decode cX3_counted 52 = .ok (.aload_n 0, 1) := by decide +kernel
theorem dX3_counted_53 : decode cX3_counted 53 = .ok (.getfield 10, 3) := by decide +kernel
theorem dX3_counted_56 : decode cX3_counted 56 = .ok (.getfield 91, 3) := by decide +kernel
theorem dX3_counted_59 : decode cX3_counted 59 = .ok (.ireturn, 1) := by decide +kernel
theorem dX3_counted_60 : decode cX3_counted 60 = .ok (.aload_n 0, 1) := by decide +kernel
theorem dX3_counted_61 : decode cX3_counted 61 = .ok (.getfield 10, 3) := by decide +kernel
theorem dX3_counted_64 : decode cX3_counted 64 = .ok (.getfield 23, 3) := by decide +kernel
theorem dX3_counted_67 : decode cX3_counted 67 = .ok (.ireturn, 1) := by decide +kernel
theorem dX3_counted_68 : decode cX3_counted 68 = .ok (.aload_n 0, 1) := by decide +kernel
theorem dX3_counted_69 : decode cX3_counted 69 = .ok (.getfield 10, 3) := by decide +kernel
theorem dX3_counted_72 : decode cX3_counted 72 = .ok (.getfield 94, 3) := by decide +kernel
theorem dX3_counted_75 : decode cX3_counted 75 = .ok (.ireturn, 1) := by decide +kernel
theorem dX3_counted_76 : decode cX3_counted 76 = .ok (.aload_n 0, 1) := by decide +kernel
theorem dX3_counted_77 : decode cX3_counted 77 = .ok (.getfield 10, 3) := by decide +kernel
theorem dX3_counted_80 : decode cX3_counted 80 = .ok (.getfield 97, 3) := by decide +kernel
theorem dX3_counted_83 : decode cX3_counted 83 = .ok (.ireturn, 1) := by decide +kernel
theorem dX3_counted_84 : decode cX3_counted 84 = .ok (.aload_n 0, 1) := by decide +kernel
theorem dX3_counted_85 : decode cX3_counted 85 = .ok (.getfield 10, 3) := by decide +kernel
theorem dX3_counted_88 : decode cX3_counted 88 = .ok (.invokevirtual 100, 3) := by decide +kernel
theorem dX3_counted_91 : decode cX3_counted 91 = .ok (.ireturn, 1) := by decide +kernel
theorem dX3_counted_92 : decode cX3_counted 92 = .ok (.aload_n 0, 1) := by decide +kernel
theorem dX3_counted_93 : decode cX3_counted 93 = .ok (.getfield 10, 3) := by decide +kernel
theorem dX3_counted_96 : decode cX3_counted 96 = .ok (.invokevirtual 103, 3) := by decide +kernel
theorem dX3_counted_99 : decode cX3_counted 99 = .ok (.ireturn, 1) := by decide +kernel
theorem dX3_counted_100 : decode cX3_counted 100 = .ok (.aload_n 0, 1) := by decide +kernel
theorem dX3_counted_101 : decode cX3_counted 101 = .ok (.getfield 10, 3) := by decide +kernel
theorem dX3_counted_104 : decode cX3_counted 104 = .ok (.iload_n 1, 1) := by decide +kernel
theorem dX3_counted_105 : decode cX3_counted 105 = .ok (.iconst 4, 1) := by decide +kernel
theorem dX3_counted_106 : decode cX3_counted 106 = .ok (.isub, 1) := by decide +kernel
theorem dX3_counted_107 : decode cX3_counted 107 = .ok (.invokevirtual 85, 3) := by decide +kernel
theorem dX3_counted_110 : decode cX3_counted 110 = .ok (.ireturn, 1) := by decide +kernel
set_option maxRecDepth 20000 in
theorem ggX3_count_X3_isIn : GoodIn wsX3_count wsX3_isIn := goodIn_r _ [5] (by decide +kernel) (by decide +kernel)
set_option maxRecDepth 20000 in
theorem gX3_count_X3_isIn : GoodIn wsX3_count (va_wsS RX3 26 yX3_isIn wsX3_isIn) := goodIn_app (goodIn_of _ (by decide +kernel)) ggX3_count_X3_isIn
set_option maxRecDepth 20000 in
theorem ggX3_count_X3_counted : GoodIn wsX3_count wsX3_counted := goodIn_r _ [9, 10, 11, 12, 13, 14, 15, 16, 17, 18, 19, 20, 21, 22, 23, 24, 25, 26, 27, 28, 29, 30, 31, 32, 33, 34, 39, 40, 41, 42, 43, 44, 45, 46, 47, 48, 49, 50, 51, 52] (by decide +kernel) (by decide +kernel)
set_option maxRecDepth 20000 in
theorem gX3_count_X3_counted : GoodIn wsX3_count (wsV RX3 106 RX3 yX3_counted wsX3_counted) := goodIn_app (goodIn_of _ (by decide +kernel)) ggX3_count_X3_counted
set_option maxRecDepth 20000 in
theorem ggX3_count_X3_no : GoodIn wsX3_count wsX3_no := goodIn_r _ [38, 1, 39, 40, 41] (by decide +kernel) (by decide +kernel)
set_option maxRecDepth 20000 in
theorem gX3_count_X3_no : GoodIn wsX3_count (wsV RX3 30 RX3 yX3_no wsX3_no) := goodIn_app (goodIn_of _ (by decide +kernel)) ggX3_count_X3_no
theorem dX3_count_0 : decode cX3_count 0 = .ok (.aload_n 0, 1) := by decide +kernel
theorem dX3_count_1 : decode cX3_count 1 = .ok (.iconst 0, 1) := by decide +kernel
theorem dX3_count_2 : decode cX3_count 2 = .ok (.putfield 19, 3) := by decide +kernel
theorem dX3_count_5 : decode cX3_count 5 = .ok (.iload_n 1, 1) := by decide +kernel
theorem dX3_count_6 : decode cX3_count 6 = .ok (.iconst 0, 1) := by decide +kernel
theorem dX3_count_7 : decode cX3_count 7 = .ok (.bipush 8, 2) := by decide +kernel
theorem dX3_count_9 : decode cX3_count 9 = .ok (.invokestatic 26, 3) := by decide +kernel
theorem dX3_count_12 : decode cX3_count 12 = .ok (.ifCond .eq 11, 3) := by decide +kernel
theorem dX3_count_15 : decode cX3_count 15 = .ok (.aload_n 0, 1) := by decide +kernel
theorem dX3_count_16 : decode cX3_count 16 = .ok (.iload_n 1, 1) := by decide +kernel
theorem dX3_count_17 : decode cX3_count 17 = .ok (.invokevirtual 106, 3) := by decide +kernel
theorem dX3_count_20 : decode cX3_count 20 = .ok (.goto 8, 3) := by decide +kernel
theorem dX3_count_23 : decode cX3_count 23 = .ok (.aload_n 0, 1) := by decide +kernel
theorem dX3_count_24 : decode cX3_count 24 = .ok (.iconst 1, 1) := by decide +kernel
theorem dX3_count_25 : decode cX3_count 25 = .ok (.invokevirtual 30, 3) := by decide +kernel
theorem dX3_count_28 : decode cX3_count 28 = .ok (.ireturn, 1) := by decide +kernel
set_option maxRecDepth 20000 in
theorem ggX3_would_X3_isWrestler : GoodIn wsX3_would wsX3_isWrestler := goodIn_r _ [7, 2, 8, 9, 6, 10, 40, 41, 42, 43, 44, 45, 46, 47, 48, 49, 50, 51, 52, 53] (by decide +kernel) (by decide +kernel)
set_option maxRecDepth 20000 in
theorem gX3_would_X3_isWrestler : GoodIn wsX3_would (wsV RX3 44 RX3 yX3_isWrestler wsX3_isWrestler) := goodIn_app (goodIn_of _ (by decide +kernel)) ggX3_would_X3_isWrestler
set_option maxRecDepth 20000 in
theorem ggX3_would_X3_isIn : GoodIn wsX3_would wsX3_isIn := goodIn_r _ [10] (by decide +kernel) (by decide +kernel)
set_option maxRecDepth 20000 in
theorem gX3_would_X3_isIn : GoodIn wsX3_would (va_wsS RX3 26 yX3_isIn wsX3_isIn) := goodIn_app (goodIn_of _ (by decide +kernel)) ggX3_would_X3_isIn
set_option maxRecDepth 20000 in
theorem ggX3_would_X3_no : GoodIn wsX3_would wsX3_no := goodIn_r _ [14, 1, 40, 41, 42] (by decide +kernel) (by decide +kernel)
set_option maxRecDepth 20000 in
theorem gX3_would_X3_no : GoodIn wsX3_would (wsV RX3 30 RX3 yX3_no wsX3_no) := goodIn_app (goodIn_of _ (by decide +kernel)) ggX3_would_X3_no
set_option maxRecDepth 20000 in
theorem ggX3_would_X2_then : GoodIn wsX3_would wsX2_then := goodIn_r _ [19, 20, 21, 22, 23, 24, 25, 26, 27, 28, 29, 30, 18, 31, 32, 33, 34, 35, 36, 37, 38, 39, 43, 44, 45, 46, 47, 48, 49, 50, 51, 52, 53] (by decide +kernel) (by decide +kernel)
set_option maxRecDepth 20000 in
theorem gX3_would_X2_then : GoodIn wsX3_would (wsV RX3 109 RX2 yX2_then wsX2_then) := goodIn_app (goodIn_of _ (by decide +kernel)) ggX3_would_X2_then
theorem dX3_would_0 : decode cX3_would 0 = .ok (.aload_n 0, 1) := by decide +kernel
theorem dX3_would_1 : decode cX3_would 1 = .ok (.iconst 0, 1) := by decide +kernel
theorem dX3_would_2 : decode cX3_would 2 = .ok (.putfield 19, 3) := by decide +kernel
theorem dX3_would_5 : decode cX3_would 5 = .ok (.aload_n 0, 1) := by decide +kernel
theorem dX3_would_6 : decode cX3_would 6 = .ok (.iload_n 1, 1) := by decide +kernel
theorem dX3_would_7 : decode cX3_would 7 = .ok (.invokevirtual 44, 3) := by decide +kernel
theorem dX3_would_10 : decode cX3_would 10 = .ok (.ifCond .eq 21, 3) := by decide +kernel
theorem dX3_would_13 : decode cX3_would 13 = .ok (.aload_n 0, 1) := by decide +kernel
theorem dX3_would_14 : decode cX3_would 14 = .ok (.iload_n 2, 1) := by decide +kernel
theorem dX3_would_15 : decode cX3_would 15 = .ok (.invokevirtual 44, 3) := by decide +kernel
theorem dX3_would_18 : decode cX3_would 18 = .ok (.ifCond .eq 13, 3) := by decide +kernel
theorem dX3_would_21 : decode cX3_would 21 = .ok (.iload 4, 2) := by decide +kernel
theorem dX3_would_23 : decode cX3_would 23 = .ok (.iconst 0, 1) := by decide +kernel
theorem dX3_would_24 : decode cX3_would 24 = .ok (.iconst 1, 1) := by decide +kernel
theorem dX3_would_25 : decode cX3_would 25 = .ok (.invokestatic 26, 3) := by decide +kernel
theorem dX3_would_28 : decode cX3_would 28 = .ok (.ifCond .ne 9, 3) := by decide +kernel
theorem dX3_would_31 : decode cX3_would 31 = .ok (.aload_n 0, 1) := by decide +kernel
theorem dX3_would_32 : decode cX3_would 32 = .ok (.iconst 1, 1) := by decide +kernel
theorem dX3_would_33 : decode cX3_would 33 = .ok (.invokevirtual 30, 3) := by decide +kernel
theorem dX3_would_36 : decode cX3_would 36 = .ok (.ireturn, 1) := by decide +kernel
theorem dX3_would_37 : decode cX3_would 37 = .ok (.iload_n 1, 1) := by decide +kernel
theorem dX3_would_38 : decode cX3_would 38 = .ok (.iload_n 2, 1) := by decide +kernel
theorem dX3_would_39 : decode cX3_would 39 = .ok (.if_icmp .eq 12, 3) := by decide +kernel
theorem dX3_would_42 : decode cX3_would 42 = .ok (.iload_n 3, 1) := by decide +kernel
theorem dX3_would_43 : decode cX3_would 43 = .ok (.iconst 0, 1) := by decide +kernel
theorem dX3_would_44 : decode cX3_would 44 = .ok (.iconst 2, 1) := by decide +kernel
theorem dX3_would_45 : decode cX3_would 45 = .ok (.invokestatic 26, 3) := by decide +kernel
theorem dX3_would_48 : decode cX3_would 48 = .ok (.ifCond .ne 9, 3) := by decide +kernel
theorem dX3_would_51 : decode cX3_would 51 = .ok (.aload_n 0, 1) := by decide +kernel
theorem dX3_would_52 : decode cX3_would 52 = .ok (.iconst 2, 1) := by decide +kernel
theorem dX3_would_53 : decode cX3_would 53 = .ok (.invokevirtual 30, 3) := by decide +kernel
theorem dX3_would_56 : decode cX3_would 56 = .ok (.ireturn, 1) := by decide +kernel
theorem dX3_would_57 : decode cX3_would 57 = .ok (.iload 4, 2) := by decide +kernel
theorem dX3_would_59 : decode cX3_would 59 = .ok (.ifCond .ne 30, 3) := by decide +kernel
theorem dX3_would_62 : decode cX3_would 62 = .ok (.aload_n 0, 1) := by decide +kernel
theorem dX3_would_63 : decode cX3_would 63 = .ok (.getfield 10, 3) := by decide +kernel
theorem dX3_would_66 : decode cX3_would 66 = .ok (.iload_n 1, 1) := by decide +kernel
theorem dX3_would_67 : decode cX3_would 67 = .ok (.iload_n 2, 1) := by decide +kernel
theorem dX3_would_68 : decode cX3_would 68 = .ok (.sipush 500, 3) := by decide +kernel
theorem dX3_would_71 : decode cX3_would 71 = .ok (.iload_n 3, 1) := by decide +kernel
theorem dX3_would_72 : decode cX3_would 72 = .ok (.imul, 1) := by decide +kernel
theorem dX3_would_73 : decode cX3_would 73 = .ok (.invokevirtual 109, 3) := by decide +kernel
theorem dX3_would_76 : decode cX3_would 76 = .ok (.aload_n 0, 1) := by decide +kernel
theorem dX3_would_77 : decode cX3_would 77 = .ok (.getfield 10, 3) := by decide +kernel
theorem dX3_would_80 : decode cX3_would 80 = .ok (.getfield 34, 3) := by decide +kernel
theorem dX3_would_83 : decode cX3_would 83 = .ok (.iload_n 1, 1) := by decide +kernel
theorem dX3_would_84 : decode cX3_would 84 = .ok (.iaload, 1) := by decide +kernel
theorem dX3_would_85 : decode cX3_would 85 = .ok (.isub, 1) := by decide +kernel
theorem dX3_would_86 : decode cX3_would 86 = .ok (.goto 31, 3) := by decide +kernel
theorem dX3_would_89 : decode cX3_would 89 = .ok (.aload_n 0, 1) := by decide +kernel
theorem dX3_would_90 : decode cX3_would 90 = .ok (.getfield 10, 3) := by decide +kernel
theorem dX3_would_93 : decode cX3_would 93 = .ok (.iload_n 2, 1) := by decide +kernel
theorem dX3_would_94 : decode cX3_would 94 = .ok (.iload_n 1, 1) := by decide +kernel
theorem dX3_would_95 : decode cX3_would 95 = .ok (.sipush 1000, 3) := by decide +kernel
theorem dX3_would_98 : decode cX3_would 98 = .ok (.sipush 500, 3) := by decide +kernel
theorem dX3_would_101 : decode cX3_would 101 = .ok (.iload_n 3, 1) := by decide +kernel
theorem dX3_would_102 : decode cX3_would 102 = .ok (.imul, 1) := by decide +kernel
theorem dX3_would_103 : decode cX3_would 103 = .ok (.isub, 1) := by decide +kernel
theorem dX3_would_104 : decode cX3_would 104 = .ok (.invokevirtual 109, 3) := by decide +kernel
theorem dX3_would_107 : decode cX3_would 107 = .ok (.aload_n 0, 1) := by decide +kernel
theorem dX3_would_108 : decode cX3_would 108 = .ok (.getfield 10, 3) := by decide +kernel
theorem dX3_would_111 : decode cX3_would 111 = .ok (.getfield 34, 3) := by decide +kernel
theorem dX3_would_114 : decode cX3_would 114 = .ok (.iload_n 2, 1) := by decide +kernel
theorem dX3_would_115 : decode cX3_would 115 = .ok (.iaload, 1) := by decide +kernel
theorem dX3_would_116 : decode cX3_would 116 = .ok (.isub, 1) := by decide +kernel
theorem dX3_would_117 : decode cX3_would 117 = .ok (.ireturn, 1) := by decide +kernel
set_option maxRecDepth 20000 in
theorem ggX3_chance_X3_isWrestler : GoodIn wsX3_chance wsX3_isWrestler := goodIn_r _ [9, 2, 10, 11, 8, 12, 30, 31, 32, 33, 34, 35, 36, 37, 38, 39, 40, 41, 42, 43] (by decide +kernel) (by decide +kernel)
set_option maxRecDepth 20000 in
theorem gX3_chance_X3_isWrestler : GoodIn wsX3_chance (wsV RX3 44 RX3 yX3_isWrestler wsX3_isWrestler) := goodIn_app (goodIn_of _ (by decide +kernel)) ggX3_chance_X3_isWrestler
set_option maxRecDepth 20000 in
theorem ggX3_chance_X3_no : GoodIn wsX3_chance wsX3_no := goodIn_r _ [16, 1, 30, 31, 32] (by decide +kernel) (by decide +kernel)
set_option maxRecDepth 20000 in
theorem gX3_chance_X3_no : GoodIn wsX3_chance (wsV RX3 30 RX3 yX3_no wsX3_no) := goodIn_app (goodIn_of _ (by decide +kernel)) ggX3_chance_X3_no
set_option maxRecDepth 20000 in
theorem ggX3_chance_X3_isIn : GoodIn wsX3_chance wsX3_isIn := goodIn_r _ [12] (by decide +kernel) (by decide +kernel)
set_option maxRecDepth 20000 in
theorem gX3_chance_X3_isIn : GoodIn wsX3_chance (va_wsS RX3 26 yX3_isIn wsX3_isIn) := goodIn_app (goodIn_of _ (by decide +kernel)) ggX3_chance_X3_isIn
set_option maxRecDepth 20000 in
theorem ggX3_chance_X2_expected : GoodIn wsX3_chance wsX2_expected := goodIn_r _ [21, 22, 23, 24, 25, 26, 27, 28, 29, 33, 34, 35, 36, 37, 38, 39, 40, 41, 42, 43] (by decide +kernel) (by decide +kernel)
set_option maxRecDepth 20000 in
theorem gX3_chance_X2_expected : GoodIn wsX3_chance (wsV RX3 60 RX2 yX2_expected wsX2_expected) := goodIn_app (goodIn_of _ (by decide +kernel)) ggX3_chance_X2_expected
theorem dX3_chance_0 : decode cX3_chance 0 = .ok (.aload_n 0, 1) := by decide +kernel
theorem dX3_chance_1 : decode cX3_chance 1 = .ok (.iconst 0, 1) := by decide +kernel
theorem dX3_chance_2 : decode cX3_chance 2 = .ok (.putfield 19, 3) := by decide +kernel
theorem dX3_chance_5 : decode cX3_chance 5 = .ok (.aload_n 0, 1) := by decide +kernel
theorem dX3_chance_6 : decode cX3_chance 6 = .ok (.iload_n 1, 1) := by decide +kernel
theorem dX3_chance_7 : decode cX3_chance 7 = .ok (.invokevirtual 44, 3) := by decide +kernel
theorem dX3_chance_10 : decode cX3_chance 10 = .ok (.ifCond .eq 11, 3) := by decide +kernel
theorem dX3_chance_13 : decode cX3_chance 13 = .ok (.aload_n 0, 1) := by decide +kernel
theorem dX3_chance_14 : decode cX3_chance 14 = .ok (.iload_n 2, 1) := by decide +kernel
theorem dX3_chance_15 : decode cX3_chance 15 = .ok (.invokevirtual 44, 3) := by decide +kernel
theorem dX3_chance_18 : decode cX3_chance 18 = .ok (.ifCond .ne 9, 3) := by decide +kernel
theorem dX3_chance_21 : decode cX3_chance 21 = .ok (.aload_n 0, 1) := by decide +kernel
theorem dX3_chance_22 : decode cX3_chance 22 = .ok (.iconst 1, 1) := by decide +kernel
theorem dX3_chance_23 : decode cX3_chance 23 = .ok (.invokevirtual 30, 3) := by decide +kernel
theorem dX3_chance_26 : decode cX3_chance 26 = .ok (.ireturn, 1) := by decide +kernel
theorem dX3_chance_27 : decode cX3_chance 27 = .ok (.iload_n 1, 1) := by decide +kernel
theorem dX3_chance_28 : decode cX3_chance 28 = .ok (.iload_n 2, 1) := by decide +kernel
theorem dX3_chance_29 : decode cX3_chance 29 = .ok (.if_icmp .eq 13, 3) := by decide +kernel
theorem dX3_chance_32 : decode cX3_chance 32 = .ok (.iload_n 3, 1) := by decide +kernel
theorem dX3_chance_33 : decode cX3_chance 33 = .ok (.iconst 1, 1) := by decide +kernel
theorem dX3_chance_34 : decode cX3_chance 34 = .ok (.bipush 9, 2) := by decide +kernel
theorem dX3_chance_36 : decode cX3_chance 36 = .ok (.invokestatic 26, 3) := by decide +kernel
theorem dX3_chance_39 : decode cX3_chance 39 = .ok (.ifCond .ne 9, 3) := by decide +kernel
theorem dX3_chance_42 : decode cX3_chance 42 = .ok (.aload_n 0, 1) := by decide +kernel
theorem dX3_chance_43 : decode cX3_chance 43 = .ok (.iconst 2, 1) := by decide +kernel
theorem dX3_chance_44 : decode cX3_chance 44 = .ok (.invokevirtual 30, 3) := by decide +kernel
theorem dX3_chance_47 : decode cX3_chance 47 = .ok (.ireturn, 1) := by decide +kernel
theorem dX3_chance_48 : decode cX3_chance 48 = .ok (.aload_n 0, 1) := by decide +kernel
theorem dX3_chance_49 : decode cX3_chance 49 = .ok (.getfield 10, 3) := by decide +kernel
theorem dX3_chance_52 : decode cX3_chance 52 = .ok (.iload_n 1, 1) := by decide +kernel
theorem dX3_chance_53 : decode cX3_chance 53 = .ok (.iload_n 2, 1) := by decide +kernel
theorem dX3_chance_54 : decode cX3_chance 54 = .ok (.invokevirtual 60, 3) := by decide +kernel
theorem dX3_chance_57 : decode cX3_chance 57 = .ok (.istore 4, 2) := by decide +kernel
theorem dX3_chance_59 : decode cX3_chance 59 = .ok (.iload_n 3, 1) := by decide +kernel
theorem dX3_chance_60 : decode cX3_chance 60 = .ok (.iconst 1, 1) := by decide +kernel
theorem dX3_chance_61 : decode cX3_chance 61 = .ok (.iadd, 1) := by decide +kernel
theorem dX3_chance_62 : decode cX3_chance 62 = .ok (.newarray .int, 2) := by decide +kernel
theorem dX3_chance_64 : decode cX3_chance 64 = .ok (.astore 5, 2) := by decide +kernel
theorem dX3_chance_66 : decode cX3_chance 66 = .ok (.iconst 0, 1) := by decide +kernel
theorem dX3_chance_67 : decode cX3_chance 67 = .ok (.istore 6, 2) := by decide +kernel
theorem dX3_chance_69 : decode cX3_chance 69 = .ok (.iload 6, 2) := by decide +kernel
theorem dX3_chance_71 : decode cX3_chance 71 = .ok (.iload_n 3, 1) := by decide +kernel
theorem dX3_chance_72 : decode cX3_chance 72 = .ok (.if_icmp .gt 16, 3) := by decide +kernel
theorem dX3_chance_75 : decode cX3_chance 75 = .ok (.aload 5, 2) := by decide +kernel
theorem dX3_chance_77 : decode cX3_chance 77 = .ok (.iload 6, 2) := by decide +kernel
theorem dX3_chance_79 : decode cX3_chance 79 = .ok (.ldc 113, 2) := by decide +kernel
theorem dX3_chance_81 : decode cX3_chance 81 = .ok (.iastore, 1) := by decide +kernel
theorem dX3_chance_82 : decode cX3_chance 82 = .ok (.iinc 6 1, 3) := by decide +kernel
theorem dX3_chance_85 : decode cX3_chance 85 = .ok (.goto (-16), 3) := by decide +kernel
theorem dX3_chance_88 : decode cX3_chance 88 = .ok (.iconst 1, 1) := by decide +kernel
theorem dX3_chance_89 : decode cX3_chance 89 = .ok (.istore 6, 2) := by decide +kernel
theorem dX3_chance_91 : decode cX3_chance 91 = .ok (.iload 6, 2) := by decide +kernel
theorem dX3_chance_93 : decode cX3_chance 93 = .ok (.iload_n 3, 1) := by decide +kernel
theorem dX3_chance_94 : decode cX3_chance 94 = .ok (.if_icmp .gt 61, 3) := by decide +kernel
theorem dX3_chance_97 : decode cX3_chance 97 = .ok (.aload 5, 2) := by decide +kernel
theorem dX3_chance_99 : decode cX3_chance 99 = .ok (.iconst 0, 1) := by decide +kernel
theorem dX3_chance_100 : decode cX3_chance 100 = .ok (.iconst 0, 1) := by decide +kernel
theorem dX3_chance_101 : decode cX3_chance 101 = .ok (.iastore, 1) := by decide +kernel
theorem dX3_chance_102 : decode cX3_chance 102 = .ok (.iconst 1, 1) := by decide +kernel
theorem dX3_chance_103 : decode cX3_chance 103 = .ok (.istore 7, 2) := by decide +kernel
theorem dX3_chance_105 : decode cX3_chance 105 = .ok (.iload 7, 2) := by decide +kernel
theorem dX3_chance_107 : decode cX3_chance 107 = .ok (.iload_n 3, 1) := by decide +kernel
theorem dX3_chance_108 : decode cX3_chance 108 = .ok (.if_icmp .gt 41, 3) := by decide +kernel
theorem dX3_chance_111 : decode cX3_chance 111 = .ok (.aload 5, 2) := by decide +kernel
theorem dX3_chance_113 : decode cX3_chance 113 = .ok (.iload 7, 2) := by decide +kernel
theorem dX3_chance_115 : decode cX3_chance 115 = .ok (.iload 4, 2) := by decide +kernel
theorem dX3_chance_117 : decode cX3_chance 117 = .ok (.aload 5, 2) := by decide +kernel
theorem dX3_chance_119 : decode cX3_chance 119 = .ok (.iload 7, 2) := by decide +kernel
theorem dX3_chance_121 : decode cX3_chance 121 = .ok (.iaload, 1) := by decide +kernel
theorem dX3_chance_122 : decode cX3_chance 122 = .ok (.imul, 1) := by decide +kernel
theorem dX3_chance_123 : decode cX3_chance 123 = .ok (.sipush 1000, 3) := by decide +kernel
theorem dX3_chance_126 : decode cX3_chance 126 = .ok (.iload 4, 2) := by decide +kernel
theorem dX3_chance_128 : decode cX3_chance 128 = .ok (.isub, 1) := by decide +kernel
theorem dX3_chance_129 : decode cX3_chance 129 = .ok (.aload 5, 2) := by decide +kernel
theorem dX3_chance_131 : decode cX3_chance 131 = .ok (.iload 7, 2) := by decide +kernel
theorem dX3_chance_133 : decode cX3_chance 133 = .ok (.iconst 1, 1) := by decide +kernel
theorem dX3_chance_134 : decode cX3_chance 134 = .ok (.isub, 1) := by decide +kernel
theorem dX3_chance_135 : decode cX3_chance 135 = .ok (.iaload, 1) := by decide +kernel
theorem dX3_chance_136 : decode cX3_chance 136 = .ok (.imul, 1) := by decide +kernel
theorem dX3_chance_137 : decode cX3_chance 137 = .ok (.iadd, 1) := by decide +kernel
theorem dX3_chance_138 : decode cX3_chance 138 = .ok (.sipush 1000, 3) := by decide +kernel
theorem dX3_chance_141 : decode cX3_chance 141 = .ok (.idiv, 1) := by decide +kernel
theorem dX3_chance_142 : decode cX3_chance 142 = .ok (.iastore, 1) := by decide +kernel
theorem dX3_chance_143 : decode cX3_chance 143 = .ok (.iinc 7 1, 3) := by decide +kernel
theorem dX3_chance_146 : decode cX3_chance 146 = .ok (.goto (-41), 3) := by decide +kernel
theorem dX3_chance_149 : decode cX3_chance 149 = .ok (.iinc 6 1, 3) := by decide +kernel
theorem dX3_chance_152 : decode cX3_chance 152 = .ok (.goto (-61), 3) := by decide +kernel
theorem dX3_chance_155 : decode cX3_chance 155 = .ok (.aload 5, 2) := by decide +kernel
theorem dX3_chance_157 : decode cX3_chance 157 = .ok (.iload_n 3, 1) := by decide +kernel
theorem dX3_chance_158 : decode cX3_chance 158 = .ok (.iaload, 1) := by decide +kernel
theorem dX3_chance_159 : decode cX3_chance 159 = .ok (.ireturn, 1) := by decide +kernel
set_option maxRecDepth 20000 in
theorem ggX3_match_X3_isWrestler : GoodIn wsX3_match wsX3_isWrestler := goodIn_r _ [7, 2, 8, 9, 6, 10, 38, 39, 40, 41, 42, 43, 44, 45, 46, 47, 48, 49, 50, 51] (by decide +kernel) (by decide +kernel)
set_option maxRecDepth 20000 in
theorem gX3_match_X3_isWrestler : GoodIn wsX3_match (wsV RX3 44 RX3 yX3_isWrestler wsX3_isWrestler) := goodIn_app (goodIn_of _ (by decide +kernel)) ggX3_match_X3_isWrestler
set_option maxRecDepth 20000 in
theorem ggX3_match_X2_match : GoodIn wsX3_match wsX2_match := goodIn_r _ [15, 16, 17, 18, 19, 20, 14, 21, 22, 23, 24, 25, 26, 27, 28, 29, 30, 31, 32, 33, 41, 42, 43, 44, 45, 46, 47, 48, 49, 50, 51] (by decide +kernel) (by decide +kernel)
set_option maxRecDepth 20000 in
theorem gX3_match_X2_match : GoodIn wsX3_match (wsV RX3 114 RX2 yX2_match wsX2_match) := goodIn_app (goodIn_of _ (by decide +kernel)) ggX3_match_X2_match
set_option maxRecDepth 20000 in
theorem ggX3_match_X3_no : GoodIn wsX3_match wsX3_no := goodIn_r _ [37, 1, 38, 39, 40] (by decide +kernel) (by decide +kernel)
set_option maxRecDepth 20000 in
theorem gX3_match_X3_no : GoodIn wsX3_match (wsV RX3 30 RX3 yX3_no wsX3_no) := goodIn_app (goodIn_of _ (by decide +kernel)) ggX3_match_X3_no
theorem dX3_match_0 : decode cX3_match 0 = .ok (.aload_n 0, 1) := by decide +kernel
theorem dX3_match_1 : decode cX3_match 1 = .ok (.iconst 0, 1) := by decide +kernel
theorem dX3_match_2 : decode cX3_match 2 = .ok (.putfield 19, 3) := by decide +kernel
theorem dX3_match_5 : decode cX3_match 5 = .ok (.aload_n 0, 1) := by decide +kernel
theorem dX3_match_6 : decode cX3_match 6 = .ok (.iload_n 1, 1) := by decide +kernel
theorem dX3_match_7 : decode cX3_match 7 = .ok (.invokevirtual 44, 3) := by decide +kernel
theorem dX3_match_10 : decode cX3_match 10 = .ok (.ifCond .eq 14, 3) := by decide +kernel
theorem dX3_match_13 : decode cX3_match 13 = .ok (.aload_n 0, 1) := by decide +kernel
theorem dX3_match_14 : decode cX3_match 14 = .ok (.getfield 10, 3) := by decide +kernel
theorem dX3_match_17 : decode cX3_match 17 = .ok (.iload_n 1, 1) := by decide +kernel
theorem dX3_match_18 : decode cX3_match 18 = .ok (.invokevirtual 114, 3) := by decide +kernel
theorem dX3_match_21 : decode cX3_match 21 = .ok (.goto 8, 3) := by decide +kernel
theorem dX3_match_24 : decode cX3_match 24 = .ok (.aload_n 0, 1) := by decide +kernel
theorem dX3_match_25 : decode cX3_match 25 = .ok (.iconst 1, 1) := by decide +kernel
theorem dX3_match_26 : decode cX3_match 26 = .ok (.invokevirtual 30, 3) := by decide +kernel
theorem dX3_match_29 : decode cX3_match 29 = .ok (.ireturn, 1) := by decide +kernel
set_option maxRecDepth 20000 in
theorem ggX3_next_X2_next : GoodIn wsX3_next wsX2_next := goodIn_r _ [7, 8, 9, 10, 11, 12, 13, 6, 14, 15, 16, 17, 18, 19, 20, 21, 22, 23, 24, 25, 26, 30, 31, 32, 33, 34, 35, 36, 37, 38, 39, 40] (by decide +kernel) (by decide +kernel)
set_option maxRecDepth 20000 in
theorem gX3_next_X2_next : GoodIn wsX3_next (wsV RX3 117 RX2 yX2_next wsX2_next) := goodIn_app (goodIn_of _ (by decide +kernel)) ggX3_next_X2_next
theorem dX3_next_0 : decode cX3_next 0 = .ok (.aload_n 0, 1) := by decide +kernel
theorem dX3_next_1 : decode cX3_next 1 = .ok (.iconst 0, 1) := by decide +kernel
theorem dX3_next_2 : decode cX3_next 2 = .ok (.putfield 19, 3) := by decide +kernel
theorem dX3_next_5 : decode cX3_next 5 = .ok (.aload_n 0, 1) := by decide +kernel
theorem dX3_next_6 : decode cX3_next 6 = .ok (.getfield 10, 3) := by decide +kernel
theorem dX3_next_9 : decode cX3_next 9 = .ok (.invokevirtual 117, 3) := by decide +kernel
theorem dX3_next_12 : decode cX3_next 12 = .ok (.ireturn, 1) := by decide +kernel
set_option maxRecDepth 20000 in
theorem ggX3_foresee_X3_isIn : GoodIn wsX3_foresee wsX3_isIn := goodIn_r _ [7] (by decide +kernel) (by decide +kernel)
set_option maxRecDepth 20000 in
theorem gX3_foresee_X3_isIn : GoodIn wsX3_foresee (va_wsS RX3 26 yX3_isIn wsX3_isIn) := goodIn_app (goodIn_of _ (by decide +kernel)) ggX3_foresee_X3_isIn
set_option maxRecDepth 20000 in
theorem ggX3_foresee_X3_no : GoodIn wsX3_foresee wsX3_no := goodIn_r _ [11, 1, 81, 82, 83] (by decide +kernel) (by decide +kernel)
set_option maxRecDepth 20000 in
theorem gX3_foresee_X3_no : GoodIn wsX3_foresee (wsV RX3 30 RX3 yX3_no wsX3_no) := goodIn_app (goodIn_of _ (by decide +kernel)) ggX3_foresee_X3_no
set_option maxRecDepth 20000 in
theorem ggX3_foresee_X2_become : GoodIn wsX3_foresee wsX2_become := goodIn_r _ [16, 17, 18, 19, 20, 21, 22, 23, 24, 25, 26, 27, 28, 29, 15, 30, 31, 32, 33, 34, 84, 85, 86, 87, 88, 89, 90, 91, 92, 93, 94] (by decide +kernel) (by decide +kernel)
set_option maxRecDepth 20000 in
theorem gX3_foresee_X2_become : GoodIn wsX3_foresee (wsV RX3 120 RX2 yX2_become wsX2_become) := goodIn_app (goodIn_of _ (by decide +kernel)) ggX3_foresee_X2_become
set_option maxRecDepth 20000 in
theorem ggX3_foresee_X2_next : GoodIn wsX3_foresee wsX2_next := goodIn_r _ [38, 18, 22, 25, 39, 40, 41, 15, 42, 43, 44, 45, 46, 47, 48, 49, 50, 21, 51, 52, 53, 84, 85, 86, 87, 88, 89, 90, 91, 92, 93, 94] (by decide +kernel) (by decide +kernel)
set_option maxRecDepth 20000 in
theorem gX3_foresee_X2_next : GoodIn wsX3_foresee (wsV RX3 117 RX2 yX2_next wsX2_next) := goodIn_app (goodIn_of _ (by decide +kernel)) ggX3_foresee_X2_next
set_option maxRecDepth 20000 in
theorem ggX3_foresee_X2_bout : GoodIn wsX3_foresee wsX2_bout := goodIn_r _ [57, 20, 19, 58, 59, 60, 15, 61, 21, 51, 52, 45, 53, 62, 63, 64, 65, 66, 67, 68, 24, 47, 48, 49, 50, 43, 44, 46, 69, 70, 71, 72, 27, 73, 74, 75, 76, 25, 23, 26, 84, 85, 86, 87, 88, 89, 90, 91, 92, 93, 94] (by decide +kernel) (by decide +kernel)
set_option maxRecDepth 20000 in
theorem gX3_foresee_X2_bout : GoodIn wsX3_foresee (wsV RX3 52 RX2 yX2_bout wsX2_bout) := goodIn_app (goodIn_of _ (by decide +kernel)) ggX3_foresee_X2_bout
set_option maxRecDepth 20000 in
theorem ggX3_foresee_X2_highest : GoodIn wsX3_foresee wsX2_highest := goodIn_r _ [80, 18, 21, 62, 63, 45, 64, 84, 85, 86, 87, 88, 89, 90, 91, 92, 93, 94] (by decide +kernel) (by decide +kernel)
set_option maxRecDepth 20000 in
theorem gX3_foresee_X2_highest : GoodIn wsX3_foresee (wsV RX3 100 RX2 yX2_highest wsX2_highest) := goodIn_app (goodIn_of _ (by decide +kernel)) ggX3_foresee_X2_highest
theorem dX3_foresee_0 : decode cX3_foresee 0 = .ok (.aload_n 0, 1) := by decide +kernel
theorem dX3_foresee_1 : decode cX3_foresee 1 = .ok (.iconst 0, 1) := by decide +kernel
theorem dX3_foresee_2 : decode cX3_foresee 2 = .ok (.putfield 19, 3) := by decide +kernel
theorem dX3_foresee_5 : decode cX3_foresee 5 = .ok (.iload_n 1, 1) := by decide +kernel
theorem dX3_foresee_6 : decode cX3_foresee 6 = .ok (.iconst 1, 1) := by decide +kernel
theorem dX3_foresee_7 : decode cX3_foresee 7 = .ok (.bipush 40, 2) := by decide +kernel
theorem dX3_foresee_9 : decode cX3_foresee 9 = .ok (.invokestatic 26, 3) := by decide +kernel
theorem dX3_foresee_12 : decode cX3_foresee 12 = .ok (.ifCond .ne 9, 3) := by decide +kernel
theorem dX3_foresee_15 : decode cX3_foresee 15 = .ok (.aload_n 0, 1) := by decide +kernel
theorem dX3_foresee_16 : decode cX3_foresee 16 = .ok (.iconst 1, 1) := by decide +kernel
theorem dX3_foresee_17 : decode cX3_foresee 17 = .ok (.invokevirtual 30, 3) := by decide +kernel
theorem dX3_foresee_20 : decode cX3_foresee 20 = .ok (.ireturn, 1) := by decide +kernel
theorem dX3_foresee_21 : decode cX3_foresee 21 = .ok (.aload_n 0, 1) := by decide +kernel
theorem dX3_foresee_22 : decode cX3_foresee 22 = .ok (.getfield 16, 3) := by decide +kernel
theorem dX3_foresee_25 : decode cX3_foresee 25 = .ok (.aload_n 0, 1) := by decide +kernel
theorem dX3_foresee_26 : decode cX3_foresee 26 = .ok (.getfield 10, 3) := by decide +kernel
theorem dX3_foresee_29 : decode cX3_foresee 29 = .ok (.invokevirtual 120, 3) := by decide +kernel
theorem dX3_foresee_32 : decode cX3_foresee 32 = .ok (.iconst 0, 1) := by decide +kernel
theorem dX3_foresee_33 : decode cX3_foresee 33 = .ok (.istore_n 2, 1) := by decide +kernel
theorem dX3_foresee_34 : decode cX3_foresee 34 = .ok (.iload_n 2, 1) := by decide +kernel
theorem dX3_foresee_35 : decode cX3_foresee 35 = .ok (.iload_n 1, 1) := by decide +kernel
theorem dX3_foresee_36 : decode cX3_foresee 36 = .ok (.if_icmp .ge 78, 3) := by decide +kernel
theorem dX3_foresee_39 : decode cX3_foresee 39 = .ok (.aload_n 0, 1) := by decide +kernel
theorem dX3_foresee_40 : decode cX3_foresee 40 = .ok (.getfield 16, 3) := by decide +kernel
theorem dX3_foresee_43 : decode cX3_foresee 43 = .ok (.invokevirtual 117, 3) := by decide +kernel
theorem dX3_foresee_46 : decode cX3_foresee 46 = .ok (.istore_n 3, 1) := by decide +kernel
theorem dX3_foresee_47 : decode cX3_foresee 47 = .ok (.iload_n 3, 1) := by decide +kernel
theorem dX3_foresee_48 : decode cX3_foresee 48 = .ok (.iconst (-1), 1) := by decide +kernel
theorem dX3_foresee_49 : decode cX3_foresee 49 = .ok (.if_icmp .ne 6, 3) := by decide +kernel
theorem dX3_foresee_52 : decode cX3_foresee 52 = .ok (.goto 62, 3) := by decide +kernel
theorem dX3_foresee_55 : decode cX3_foresee 55 = .ok (.iload_n 3, 1) := by decide +kernel
theorem dX3_foresee_56 : decode cX3_foresee 56 = .ok (.bipush 12, 2) := by decide +kernel
theorem dX3_foresee_58 : decode cX3_foresee 58 = .ok (.idiv, 1) := by decide +kernel
theorem dX3_foresee_59 : decode cX3_foresee 59 = .ok (.istore 4, 2) := by decide +kernel
theorem dX3_foresee_61 : decode cX3_foresee 61 = .ok (.iload_n 3, 1) := by decide +kernel
theorem dX3_foresee_62 : decode cX3_foresee 62 = .ok (.bipush 12, 2) := by decide +kernel
theorem dX3_foresee_64 : decode cX3_foresee 64 = .ok (.irem, 1) := by decide +kernel
theorem dX3_foresee_65 : decode cX3_foresee 65 = .ok (.istore 5, 2) := by decide +kernel
theorem dX3_foresee_67 : decode cX3_foresee 67 = .ok (.aload_n 0, 1) := by decide +kernel
theorem dX3_foresee_68 : decode cX3_foresee 68 = .ok (.getfield 16, 3) := by decide +kernel
theorem dX3_foresee_71 : decode cX3_foresee 71 = .ok (.iload 4, 2) := by decide +kernel
theorem dX3_foresee_73 : decode cX3_foresee 73 = .ok (.iload 5, 2) := by decide +kernel
theorem dX3_foresee_75 : decode cX3_foresee 75 = .ok (.aload_n 0, 1) := by decide +kernel
theorem dX3_foresee_76 : decode cX3_foresee 76 = .ok (.getfield 16, 3) := by decide +kernel
theorem dX3_foresee_79 : decode cX3_foresee 79 = .ok (.getfield 34, 3) := by decide +kernel
theorem dX3_foresee_82 : decode cX3_foresee 82 = .ok (.iload 4, 2) := by decide +kernel
theorem dX3_foresee_84 : decode cX3_foresee 84 = .ok (.iaload, 1) := by decide +kernel
theorem dX3_foresee_85 : decode cX3_foresee 85 = .ok (.aload_n 0, 1) := by decide +kernel
theorem dX3_foresee_86 : decode cX3_foresee 86 = .ok (.getfield 16, 3) := by decide +kernel
theorem dX3_foresee_89 : decode cX3_foresee 89 = .ok (.getfield 34, 3) := by decide +kernel
theorem dX3_foresee_92 : decode cX3_foresee 92 = .ok (.iload 5, 2) := by decide +kernel
theorem dX3_foresee_94 : decode cX3_foresee 94 = .ok (.iaload, 1) := by decide +kernel
theorem dX3_foresee_95 : decode cX3_foresee 95 = .ok (.if_icmp .lt 9, 3) := by decide +kernel
theorem dX3_foresee_98 : decode cX3_foresee 98 = .ok (.sipush 1000, 3) := by decide +kernel
theorem dX3_foresee_101 : decode cX3_foresee 101 = .ok (.goto 4, 3) := by decide +kernel
theorem dX3_foresee_104 : decode cX3_foresee 104 = .ok (.iconst 0, 1) := by decide +kernel
theorem dX3_foresee_105 : decode cX3_foresee 105 = .ok (.invokevirtual 52, 3) := by decide +kernel
theorem dX3_foresee_108 : decode cX3_foresee 108 = .ok (.iinc 2 1, 3) := by decide +kernel
theorem dX3_foresee_111 : decode cX3_foresee 111 = .ok (.goto (-77), 3) := by decide +kernel
theorem dX3_foresee_114 : decode cX3_foresee 114 = .ok (.aload_n 0, 1) := by decide +kernel
theorem dX3_foresee_115 : decode cX3_foresee 115 = .ok (.getfield 16, 3) := by decide +kernel
theorem dX3_foresee_118 : decode cX3_foresee 118 = .ok (.invokevirtual 100, 3) := by decide +kernel
theorem dX3_foresee_121 : decode cX3_foresee 121 = .ok (.ireturn, 1) := by decide +kernel
theorem dX3_mean_0 : decode cX3_mean 0 = .ok (.aload_n 0, 1) := by decide +kernel
theorem dX3_mean_1 : decode cX3_mean 1 = .ok (.iconst 0, 1) := by decide +kernel
theorem dX3_mean_2 : decode cX3_mean 2 = .ok (.putfield 19, 3) := by decide +kernel
theorem dX3_mean_5 : decode cX3_mean 5 = .ok (.iconst 0, 1) := by decide +kernel
theorem dX3_mean_6 : decode cX3_mean 6 = .ok (.istore_n 1, 1) := by decide +kernel
theorem dX3_mean_7 : decode cX3_mean 7 = .ok (.iconst 0, 1) := by decide +kernel
theorem dX3_mean_8 : decode cX3_mean 8 = .ok (.istore_n 2, 1) := by decide +kernel
theorem dX3_mean_9 : decode cX3_mean 9 = .ok (.iload_n 2, 1) := by decide +kernel
theorem dX3_mean_10 : decode cX3_mean 10 = .ok (.aload_n 0, 1) := by decide +kernel
theorem dX3_mean_11 : decode cX3_mean 11 = .ok (.getfield 10, 3) := by decide +kernel
theorem dX3_mean_14 : decode cX3_mean 14 = .ok (.getfield 23, 3) := by decide +kernel
theorem dX3_mean_17 : decode cX3_mean 17 = .ok (.if_icmp .ge 21, 3) := by decide +kernel
theorem dX3_mean_20 : decode cX3_mean 20 = .ok (.iload_n 1, 1) := by decide +kernel
theorem dX3_mean_21 : decode cX3_mean 21 = .ok (.aload_n 0, 1) := by decide +kernel
theorem dX3_mean_22 : decode cX3_mean 22 = .ok (.getfield 10, 3) := by decide +kernel
theorem dX3_mean_25 : decode cX3_mean 25 = .ok (.getfield 34, 3) := by decide +kernel
theorem dX3_mean_28 : decode cX3_mean 28 = .ok (.iload_n 2, 1) := by decide +kernel
theorem dX3_mean_29 : decode cX3_mean 29 = .ok (.iaload, 1) := by decide +kernel
theorem dX3_mean_30 : decode cX3_mean 30 = .ok (.iadd, 1) := by decide +kernel
theorem dX3_mean_31 : decode cX3_mean 31 = .ok (.istore_n 1, 1) := by decide +kernel
theorem dX3_mean_32 : decode cX3_mean 32 = .ok (.iinc 2 1, 3) := by decide +kernel
theorem dX3_mean_35 : decode cX3_mean 35 = .ok (.goto (-26), 3) := by decide +kernel
theorem dX3_mean_38 : decode cX3_mean 38 = .ok (.aload_n 0, 1) := by decide +kernel
theorem dX3_mean_39 : decode cX3_mean 39 = .ok (.getfield 10, 3) := by decide +kernel
theorem dX3_mean_42 : decode cX3_mean 42 = .ok (.getfield 23, 3) := by decide +kernel
theorem dX3_mean_45 : decode cX3_mean 45 = .ok (.ifCond .ne 7, 3) := by decide +kernel
theorem dX3_mean_48 : decode cX3_mean 48 = .ok (.dconst 0, 1) := by decide +kernel
theorem dX3_mean_49 : decode cX3_mean 49 = .ok (.goto 14, 3) := by decide +kernel
theorem dX3_mean_52 : decode cX3_mean 52 = .ok (.iload_n 1, 1) := by decide +kernel
theorem dX3_mean_53 : decode cX3_mean 53 = .ok (.i2d, 1) := by decide +kernel
theorem dX3_mean_54 : decode cX3_mean 54 = .ok (.aload_n 0, 1) := by decide +kernel
theorem dX3_mean_55 : decode cX3_mean 55 = .ok (.getfield 10, 3) := by decide +kernel
theorem dX3_mean_58 : decode cX3_mean 58 = .ok (.getfield 23, 3) := by decide +kernel
theorem dX3_mean_61 : decode cX3_mean 61 = .ok (.i2d, 1) := by decide +kernel
theorem dX3_mean_62 : decode cX3_mean 62 = .ok (.ddiv, 1) := by decide +kernel
theorem dX3_mean_63 : decode cX3_mean 63 = .ok (.dreturn, 1) := by decide +kernel
set_option maxRecDepth 20000 in
theorem ggX3_digest_X3_counted : GoodIn wsX3_digest wsX3_counted := goodIn_r _ [9, 4, 10, 11, 12, 13, 14, 15, 16, 17, 18, 19, 20, 21, 22, 23, 24, 25, 26, 27, 28, 29, 30, 31, 32, 33, 68, 69, 70, 71, 72, 73, 74, 75, 76, 77, 78, 79, 80, 81] (by decide +kernel) (by decide +kernel)
set_option maxRecDepth 20000 in
theorem gX3_digest_X3_counted : GoodIn wsX3_digest (wsV RX3 106 RX3 yX3_counted wsX3_counted) := goodIn_app (goodIn_of _ (by decide +kernel)) ggX3_digest_X3_counted
set_option maxRecDepth 20000 in
theorem ggX3_digest_X3_wrestlerTold : GoodIn wsX3_digest wsX3_wrestlerTold := goodIn_r _ [37, 4, 38, 39, 40, 13, 41, 15, 33, 42, 43, 44, 45, 46, 16, 47, 48, 49, 50, 51, 68, 69, 70, 71, 72, 73, 74, 75, 76, 77, 78, 79, 80, 81] (by decide +kernel) (by decide +kernel)
set_option maxRecDepth 20000 in
theorem gX3_digest_X3_wrestlerTold : GoodIn wsX3_digest (wsV RX3 82 RX3 yX3_wrestlerTold wsX3_wrestlerTold) := goodIn_app (goodIn_of _ (by decide +kernel)) ggX3_digest_X3_wrestlerTold
set_option maxRecDepth 20000 in
theorem ggX3_digest_X2_next : GoodIn wsX3_digest wsX2_next := goodIn_r _ [55, 15, 33, 56, 57, 58, 59, 13, 60, 61, 62, 19, 63, 64, 65, 66, 67, 16, 25, 26, 27, 71, 72, 73, 74, 75, 76, 77, 78, 79, 80, 81] (by decide +kernel) (by decide +kernel)
set_option maxRecDepth 20000 in
theorem gX3_digest_X2_next : GoodIn wsX3_digest (wsV RX3 117 RX2 yX2_next wsX2_next) := goodIn_app (goodIn_of _ (by decide +kernel)) ggX3_digest_X2_next
theorem dX3_digest_0 : decode cX3_digest 0 = .ok (.aload_n 0, 1) := by decide +kernel
theorem dX3_digest_1 : decode cX3_digest 1 = .ok (.iconst 0, 1) := by decide +kernel
theorem dX3_digest_2 : decode cX3_digest 2 = .ok (.putfield 19, 3) := by decide +kernel
theorem dX3_digest_5 : decode cX3_digest 5 = .ok (.ldc2_w 124, 3) := by decide +kernel
theorem dX3_digest_8 : decode cX3_digest 8 = .ok (.lstore_n 1, 1) := by decide +kernel
theorem dX3_digest_9 : decode cX3_digest 9 = .ok (.iconst 0, 1) := by decide +kernel
theorem dX3_digest_10 : decode cX3_digest 10 = .ok (.istore_n 3, 1) := by decide +kernel
theorem dX3_digest_11 : decode cX3_digest 11 = .ok (.iload_n 3, 1) := by decide +kernel
theorem dX3_digest_12 : decode cX3_digest 12 = .ok (.bipush 9, 2) := by decide +kernel
theorem dX3_digest_14 : decode cX3_digest 14 = .ok (.if_icmp .ge 22, 3) := by decide +kernel
theorem dX3_digest_17 : decode cX3_digest 17 = .ok (.lload_n 1, 1) := by decide +kernel
theorem dX3_digest_18 : decode cX3_digest 18 = .ok (.ldc2_w 126, 3) := by decide +kernel
theorem dX3_digest_21 : decode cX3_digest 21 = .ok (.lmul, 1) := by decide +kernel
theorem dX3_digest_22 : decode cX3_digest 22 = .ok (.aload_n 0, 1) := by decide +kernel
theorem dX3_digest_23 : decode cX3_digest 23 = .ok (.iload_n 3, 1) := by decide +kernel
theorem dX3_digest_24 : decode cX3_digest 24 = .ok (.invokevirtual 106, 3) := by decide +kernel
theorem dX3_digest_27 : decode cX3_digest 27 = .ok (.i2l, 1) := by decide +kernel
theorem dX3_digest_28 : decode cX3_digest 28 = .ok (.ladd, 1) := by decide +kernel
theorem dX3_digest_29 : decode cX3_digest 29 = .ok (.lstore_n 1, 1) := by decide +kernel
theorem dX3_digest_30 : decode cX3_digest 30 = .ok (.iinc 3 1, 3) := by decide +kernel
theorem dX3_digest_33 : decode cX3_digest 33 = .ok (.goto (-22), 3) := by decide +kernel
theorem dX3_digest_36 : decode cX3_digest 36 = .ok (.iconst 0, 1) := by decide +kernel
theorem dX3_digest_37 : decode cX3_digest 37 = .ok (.istore_n 3, 1) := by decide +kernel
theorem dX3_digest_38 : decode cX3_digest 38 = .ok (.iload_n 3, 1) := by decide +kernel
theorem dX3_digest_39 : decode cX3_digest 39 = .ok (.aload_n 0, 1) := by decide +kernel
theorem dX3_digest_40 : decode cX3_digest 40 = .ok (.getfield 10, 3) := by decide +kernel
theorem dX3_digest_43 : decode cX3_digest 43 = .ok (.getfield 23, 3) := by decide +kernel
theorem dX3_digest_46 : decode cX3_digest 46 = .ok (.if_icmp .ge 40, 3) := by decide +kernel
theorem dX3_digest_49 : decode cX3_digest 49 = .ok (.iconst 0, 1) := by decide +kernel
theorem dX3_digest_50 : decode cX3_digest 50 = .ok (.istore 4, 2) := by decide +kernel
theorem dX3_digest_52 : decode cX3_digest 52 = .ok (.iload 4, 2) := by decide +kernel
theorem dX3_digest_54 : decode cX3_digest 54 = .ok (.bipush 9, 2) := by decide +kernel
theorem dX3_digest_56 : decode cX3_digest 56 = .ok (.if_icmp .ge 24, 3) := by decide +kernel
theorem dX3_digest_59 : decode cX3_digest 59 = .ok (.lload_n 1, 1) := by decide +kernel
theorem dX3_digest_60 : decode cX3_digest 60 = .ok (.ldc2_w 126, 3) := by decide +kernel
theorem dX3_digest_63 : decode cX3_digest 63 = .ok (.lmul, 1) := by decide +kernel
theorem dX3_digest_64 : decode cX3_digest 64 = .ok (.aload_n 0, 1) := by decide +kernel
theorem dX3_digest_65 : decode cX3_digest 65 = .ok (.iload_n 3, 1) := by decide +kernel
theorem dX3_digest_66 : decode cX3_digest 66 = .ok (.iload 4, 2) := by decide +kernel
theorem dX3_digest_68 : decode cX3_digest 68 = .ok (.invokevirtual 82, 3) := by decide +kernel
theorem dX3_digest_71 : decode cX3_digest 71 = .ok (.i2l, 1) := by decide +kernel
theorem dX3_digest_72 : decode cX3_digest 72 = .ok (.ladd, 1) := by decide +kernel
theorem dX3_digest_73 : decode cX3_digest 73 = .ok (.lstore_n 1, 1) := by decide +kernel
theorem dX3_digest_74 : decode cX3_digest 74 = .ok (.iinc 4 1, 3) := by decide +kernel
theorem dX3_digest_77 : decode cX3_digest 77 = .ok (.goto (-25), 3) := by decide +kernel
theorem dX3_digest_80 : decode cX3_digest 80 = .ok (.iinc 3 1, 3) := by decide +kernel
theorem dX3_digest_83 : decode cX3_digest 83 = .ok (.goto (-45), 3) := by decide +kernel
theorem dX3_digest_86 : decode cX3_digest 86 = .ok (.lload_n 1, 1) := by decide +kernel
theorem dX3_digest_87 : decode cX3_digest 87 = .ok (.ldc2_w 126, 3) := by decide +kernel
theorem dX3_digest_90 : decode cX3_digest 90 = .ok (.lmul, 1) := by decide +kernel
theorem dX3_digest_91 : decode cX3_digest 91 = .ok (.aload_n 0, 1) := by decide +kernel
theorem dX3_digest_92 : decode cX3_digest 92 = .ok (.getfield 10, 3) := by decide +kernel
theorem dX3_digest_95 : decode cX3_digest 95 = .ok (.invokevirtual 117, 3) := by decide +kernel
theorem dX3_digest_98 : decode cX3_digest 98 = .ok (.i2l, 1) := by decide +kernel
theorem dX3_digest_99 : decode cX3_digest 99 = .ok (.ladd, 1) := by decide +kernel
theorem dX3_digest_100 : decode cX3_digest 100 = .ok (.lreturn, 1) := by decide +kernel
theorem dJ9_abs_0f7a4_0 : decode cJ9_abs_0f7a4 0 = .ok (.iload_n 0, 1) := by decide +kernel
theorem dJ9_abs_0f7a4_1 : decode cJ9_abs_0f7a4 1 = .ok (.ifCond .ge 8, 3) := by decide +kernel
theorem dJ9_abs_0f7a4_4 : decode cJ9_abs_0f7a4 4 = .ok (.iload_n 0, 1) := by decide +kernel
theorem dJ9_abs_0f7a4_5 : decode cJ9_abs_0f7a4 5 = .ok (.ineg, 1) := by decide +kernel
theorem dJ9_abs_0f7a4_6 : decode cJ9_abs_0f7a4 6 = .ok (.goto 4, 3) := by decide +kernel
theorem dJ9_abs_0f7a4_9 : decode cJ9_abs_0f7a4 9 = .ok (.iload_n 0, 1) := by decide +kernel
theorem dJ9_abs_0f7a4_10 : decode cJ9_abs_0f7a4 10 = .ok (.ireturn, 1) := by decide +kernel
theorem dJ9_max_7cf53_0 : decode cJ9_max_7cf53 0 = .ok (.iload_n 0, 1) := by decide +kernel
theorem dJ9_max_7cf53_1 : decode cJ9_max_7cf53 1 = .ok (.iload_n 1, 1) := by decide +kernel
theorem dJ9_max_7cf53_2 : decode cJ9_max_7cf53 2 = .ok (.if_icmp .lt 7, 3) := by decide +kernel
theorem dJ9_max_7cf53_5 : decode cJ9_max_7cf53 5 = .ok (.iload_n 0, 1) := by decide +kernel
theorem dJ9_max_7cf53_6 : decode cJ9_max_7cf53 6 = .ok (.goto 4, 3) := by decide +kernel
theorem dJ9_max_7cf53_9 : decode cJ9_max_7cf53 9 = .ok (.iload_n 1, 1) := by decide +kernel
theorem dJ9_max_7cf53_10 : decode cJ9_max_7cf53 10 = .ok (.ireturn, 1) := by decide +kernel
theorem dJ9_min_7cf53_0 : decode cJ9_min_7cf53 0 = .ok (.iload_n 0, 1) := by decide +kernel
theorem dJ9_min_7cf53_1 : decode cJ9_min_7cf53 1 = .ok (.iload_n 1, 1) := by decide +kernel
theorem dJ9_min_7cf53_2 : decode cJ9_min_7cf53 2 = .ok (.if_icmp .gt 7, 3) := by decide +kernel
theorem dJ9_min_7cf53_5 : decode cJ9_min_7cf53 5 = .ok (.iload_n 0, 1) := by decide +kernel
theorem dJ9_min_7cf53_6 : decode cJ9_min_7cf53 6 = .ok (.goto 4, 3) := by decide +kernel
theorem dJ9_min_7cf53_9 : decode cJ9_min_7cf53 9 = .ok (.iload_n 1, 1) := by decide +kernel
theorem dJ9_min_7cf53_10 : decode cJ9_min_7cf53 10 = .ok (.ireturn, 1) := by decide +kernel
