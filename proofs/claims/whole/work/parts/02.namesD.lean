theorem dX2_init_0 : decode cX2_init 0 = .ok (.aload_n 0, 1) := by decide +kernel
theorem dX2_init_1 : decode cX2_init 1 = .ok (.invokespecial 3, 3) := by decide +kernel
theorem dX2_init_4 : decode cX2_init 4 = .ok (.aload_n 0, 1) := by decide +kernel
theorem dX2_init_5 : decode cX2_init 5 = .ok (.bipush 12, 2) := by decide +kernel
theorem dX2_init_7 : decode cX2_init 7 = .ok (.newarray .int, 2) := by decide +kernel
theorem dX2_init_9 : decode cX2_init 9 = .ok (.putfield 9, 3) := by decide +kernel
theorem dX2_init_12 : decode cX2_init 12 = .ok (.aload_n 0, 1) := by decide +kernel
theorem dX2_init_13 : decode cX2_init 13 = .ok (.bipush 12, 2) := by decide +kernel
theorem dX2_init_15 : decode cX2_init 15 = .ok (.newarray .int, 2) := by decide +kernel
theorem dX2_init_17 : decode cX2_init 17 = .ok (.putfield 15, 3) := by decide +kernel
theorem dX2_init_20 : decode cX2_init 20 = .ok (.aload_n 0, 1) := by decide +kernel
theorem dX2_init_21 : decode cX2_init 21 = .ok (.bipush 12, 2) := by decide +kernel
theorem dX2_init_23 : decode cX2_init 23 = .ok (.newarray .int, 2) := by decide +kernel
theorem dX2_init_25 : decode cX2_init 25 = .ok (.putfield 18, 3) := by decide +kernel
theorem dX2_init_28 : decode cX2_init 28 = .ok (.aload_n 0, 1) := by decide +kernel
theorem dX2_init_29 : decode cX2_init 29 = .ok (.bipush 12, 2) := by decide +kernel
theorem dX2_init_31 : decode cX2_init 31 = .ok (.newarray .int, 2) := by decide +kernel
theorem dX2_init_33 : decode cX2_init 33 = .ok (.putfield 21, 3) := by decide +kernel
theorem dX2_init_36 : decode cX2_init 36 = .ok (.aload_n 0, 1) := by decide +kernel
theorem dX2_init_37 : decode cX2_init 37 = .ok (.bipush 12, 2) := by decide +kernel
theorem dX2_init_39 : decode cX2_init 39 = .ok (.newarray .int, 2) := by decide +kernel
theorem dX2_init_41 : decode cX2_init 41 = .ok (.putfield 24, 3) := by decide +kernel
theorem dX2_init_44 : decode cX2_init 44 = .ok (.aload_n 0, 1) := by decide +kernel
theorem dX2_init_45 : decode cX2_init 45 = .ok (.bipush 12, 2) := by decide +kernel
theorem dX2_init_47 : decode cX2_init 47 = .ok (.newarray .int, 2) := by decide +kernel
theorem dX2_init_49 : decode cX2_init 49 = .ok (.putfield 27, 3) := by decide +kernel
theorem dX2_init_52 : decode cX2_init 52 = .ok (.aload_n 0, 1) := by decide +kernel
theorem dX2_init_53 : decode cX2_init 53 = .ok (.bipush 12, 2) := by decide +kernel
theorem dX2_init_55 : decode cX2_init 55 = .ok (.newarray .int, 2) := by decide +kernel
theorem dX2_init_57 : decode cX2_init 57 = .ok (.putfield 30, 3) := by decide +kernel
theorem dX2_init_60 : decode cX2_init 60 = .ok (.return_, 1) := by decide +kernel
theorem dX2_copy_0 : decode cX2_copy 0 = .ok (.aload_n 0, 1) := by decide +kernel
theorem dX2_copy_1 : decode cX2_copy 1 = .ok (.iconst 0, 1) := by decide +kernel
theorem dX2_copy_2 : decode cX2_copy 2 = .ok (.aload_n 1, 1) := by decide +kernel
theorem dX2_copy_3 : decode cX2_copy 3 = .ok (.iconst 0, 1) := by decide +kernel
theorem dX2_copy_4 : decode cX2_copy 4 = .ok (.bipush 12, 2) := by decide +kernel
theorem dX2_copy_6 : decode cX2_copy 6 = .ok (.invokestatic 33, 3) := by decide +kernel
theorem dX2_copy_9 : decode cX2_copy 9 = .ok (.return_, 1) := by decide +kernel
set_option maxRecDepth 20000 in
theorem ggX2_become_X2_copy : GoodIn wsX2_become wsX2_copy := goodIn_r _ [15, 16, 17, 18, 19] (by decide +kernel) (by decide +kernel)
set_option maxRecDepth 20000 in
theorem gX2_become_X2_copy : GoodIn wsX2_become (va_wsS RX2 52 yX2_copy wsX2_copy) := goodIn_app (goodIn_of _ (by decide +kernel)) ggX2_become_X2_copy
theorem dX2_become_0 : decode cX2_become 0 = .ok (.aload_n 0, 1) := by decide +kernel
theorem dX2_become_1 : decode cX2_become 1 = .ok (.aload_n 1, 1) := by decide +kernel
theorem dX2_become_2 : decode cX2_become 2 = .ok (.getfield 39, 3) := by decide +kernel
theorem dX2_become_5 : decode cX2_become 5 = .ok (.putfield 39, 3) := by decide +kernel
theorem dX2_become_8 : decode cX2_become 8 = .ok (.aload_n 0, 1) := by decide +kernel
theorem dX2_become_9 : decode cX2_become 9 = .ok (.aload_n 1, 1) := by decide +kernel
theorem dX2_become_10 : decode cX2_become 10 = .ok (.getfield 43, 3) := by decide +kernel
theorem dX2_become_13 : decode cX2_become 13 = .ok (.putfield 43, 3) := by decide +kernel
theorem dX2_become_16 : decode cX2_become 16 = .ok (.aload_n 0, 1) := by decide +kernel
theorem dX2_become_17 : decode cX2_become 17 = .ok (.aload_n 1, 1) := by decide +kernel
theorem dX2_become_18 : decode cX2_become 18 = .ok (.getfield 46, 3) := by decide +kernel
theorem dX2_become_21 : decode cX2_become 21 = .ok (.putfield 46, 3) := by decide +kernel
theorem dX2_become_24 : decode cX2_become 24 = .ok (.aload_n 0, 1) := by decide +kernel
theorem dX2_become_25 : decode cX2_become 25 = .ok (.aload_n 1, 1) := by decide +kernel
theorem dX2_become_26 : decode cX2_become 26 = .ok (.getfield 49, 3) := by decide +kernel
theorem dX2_become_29 : decode cX2_become 29 = .ok (.putfield 49, 3) := by decide +kernel
theorem dX2_become_32 : decode cX2_become 32 = .ok (.aload_n 1, 1) := by decide +kernel
theorem dX2_become_33 : decode cX2_become 33 = .ok (.getfield 9, 3) := by decide +kernel
theorem dX2_become_36 : decode cX2_become 36 = .ok (.aload_n 0, 1) := by decide +kernel
theorem dX2_become_37 : decode cX2_become 37 = .ok (.getfield 9, 3) := by decide +kernel
theorem dX2_become_40 : decode cX2_become 40 = .ok (.invokestatic 52, 3) := by decide +kernel
theorem dX2_become_43 : decode cX2_become 43 = .ok (.aload_n 1, 1) := by decide +kernel
theorem dX2_become_44 : decode cX2_become 44 = .ok (.getfield 15, 3) := by decide +kernel
theorem dX2_become_47 : decode cX2_become 47 = .ok (.aload_n 0, 1) := by decide +kernel
theorem dX2_become_48 : decode cX2_become 48 = .ok (.getfield 15, 3) := by decide +kernel
theorem dX2_become_51 : decode cX2_become 51 = .ok (.invokestatic 52, 3) := by decide +kernel
theorem dX2_become_54 : decode cX2_become 54 = .ok (.aload_n 1, 1) := by decide +kernel
theorem dX2_become_55 : decode cX2_become 55 = .ok (.getfield 18, 3) := by decide +kernel
theorem dX2_become_58 : decode cX2_become 58 = .ok (.aload_n 0, 1) := by decide +kernel
theorem dX2_become_59 : decode cX2_become 59 = .ok (.getfield 18, 3) := by decide +kernel
theorem dX2_become_62 : decode cX2_become 62 = .ok (.invokestatic 52, 3) := by decide +kernel
theorem dX2_become_65 : decode cX2_become 65 = .ok (.aload_n 1, 1) := by decide +kernel
theorem dX2_become_66 : decode cX2_become 66 = .ok (.getfield 21, 3) := by decide +kernel
theorem dX2_become_69 : decode cX2_become 69 = .ok (.aload_n 0, 1) := by decide +kernel
theorem dX2_become_70 : decode cX2_become 70 = .ok (.getfield 21, 3) := by decide +kernel
theorem dX2_become_73 : decode cX2_become 73 = .ok (.invokestatic 52, 3) := by decide +kernel
theorem dX2_become_76 : decode cX2_become 76 = .ok (.aload_n 1, 1) := by decide +kernel
theorem dX2_become_77 : decode cX2_become 77 = .ok (.getfield 24, 3) := by decide +kernel
theorem dX2_become_80 : decode cX2_become 80 = .ok (.aload_n 0, 1) := by decide +kernel
theorem dX2_become_81 : decode cX2_become 81 = .ok (.getfield 24, 3) := by decide +kernel
theorem dX2_become_84 : decode cX2_become 84 = .ok (.invokestatic 52, 3) := by decide +kernel
theorem dX2_become_87 : decode cX2_become 87 = .ok (.aload_n 1, 1) := by decide +kernel
theorem dX2_become_88 : decode cX2_become 88 = .ok (.getfield 27, 3) := by decide +kernel
theorem dX2_become_91 : decode cX2_become 91 = .ok (.aload_n 0, 1) := by decide +kernel
theorem dX2_become_92 : decode cX2_become 92 = .ok (.getfield 27, 3) := by decide +kernel
theorem dX2_become_95 : decode cX2_become 95 = .ok (.invokestatic 52, 3) := by decide +kernel
theorem dX2_become_98 : decode cX2_become 98 = .ok (.aload_n 1, 1) := by decide +kernel
theorem dX2_become_99 : decode cX2_become 99 = .ok (.getfield 30, 3) := by decide +kernel
theorem dX2_become_102 : decode cX2_become 102 = .ok (.aload_n 0, 1) := by decide +kernel
theorem dX2_become_103 : decode cX2_become 103 = .ok (.getfield 30, 3) := by decide +kernel
theorem dX2_become_106 : decode cX2_become 106 = .ok (.invokestatic 52, 3) := by decide +kernel
theorem dX2_become_109 : decode cX2_become 109 = .ok (.return_, 1) := by decide +kernel
theorem dX2_expected_0 : decode cX2_expected 0 = .ok (.sipush 800, 3) := by decide +kernel
theorem dX2_expected_3 : decode cX2_expected 3 = .ok (.aload_n 0, 1) := by decide +kernel
theorem dX2_expected_4 : decode cX2_expected 4 = .ok (.getfield 9, 3) := by decide +kernel
theorem dX2_expected_7 : decode cX2_expected 7 = .ok (.iload_n 1, 1) := by decide +kernel
theorem dX2_expected_8 : decode cX2_expected 8 = .ok (.iaload, 1) := by decide +kernel
theorem dX2_expected_9 : decode cX2_expected 9 = .ok (.aload_n 0, 1) := by decide +kernel
theorem dX2_expected_10 : decode cX2_expected 10 = .ok (.getfield 9, 3) := by decide +kernel
theorem dX2_expected_13 : decode cX2_expected 13 = .ok (.iload_n 2, 1) := by decide +kernel
theorem dX2_expected_14 : decode cX2_expected 14 = .ok (.iaload, 1) := by decide +kernel
theorem dX2_expected_15 : decode cX2_expected 15 = .ok (.isub, 1) := by decide +kernel
theorem dX2_expected_16 : decode cX2_expected 16 = .ok (.invokestatic 56, 3) := by decide +kernel
theorem dX2_expected_19 : decode cX2_expected 19 = .ok (.invokestatic 62, 3) := by decide +kernel
theorem dX2_expected_22 : decode cX2_expected 22 = .ok (.istore_n 3, 1) := by decide +kernel
theorem dX2_expected_23 : decode cX2_expected 23 = .ok (.iload_n 3, 1) := by decide +kernel
theorem dX2_expected_24 : decode cX2_expected 24 = .ok (.bipush 100, 2) := by decide +kernel
theorem dX2_expected_26 : decode cX2_expected 26 = .ok (.idiv, 1) := by decide +kernel
theorem dX2_expected_27 : decode cX2_expected 27 = .ok (.istore 4, 2) := by decide +kernel
theorem dX2_expected_29 : decode cX2_expected 29 = .ok (.getstatic 66, 3) := by decide +kernel
theorem dX2_expected_32 : decode cX2_expected 32 = .ok (.iload 4, 2) := by decide +kernel
theorem dX2_expected_34 : decode cX2_expected 34 = .ok (.iaload, 1) := by decide +kernel
theorem dX2_expected_35 : decode cX2_expected 35 = .ok (.iload_n 3, 1) := by decide +kernel
theorem dX2_expected_36 : decode cX2_expected 36 = .ok (.sipush 800, 3) := by decide +kernel
theorem dX2_expected_39 : decode cX2_expected 39 = .ok (.if_icmp .ne 7, 3) := by decide +kernel
theorem dX2_expected_42 : decode cX2_expected 42 = .ok (.iconst 0, 1) := by decide +kernel
theorem dX2_expected_43 : decode cX2_expected 43 = .ok (.goto 26, 3) := by decide +kernel
theorem dX2_expected_46 : decode cX2_expected 46 = .ok (.getstatic 66, 3) := by decide +kernel
theorem dX2_expected_49 : decode cX2_expected 49 = .ok (.iload 4, 2) := by decide +kernel
theorem dX2_expected_51 : decode cX2_expected 51 = .ok (.iconst 1, 1) := by decide +kernel
theorem dX2_expected_52 : decode cX2_expected 52 = .ok (.iadd, 1) := by decide +kernel
theorem dX2_expected_53 : decode cX2_expected 53 = .ok (.iaload, 1) := by decide +kernel
theorem dX2_expected_54 : decode cX2_expected 54 = .ok (.getstatic 66, 3) := by decide +kernel
theorem dX2_expected_57 : decode cX2_expected 57 = .ok (.iload 4, 2) := by decide +kernel
theorem dX2_expected_59 : decode cX2_expected 59 = .ok (.iaload, 1) := by decide +kernel
theorem dX2_expected_60 : decode cX2_expected 60 = .ok (.isub, 1) := by decide +kernel
theorem dX2_expected_61 : decode cX2_expected 61 = .ok (.iload_n 3, 1) := by decide +kernel
theorem dX2_expected_62 : decode cX2_expected 62 = .ok (.bipush 100, 2) := by decide +kernel
theorem dX2_expected_64 : decode cX2_expected 64 = .ok (.irem, 1) := by decide +kernel
theorem dX2_expected_65 : decode cX2_expected 65 = .ok (.imul, 1) := by decide +kernel
theorem dX2_expected_66 : decode cX2_expected 66 = .ok (.bipush 100, 2) := by decide +kernel
theorem dX2_expected_68 : decode cX2_expected 68 = .ok (.idiv, 1) := by decide +kernel
theorem dX2_expected_69 : decode cX2_expected 69 = .ok (.iadd, 1) := by decide +kernel
theorem dX2_expected_70 : decode cX2_expected 70 = .ok (.istore 5, 2) := by decide +kernel
theorem dX2_expected_72 : decode cX2_expected 72 = .ok (.aload_n 0, 1) := by decide +kernel
theorem dX2_expected_73 : decode cX2_expected 73 = .ok (.getfield 9, 3) := by decide +kernel
theorem dX2_expected_76 : decode cX2_expected 76 = .ok (.iload_n 1, 1) := by decide +kernel
theorem dX2_expected_77 : decode cX2_expected 77 = .ok (.iaload, 1) := by decide +kernel
theorem dX2_expected_78 : decode cX2_expected 78 = .ok (.aload_n 0, 1) := by decide +kernel
theorem dX2_expected_79 : decode cX2_expected 79 = .ok (.getfield 9, 3) := by decide +kernel
theorem dX2_expected_82 : decode cX2_expected 82 = .ok (.iload_n 2, 1) := by decide +kernel
theorem dX2_expected_83 : decode cX2_expected 83 = .ok (.iaload, 1) := by decide +kernel
theorem dX2_expected_84 : decode cX2_expected 84 = .ok (.if_icmp .lt 8, 3) := by decide +kernel
theorem dX2_expected_87 : decode cX2_expected 87 = .ok (.iload 5, 2) := by decide +kernel
theorem dX2_expected_89 : decode cX2_expected 89 = .ok (.goto 9, 3) := by decide +kernel
theorem dX2_expected_92 : decode cX2_expected 92 = .ok (.sipush 1000, 3) := by decide +kernel
theorem dX2_expected_95 : decode cX2_expected 95 = .ok (.iload 5, 2) := by decide +kernel
theorem dX2_expected_97 : decode cX2_expected 97 = .ok (.isub, 1) := by decide +kernel
theorem dX2_expected_98 : decode cX2_expected 98 = .ok (.ireturn, 1) := by decide +kernel
theorem dX2_weight_0 : decode cX2_weight 0 = .ok (.aload_n 0, 1) := by decide +kernel
theorem dX2_weight_1 : decode cX2_weight 1 = .ok (.getfield 21, 3) := by decide +kernel
theorem dX2_weight_4 : decode cX2_weight 4 = .ok (.iload_n 1, 1) := by decide +kernel
theorem dX2_weight_5 : decode cX2_weight 5 = .ok (.iaload, 1) := by decide +kernel
theorem dX2_weight_6 : decode cX2_weight 6 = .ok (.bipush 10, 2) := by decide +kernel
theorem dX2_weight_8 : decode cX2_weight 8 = .ok (.if_icmp .ge 8, 3) := by decide +kernel
theorem dX2_weight_11 : decode cX2_weight 11 = .ok (.bipush 40, 2) := by decide +kernel
theorem dX2_weight_13 : decode cX2_weight 13 = .ok (.goto 22, 3) := by decide +kernel
theorem dX2_weight_16 : decode cX2_weight 16 = .ok (.aload_n 0, 1) := by decide +kernel
theorem dX2_weight_17 : decode cX2_weight 17 = .ok (.getfield 9, 3) := by decide +kernel
theorem dX2_weight_20 : decode cX2_weight 20 = .ok (.iload_n 1, 1) := by decide +kernel
theorem dX2_weight_21 : decode cX2_weight 21 = .ok (.iaload, 1) := by decide +kernel
theorem dX2_weight_22 : decode cX2_weight 22 = .ok (.sipush 2000, 3) := by decide +kernel
theorem dX2_weight_25 : decode cX2_weight 25 = .ok (.if_icmp .lt 8, 3) := by decide +kernel
theorem dX2_weight_28 : decode cX2_weight 28 = .ok (.bipush 10, 2) := by decide +kernel
theorem dX2_weight_30 : decode cX2_weight 30 = .ok (.goto 5, 3) := by decide +kernel
theorem dX2_weight_33 : decode cX2_weight 33 = .ok (.bipush 20, 2) := by decide +kernel
theorem dX2_weight_35 : decode cX2_weight 35 = .ok (.ireturn, 1) := by decide +kernel
set_option maxRecDepth 20000 in
theorem ggX2_then_X2_weight : GoodIn wsX2_then wsX2_weight := goodIn_r _ [13, 14, 1, 22, 23, 24, 25, 26, 27, 28, 29, 30, 31, 32] (by decide +kernel) (by decide +kernel)
set_option maxRecDepth 20000 in
theorem gX2_then_X2_weight : GoodIn wsX2_then (wsV RX2 69 RX2 yX2_weight wsX2_weight) := goodIn_app (goodIn_of _ (by decide +kernel)) ggX2_then_X2_weight
set_option maxRecDepth 20000 in
theorem ggX2_then_X2_expected : GoodIn wsX2_then wsX2_expected := goodIn_r _ [18, 1, 19, 20, 4, 21, 2, 3, 5, 22, 23, 24, 25, 26, 27, 28, 29, 30, 31, 32] (by decide +kernel) (by decide +kernel)
set_option maxRecDepth 20000 in
theorem gX2_then_X2_expected : GoodIn wsX2_then (wsV RX2 72 RX2 yX2_expected wsX2_expected) := goodIn_app (goodIn_of _ (by decide +kernel)) ggX2_then_X2_expected
theorem dX2_then_0 : decode cX2_then 0 = .ok (.bipush 100, 2) := by decide +kernel
theorem dX2_then_2 : decode cX2_then 2 = .ok (.sipush 3000, 3) := by decide +kernel
theorem dX2_then_5 : decode cX2_then 5 = .ok (.aload_n 0, 1) := by decide +kernel
theorem dX2_then_6 : decode cX2_then 6 = .ok (.getfield 9, 3) := by decide +kernel
theorem dX2_then_9 : decode cX2_then 9 = .ok (.iload_n 1, 1) := by decide +kernel
theorem dX2_then_10 : decode cX2_then 10 = .ok (.iaload, 1) := by decide +kernel
theorem dX2_then_11 : decode cX2_then 11 = .ok (.aload_n 0, 1) := by decide +kernel
theorem dX2_then_12 : decode cX2_then 12 = .ok (.iload_n 1, 1) := by decide +kernel
theorem dX2_then_13 : decode cX2_then 13 = .ok (.invokevirtual 69, 3) := by decide +kernel
theorem dX2_then_16 : decode cX2_then 16 = .ok (.iload_n 3, 1) := by decide +kernel
theorem dX2_then_17 : decode cX2_then 17 = .ok (.aload_n 0, 1) := by decide +kernel
theorem dX2_then_18 : decode cX2_then 18 = .ok (.iload_n 1, 1) := by decide +kernel
theorem dX2_then_19 : decode cX2_then 19 = .ok (.iload_n 2, 1) := by decide +kernel
theorem dX2_then_20 : decode cX2_then 20 = .ok (.invokevirtual 72, 3) := by decide +kernel
theorem dX2_then_23 : decode cX2_then 23 = .ok (.isub, 1) := by decide +kernel
theorem dX2_then_24 : decode cX2_then 24 = .ok (.imul, 1) := by decide +kernel
theorem dX2_then_25 : decode cX2_then 25 = .ok (.sipush 1000, 3) := by decide +kernel
theorem dX2_then_28 : decode cX2_then 28 = .ok (.idiv, 1) := by decide +kernel
theorem dX2_then_29 : decode cX2_then 29 = .ok (.iadd, 1) := by decide +kernel
theorem dX2_then_30 : decode cX2_then 30 = .ok (.invokestatic 62, 3) := by decide +kernel
theorem dX2_then_33 : decode cX2_then 33 = .ok (.invokestatic 75, 3) := by decide +kernel
theorem dX2_then_36 : decode cX2_then 36 = .ok (.ireturn, 1) := by decide +kernel
theorem dX2_setRating_0 : decode cX2_setRating 0 = .ok (.aload_n 0, 1) := by decide +kernel
theorem dX2_setRating_1 : decode cX2_setRating 1 = .ok (.getfield 9, 3) := by decide +kernel
theorem dX2_setRating_4 : decode cX2_setRating 4 = .ok (.iload_n 1, 1) := by decide +kernel
theorem dX2_setRating_5 : decode cX2_setRating 5 = .ok (.iload_n 2, 1) := by decide +kernel
theorem dX2_setRating_6 : decode cX2_setRating 6 = .ok (.iastore, 1) := by decide +kernel
theorem dX2_setRating_7 : decode cX2_setRating 7 = .ok (.aload_n 0, 1) := by decide +kernel
theorem dX2_setRating_8 : decode cX2_setRating 8 = .ok (.getfield 30, 3) := by decide +kernel
theorem dX2_setRating_11 : decode cX2_setRating 11 = .ok (.iload_n 1, 1) := by decide +kernel
theorem dX2_setRating_12 : decode cX2_setRating 12 = .ok (.aload_n 0, 1) := by decide +kernel
theorem dX2_setRating_13 : decode cX2_setRating 13 = .ok (.getfield 30, 3) := by decide +kernel
theorem dX2_setRating_16 : decode cX2_setRating 16 = .ok (.iload_n 1, 1) := by decide +kernel
theorem dX2_setRating_17 : decode cX2_setRating 17 = .ok (.iaload, 1) := by decide +kernel
theorem dX2_setRating_18 : decode cX2_setRating 18 = .ok (.iload_n 2, 1) := by decide +kernel
theorem dX2_setRating_19 : decode cX2_setRating 19 = .ok (.invokestatic 75, 3) := by decide +kernel
theorem dX2_setRating_22 : decode cX2_setRating 22 = .ok (.iastore, 1) := by decide +kernel
theorem dX2_setRating_23 : decode cX2_setRating 23 = .ok (.return_, 1) := by decide +kernel
theorem dX2_note_0 : decode cX2_note 0 = .ok (.aload_n 0, 1) := by decide +kernel
theorem dX2_note_1 : decode cX2_note 1 = .ok (.getfield 21, 3) := by decide +kernel
theorem dX2_note_4 : decode cX2_note 4 = .ok (.iload_n 1, 1) := by decide +kernel
theorem dX2_note_5 : decode cX2_note 5 = .ok (.dup2, 1) := by decide +kernel
theorem dX2_note_6 : decode cX2_note 6 = .ok (.iaload, 1) := by decide +kernel
theorem dX2_note_7 : decode cX2_note 7 = .ok (.iconst 1, 1) := by decide +kernel
theorem dX2_note_8 : decode cX2_note 8 = .ok (.iadd, 1) := by decide +kernel
theorem dX2_note_9 : decode cX2_note 9 = .ok (.iastore, 1) := by decide +kernel
theorem dX2_note_10 : decode cX2_note 10 = .ok (.aload_n 0, 1) := by decide +kernel
theorem dX2_note_11 : decode cX2_note 11 = .ok (.getfield 24, 3) := by decide +kernel
theorem dX2_note_14 : decode cX2_note 14 = .ok (.iload_n 1, 1) := by decide +kernel
theorem dX2_note_15 : decode cX2_note 15 = .ok (.dup2, 1) := by decide +kernel
theorem dX2_note_16 : decode cX2_note 16 = .ok (.iaload, 1) := by decide +kernel
theorem dX2_note_17 : decode cX2_note 17 = .ok (.iconst 1, 1) := by decide +kernel
theorem dX2_note_18 : decode cX2_note 18 = .ok (.iadd, 1) := by decide +kernel
theorem dX2_note_19 : decode cX2_note 19 = .ok (.iastore, 1) := by decide +kernel
theorem dX2_note_20 : decode cX2_note 20 = .ok (.aload_n 0, 1) := by decide +kernel
theorem dX2_note_21 : decode cX2_note 21 = .ok (.getfield 18, 3) := by decide +kernel
theorem dX2_note_24 : decode cX2_note 24 = .ok (.iload_n 1, 1) := by decide +kernel
theorem dX2_note_25 : decode cX2_note 25 = .ok (.dup2, 1) := by decide +kernel
theorem dX2_note_26 : decode cX2_note 26 = .ok (.iaload, 1) := by decide +kernel
theorem dX2_note_27 : decode cX2_note 27 = .ok (.iload_n 2, 1) := by decide +kernel
theorem dX2_note_28 : decode cX2_note 28 = .ok (.sipush 500, 3) := by decide +kernel
theorem dX2_note_31 : decode cX2_note 31 = .ok (.idiv, 1) := by decide +kernel
theorem dX2_note_32 : decode cX2_note 32 = .ok (.iadd, 1) := by decide +kernel
theorem dX2_note_33 : decode cX2_note 33 = .ok (.iastore, 1) := by decide +kernel
theorem dX2_note_34 : decode cX2_note 34 = .ok (.aload_n 0, 1) := by decide +kernel
theorem dX2_note_35 : decode cX2_note 35 = .ok (.getfield 27, 3) := by decide +kernel
theorem dX2_note_38 : decode cX2_note 38 = .ok (.iload_n 1, 1) := by decide +kernel
theorem dX2_note_39 : decode cX2_note 39 = .ok (.iload_n 2, 1) := by decide +kernel
theorem dX2_note_40 : decode cX2_note 40 = .ok (.sipush 1000, 3) := by decide +kernel
theorem dX2_note_43 : decode cX2_note 43 = .ok (.if_icmp .ne 14, 3) := by decide +kernel
theorem dX2_note_46 : decode cX2_note 46 = .ok (.aload_n 0, 1) := by decide +kernel
theorem dX2_note_47 : decode cX2_note 47 = .ok (.getfield 27, 3) := by decide +kernel
theorem dX2_note_50 : decode cX2_note 50 = .ok (.iload_n 1, 1) := by decide +kernel
theorem dX2_note_51 : decode cX2_note 51 = .ok (.iaload, 1) := by decide +kernel
theorem dX2_note_52 : decode cX2_note 52 = .ok (.iconst 1, 1) := by decide +kernel
theorem dX2_note_53 : decode cX2_note 53 = .ok (.iadd, 1) := by decide +kernel
theorem dX2_note_54 : decode cX2_note 54 = .ok (.goto 4, 3) := by decide +kernel
theorem dX2_note_57 : decode cX2_note 57 = .ok (.iconst 0, 1) := by decide +kernel
theorem dX2_note_58 : decode cX2_note 58 = .ok (.iastore, 1) := by decide +kernel
theorem dX2_note_59 : decode cX2_note 59 = .ok (.return_, 1) := by decide +kernel
set_option maxRecDepth 20000 in
theorem ggX2_bout_X2_then : GoodIn wsX2_bout wsX2_then := goodIn_r _ [7, 8, 9, 10, 11, 12, 13, 14, 15, 16, 17, 18, 6, 19, 20, 21, 22, 23, 24, 25, 26, 27, 40, 41, 42, 43, 44, 45, 46, 47, 48, 49, 50] (by decide +kernel) (by decide +kernel)
set_option maxRecDepth 20000 in
theorem gX2_bout_X2_then : GoodIn wsX2_bout (wsV RX2 78 RX2 yX2_then wsX2_then) := goodIn_app (goodIn_of _ (by decide +kernel)) ggX2_bout_X2_then
set_option maxRecDepth 20000 in
theorem ggX2_bout_X2_expected : GoodIn wsX2_bout wsX2_expected := goodIn_r _ [24, 8, 25, 26, 11, 27, 9, 10, 12, 40, 41, 42, 43, 44, 45, 46, 47, 48, 49, 50] (by decide +kernel) (by decide +kernel)
set_option maxRecDepth 20000 in
theorem gX2_bout_X2_expected : GoodIn wsX2_bout (wsV RX2 72 RX2 yX2_expected wsX2_expected) := goodIn_app (goodIn_of _ (by decide +kernel)) ggX2_bout_X2_expected
set_option maxRecDepth 20000 in
theorem ggX2_bout_X2_setRating : GoodIn wsX2_bout wsX2_setRating := goodIn_r _ [31, 8, 32, 13, 14, 11, 15, 40, 41, 42, 43, 44, 45, 46, 47, 48, 49, 50] (by decide +kernel) (by decide +kernel)
set_option maxRecDepth 20000 in
theorem gX2_bout_X2_setRating : GoodIn wsX2_bout (wsV RX2 82 RX2 yX2_setRating wsX2_setRating) := goodIn_app (goodIn_of _ (by decide +kernel)) ggX2_bout_X2_setRating
set_option maxRecDepth 20000 in
theorem ggX2_bout_X2_note : GoodIn wsX2_bout wsX2_note := goodIn_r _ [36, 20, 37, 38, 39, 40, 41, 42, 43, 44, 45, 46, 47, 48, 49, 50] (by decide +kernel) (by decide +kernel)
set_option maxRecDepth 20000 in
theorem gX2_bout_X2_note : GoodIn wsX2_bout (wsV RX2 86 RX2 yX2_note wsX2_note) := goodIn_app (goodIn_of _ (by decide +kernel)) ggX2_bout_X2_note
theorem dX2_bout_0 : decode cX2_bout 0 = .ok (.aload_n 0, 1) := by decide +kernel
theorem dX2_bout_1 : decode cX2_bout 1 = .ok (.iload_n 1, 1) := by decide +kernel
theorem dX2_bout_2 : decode cX2_bout 2 = .ok (.iload_n 2, 1) := by decide +kernel
theorem dX2_bout_3 : decode cX2_bout 3 = .ok (.iload_n 3, 1) := by decide +kernel
theorem dX2_bout_4 : decode cX2_bout 4 = .ok (.invokevirtual 78, 3) := by decide +kernel
theorem dX2_bout_7 : decode cX2_bout 7 = .ok (.istore 4, 2) := by decide +kernel
theorem dX2_bout_9 : decode cX2_bout 9 = .ok (.aload_n 0, 1) := by decide +kernel
theorem dX2_bout_10 : decode cX2_bout 10 = .ok (.iload_n 2, 1) := by decide +kernel
theorem dX2_bout_11 : decode cX2_bout 11 = .ok (.iload_n 1, 1) := by decide +kernel
theorem dX2_bout_12 : decode cX2_bout 12 = .ok (.sipush 1000, 3) := by decide +kernel
theorem dX2_bout_15 : decode cX2_bout 15 = .ok (.iload_n 3, 1) := by decide +kernel
theorem dX2_bout_16 : decode cX2_bout 16 = .ok (.isub, 1) := by decide +kernel
theorem dX2_bout_17 : decode cX2_bout 17 = .ok (.invokevirtual 78, 3) := by decide +kernel
theorem dX2_bout_20 : decode cX2_bout 20 = .ok (.istore 5, 2) := by decide +kernel
theorem dX2_bout_22 : decode cX2_bout 22 = .ok (.iload_n 3, 1) := by decide +kernel
theorem dX2_bout_23 : decode cX2_bout 23 = .ok (.sipush 500, 3) := by decide +kernel
theorem dX2_bout_26 : decode cX2_bout 26 = .ok (.if_icmp .eq 45, 3) := by decide +kernel
theorem dX2_bout_29 : decode cX2_bout 29 = .ok (.aload_n 0, 1) := by decide +kernel
theorem dX2_bout_30 : decode cX2_bout 30 = .ok (.dup, 1) := by decide +kernel
theorem dX2_bout_31 : decode cX2_bout 31 = .ok (.getfield 49, 3) := by decide +kernel
theorem dX2_bout_34 : decode cX2_bout 34 = .ok (.iload_n 3, 1) := by decide +kernel
theorem dX2_bout_35 : decode cX2_bout 35 = .ok (.sipush 1000, 3) := by decide +kernel
theorem dX2_bout_38 : decode cX2_bout 38 = .ok (.if_icmp .ne 12, 3) := by decide +kernel
theorem dX2_bout_41 : decode cX2_bout 41 = .ok (.aload_n 0, 1) := by decide +kernel
theorem dX2_bout_42 : decode cX2_bout 42 = .ok (.iload_n 1, 1) := by decide +kernel
theorem dX2_bout_43 : decode cX2_bout 43 = .ok (.iload_n 2, 1) := by decide +kernel
theorem dX2_bout_44 : decode cX2_bout 44 = .ok (.invokevirtual 72, 3) := by decide +kernel
theorem dX2_bout_47 : decode cX2_bout 47 = .ok (.goto 9, 3) := by decide +kernel
theorem dX2_bout_50 : decode cX2_bout 50 = .ok (.aload_n 0, 1) := by decide +kernel
theorem dX2_bout_51 : decode cX2_bout 51 = .ok (.iload_n 2, 1) := by decide +kernel
theorem dX2_bout_52 : decode cX2_bout 52 = .ok (.iload_n 1, 1) := by decide +kernel
theorem dX2_bout_53 : decode cX2_bout 53 = .ok (.invokevirtual 72, 3) := by decide +kernel
theorem dX2_bout_56 : decode cX2_bout 56 = .ok (.sipush 400, 3) := by decide +kernel
theorem dX2_bout_59 : decode cX2_bout 59 = .ok (.if_icmp .ge 7, 3) := by decide +kernel
theorem dX2_bout_62 : decode cX2_bout 62 = .ok (.iconst 1, 1) := by decide +kernel
theorem dX2_bout_63 : decode cX2_bout 63 = .ok (.goto 4, 3) := by decide +kernel
theorem dX2_bout_66 : decode cX2_bout 66 = .ok (.iconst 0, 1) := by decide +kernel
theorem dX2_bout_67 : decode cX2_bout 67 = .ok (.iadd, 1) := by decide +kernel
theorem dX2_bout_68 : decode cX2_bout 68 = .ok (.putfield 49, 3) := by decide +kernel
theorem dX2_bout_71 : decode cX2_bout 71 = .ok (.aload_n 0, 1) := by decide +kernel
theorem dX2_bout_72 : decode cX2_bout 72 = .ok (.iload_n 1, 1) := by decide +kernel
theorem dX2_bout_73 : decode cX2_bout 73 = .ok (.iload 4, 2) := by decide +kernel
theorem dX2_bout_75 : decode cX2_bout 75 = .ok (.invokevirtual 82, 3) := by decide +kernel
theorem dX2_bout_78 : decode cX2_bout 78 = .ok (.aload_n 0, 1) := by decide +kernel
theorem dX2_bout_79 : decode cX2_bout 79 = .ok (.iload_n 2, 1) := by decide +kernel
theorem dX2_bout_80 : decode cX2_bout 80 = .ok (.iload 5, 2) := by decide +kernel
theorem dX2_bout_82 : decode cX2_bout 82 = .ok (.invokevirtual 82, 3) := by decide +kernel
theorem dX2_bout_85 : decode cX2_bout 85 = .ok (.aload_n 0, 1) := by decide +kernel
theorem dX2_bout_86 : decode cX2_bout 86 = .ok (.iload_n 1, 1) := by decide +kernel
theorem dX2_bout_87 : decode cX2_bout 87 = .ok (.iload_n 3, 1) := by decide +kernel
theorem dX2_bout_88 : decode cX2_bout 88 = .ok (.invokevirtual 86, 3) := by decide +kernel
theorem dX2_bout_91 : decode cX2_bout 91 = .ok (.aload_n 0, 1) := by decide +kernel
theorem dX2_bout_92 : decode cX2_bout 92 = .ok (.iload_n 2, 1) := by decide +kernel
theorem dX2_bout_93 : decode cX2_bout 93 = .ok (.sipush 1000, 3) := by decide +kernel
theorem dX2_bout_96 : decode cX2_bout 96 = .ok (.iload_n 3, 1) := by decide +kernel
theorem dX2_bout_97 : decode cX2_bout 97 = .ok (.isub, 1) := by decide +kernel
theorem dX2_bout_98 : decode cX2_bout 98 = .ok (.invokevirtual 86, 3) := by decide +kernel
theorem dX2_bout_101 : decode cX2_bout 101 = .ok (.aload_n 0, 1) := by decide +kernel
theorem dX2_bout_102 : decode cX2_bout 102 = .ok (.dup, 1) := by decide +kernel
theorem dX2_bout_103 : decode cX2_bout 103 = .ok (.getfield 46, 3) := by decide +kernel
theorem dX2_bout_106 : decode cX2_bout 106 = .ok (.iconst 1, 1) := by decide +kernel
theorem dX2_bout_107 : decode cX2_bout 107 = .ok (.iadd, 1) := by decide +kernel
theorem dX2_bout_108 : decode cX2_bout 108 = .ok (.putfield 46, 3) := by decide +kernel
theorem dX2_bout_111 : decode cX2_bout 111 = .ok (.return_, 1) := by decide +kernel
theorem dX2_isAhead_0 : decode cX2_isAhead 0 = .ok (.aload_n 0, 1) := by decide +kernel
theorem dX2_isAhead_1 : decode cX2_isAhead 1 = .ok (.getfield 18, 3) := by decide +kernel
theorem dX2_isAhead_4 : decode cX2_isAhead 4 = .ok (.iload_n 1, 1) := by decide +kernel
theorem dX2_isAhead_5 : decode cX2_isAhead 5 = .ok (.iaload, 1) := by decide +kernel
theorem dX2_isAhead_6 : decode cX2_isAhead 6 = .ok (.aload_n 0, 1) := by decide +kernel
theorem dX2_isAhead_7 : decode cX2_isAhead 7 = .ok (.getfield 18, 3) := by decide +kernel
theorem dX2_isAhead_10 : decode cX2_isAhead 10 = .ok (.iload_n 2, 1) := by decide +kernel
theorem dX2_isAhead_11 : decode cX2_isAhead 11 = .ok (.iaload, 1) := by decide +kernel
theorem dX2_isAhead_12 : decode cX2_isAhead 12 = .ok (.if_icmp .eq 24, 3) := by decide +kernel
theorem dX2_isAhead_15 : decode cX2_isAhead 15 = .ok (.aload_n 0, 1) := by decide +kernel
theorem dX2_isAhead_16 : decode cX2_isAhead 16 = .ok (.getfield 18, 3) := by decide +kernel
theorem dX2_isAhead_19 : decode cX2_isAhead 19 = .ok (.iload_n 1, 1) := by decide +kernel
theorem dX2_isAhead_20 : decode cX2_isAhead 20 = .ok (.iaload, 1) := by decide +kernel
theorem dX2_isAhead_21 : decode cX2_isAhead 21 = .ok (.aload_n 0, 1) := by decide +kernel
theorem dX2_isAhead_22 : decode cX2_isAhead 22 = .ok (.getfield 18, 3) := by decide +kernel
theorem dX2_isAhead_25 : decode cX2_isAhead 25 = .ok (.iload_n 2, 1) := by decide +kernel
theorem dX2_isAhead_26 : decode cX2_isAhead 26 = .ok (.iaload, 1) := by decide +kernel
theorem dX2_isAhead_27 : decode cX2_isAhead 27 = .ok (.if_icmp .le 7, 3) := by decide +kernel
theorem dX2_isAhead_30 : decode cX2_isAhead 30 = .ok (.iconst 1, 1) := by decide +kernel
theorem dX2_isAhead_31 : decode cX2_isAhead 31 = .ok (.goto 4, 3) := by decide +kernel
theorem dX2_isAhead_34 : decode cX2_isAhead 34 = .ok (.iconst 0, 1) := by decide +kernel
theorem dX2_isAhead_35 : decode cX2_isAhead 35 = .ok (.ireturn, 1) := by decide +kernel
theorem dX2_isAhead_36 : decode cX2_isAhead 36 = .ok (.aload_n 0, 1) := by decide +kernel
theorem dX2_isAhead_37 : decode cX2_isAhead 37 = .ok (.getfield 9, 3) := by decide +kernel
theorem dX2_isAhead_40 : decode cX2_isAhead 40 = .ok (.iload_n 1, 1) := by decide +kernel
theorem dX2_isAhead_41 : decode cX2_isAhead 41 = .ok (.iaload, 1) := by decide +kernel
theorem dX2_isAhead_42 : decode cX2_isAhead 42 = .ok (.aload_n 0, 1) := by decide +kernel
theorem dX2_isAhead_43 : decode cX2_isAhead 43 = .ok (.getfield 9, 3) := by decide +kernel
theorem dX2_isAhead_46 : decode cX2_isAhead 46 = .ok (.iload_n 2, 1) := by decide +kernel
theorem dX2_isAhead_47 : decode cX2_isAhead 47 = .ok (.iaload, 1) := by decide +kernel
theorem dX2_isAhead_48 : decode cX2_isAhead 48 = .ok (.if_icmp .eq 26, 3) := by decide +kernel
theorem dX2_isAhead_51 : decode cX2_isAhead 51 = .ok (.aload_n 0, 1) := by decide +kernel
theorem dX2_isAhead_52 : decode cX2_isAhead 52 = .ok (.getfield 9, 3) := by decide +kernel
theorem dX2_isAhead_55 : decode cX2_isAhead 55 = .ok (.iload_n 1, 1) := by decide +kernel
theorem dX2_isAhead_56 : decode cX2_isAhead 56 = .ok (.iaload, 1) := by decide +kernel
theorem dX2_isAhead_57 : decode cX2_isAhead 57 = .ok (.aload_n 0, 1) := by decide +kernel
theorem dX2_isAhead_58 : decode cX2_isAhead 58 = .ok (.getfield 9, 3) := by decide +kernel
theorem dX2_isAhead_61 : decode cX2_isAhead 61 = .ok (.iload_n 2, 1) := by decide +kernel
theorem dX2_isAhead_62 : decode cX2_isAhead 62 = .ok (.iaload, 1) := by decide +kernel
theorem dX2_isAhead_63 : decode cX2_isAhead 63 = .ok (.if_icmp .le 7, 3) := by decide +kernel
theorem dX2_isAhead_66 : decode cX2_isAhead 66 = .ok (.iconst 1, 1) := by decide +kernel
theorem dX2_isAhead_67 : decode cX2_isAhead 67 = .ok (.goto 17, 3) := by decide +kernel
theorem dX2_isAhead_70 : decode cX2_isAhead 70 = .ok (.iconst 0, 1) := by decide +kernel
theorem dX2_isAhead_71 : decode cX2_isAhead 71 = .ok (.goto 13, 3) := by decide +kernel
theorem dX2_isAhead_74 : decode cX2_isAhead 74 = .ok (.iload_n 1, 1) := by decide +kernel
theorem dX2_isAhead_75 : decode cX2_isAhead 75 = .ok (.iload_n 2, 1) := by decide +kernel
theorem dX2_isAhead_76 : decode cX2_isAhead 76 = .ok (.if_icmp .ge 7, 3) := by decide +kernel
theorem dX2_isAhead_79 : decode cX2_isAhead 79 = .ok (.iconst 1, 1) := by decide +kernel
theorem dX2_isAhead_80 : decode cX2_isAhead 80 = .ok (.goto 4, 3) := by decide +kernel
theorem dX2_isAhead_83 : decode cX2_isAhead 83 = .ok (.iconst 0, 1) := by decide +kernel
theorem dX2_isAhead_84 : decode cX2_isAhead 84 = .ok (.ireturn, 1) := by decide +kernel
set_option maxRecDepth 20000 in
theorem ggX2_place_X2_isAhead : GoodIn wsX2_place wsX2_isAhead := goodIn_r _ [7, 8, 9, 10, 11, 12, 13, 14, 15, 16, 17, 18, 19, 20] (by decide +kernel) (by decide +kernel)
set_option maxRecDepth 20000 in
theorem gX2_place_X2_isAhead : GoodIn wsX2_place (wsV RX2 89 RX2 yX2_isAhead wsX2_isAhead) := goodIn_app (goodIn_of _ (by decide +kernel)) ggX2_place_X2_isAhead
theorem dX2_place_0 : decode cX2_place 0 = .ok (.iconst 1, 1) := by decide +kernel
theorem dX2_place_1 : decode cX2_place 1 = .ok (.istore_n 2, 1) := by decide +kernel
theorem dX2_place_2 : decode cX2_place 2 = .ok (.iconst 0, 1) := by decide +kernel
theorem dX2_place_3 : decode cX2_place 3 = .ok (.istore_n 3, 1) := by decide +kernel
theorem dX2_place_4 : decode cX2_place 4 = .ok (.iload_n 3, 1) := by decide +kernel
theorem dX2_place_5 : decode cX2_place 5 = .ok (.aload_n 0, 1) := by decide +kernel
theorem dX2_place_6 : decode cX2_place 6 = .ok (.getfield 43, 3) := by decide +kernel
theorem dX2_place_9 : decode cX2_place 9 = .ok (.if_icmp .ge 46, 3) := by decide +kernel
theorem dX2_place_12 : decode cX2_place 12 = .ok (.iload_n 2, 1) := by decide +kernel
theorem dX2_place_13 : decode cX2_place 13 = .ok (.iload_n 3, 1) := by decide +kernel
theorem dX2_place_14 : decode cX2_place 14 = .ok (.iload_n 1, 1) := by decide +kernel
theorem dX2_place_15 : decode cX2_place 15 = .ok (.if_icmp .eq 31, 3) := by decide +kernel
theorem dX2_place_18 : decode cX2_place 18 = .ok (.aload_n 0, 1) := by decide +kernel
theorem dX2_place_19 : decode cX2_place 19 = .ok (.getfield 15, 3) := by decide +kernel
theorem dX2_place_22 : decode cX2_place 22 = .ok (.iload_n 3, 1) := by decide +kernel
theorem dX2_place_23 : decode cX2_place 23 = .ok (.iaload, 1) := by decide +kernel
theorem dX2_place_24 : decode cX2_place 24 = .ok (.aload_n 0, 1) := by decide +kernel
theorem dX2_place_25 : decode cX2_place 25 = .ok (.getfield 15, 3) := by decide +kernel
theorem dX2_place_28 : decode cX2_place 28 = .ok (.iload_n 1, 1) := by decide +kernel
theorem dX2_place_29 : decode cX2_place 29 = .ok (.iaload, 1) := by decide +kernel
theorem dX2_place_30 : decode cX2_place 30 = .ok (.if_icmp .ne 16, 3) := by decide +kernel
theorem dX2_place_33 : decode cX2_place 33 = .ok (.aload_n 0, 1) := by decide +kernel
theorem dX2_place_34 : decode cX2_place 34 = .ok (.iload_n 3, 1) := by decide +kernel
theorem dX2_place_35 : decode cX2_place 35 = .ok (.iload_n 1, 1) := by decide +kernel
theorem dX2_place_36 : decode cX2_place 36 = .ok (.invokevirtual 89, 3) := by decide +kernel
theorem dX2_place_39 : decode cX2_place 39 = .ok (.ifCond .eq 7, 3) := by decide +kernel
theorem dX2_place_42 : decode cX2_place 42 = .ok (.iconst 1, 1) := by decide +kernel
theorem dX2_place_43 : decode cX2_place 43 = .ok (.goto 4, 3) := by decide +kernel
theorem dX2_place_46 : decode cX2_place 46 = .ok (.iconst 0, 1) := by decide +kernel
theorem dX2_place_47 : decode cX2_place 47 = .ok (.iadd, 1) := by decide +kernel
theorem dX2_place_48 : decode cX2_place 48 = .ok (.istore_n 2, 1) := by decide +kernel
theorem dX2_place_49 : decode cX2_place 49 = .ok (.iinc 3 1, 3) := by decide +kernel
theorem dX2_place_52 : decode cX2_place 52 = .ok (.goto (-48), 3) := by decide +kernel
theorem dX2_place_55 : decode cX2_place 55 = .ok (.iload_n 2, 1) := by decide +kernel
theorem dX2_place_56 : decode cX2_place 56 = .ok (.ireturn, 1) := by decide +kernel
theorem dX2_many_0 : decode cX2_many 0 = .ok (.iconst 0, 1) := by decide +kernel
theorem dX2_many_1 : decode cX2_many 1 = .ok (.istore_n 2, 1) := by decide +kernel
theorem dX2_many_2 : decode cX2_many 2 = .ok (.iconst 0, 1) := by decide +kernel
theorem dX2_many_3 : decode cX2_many 3 = .ok (.istore_n 3, 1) := by decide +kernel
theorem dX2_many_4 : decode cX2_many 4 = .ok (.iload_n 3, 1) := by decide +kernel
theorem dX2_many_5 : decode cX2_many 5 = .ok (.aload_n 0, 1) := by decide +kernel
theorem dX2_many_6 : decode cX2_many 6 = .ok (.getfield 43, 3) := by decide +kernel
theorem dX2_many_9 : decode cX2_many 9 = .ok (.if_icmp .ge 27, 3) := by decide +kernel
theorem dX2_many_12 : decode cX2_many 12 = .ok (.iload_n 2, 1) := by decide +kernel
theorem dX2_many_13 : decode cX2_many 13 = .ok (.aload_n 0, 1) := by decide +kernel
theorem dX2_many_14 : decode cX2_many 14 = .ok (.getfield 15, 3) := by decide +kernel
theorem dX2_many_17 : decode cX2_many 17 = .ok (.iload_n 3, 1) := by decide +kernel
theorem dX2_many_18 : decode cX2_many 18 = .ok (.iaload, 1) := by decide +kernel
theorem dX2_many_19 : decode cX2_many 19 = .ok (.iload_n 1, 1) := by decide +kernel
theorem dX2_many_20 : decode cX2_many 20 = .ok (.if_icmp .ne 7, 3) := by decide +kernel
theorem dX2_many_23 : decode cX2_many 23 = .ok (.iconst 1, 1) := by decide +kernel
theorem dX2_many_24 : decode cX2_many 24 = .ok (.goto 4, 3) := by decide +kernel
theorem dX2_many_27 : decode cX2_many 27 = .ok (.iconst 0, 1) := by decide +kernel
theorem dX2_many_28 : decode cX2_many 28 = .ok (.iadd, 1) := by decide +kernel
theorem dX2_many_29 : decode cX2_many 29 = .ok (.istore_n 2, 1) := by decide +kernel
theorem dX2_many_30 : decode cX2_many 30 = .ok (.iinc 3 1, 3) := by decide +kernel
theorem dX2_many_33 : decode cX2_many 33 = .ok (.goto (-29), 3) := by decide +kernel
theorem dX2_many_36 : decode cX2_many 36 = .ok (.iload_n 2, 1) := by decide +kernel
theorem dX2_many_37 : decode cX2_many 37 = .ok (.ireturn, 1) := by decide +kernel
set_option maxRecDepth 20000 in
theorem ggX2_at_X2_place : GoodIn wsX2_at wsX2_place := goodIn_r _ [7, 1, 2, 8, 9, 10, 6, 11, 12, 13, 14, 15, 16, 17, 18, 19, 20, 21, 22, 23, 24] (by decide +kernel) (by decide +kernel)
set_option maxRecDepth 20000 in
theorem gX2_at_X2_place : GoodIn wsX2_at (wsV RX2 93 RX2 yX2_place wsX2_place) := goodIn_app (goodIn_of _ (by decide +kernel)) ggX2_at_X2_place
theorem dX2_at_0 : decode cX2_at 0 = .ok (.iconst 0, 1) := by decide +kernel
theorem dX2_at_1 : decode cX2_at 1 = .ok (.istore_n 3, 1) := by decide +kernel
theorem dX2_at_2 : decode cX2_at 2 = .ok (.iload_n 3, 1) := by decide +kernel
theorem dX2_at_3 : decode cX2_at 3 = .ok (.aload_n 0, 1) := by decide +kernel
theorem dX2_at_4 : decode cX2_at 4 = .ok (.getfield 43, 3) := by decide +kernel
theorem dX2_at_7 : decode cX2_at 7 = .ok (.if_icmp .ge 30, 3) := by decide +kernel
theorem dX2_at_10 : decode cX2_at 10 = .ok (.aload_n 0, 1) := by decide +kernel
theorem dX2_at_11 : decode cX2_at 11 = .ok (.getfield 15, 3) := by decide +kernel
theorem dX2_at_14 : decode cX2_at 14 = .ok (.iload_n 3, 1) := by decide +kernel
theorem dX2_at_15 : decode cX2_at 15 = .ok (.iaload, 1) := by decide +kernel
theorem dX2_at_16 : decode cX2_at 16 = .ok (.iload_n 1, 1) := by decide +kernel
theorem dX2_at_17 : decode cX2_at 17 = .ok (.if_icmp .ne 14, 3) := by decide +kernel
theorem dX2_at_20 : decode cX2_at 20 = .ok (.aload_n 0, 1) := by decide +kernel
theorem dX2_at_21 : decode cX2_at 21 = .ok (.iload_n 3, 1) := by decide +kernel
theorem dX2_at_22 : decode cX2_at 22 = .ok (.invokevirtual 93, 3) := by decide +kernel
theorem dX2_at_25 : decode cX2_at 25 = .ok (.iload_n 2, 1) := by decide +kernel
theorem dX2_at_26 : decode cX2_at 26 = .ok (.if_icmp .ne 5, 3) := by decide +kernel
theorem dX2_at_29 : decode cX2_at 29 = .ok (.iload_n 3, 1) := by decide +kernel
theorem dX2_at_30 : decode cX2_at 30 = .ok (.ireturn, 1) := by decide +kernel
theorem dX2_at_31 : decode cX2_at 31 = .ok (.iinc 3 1, 3) := by decide +kernel
theorem dX2_at_34 : decode cX2_at 34 = .ok (.goto (-32), 3) := by decide +kernel
theorem dX2_at_37 : decode cX2_at 37 = .ok (.iconst (-1), 1) := by decide +kernel
theorem dX2_at_38 : decode cX2_at 38 = .ok (.ireturn, 1) := by decide +kernel
set_option maxRecDepth 20000 in
theorem ggX2_end_X2_setRating : GoodIn wsX2_end wsX2_setRating := goodIn_r _ [11, 3, 12, 13, 14, 15, 16, 33, 34, 35, 36, 37, 38, 39, 40, 41, 42, 43] (by decide +kernel) (by decide +kernel)
set_option maxRecDepth 20000 in
theorem gX2_end_X2_setRating : GoodIn wsX2_end (wsV RX2 82 RX2 yX2_setRating wsX2_setRating) := goodIn_app (goodIn_of _ (by decide +kernel)) ggX2_end_X2_setRating
set_option maxRecDepth 20000 in
theorem ggX2_end_X2_many : GoodIn wsX2_end wsX2_many := goodIn_r _ [20, 1, 5, 33, 34, 35, 36, 37, 38, 39, 40, 41, 42, 43] (by decide +kernel) (by decide +kernel)
set_option maxRecDepth 20000 in
theorem gX2_end_X2_many : GoodIn wsX2_end (wsV RX2 96 RX2 yX2_many wsX2_many) := goodIn_app (goodIn_of _ (by decide +kernel)) ggX2_end_X2_many
set_option maxRecDepth 20000 in
theorem ggX2_end_X2_at : GoodIn wsX2_end wsX2_at := goodIn_r _ [24, 1, 5, 25, 26, 27, 10, 28, 29, 30, 31, 32, 4, 3, 33, 34, 35, 36, 37, 38, 39, 40, 41, 42, 43] (by decide +kernel) (by decide +kernel)
set_option maxRecDepth 20000 in
theorem gX2_end_X2_at : GoodIn wsX2_end (wsV RX2 99 RX2 yX2_at wsX2_at) := goodIn_app (goodIn_of _ (by decide +kernel)) ggX2_end_X2_at
theorem dX2_end_0 : decode cX2_end 0 = .ok (.iconst 0, 1) := by decide +kernel
theorem dX2_end_1 : decode cX2_end 1 = .ok (.istore_n 1, 1) := by decide +kernel
theorem dX2_end_2 : decode cX2_end 2 = .ok (.iconst 0, 1) := by decide +kernel
theorem dX2_end_3 : decode cX2_end 3 = .ok (.istore_n 2, 1) := by decide +kernel
theorem dX2_end_4 : decode cX2_end 4 = .ok (.iload_n 2, 1) := by decide +kernel
theorem dX2_end_5 : decode cX2_end 5 = .ok (.aload_n 0, 1) := by decide +kernel
theorem dX2_end_6 : decode cX2_end 6 = .ok (.getfield 43, 3) := by decide +kernel
theorem dX2_end_9 : decode cX2_end 9 = .ok (.if_icmp .ge 44, 3) := by decide +kernel
theorem dX2_end_12 : decode cX2_end 12 = .ok (.aload_n 0, 1) := by decide +kernel
theorem dX2_end_13 : decode cX2_end 13 = .ok (.getfield 24, 3) := by decide +kernel
theorem dX2_end_16 : decode cX2_end 16 = .ok (.iload_n 2, 1) := by decide +kernel
theorem dX2_end_17 : decode cX2_end 17 = .ok (.iaload, 1) := by decide +kernel
theorem dX2_end_18 : decode cX2_end 18 = .ok (.iconst 3, 1) := by decide +kernel
theorem dX2_end_19 : decode cX2_end 19 = .ok (.if_icmp .ge 28, 3) := by decide +kernel
theorem dX2_end_22 : decode cX2_end 22 = .ok (.aload_n 0, 1) := by decide +kernel
theorem dX2_end_23 : decode cX2_end 23 = .ok (.iload_n 2, 1) := by decide +kernel
theorem dX2_end_24 : decode cX2_end 24 = .ok (.aload_n 0, 1) := by decide +kernel
theorem dX2_end_25 : decode cX2_end 25 = .ok (.getfield 9, 3) := by decide +kernel
theorem dX2_end_28 : decode cX2_end 28 = .ok (.iload_n 2, 1) := by decide +kernel
theorem dX2_end_29 : decode cX2_end 29 = .ok (.iaload, 1) := by decide +kernel
theorem dX2_end_30 : decode cX2_end 30 = .ok (.aload_n 0, 1) := by decide +kernel
theorem dX2_end_31 : decode cX2_end 31 = .ok (.getfield 9, 3) := by decide +kernel
theorem dX2_end_34 : decode cX2_end 34 = .ok (.iload_n 2, 1) := by decide +kernel
theorem dX2_end_35 : decode cX2_end 35 = .ok (.iaload, 1) := by decide +kernel
theorem dX2_end_36 : decode cX2_end 36 = .ok (.sipush 1000, 3) := by decide +kernel
theorem dX2_end_39 : decode cX2_end 39 = .ok (.isub, 1) := by decide +kernel
theorem dX2_end_40 : decode cX2_end 40 = .ok (.bipush 8, 2) := by decide +kernel
theorem dX2_end_42 : decode cX2_end 42 = .ok (.idiv, 1) := by decide +kernel
theorem dX2_end_43 : decode cX2_end 43 = .ok (.isub, 1) := by decide +kernel
theorem dX2_end_44 : decode cX2_end 44 = .ok (.invokevirtual 82, 3) := by decide +kernel
theorem dX2_end_47 : decode cX2_end 47 = .ok (.iinc 2 1, 3) := by decide +kernel
theorem dX2_end_50 : decode cX2_end 50 = .ok (.goto (-46), 3) := by decide +kernel
theorem dX2_end_53 : decode cX2_end 53 = .ok (.iconst 0, 1) := by decide +kernel
theorem dX2_end_54 : decode cX2_end 54 = .ok (.istore_n 2, 1) := by decide +kernel
theorem dX2_end_55 : decode cX2_end 55 = .ok (.iload_n 2, 1) := by decide +kernel
theorem dX2_end_56 : decode cX2_end 56 = .ok (.iconst 1, 1) := by decide +kernel
theorem dX2_end_57 : decode cX2_end 57 = .ok (.iadd, 1) := by decide +kernel
theorem dX2_end_58 : decode cX2_end 58 = .ok (.iconst 3, 1) := by decide +kernel
theorem dX2_end_59 : decode cX2_end 59 = .ok (.if_icmp .ge 80, 3) := by decide +kernel
theorem dX2_end_62 : decode cX2_end 62 = .ok (.aload_n 0, 1) := by decide +kernel
theorem dX2_end_63 : decode cX2_end 63 = .ok (.iload_n 2, 1) := by decide +kernel
theorem dX2_end_64 : decode cX2_end 64 = .ok (.aload_n 0, 1) := by decide +kernel
theorem dX2_end_65 : decode cX2_end 65 = .ok (.iload_n 2, 1) := by decide +kernel
theorem dX2_end_66 : decode cX2_end 66 = .ok (.invokevirtual 96, 3) := by decide +kernel
theorem dX2_end_69 : decode cX2_end 69 = .ok (.invokevirtual 99, 3) := by decide +kernel
theorem dX2_end_72 : decode cX2_end 72 = .ok (.istore_n 3, 1) := by decide +kernel
theorem dX2_end_73 : decode cX2_end 73 = .ok (.aload_n 0, 1) := by decide +kernel
theorem dX2_end_74 : decode cX2_end 74 = .ok (.iload_n 2, 1) := by decide +kernel
theorem dX2_end_75 : decode cX2_end 75 = .ok (.iconst 1, 1) := by decide +kernel
theorem dX2_end_76 : decode cX2_end 76 = .ok (.iadd, 1) := by decide +kernel
theorem dX2_end_77 : decode cX2_end 77 = .ok (.iconst 1, 1) := by decide +kernel
theorem dX2_end_78 : decode cX2_end 78 = .ok (.invokevirtual 99, 3) := by decide +kernel
theorem dX2_end_81 : decode cX2_end 81 = .ok (.istore 4, 2) := by decide +kernel
theorem dX2_end_83 : decode cX2_end 83 = .ok (.iload_n 3, 1) := by decide +kernel
theorem dX2_end_84 : decode cX2_end 84 = .ok (.iconst (-1), 1) := by decide +kernel
theorem dX2_end_85 : decode cX2_end 85 = .ok (.if_icmp .eq 48, 3) := by decide +kernel
theorem dX2_end_88 : decode cX2_end 88 = .ok (.iload 4, 2) := by decide +kernel
theorem dX2_end_90 : decode cX2_end 90 = .ok (.iconst (-1), 1) := by decide +kernel
theorem dX2_end_91 : decode cX2_end 91 = .ok (.if_icmp .eq 42, 3) := by decide +kernel
theorem dX2_end_94 : decode cX2_end 94 = .ok (.aload_n 0, 1) := by decide +kernel
theorem dX2_end_95 : decode cX2_end 95 = .ok (.getfield 18, 3) := by decide +kernel
theorem dX2_end_98 : decode cX2_end 98 = .ok (.iload 4, 2) := by decide +kernel
theorem dX2_end_100 : decode cX2_end 100 = .ok (.iaload, 1) := by decide +kernel
theorem dX2_end_101 : decode cX2_end 101 = .ok (.aload_n 0, 1) := by decide +kernel
theorem dX2_end_102 : decode cX2_end 102 = .ok (.getfield 18, 3) := by decide +kernel
theorem dX2_end_105 : decode cX2_end 105 = .ok (.iload_n 3, 1) := by decide +kernel
theorem dX2_end_106 : decode cX2_end 106 = .ok (.iaload, 1) := by decide +kernel
theorem dX2_end_107 : decode cX2_end 107 = .ok (.if_icmp .gt 6, 3) := by decide +kernel
theorem dX2_end_110 : decode cX2_end 110 = .ok (.goto 23, 3) := by decide +kernel
theorem dX2_end_113 : decode cX2_end 113 = .ok (.aload_n 0, 1) := by decide +kernel
theorem dX2_end_114 : decode cX2_end 114 = .ok (.getfield 15, 3) := by decide +kernel
theorem dX2_end_117 : decode cX2_end 117 = .ok (.iload_n 3, 1) := by decide +kernel
theorem dX2_end_118 : decode cX2_end 118 = .ok (.iload_n 2, 1) := by decide +kernel
theorem dX2_end_119 : decode cX2_end 119 = .ok (.iconst 1, 1) := by decide +kernel
theorem dX2_end_120 : decode cX2_end 120 = .ok (.iadd, 1) := by decide +kernel
theorem dX2_end_121 : decode cX2_end 121 = .ok (.iastore, 1) := by decide +kernel
theorem dX2_end_122 : decode cX2_end 122 = .ok (.aload_n 0, 1) := by decide +kernel
theorem dX2_end_123 : decode cX2_end 123 = .ok (.getfield 15, 3) := by decide +kernel
theorem dX2_end_126 : decode cX2_end 126 = .ok (.iload 4, 2) := by decide +kernel
theorem dX2_end_128 : decode cX2_end 128 = .ok (.iload_n 2, 1) := by decide +kernel
theorem dX2_end_129 : decode cX2_end 129 = .ok (.iastore, 1) := by decide +kernel
theorem dX2_end_130 : decode cX2_end 130 = .ok (.iinc 1 1, 3) := by decide +kernel
theorem dX2_end_133 : decode cX2_end 133 = .ok (.iinc 2 1, 3) := by decide +kernel
theorem dX2_end_136 : decode cX2_end 136 = .ok (.goto (-81), 3) := by decide +kernel
theorem dX2_end_139 : decode cX2_end 139 = .ok (.iconst 0, 1) := by decide +kernel
theorem dX2_end_140 : decode cX2_end 140 = .ok (.istore_n 2, 1) := by decide +kernel
theorem dX2_end_141 : decode cX2_end 141 = .ok (.iload_n 2, 1) := by decide +kernel
theorem dX2_end_142 : decode cX2_end 142 = .ok (.aload_n 0, 1) := by decide +kernel
theorem dX2_end_143 : decode cX2_end 143 = .ok (.getfield 43, 3) := by decide +kernel
theorem dX2_end_146 : decode cX2_end 146 = .ok (.if_icmp .ge 23, 3) := by decide +kernel
theorem dX2_end_149 : decode cX2_end 149 = .ok (.aload_n 0, 1) := by decide +kernel
theorem dX2_end_150 : decode cX2_end 150 = .ok (.getfield 18, 3) := by decide +kernel
theorem dX2_end_153 : decode cX2_end 153 = .ok (.iload_n 2, 1) := by decide +kernel
theorem dX2_end_154 : decode cX2_end 154 = .ok (.iconst 0, 1) := by decide +kernel
theorem dX2_end_155 : decode cX2_end 155 = .ok (.iastore, 1) := by decide +kernel
theorem dX2_end_156 : decode cX2_end 156 = .ok (.aload_n 0, 1) := by decide +kernel
theorem dX2_end_157 : decode cX2_end 157 = .ok (.getfield 24, 3) := by decide +kernel
theorem dX2_end_160 : decode cX2_end 160 = .ok (.iload_n 2, 1) := by decide +kernel
theorem dX2_end_161 : decode cX2_end 161 = .ok (.iconst 0, 1) := by decide +kernel
theorem dX2_end_162 : decode cX2_end 162 = .ok (.iastore, 1) := by decide +kernel
theorem dX2_end_163 : decode cX2_end 163 = .ok (.iinc 2 1, 3) := by decide +kernel
theorem dX2_end_166 : decode cX2_end 166 = .ok (.goto (-25), 3) := by decide +kernel
theorem dX2_end_169 : decode cX2_end 169 = .ok (.aload_n 0, 1) := by decide +kernel
theorem dX2_end_170 : decode cX2_end 170 = .ok (.dup, 1) := by decide +kernel
theorem dX2_end_171 : decode cX2_end 171 = .ok (.getfield 39, 3) := by decide +kernel
theorem dX2_end_174 : decode cX2_end 174 = .ok (.iconst 1, 1) := by decide +kernel
theorem dX2_end_175 : decode cX2_end 175 = .ok (.iadd, 1) := by decide +kernel
theorem dX2_end_176 : decode cX2_end 176 = .ok (.putfield 39, 3) := by decide +kernel
theorem dX2_end_179 : decode cX2_end 179 = .ok (.iload_n 1, 1) := by decide +kernel
theorem dX2_end_180 : decode cX2_end 180 = .ok (.ireturn, 1) := by decide +kernel
set_option maxRecDepth 20000 in
theorem ggX2_off_X2_expected : GoodIn wsX2_off wsX2_expected := goodIn_r _ [9, 10, 1, 2, 3, 4, 11, 12, 13, 14, 15, 16, 17, 18, 19, 20, 21, 22, 23, 24] (by decide +kernel) (by decide +kernel)
set_option maxRecDepth 20000 in
theorem gX2_off_X2_expected : GoodIn wsX2_off (wsV RX2 72 RX2 yX2_expected wsX2_expected) := goodIn_app (goodIn_of _ (by decide +kernel)) ggX2_off_X2_expected
theorem dX2_off_0 : decode cX2_off 0 = .ok (.aload_n 0, 1) := by decide +kernel
theorem dX2_off_1 : decode cX2_off 1 = .ok (.iload_n 1, 1) := by decide +kernel
theorem dX2_off_2 : decode cX2_off 2 = .ok (.iload_n 2, 1) := by decide +kernel
theorem dX2_off_3 : decode cX2_off 3 = .ok (.invokevirtual 72, 3) := by decide +kernel
theorem dX2_off_6 : decode cX2_off 6 = .ok (.sipush 500, 3) := by decide +kernel
theorem dX2_off_9 : decode cX2_off 9 = .ok (.isub, 1) := by decide +kernel
theorem dX2_off_10 : decode cX2_off 10 = .ok (.invokestatic 56, 3) := by decide +kernel
theorem dX2_off_13 : decode cX2_off 13 = .ok (.ireturn, 1) := by decide +kernel
set_option maxRecDepth 20000 in
theorem ggX2_match_X2_off : GoodIn wsX2_match wsX2_off := goodIn_r _ [7, 8, 9, 10, 11, 12, 13, 14, 6, 15, 16, 17, 18, 19, 20, 21, 22, 23, 24, 25, 26, 27, 28, 29, 30] (by decide +kernel) (by decide +kernel)
set_option maxRecDepth 20000 in
theorem gX2_match_X2_off : GoodIn wsX2_match (wsV RX2 102 RX2 yX2_off wsX2_off) := goodIn_app (goodIn_of _ (by decide +kernel)) ggX2_match_X2_off
theorem dX2_match_0 : decode cX2_match 0 = .ok (.iconst (-1), 1) := by decide +kernel
theorem dX2_match_1 : decode cX2_match 1 = .ok (.istore_n 2, 1) := by decide +kernel
theorem dX2_match_2 : decode cX2_match 2 = .ok (.iconst 0, 1) := by decide +kernel
theorem dX2_match_3 : decode cX2_match 3 = .ok (.istore_n 3, 1) := by decide +kernel
theorem dX2_match_4 : decode cX2_match 4 = .ok (.iload_n 3, 1) := by decide +kernel
theorem dX2_match_5 : decode cX2_match 5 = .ok (.aload_n 0, 1) := by decide +kernel
theorem dX2_match_6 : decode cX2_match 6 = .ok (.getfield 43, 3) := by decide +kernel
theorem dX2_match_9 : decode cX2_match 9 = .ok (.if_icmp .ge 51, 3) := by decide +kernel
theorem dX2_match_12 : decode cX2_match 12 = .ok (.iload_n 3, 1) := by decide +kernel
theorem dX2_match_13 : decode cX2_match 13 = .ok (.iload_n 1, 1) := by decide +kernel
theorem dX2_match_14 : decode cX2_match 14 = .ok (.if_icmp .eq 40, 3) := by decide +kernel
theorem dX2_match_17 : decode cX2_match 17 = .ok (.aload_n 0, 1) := by decide +kernel
theorem dX2_match_18 : decode cX2_match 18 = .ok (.getfield 15, 3) := by decide +kernel
theorem dX2_match_21 : decode cX2_match 21 = .ok (.iload_n 3, 1) := by decide +kernel
theorem dX2_match_22 : decode cX2_match 22 = .ok (.iaload, 1) := by decide +kernel
theorem dX2_match_23 : decode cX2_match 23 = .ok (.aload_n 0, 1) := by decide +kernel
theorem dX2_match_24 : decode cX2_match 24 = .ok (.getfield 15, 3) := by decide +kernel
theorem dX2_match_27 : decode cX2_match 27 = .ok (.iload_n 1, 1) := by decide +kernel
theorem dX2_match_28 : decode cX2_match 28 = .ok (.iaload, 1) := by decide +kernel
theorem dX2_match_29 : decode cX2_match 29 = .ok (.if_icmp .ne 25, 3) := by decide +kernel
theorem dX2_match_32 : decode cX2_match 32 = .ok (.iload_n 2, 1) := by decide +kernel
theorem dX2_match_33 : decode cX2_match 33 = .ok (.iconst (-1), 1) := by decide +kernel
theorem dX2_match_34 : decode cX2_match 34 = .ok (.if_icmp .eq 18, 3) := by decide +kernel
theorem dX2_match_37 : decode cX2_match 37 = .ok (.aload_n 0, 1) := by decide +kernel
theorem dX2_match_38 : decode cX2_match 38 = .ok (.iload_n 1, 1) := by decide +kernel
theorem dX2_match_39 : decode cX2_match 39 = .ok (.iload_n 3, 1) := by decide +kernel
theorem dX2_match_40 : decode cX2_match 40 = .ok (.invokevirtual 102, 3) := by decide +kernel
theorem dX2_match_43 : decode cX2_match 43 = .ok (.aload_n 0, 1) := by decide +kernel
theorem dX2_match_44 : decode cX2_match 44 = .ok (.iload_n 1, 1) := by decide +kernel
theorem dX2_match_45 : decode cX2_match 45 = .ok (.iload_n 2, 1) := by decide +kernel
theorem dX2_match_46 : decode cX2_match 46 = .ok (.invokevirtual 102, 3) := by decide +kernel
theorem dX2_match_49 : decode cX2_match 49 = .ok (.if_icmp .ge 5, 3) := by decide +kernel
theorem dX2_match_52 : decode cX2_match 52 = .ok (.iload_n 3, 1) := by decide +kernel
theorem dX2_match_53 : decode cX2_match 53 = .ok (.istore_n 2, 1) := by decide +kernel
theorem dX2_match_54 : decode cX2_match 54 = .ok (.iinc 3 1, 3) := by decide +kernel
theorem dX2_match_57 : decode cX2_match 57 = .ok (.goto (-53), 3) := by decide +kernel
theorem dX2_match_60 : decode cX2_match 60 = .ok (.iload_n 2, 1) := by decide +kernel
theorem dX2_match_61 : decode cX2_match 61 = .ok (.ireturn, 1) := by decide +kernel
set_option maxRecDepth 20000 in
theorem ggX2_next_X2_off : GoodIn wsX2_next wsX2_off := goodIn_r _ [8, 9, 10, 11, 12, 13, 14, 15, 7, 16, 17, 18, 19, 20, 21, 22, 23, 24, 25, 26, 27, 28, 29, 30, 31] (by decide +kernel) (by decide +kernel)
set_option maxRecDepth 20000 in
theorem gX2_next_X2_off : GoodIn wsX2_next (wsV RX2 102 RX2 yX2_off wsX2_off) := goodIn_app (goodIn_of _ (by decide +kernel)) ggX2_next_X2_off
theorem dX2_next_0 : decode cX2_next 0 = .ok (.iconst (-1), 1) := by decide +kernel
theorem dX2_next_1 : decode cX2_next 1 = .ok (.istore_n 1, 1) := by decide +kernel
theorem dX2_next_2 : decode cX2_next 2 = .ok (.iconst 0, 1) := by decide +kernel
theorem dX2_next_3 : decode cX2_next 3 = .ok (.istore_n 2, 1) := by decide +kernel
theorem dX2_next_4 : decode cX2_next 4 = .ok (.iconst 0, 1) := by decide +kernel
theorem dX2_next_5 : decode cX2_next 5 = .ok (.istore_n 3, 1) := by decide +kernel
theorem dX2_next_6 : decode cX2_next 6 = .ok (.iload_n 3, 1) := by decide +kernel
theorem dX2_next_7 : decode cX2_next 7 = .ok (.aload_n 0, 1) := by decide +kernel
theorem dX2_next_8 : decode cX2_next 8 = .ok (.getfield 43, 3) := by decide +kernel
theorem dX2_next_11 : decode cX2_next 11 = .ok (.if_icmp .ge 101, 3) := by decide +kernel
theorem dX2_next_14 : decode cX2_next 14 = .ok (.iload_n 3, 1) := by decide +kernel
theorem dX2_next_15 : decode cX2_next 15 = .ok (.iconst 1, 1) := by decide +kernel
theorem dX2_next_16 : decode cX2_next 16 = .ok (.iadd, 1) := by decide +kernel
theorem dX2_next_17 : decode cX2_next 17 = .ok (.istore 4, 2) := by decide +kernel
theorem dX2_next_19 : decode cX2_next 19 = .ok (.iload 4, 2) := by decide +kernel
theorem dX2_next_21 : decode cX2_next 21 = .ok (.aload_n 0, 1) := by decide +kernel
theorem dX2_next_22 : decode cX2_next 22 = .ok (.getfield 43, 3) := by decide +kernel
theorem dX2_next_25 : decode cX2_next 25 = .ok (.if_icmp .ge 81, 3) := by decide +kernel
theorem dX2_next_28 : decode cX2_next 28 = .ok (.aload_n 0, 1) := by decide +kernel
theorem dX2_next_29 : decode cX2_next 29 = .ok (.getfield 15, 3) := by decide +kernel
theorem dX2_next_32 : decode cX2_next 32 = .ok (.iload_n 3, 1) := by decide +kernel
theorem dX2_next_33 : decode cX2_next 33 = .ok (.iaload, 1) := by decide +kernel
theorem dX2_next_34 : decode cX2_next 34 = .ok (.aload_n 0, 1) := by decide +kernel
theorem dX2_next_35 : decode cX2_next 35 = .ok (.getfield 15, 3) := by decide +kernel
theorem dX2_next_38 : decode cX2_next 38 = .ok (.iload 4, 2) := by decide +kernel
theorem dX2_next_40 : decode cX2_next 40 = .ok (.iaload, 1) := by decide +kernel
theorem dX2_next_41 : decode cX2_next 41 = .ok (.if_icmp .eq 6, 3) := by decide +kernel
theorem dX2_next_44 : decode cX2_next 44 = .ok (.goto 56, 3) := by decide +kernel
theorem dX2_next_47 : decode cX2_next 47 = .ok (.sipush 1000, 3) := by decide +kernel
theorem dX2_next_50 : decode cX2_next 50 = .ok (.aload_n 0, 1) := by decide +kernel
theorem dX2_next_51 : decode cX2_next 51 = .ok (.getfield 24, 3) := by decide +kernel
theorem dX2_next_54 : decode cX2_next 54 = .ok (.iload_n 3, 1) := by decide +kernel
theorem dX2_next_55 : decode cX2_next 55 = .ok (.iaload, 1) := by decide +kernel
theorem dX2_next_56 : decode cX2_next 56 = .ok (.aload_n 0, 1) := by decide +kernel
theorem dX2_next_57 : decode cX2_next 57 = .ok (.getfield 24, 3) := by decide +kernel
theorem dX2_next_60 : decode cX2_next 60 = .ok (.iload 4, 2) := by decide +kernel
theorem dX2_next_62 : decode cX2_next 62 = .ok (.iaload, 1) := by decide +kernel
theorem dX2_next_63 : decode cX2_next 63 = .ok (.iadd, 1) := by decide +kernel
theorem dX2_next_64 : decode cX2_next 64 = .ok (.imul, 1) := by decide +kernel
theorem dX2_next_65 : decode cX2_next 65 = .ok (.aload_n 0, 1) := by decide +kernel
theorem dX2_next_66 : decode cX2_next 66 = .ok (.iload_n 3, 1) := by decide +kernel
theorem dX2_next_67 : decode cX2_next 67 = .ok (.iload 4, 2) := by decide +kernel
theorem dX2_next_69 : decode cX2_next 69 = .ok (.invokevirtual 102, 3) := by decide +kernel
theorem dX2_next_72 : decode cX2_next 72 = .ok (.iadd, 1) := by decide +kernel
theorem dX2_next_73 : decode cX2_next 73 = .ok (.istore 5, 2) := by decide +kernel
theorem dX2_next_75 : decode cX2_next 75 = .ok (.iload_n 1, 1) := by decide +kernel
theorem dX2_next_76 : decode cX2_next 76 = .ok (.iconst (-1), 1) := by decide +kernel
theorem dX2_next_77 : decode cX2_next 77 = .ok (.if_icmp .eq 12, 3) := by decide +kernel
theorem dX2_next_80 : decode cX2_next 80 = .ok (.iload 5, 2) := by decide +kernel
theorem dX2_next_82 : decode cX2_next 82 = .ok (.iload_n 2, 1) := by decide +kernel
theorem dX2_next_83 : decode cX2_next 83 = .ok (.if_icmp .lt 6, 3) := by decide +kernel
theorem dX2_next_86 : decode cX2_next 86 = .ok (.goto 14, 3) := by decide +kernel
theorem dX2_next_89 : decode cX2_next 89 = .ok (.bipush 12, 2) := by decide +kernel
theorem dX2_next_91 : decode cX2_next 91 = .ok (.iload_n 3, 1) := by decide +kernel
theorem dX2_next_92 : decode cX2_next 92 = .ok (.imul, 1) := by decide +kernel
theorem dX2_next_93 : decode cX2_next 93 = .ok (.iload 4, 2) := by decide +kernel
theorem dX2_next_95 : decode cX2_next 95 = .ok (.iadd, 1) := by decide +kernel
theorem dX2_next_96 : decode cX2_next 96 = .ok (.istore_n 1, 1) := by decide +kernel
theorem dX2_next_97 : decode cX2_next 97 = .ok (.iload 5, 2) := by decide +kernel
theorem dX2_next_99 : decode cX2_next 99 = .ok (.istore_n 2, 1) := by decide +kernel
theorem dX2_next_100 : decode cX2_next 100 = .ok (.iinc 4 1, 3) := by decide +kernel
theorem dX2_next_103 : decode cX2_next 103 = .ok (.goto (-84), 3) := by decide +kernel
theorem dX2_next_106 : decode cX2_next 106 = .ok (.iinc 3 1, 3) := by decide +kernel
theorem dX2_next_109 : decode cX2_next 109 = .ok (.goto (-103), 3) := by decide +kernel
theorem dX2_next_112 : decode cX2_next 112 = .ok (.iload_n 1, 1) := by decide +kernel
theorem dX2_next_113 : decode cX2_next 113 = .ok (.ireturn, 1) := by decide +kernel
theorem dX2_highest_0 : decode cX2_highest 0 = .ok (.iconst 0, 1) := by decide +kernel
theorem dX2_highest_1 : decode cX2_highest 1 = .ok (.istore_n 1, 1) := by decide +kernel
theorem dX2_highest_2 : decode cX2_highest 2 = .ok (.iconst 0, 1) := by decide +kernel
theorem dX2_highest_3 : decode cX2_highest 3 = .ok (.istore_n 2, 1) := by decide +kernel
theorem dX2_highest_4 : decode cX2_highest 4 = .ok (.iload_n 2, 1) := by decide +kernel
theorem dX2_highest_5 : decode cX2_highest 5 = .ok (.aload_n 0, 1) := by decide +kernel
theorem dX2_highest_6 : decode cX2_highest 6 = .ok (.getfield 43, 3) := by decide +kernel
theorem dX2_highest_9 : decode cX2_highest 9 = .ok (.if_icmp .ge 20, 3) := by decide +kernel
theorem dX2_highest_12 : decode cX2_highest 12 = .ok (.iload_n 1, 1) := by decide +kernel
theorem dX2_highest_13 : decode cX2_highest 13 = .ok (.aload_n 0, 1) := by decide +kernel
theorem dX2_highest_14 : decode cX2_highest 14 = .ok (.getfield 9, 3) := by decide +kernel
theorem dX2_highest_17 : decode cX2_highest 17 = .ok (.iload_n 2, 1) := by decide +kernel
theorem dX2_highest_18 : decode cX2_highest 18 = .ok (.iaload, 1) := by decide +kernel
theorem dX2_highest_19 : decode cX2_highest 19 = .ok (.invokestatic 75, 3) := by decide +kernel
theorem dX2_highest_22 : decode cX2_highest 22 = .ok (.istore_n 1, 1) := by decide +kernel
theorem dX2_highest_23 : decode cX2_highest 23 = .ok (.iinc 2 1, 3) := by decide +kernel
theorem dX2_highest_26 : decode cX2_highest 26 = .ok (.goto (-22), 3) := by decide +kernel
theorem dX2_highest_29 : decode cX2_highest 29 = .ok (.iload_n 1, 1) := by decide +kernel
theorem dX2_highest_30 : decode cX2_highest 30 = .ok (.ireturn, 1) := by decide +kernel
set_option maxRecDepth 20000 in
theorem ggX2_lowest_X2_highest : GoodIn wsX2_lowest wsX2_highest := goodIn_r _ [11, 1, 2, 12, 13, 5, 14, 15, 16, 17, 18, 19, 20, 21, 22, 23, 24, 25] (by decide +kernel) (by decide +kernel)
set_option maxRecDepth 20000 in
theorem gX2_lowest_X2_highest : GoodIn wsX2_lowest (wsV RX2 105 RX2 yX2_highest wsX2_highest) := goodIn_app (goodIn_of _ (by decide +kernel)) ggX2_lowest_X2_highest
theorem dX2_lowest_0 : decode cX2_lowest 0 = .ok (.aload_n 0, 1) := by decide +kernel
theorem dX2_lowest_1 : decode cX2_lowest 1 = .ok (.invokevirtual 105, 3) := by decide +kernel
theorem dX2_lowest_4 : decode cX2_lowest 4 = .ok (.istore_n 1, 1) := by decide +kernel
theorem dX2_lowest_5 : decode cX2_lowest 5 = .ok (.iconst 0, 1) := by decide +kernel
theorem dX2_lowest_6 : decode cX2_lowest 6 = .ok (.istore_n 2, 1) := by decide +kernel
theorem dX2_lowest_7 : decode cX2_lowest 7 = .ok (.iload_n 2, 1) := by decide +kernel
theorem dX2_lowest_8 : decode cX2_lowest 8 = .ok (.aload_n 0, 1) := by decide +kernel
theorem dX2_lowest_9 : decode cX2_lowest 9 = .ok (.getfield 43, 3) := by decide +kernel
theorem dX2_lowest_12 : decode cX2_lowest 12 = .ok (.if_icmp .ge 20, 3) := by decide +kernel
theorem dX2_lowest_15 : decode cX2_lowest 15 = .ok (.iload_n 1, 1) := by decide +kernel
theorem dX2_lowest_16 : decode cX2_lowest 16 = .ok (.aload_n 0, 1) := by decide +kernel
theorem dX2_lowest_17 : decode cX2_lowest 17 = .ok (.getfield 9, 3) := by decide +kernel
theorem dX2_lowest_20 : decode cX2_lowest 20 = .ok (.iload_n 2, 1) := by decide +kernel
theorem dX2_lowest_21 : decode cX2_lowest 21 = .ok (.iaload, 1) := by decide +kernel
theorem dX2_lowest_22 : decode cX2_lowest 22 = .ok (.invokestatic 62, 3) := by decide +kernel
theorem dX2_lowest_25 : decode cX2_lowest 25 = .ok (.istore_n 1, 1) := by decide +kernel
theorem dX2_lowest_26 : decode cX2_lowest 26 = .ok (.iinc 2 1, 3) := by decide +kernel
theorem dX2_lowest_29 : decode cX2_lowest 29 = .ok (.goto (-22), 3) := by decide +kernel
theorem dX2_lowest_32 : decode cX2_lowest 32 = .ok (.iload_n 1, 1) := by decide +kernel
theorem dX2_lowest_33 : decode cX2_lowest 33 = .ok (.ireturn, 1) := by decide +kernel
