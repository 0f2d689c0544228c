theorem dX2_match_32 : decode cX2_match 32 = .ok (.aaload, 1) := by decide +kernel
theorem dX2_match_33 : decode cX2_match 33 = .ok (.iconst 1, 1) := by decide +kernel
theorem dX2_match_34 : decode cX2_match 34 = .ok (.iaload, 1) := by decide +kernel
theorem dX2_match_35 : decode cX2_match 35 = .ok (.if_icmp .ne 24, 3) := by decide +kernel
theorem dX2_match_38 : decode cX2_match 38 = .ok (.iload_n 2, 1) := by decide +kernel
theorem dX2_match_39 : decode cX2_match 39 = .ok (.ifCond .lt 18, 3) := by decide +kernel
theorem dX2_match_42 : decode cX2_match 42 = .ok (.aload_n 0, 1) := by decide +kernel
theorem dX2_match_43 : decode cX2_match 43 = .ok (.iload_n 3, 1) := by decide +kernel
theorem dX2_match_44 : decode cX2_match 44 = .ok (.iload_n 1, 1) := by decide +kernel
theorem dX2_match_45 : decode cX2_match 45 = .ok (.invokevirtual 48, 3) := by decide +kernel
theorem dX2_match_48 : decode cX2_match 48 = .ok (.aload_n 0, 1) := by decide +kernel
theorem dX2_match_49 : decode cX2_match 49 = .ok (.iload_n 2, 1) := by decide +kernel
theorem dX2_match_50 : decode cX2_match 50 = .ok (.iload_n 1, 1) := by decide +kernel
theorem dX2_match_51 : decode cX2_match 51 = .ok (.invokevirtual 48, 3) := by decide +kernel
theorem dX2_match_54 : decode cX2_match 54 = .ok (.if_icmp .gt 5, 3) := by decide +kernel
theorem dX2_match_57 : decode cX2_match 57 = .ok (.iload_n 3, 1) := by decide +kernel
theorem dX2_match_58 : decode cX2_match 58 = .ok (.istore_n 2, 1) := by decide +kernel
theorem dX2_match_59 : decode cX2_match 59 = .ok (.iinc 3 (-1), 3) := by decide +kernel
theorem dX2_match_62 : decode cX2_match 62 = .ok (.goto (-52), 3) := by decide +kernel
theorem dX2_match_65 : decode cX2_match 65 = .ok (.iload_n 2, 1) := by decide +kernel
theorem dX2_match_66 : decode cX2_match 66 = .ok (.ireturn, 1) := by decide +kernel
set_option maxRecDepth 20000 in
theorem ggX2_next_X2_off : GoodIn wsX2_next wsX2_off := goodIn_r _ [6, 7, 8, 9, 5, 10, 1, 11, 12, 13, 14, 15] (by decide +kernel) (by decide +kernel)
set_option maxRecDepth 20000 in
theorem gX2_next_X2_off : GoodIn wsX2_next (wsV RX2 48 RX2 yX2_off wsX2_off) := goodIn_app (goodIn_of _ (by decide +kernel)) ggX2_next_X2_off
theorem dX2_next_0 : decode cX2_next 0 = .ok (.iconst (-1), 1) := by decide +kernel
theorem dX2_next_1 : decode cX2_next 1 = .ok (.istore_n 1, 1) := by decide +kernel
theorem dX2_next_2 : decode cX2_next 2 = .ok (.iconst 0, 1) := by decide +kernel
theorem dX2_next_3 : decode cX2_next 3 = .ok (.istore_n 2, 1) := by decide +kernel
theorem dX2_next_4 : decode cX2_next 4 = .ok (.iconst 0, 1) := by decide +kernel
theorem dX2_next_5 : decode cX2_next 5 = .ok (.istore_n 3, 1) := by decide +kernel
theorem dX2_next_6 : decode cX2_next 6 = .ok (.aload_n 0, 1) := by decide +kernel
theorem dX2_next_7 : decode cX2_next 7 = .ok (.getfield 9, 3) := by decide +kernel
theorem dX2_next_10 : decode cX2_next 10 = .ok (.arraylength, 1) := by decide +kernel
theorem dX2_next_11 : decode cX2_next 11 = .ok (.iconst 1, 1) := by decide +kernel
theorem dX2_next_12 : decode cX2_next 12 = .ok (.isub, 1) := by decide +kernel
theorem dX2_next_13 : decode cX2_next 13 = .ok (.istore 4, 2) := by decide +kernel
theorem dX2_next_15 : decode cX2_next 15 = .ok (.iload 4, 2) := by decide +kernel
theorem dX2_next_17 : decode cX2_next 17 = .ok (.ifCond .lt 128, 3) := by decide +kernel
theorem dX2_next_20 : decode cX2_next 20 = .ok (.aload_n 0, 1) := by decide +kernel
theorem dX2_next_21 : decode cX2_next 21 = .ok (.getfield 9, 3) := by decide +kernel
theorem dX2_next_24 : decode cX2_next 24 = .ok (.arraylength, 1) := by decide +kernel
theorem dX2_next_25 : decode cX2_next 25 = .ok (.iconst 1, 1) := by decide +kernel
theorem dX2_next_26 : decode cX2_next 26 = .ok (.isub, 1) := by decide +kernel
theorem dX2_next_27 : decode cX2_next 27 = .ok (.istore 5, 2) := by decide +kernel
theorem dX2_next_29 : decode cX2_next 29 = .ok (.iload 5, 2) := by decide +kernel
theorem dX2_next_31 : decode cX2_next 31 = .ok (.iload 4, 2) := by decide +kernel
theorem dX2_next_33 : decode cX2_next 33 = .ok (.if_icmp .le 106, 3) := by decide +kernel
theorem dX2_next_36 : decode cX2_next 36 = .ok (.aload_n 0, 1) := by decide +kernel
theorem dX2_next_37 : decode cX2_next 37 = .ok (.getfield 9, 3) := by decide +kernel
theorem dX2_next_40 : decode cX2_next 40 = .ok (.iload 4, 2) := by decide +kernel
theorem dX2_next_42 : decode cX2_next 42 = .ok (.aaload, 1) := by decide +kernel
theorem dX2_next_43 : decode cX2_next 43 = .ok (.iconst 1, 1) := by decide +kernel
theorem dX2_next_44 : decode cX2_next 44 = .ok (.iaload, 1) := by decide +kernel
theorem dX2_next_45 : decode cX2_next 45 = .ok (.aload_n 0, 1) := by decide +kernel
theorem dX2_next_46 : decode cX2_next 46 = .ok (.getfield 9, 3) := by decide +kernel
theorem dX2_next_49 : decode cX2_next 49 = .ok (.iload 5, 2) := by decide +kernel
theorem dX2_next_51 : decode cX2_next 51 = .ok (.aaload, 1) := by decide +kernel
theorem dX2_next_52 : decode cX2_next 52 = .ok (.iconst 1, 1) := by decide +kernel
theorem dX2_next_53 : decode cX2_next 53 = .ok (.iaload, 1) := by decide +kernel
theorem dX2_next_54 : decode cX2_next 54 = .ok (.if_icmp .eq 6, 3) := by decide +kernel
theorem dX2_next_57 : decode cX2_next 57 = .ok (.goto 76, 3) := by decide +kernel
theorem dX2_next_60 : decode cX2_next 60 = .ok (.aload_n 0, 1) := by decide +kernel
theorem dX2_next_61 : decode cX2_next 61 = .ok (.getfield 9, 3) := by decide +kernel
theorem dX2_next_64 : decode cX2_next 64 = .ok (.iload 4, 2) := by decide +kernel
theorem dX2_next_66 : decode cX2_next 66 = .ok (.aaload, 1) := by decide +kernel
theorem dX2_next_67 : decode cX2_next 67 = .ok (.iconst 4, 1) := by decide +kernel
theorem dX2_next_68 : decode cX2_next 68 = .ok (.iaload, 1) := by decide +kernel
theorem dX2_next_69 : decode cX2_next 69 = .ok (.aload_n 0, 1) := by decide +kernel
theorem dX2_next_70 : decode cX2_next 70 = .ok (.getfield 9, 3) := by decide +kernel
theorem dX2_next_73 : decode cX2_next 73 = .ok (.iload 5, 2) := by decide +kernel
theorem dX2_next_75 : decode cX2_next 75 = .ok (.aaload, 1) := by decide +kernel
theorem dX2_next_76 : decode cX2_next 76 = .ok (.iconst 4, 1) := by decide +kernel
theorem dX2_next_77 : decode cX2_next 77 = .ok (.iaload, 1) := by decide +kernel
theorem dX2_next_78 : decode cX2_next 78 = .ok (.iadd, 1) := by decide +kernel
theorem dX2_next_79 : decode cX2_next 79 = .ok (.istore 6, 2) := by decide +kernel
theorem dX2_next_81 : decode cX2_next 81 = .ok (.iload_n 1, 1) := by decide +kernel
theorem dX2_next_82 : decode cX2_next 82 = .ok (.ifCond .lt 30, 3) := by decide +kernel
theorem dX2_next_85 : decode cX2_next 85 = .ok (.iload 6, 2) := by decide +kernel
theorem dX2_next_87 : decode cX2_next 87 = .ok (.iload_n 2, 1) := by decide +kernel
theorem dX2_next_88 : decode cX2_next 88 = .ok (.if_icmp .gt 45, 3) := by decide +kernel
theorem dX2_next_91 : decode cX2_next 91 = .ok (.iload 6, 2) := by decide +kernel
theorem dX2_next_93 : decode cX2_next 93 = .ok (.iload_n 2, 1) := by decide +kernel
theorem dX2_next_94 : decode cX2_next 94 = .ok (.if_icmp .ne 18, 3) := by decide +kernel
theorem dX2_next_97 : decode cX2_next 97 = .ok (.aload_n 0, 1) := by decide +kernel
theorem dX2_next_98 : decode cX2_next 98 = .ok (.iload 4, 2) := by decide +kernel
theorem dX2_next_100 : decode cX2_next 100 = .ok (.iload 5, 2) := by decide +kernel
theorem dX2_next_102 : decode cX2_next 102 = .ok (.invokevirtual 48, 3) := by decide +kernel
theorem dX2_next_105 : decode cX2_next 105 = .ok (.iload_n 3, 1) := by decide +kernel
theorem dX2_next_106 : decode cX2_next 106 = .ok (.if_icmp .le 6, 3) := by decide +kernel
theorem dX2_next_109 : decode cX2_next 109 = .ok (.goto 24, 3) := by decide +kernel
theorem dX2_next_112 : decode cX2_next 112 = .ok (.bipush 12, 2) := by decide +kernel
theorem dX2_next_114 : decode cX2_next 114 = .ok (.iload 4, 2) := by decide +kernel
theorem dX2_next_116 : decode cX2_next 116 = .ok (.imul, 1) := by decide +kernel
theorem dX2_next_117 : decode cX2_next 117 = .ok (.iload 5, 2) := by decide +kernel
theorem dX2_next_119 : decode cX2_next 119 = .ok (.iadd, 1) := by decide +kernel
theorem dX2_next_120 : decode cX2_next 120 = .ok (.istore_n 1, 1) := by decide +kernel
theorem dX2_next_121 : decode cX2_next 121 = .ok (.iload 6, 2) := by decide +kernel
theorem dX2_next_123 : decode cX2_next 123 = .ok (.istore_n 2, 1) := by decide +kernel
theorem dX2_next_124 : decode cX2_next 124 = .ok (.aload_n 0, 1) := by decide +kernel
theorem dX2_next_125 : decode cX2_next 125 = .ok (.iload 4, 2) := by decide +kernel
theorem dX2_next_127 : decode cX2_next 127 = .ok (.iload 5, 2) := by decide +kernel
theorem dX2_next_129 : decode cX2_next 129 = .ok (.invokevirtual 48, 3) := by decide +kernel
theorem dX2_next_132 : decode cX2_next 132 = .ok (.istore_n 3, 1) := by decide +kernel
theorem dX2_next_133 : decode cX2_next 133 = .ok (.iinc 5 (-1), 3) := by decide +kernel
theorem dX2_next_136 : decode cX2_next 136 = .ok (.goto (-107), 3) := by decide +kernel
theorem dX2_next_139 : decode cX2_next 139 = .ok (.iinc 4 (-1), 3) := by decide +kernel
theorem dX2_next_142 : decode cX2_next 142 = .ok (.goto (-127), 3) := by decide +kernel
theorem dX2_next_145 : decode cX2_next 145 = .ok (.iload_n 1, 1) := by decide +kernel
theorem dX2_next_146 : decode cX2_next 146 = .ok (.ireturn, 1) := by decide +kernel
theorem dX2_highest_0 : decode cX2_highest 0 = .ok (.iconst 0, 1) := by decide +kernel
theorem dX2_highest_1 : decode cX2_highest 1 = .ok (.istore_n 1, 1) := by decide +kernel
theorem dX2_highest_2 : decode cX2_highest 2 = .ok (.aload_n 0, 1) := by decide +kernel
theorem dX2_highest_3 : decode cX2_highest 3 = .ok (.getfield 9, 3) := by decide +kernel
theorem dX2_highest_6 : decode cX2_highest 6 = .ok (.astore_n 2, 1) := by decide +kernel
theorem dX2_highest_7 : decode cX2_highest 7 = .ok (.aload_n 2, 1) := by decide +kernel
theorem dX2_highest_8 : decode cX2_highest 8 = .ok (.arraylength, 1) := by decide +kernel
theorem dX2_highest_9 : decode cX2_highest 9 = .ok (.istore_n 3, 1) := by decide +kernel
theorem dX2_highest_10 : decode cX2_highest 10 = .ok (.iconst 0, 1) := by decide +kernel
theorem dX2_highest_11 : decode cX2_highest 11 = .ok (.istore 4, 2) := by decide +kernel
theorem dX2_highest_13 : decode cX2_highest 13 = .ok (.iload 4, 2) := by decide +kernel
theorem dX2_highest_15 : decode cX2_highest 15 = .ok (.iload_n 3, 1) := by decide +kernel
theorem dX2_highest_16 : decode cX2_highest 16 = .ok (.if_icmp .ge 24, 3) := by decide +kernel
theorem dX2_highest_19 : decode cX2_highest 19 = .ok (.aload_n 2, 1) := by decide +kernel
theorem dX2_highest_20 : decode cX2_highest 20 = .ok (.iload 4, 2) := by decide +kernel
theorem dX2_highest_22 : decode cX2_highest 22 = .ok (.aaload, 1) := by decide +kernel
theorem dX2_highest_23 : decode cX2_highest 23 = .ok (.astore 5, 2) := by decide +kernel
theorem dX2_highest_25 : decode cX2_highest 25 = .ok (.iload_n 1, 1) := by decide +kernel
theorem dX2_highest_26 : decode cX2_highest 26 = .ok (.aload 5, 2) := by decide +kernel
theorem dX2_highest_28 : decode cX2_highest 28 = .ok (.iconst 0, 1) := by decide +kernel
theorem dX2_highest_29 : decode cX2_highest 29 = .ok (.iaload, 1) := by decide +kernel
theorem dX2_highest_30 : decode cX2_highest 30 = .ok (.invokestatic 57, 3) := by decide +kernel
theorem dX2_highest_33 : decode cX2_highest 33 = .ok (.istore_n 1, 1) := by decide +kernel
theorem dX2_highest_34 : decode cX2_highest 34 = .ok (.iinc 4 1, 3) := by decide +kernel
theorem dX2_highest_37 : decode cX2_highest 37 = .ok (.goto (-24), 3) := by decide +kernel
theorem dX2_highest_40 : decode cX2_highest 40 = .ok (.iload_n 1, 1) := by decide +kernel
theorem dX2_highest_41 : decode cX2_highest 41 = .ok (.ireturn, 1) := by decide +kernel
set_option maxRecDepth 20000 in
theorem ggX2_isSame_X1_told : GoodIn wsX2_isSame wsX1_told := goodIn_ca (goodIn_r _ [14, 15, 16, 17, 18, 19, 20, 13, 21, 22, 23, 24, 25, 26, 27, 28, 29, 30, 31, 32, 33, 34, 35, 36, 37, 38, 39, 40, 41, 42, 43, 44, 45, 46, 47, 48, 49, 50, 51, 52, 53, 54, 55, 56, 57, 58, 59, 60, 61, 62, 63, 64, 65, 66, 67, 68, 69, 70, 71, 72, 73, 74, 192, 193, 194, 195, 196, 197, 198, 199, 200, 201, 202, 203, 204, 205] (by decide +kernel) (by decide +kernel)) (goodIn_sub (fun _ h => List.mem_cons_of_mem _ (List.mem_append_right _ h)) (by decide +kernel))
set_option maxRecDepth 20000 in
theorem gX2_isSame_X1_told : GoodIn wsX2_isSame (wsV RX2 62 RX1 yX1_told wsX1_told) := goodIn_app (goodIn_of _ (by decide +kernel)) ggX2_isSame_X1_told
set_option maxRecDepth 20000 in
theorem ggX2_isSame_X2_weight : GoodIn wsX2_isSame wsX2_weight := goodIn_r _ [79, 1, 188, 189, 190, 191] (by decide +kernel) (by decide +kernel)
set_option maxRecDepth 20000 in
theorem gX2_isSame_X2_weight : GoodIn wsX2_isSame (wsV RX2 19 RX2 yX2_weight wsX2_weight) := goodIn_app (goodIn_of _ (by decide +kernel)) ggX2_isSame_X2_weight
set_option maxRecDepth 20000 in
theorem ggX2_isSame_X1_match : GoodIn wsX2_isSame wsX1_match := goodIn_ca (goodIn_r _ [83, 17, 18, 19, 20, 13, 21, 15, 16, 22, 23, 24, 25, 26, 27, 84, 85, 86, 87, 37, 88, 89, 90, 91, 92, 93, 4, 94, 95, 96, 97, 98, 32, 99, 100, 101, 102, 3, 5, 103, 192, 193, 194, 195, 196, 197, 198, 199, 200, 201, 202, 203, 204, 205] (by decide +kernel) (by decide +kernel)) (goodIn_sub (fun _ h => List.mem_cons_of_mem _ (List.mem_append_right _ h)) (by decide +kernel))
set_option maxRecDepth 20000 in
theorem gX2_isSame_X1_match : GoodIn wsX2_isSame (wsV RX2 67 RX1 yX1_match wsX1_match) := goodIn_app (goodIn_of _ (by decide +kernel)) ggX2_isSame_X1_match
set_option maxRecDepth 20000 in
theorem ggX2_isSame_X2_match : GoodIn wsX2_isSame wsX2_match := goodIn_r _ [107, 1, 108, 109, 110, 78, 111, 112, 113, 114, 115, 6, 188, 189, 190, 191] (by decide +kernel) (by decide +kernel)
set_option maxRecDepth 20000 in
theorem gX2_isSame_X2_match : GoodIn wsX2_isSame (wsV RX2 70 RX2 yX2_match wsX2_match) := goodIn_app (goodIn_of _ (by decide +kernel)) ggX2_isSame_X2_match
set_option maxRecDepth 20000 in
theorem ggX2_isSame_X1_expected : GoodIn wsX2_isSame wsX1_expected := goodIn_ca (goodIn_r _ [119, 17, 18, 19, 20, 13, 21, 15, 16, 22, 23, 24, 25, 26, 27, 120, 96, 97, 98, 32, 99, 100, 101, 102, 3, 4, 5, 103, 192, 193, 194, 195, 196, 197, 198, 199, 200, 201, 202, 203, 204, 205] (by decide +kernel) (by decide +kernel)) (goodIn_sub (fun _ h => List.mem_cons_of_mem _ (List.mem_append_right _ h)) (by decide +kernel))
set_option maxRecDepth 20000 in
theorem gX2_isSame_X1_expected : GoodIn wsX2_isSame (wsV RX2 71 RX1 yX1_expected wsX1_expected) := goodIn_app (goodIn_of _ (by decide +kernel)) ggX2_isSame_X1_expected
set_option maxRecDepth 20000 in
theorem ggX2_isSame_X2_expected : GoodIn wsX2_isSame wsX2_expected := goodIn_r _ [115, 1, 6, 112, 113, 114, 78, 188, 189, 190, 191] (by decide +kernel) (by decide +kernel)
set_option maxRecDepth 20000 in
theorem gX2_isSame_X2_expected : GoodIn wsX2_isSame (wsV RX2 15 RX2 yX2_expected wsX2_expected) := goodIn_app (goodIn_of _ (by decide +kernel)) ggX2_isSame_X2_expected
set_option maxRecDepth 20000 in
theorem ggX2_isSame_X2_highest : GoodIn wsX2_isSame wsX2_highest := goodIn_r _ [124, 1, 125, 126, 4, 127, 188, 189, 190, 191] (by decide +kernel) (by decide +kernel)
set_option maxRecDepth 20000 in
theorem gX2_isSame_X2_highest : GoodIn wsX2_isSame (wsV RX2 75 RX2 yX2_highest wsX2_highest) := goodIn_app (goodIn_of _ (by decide +kernel)) ggX2_isSame_X2_highest
set_option maxRecDepth 20000 in
theorem ggX2_isSame_X2_order : GoodIn wsX2_isSame wsX2_order := goodIn_r _ [131, 1, 6, 188, 189, 190, 191] (by decide +kernel) (by decide +kernel)
set_option maxRecDepth 20000 in
theorem gX2_isSame_X2_order : GoodIn wsX2_isSame (wsV RX2 41 RX2 yX2_order wsX2_order) := goodIn_app (goodIn_of _ (by decide +kernel)) ggX2_isSame_X2_order
set_option maxRecDepth 20000 in
theorem ggX2_isSame_X1_at : GoodIn wsX2_isSame wsX1_at := goodIn_ca (goodIn_r _ [135, 15, 16, 17, 136, 137, 13, 138, 139, 140, 141, 25, 142, 27, 37, 143, 64, 65, 66, 67, 68, 69, 70, 42, 32, 192, 193, 194, 195, 196, 197, 198, 199, 200, 201, 202, 203, 204, 205] (by decide +kernel) (by decide +kernel)) (goodIn_sub (fun _ h => List.mem_cons_of_mem _ (List.mem_append_right _ h)) (by decide +kernel))
set_option maxRecDepth 20000 in
theorem gX2_isSame_X1_at : GoodIn wsX2_isSame (wsV RX2 79 RX1 yX1_at wsX1_at) := goodIn_app (goodIn_of _ (by decide +kernel)) ggX2_isSame_X1_at
set_option maxRecDepth 20000 in
theorem ggX2_isSame_X1_count : GoodIn wsX2_isSame wsX1_count := goodIn_ca (goodIn_r _ [147, 15, 16, 148, 17, 149, 150, 151, 152, 153, 25, 154, 27, 155, 156, 157, 158, 37, 159, 160, 161, 162, 32, 163, 126, 4, 127, 164, 165, 166, 167, 102, 3, 5, 192, 193, 194, 195, 196, 197, 198, 199, 200, 201, 202, 203, 204, 205] (by decide +kernel) (by decide +kernel)) (goodIn_sub (fun _ h => List.mem_cons_of_mem _ (List.mem_append_right _ h)) (by decide +kernel))
set_option maxRecDepth 20000 in
theorem gX2_isSame_X1_count : GoodIn wsX2_isSame (wsV RX2 82 RX1 yX1_count wsX1_count) := goodIn_app (goodIn_of _ (by decide +kernel)) ggX2_isSame_X1_count
set_option maxRecDepth 20000 in
theorem ggX2_isSame_X1_next : GoodIn wsX2_isSame wsX1_next := goodIn_r _ [171, 17, 172, 173, 174, 25, 175, 27, 37, 52, 88, 89, 90, 91, 92, 93, 4, 94, 95, 96, 97, 98, 32, 99, 100, 101, 102, 3, 5, 103, 192, 193, 194, 195, 196, 197, 198, 199, 200, 201, 202, 203, 204, 205] (by decide +kernel) (by decide +kernel)
set_option maxRecDepth 20000 in
theorem gX2_isSame_X1_next : GoodIn wsX2_isSame (wsV RX2 85 RX1 yX1_next wsX1_next) := goodIn_app (goodIn_of _ (by decide +kernel)) ggX2_isSame_X1_next
set_option maxRecDepth 20000 in
theorem ggX2_isSame_X2_next : GoodIn wsX2_isSame wsX2_next := goodIn_r _ [179, 1, 108, 109, 110, 78, 111, 112, 113, 114, 115, 6, 188, 189, 190, 191] (by decide +kernel) (by decide +kernel)
set_option maxRecDepth 20000 in
theorem gX2_isSame_X2_next : GoodIn wsX2_isSame (wsV RX2 88 RX2 yX2_next wsX2_next) := goodIn_app (goodIn_of _ (by decide +kernel)) ggX2_isSame_X2_next
set_option maxRecDepth 20000 in
theorem ggX2_isSame_X1_mean : GoodIn wsX2_isSame wsX1_mean := goodIn_r _ [183, 17, 151, 152, 153, 25, 154, 27, 184, 185, 186, 187, 32, 192, 193, 194, 195, 196, 197, 198, 199, 200, 201, 202, 203, 204, 205] (by decide +kernel) (by decide +kernel)
set_option maxRecDepth 20000 in
theorem gX2_isSame_X1_mean : GoodIn wsX2_isSame (wsV RX2 89 RX1 yX1_mean wsX1_mean) := goodIn_app (goodIn_of _ (by decide +kernel)) ggX2_isSame_X1_mean
theorem dX2_isSame_0 : decode cX2_isSame 0 = .ok (.iconst 0, 1) := by decide +kernel
theorem dX2_isSame_1 : decode cX2_isSame 1 = .ok (.istore_n 2, 1) := by decide +kernel
theorem dX2_isSame_2 : decode cX2_isSame 2 = .ok (.aload_n 0, 1) := by decide +kernel
theorem dX2_isSame_3 : decode cX2_isSame 3 = .ok (.getfield 9, 3) := by decide +kernel
theorem dX2_isSame_6 : decode cX2_isSame 6 = .ok (.arraylength, 1) := by decide +kernel
theorem dX2_isSame_7 : decode cX2_isSame 7 = .ok (.ifCond .ne 7, 3) := by decide +kernel
theorem dX2_isSame_10 : decode cX2_isSame 10 = .ok (.iconst 0, 1) := by decide +kernel
theorem dX2_isSame_11 : decode cX2_isSame 11 = .ok (.goto 6, 3) := by decide +kernel
theorem dX2_isSame_14 : decode cX2_isSame 14 = .ok (.sipush 9999, 3) := by decide +kernel
theorem dX2_isSame_17 : decode cX2_isSame 17 = .ok (.istore_n 3, 1) := by decide +kernel
theorem dX2_isSame_18 : decode cX2_isSame 18 = .ok (.iconst 0, 1) := by decide +kernel
theorem dX2_isSame_19 : decode cX2_isSame 19 = .ok (.istore 4, 2) := by decide +kernel
theorem dX2_isSame_21 : decode cX2_isSame 21 = .ok (.iload 4, 2) := by decide +kernel
theorem dX2_isSame_23 : decode cX2_isSame 23 = .ok (.aload_n 0, 1) := by decide +kernel
theorem dX2_isSame_24 : decode cX2_isSame 24 = .ok (.getfield 9, 3) := by decide +kernel
theorem dX2_isSame_27 : decode cX2_isSame 27 = .ok (.arraylength, 1) := by decide +kernel
theorem dX2_isSame_28 : decode cX2_isSame 28 = .ok (.if_icmp .ge 148, 3) := by decide +kernel
theorem dX2_isSame_31 : decode cX2_isSame 31 = .ok (.iconst 0, 1) := by decide +kernel
theorem dX2_isSame_32 : decode cX2_isSame 32 = .ok (.istore 5, 2) := by decide +kernel
theorem dX2_isSame_34 : decode cX2_isSame 34 = .ok (.iload 5, 2) := by decide +kernel
theorem dX2_isSame_36 : decode cX2_isSame 36 = .ok (.bipush 7, 2) := by decide +kernel
theorem dX2_isSame_38 : decode cX2_isSame 38 = .ok (.if_icmp .ge 32, 3) := by decide +kernel
theorem dX2_isSame_41 : decode cX2_isSame 41 = .ok (.aload_n 1, 1) := by decide +kernel
theorem dX2_isSame_42 : decode cX2_isSame 42 = .ok (.iload 4, 2) := by decide +kernel
theorem dX2_isSame_44 : decode cX2_isSame 44 = .ok (.iload 5, 2) := by decide +kernel
theorem dX2_isSame_46 : decode cX2_isSame 46 = .ok (.invokevirtual 62, 3) := by decide +kernel
theorem dX2_isSame_49 : decode cX2_isSame 49 = .ok (.aload_n 0, 1) := by decide +kernel
theorem dX2_isSame_50 : decode cX2_isSame 50 = .ok (.getfield 9, 3) := by decide +kernel
theorem dX2_isSame_53 : decode cX2_isSame 53 = .ok (.iload 4, 2) := by decide +kernel
theorem dX2_isSame_55 : decode cX2_isSame 55 = .ok (.aaload, 1) := by decide +kernel
theorem dX2_isSame_56 : decode cX2_isSame 56 = .ok (.iload 5, 2) := by decide +kernel
theorem dX2_isSame_58 : decode cX2_isSame 58 = .ok (.iaload, 1) := by decide +kernel
theorem dX2_isSame_59 : decode cX2_isSame 59 = .ok (.if_icmp .eq 5, 3) := by decide +kernel
theorem dX2_isSame_62 : decode cX2_isSame 62 = .ok (.iconst 0, 1) := by decide +kernel
theorem dX2_isSame_63 : decode cX2_isSame 63 = .ok (.ireturn, 1) := by decide +kernel
theorem dX2_isSame_64 : decode cX2_isSame 64 = .ok (.iinc 5 1, 3) := by decide +kernel
theorem dX2_isSame_67 : decode cX2_isSame 67 = .ok (.goto (-33), 3) := by decide +kernel
theorem dX2_isSame_70 : decode cX2_isSame 70 = .ok (.aload_n 1, 1) := by decide +kernel
theorem dX2_isSame_71 : decode cX2_isSame 71 = .ok (.iload 4, 2) := by decide +kernel
theorem dX2_isSame_73 : decode cX2_isSame 73 = .ok (.bipush 8, 2) := by decide +kernel
theorem dX2_isSame_75 : decode cX2_isSame 75 = .ok (.invokevirtual 62, 3) := by decide +kernel
theorem dX2_isSame_78 : decode cX2_isSame 78 = .ok (.aload_n 0, 1) := by decide +kernel
theorem dX2_isSame_79 : decode cX2_isSame 79 = .ok (.iload 4, 2) := by decide +kernel
theorem dX2_isSame_81 : decode cX2_isSame 81 = .ok (.invokevirtual 19, 3) := by decide +kernel
theorem dX2_isSame_84 : decode cX2_isSame 84 = .ok (.if_icmp .ne 18, 3) := by decide +kernel
theorem dX2_isSame_87 : decode cX2_isSame 87 = .ok (.aload_n 1, 1) := by decide +kernel
theorem dX2_isSame_88 : decode cX2_isSame 88 = .ok (.iload 4, 2) := by decide +kernel
theorem dX2_isSame_90 : decode cX2_isSame 90 = .ok (.invokevirtual 67, 3) := by decide +kernel
theorem dX2_isSame_93 : decode cX2_isSame 93 = .ok (.aload_n 0, 1) := by decide +kernel
theorem dX2_isSame_94 : decode cX2_isSame 94 = .ok (.iload 4, 2) := by decide +kernel
theorem dX2_isSame_96 : decode cX2_isSame 96 = .ok (.invokevirtual 70, 3) := by decide +kernel
theorem dX2_isSame_99 : decode cX2_isSame 99 = .ok (.if_icmp .eq 5, 3) := by decide +kernel
theorem dX2_isSame_102 : decode cX2_isSame 102 = .ok (.iconst 0, 1) := by decide +kernel
theorem dX2_isSame_103 : decode cX2_isSame 103 = .ok (.ireturn, 1) := by decide +kernel
theorem dX2_isSame_104 : decode cX2_isSame 104 = .ok (.iconst 0, 1) := by decide +kernel
theorem dX2_isSame_105 : decode cX2_isSame 105 = .ok (.istore 5, 2) := by decide +kernel
theorem dX2_isSame_107 : decode cX2_isSame 107 = .ok (.iload 5, 2) := by decide +kernel
theorem dX2_isSame_109 : decode cX2_isSame 109 = .ok (.aload_n 0, 1) := by decide +kernel
theorem dX2_isSame_110 : decode cX2_isSame 110 = .ok (.getfield 9, 3) := by decide +kernel
theorem dX2_isSame_113 : decode cX2_isSame 113 = .ok (.arraylength, 1) := by decide +kernel
theorem dX2_isSame_114 : decode cX2_isSame 114 = .ok (.if_icmp .ge 30, 3) := by decide +kernel
theorem dX2_isSame_117 : decode cX2_isSame 117 = .ok (.aload_n 1, 1) := by decide +kernel
theorem dX2_isSame_118 : decode cX2_isSame 118 = .ok (.iload 4, 2) := by decide +kernel
theorem dX2_isSame_120 : decode cX2_isSame 120 = .ok (.iload 5, 2) := by decide +kernel
theorem dX2_isSame_122 : decode cX2_isSame 122 = .ok (.invokevirtual 71, 3) := by decide +kernel
