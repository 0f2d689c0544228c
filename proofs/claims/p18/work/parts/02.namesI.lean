theorem dX2_next_11 : decode cX2_next 11 = .ok (.iconst 1, 1) := by decide +kernel
theorem dX2_next_12 : decode cX2_next 12 = .ok (.isub, 1) := by decide +kernel
theorem dX2_next_13 : decode cX2_next 13 = .ok (.istore 4, 2) := by decide +kernel
theorem dX2_next_15 : decode cX2_next 15 = .ok (.iload 4, 2) := by decide +kernel
theorem dX2_next_17 : decode cX2_next 17 = .ok (.ifCond .lt 128, 3) := by decide +kernel
theorem dX2_next_20 : decode cX2_next 20 = .ok (.aload_n 0, 1) := by decide +kernel
theorem dX2_next_21 : decode cX2_next 21 = .ok (.getfield 9, 3) := by decide +kernel
theorem dX2_next_24 : decode cX2_next 24 = .ok (.arraylength, 1) := by decide +kernel
theorem dX2_next_25 : decode cX2_next 25 = .ok (.iconst 1, 1) := by decide +kernel
theorem dX2_next_26 : decode cX2_next 26 = .ok (.isub, 1) := by decide +kernel
theorem dX2_next_27 : decode cX2_next 27 = .ok (.istore 5, 2) := by decide +kernel
theorem dX2_next_29 : decode cX2_next 29 = .ok (.iload 5, 2) := by decide +kernel
theorem dX2_next_31 : decode cX2_next 31 = .ok (.iload 4, 2) := by decide +kernel
theorem dX2_next_33 : decode cX2_next 33 = .ok (.if_icmp .le 106, 3) := by decide +kernel
theorem dX2_next_36 : decode cX2_next 36 = .ok (.aload_n 0, 1) := by decide +kernel
theorem dX2_next_37 : decode cX2_next 37 = .ok (.getfield 9, 3) := by decide +kernel
theorem dX2_next_40 : decode cX2_next 40 = .ok (.iload 4, 2) := by decide +kernel
theorem dX2_next_42 : decode cX2_next 42 = .ok (.aaload, 1) := by decide +kernel
theorem dX2_next_43 : decode cX2_next 43 = .ok (.iconst 1, 1) := by decide +kernel
theorem dX2_next_44 : decode cX2_next 44 = .ok (.iaload, 1) := by decide +kernel
theorem dX2_next_45 : decode cX2_next 45 = .ok (.aload_n 0, 1) := by decide +kernel
theorem dX2_next_46 : decode cX2_next 46 = .ok (.getfield 9, 3) := by decide +kernel
theorem dX2_next_49 : decode cX2_next 49 = .ok (.iload 5, 2) := by decide +kernel
theorem dX2_next_51 : decode cX2_next 51 = .ok (.aaload, 1) := by decide +kernel
theorem dX2_next_52 : decode cX2_next 52 = .ok (.iconst 1, 1) := by decide +kernel
theorem dX2_next_53 : decode cX2_next 53 = .ok (.iaload, 1) := by decide +kernel
theorem dX2_next_54 : decode cX2_next 54 = .ok (.if_icmp .eq 6, 3) := by decide +kernel
theorem dX2_next_57 : decode cX2_next 57 = .ok (.goto 76, 3) := by decide +kernel
theorem dX2_next_60 : decode cX2_next 60 = .ok (.aload_n 0, 1) := by decide +kernel
theorem dX2_next_61 : decode cX2_next 61 = .ok (.getfield 9, 3) := by decide +kernel
theorem dX2_next_64 : decode cX2_next 64 = .ok (.iload 4, 2) := by decide +kernel
theorem dX2_next_66 : decode cX2_next 66 = .ok (.aaload, 1) := by decide +kernel
theorem dX2_next_67 : decode cX2_next 67 = .ok (.iconst 4, 1) := by decide +kernel
theorem dX2_next_68 : decode cX2_next 68 = .ok (.iaload, 1) := by decide +kernel
theorem dX2_next_69 : decode cX2_next 69 = .ok (.aload_n 0, 1) := by decide +kernel
theorem dX2_next_70 : decode cX2_next 70 = .ok (.getfield 9, 3) := by decide +kernel
theorem dX2_next_73 : decode cX2_next 73 = .ok (.iload 5, 2) := by decide +kernel
theorem dX2_next_75 : decode cX2_next 75 = .ok (.aaload, 1) := by decide +kernel
theorem dX2_next_76 : decode cX2_next 76 = .ok (.iconst 4, 1) := by decide +kernel
theorem dX2_next_77 : decode cX2_next 77 = .ok (.iaload, 1) := by decide +kernel
theorem dX2_next_78 : decode cX2_next 78 = .ok (.iadd, 1) := by decide +kernel
theorem dX2_next_79 : decode cX2_next 79 = .ok (.istore 6, 2) := by decide +kernel
theorem dX2_next_81 : decode cX2_next 81 = .ok (.iload_n 1, 1) := by decide +kernel
theorem dX2_next_82 : decode cX2_next 82 = .ok (.ifCond .lt 30, 3) := by decide +kernel
theorem dX2_next_85 : decode cX2_next 85 = .ok (.iload 6, 2) := by decide +kernel
theorem dX2_next_87 : decode cX2_next 87 = .ok (.iload_n 2, 1) := by decide +kernel
theorem dX2_next_88 : decode cX2_next 88 = .ok (.if_icmp .gt 45, 3) := by decide +kernel
theorem dX2_next_91 : decode cX2_next 91 = .ok (.iload 6, 2) := by decide +kernel
theorem dX2_next_93 : decode cX2_next 93 = .ok (.iload_n 2, 1) := by decide +kernel
theorem dX2_next_94 : decode cX2_next 94 = .ok (.if_icmp .ne 18, 3) := by decide +kernel
theorem dX2_next_97 : decode cX2_next 97 = .ok (.aload_n 0, 1) := by decide +kernel
theorem dX2_next_98 : decode cX2_next 98 = .ok (.iload 4, 2) := by decide +kernel
theorem dX2_next_100 : decode cX2_next 100 = .ok (.iload 5, 2) := by decide +kernel
theorem dX2_next_102 : decode cX2_next 102 = .ok (.invokevirtual 48, 3) := by decide +kernel
theorem dX2_next_105 : decode cX2_next 105 = .ok (.iload_n 3, 1) := by decide +kernel
theorem dX2_next_106 : decode cX2_next 106 = .ok (.if_icmp .le 6, 3) := by decide +kernel
theorem dX2_next_109 : decode cX2_next 109 = .ok (.goto 24, 3) := by decide +kernel
theorem dX2_next_112 : decode cX2_next 112 = .ok (.bipush 12, 2) := by decide +kernel
theorem dX2_next_114 : decode cX2_next 114 = .ok (.iload 4, 2) := by decide +kernel
theorem dX2_next_116 : decode cX2_next 116 = .ok (.imul, 1) := by decide +kernel
theorem dX2_next_117 : decode cX2_next 117 = .ok (.iload 5, 2) := by decide +kernel
theorem dX2_next_119 : decode cX2_next 119 = .ok (.iadd, 1) := by decide +kernel
theorem dX2_next_120 : decode cX2_next 120 = .ok (.istore_n 1, 1) := by decide +kernel
theorem dX2_next_121 : decode cX2_next 121 = .ok (.iload 6, 2) := by decide +kernel
theorem dX2_next_123 : decode cX2_next 123 = .ok (.istore_n 2, 1) := by decide +kernel
theorem dX2_next_124 : decode cX2_next 124 = .ok (.aload_n 0, 1) := by decide +kernel
theorem dX2_next_125 : decode cX2_next 125 = .ok (.iload 4, 2) := by decide +kernel
theorem dX2_next_127 : decode cX2_next 127 = .ok (.iload 5, 2) := by decide +kernel
theorem dX2_next_129 : decode cX2_next 129 = .ok (.invokevirtual 48, 3) := by decide +kernel
theorem dX2_next_132 : decode cX2_next 132 = .ok (.istore_n 3, 1) := by decide +kernel
theorem dX2_next_133 : decode cX2_next 133 = .ok (.iinc 5 (-1), 3) := by decide +kernel
theorem dX2_next_136 : decode cX2_next 136 = .ok (.goto (-107), 3) := by decide +kernel
theorem dX2_next_139 : decode cX2_next 139 = .ok (.iinc 4 (-1), 3) := by decide +kernel
theorem dX2_next_142 : decode cX2_next 142 = .ok (.goto (-127), 3) := by decide +kernel
theorem dX2_next_145 : decode cX2_next 145 = .ok (.iload_n 1, 1) := by decide +kernel
theorem dX2_next_146 : decode cX2_next 146 = .ok (.ireturn, 1) := by decide +kernel
theorem dX2_highest_0 : decode cX2_highest 0 = .ok (.iconst 0, 1) := by decide +kernel
theorem dX2_highest_1 : decode cX2_highest 1 = .ok (.istore_n 1, 1) := by decide +kernel
theorem dX2_highest_2 : decode cX2_highest 2 = .ok (.aload_n 0, 1) := by decide +kernel
theorem dX2_highest_3 : decode cX2_highest 3 = .ok (.getfield 9, 3) := by decide +kernel
theorem dX2_highest_6 : decode cX2_highest 6 = .ok (.astore_n 2, 1) := by decide +kernel
theorem dX2_highest_7 : decode cX2_highest 7 = .ok (.aload_n 2, 1) := by decide +kernel
theorem dX2_highest_8 : decode cX2_highest 8 = .ok (.arraylength, 1) := by decide +kernel
theorem dX2_highest_9 : decode cX2_highest 9 = .ok (.istore_n 3, 1) := by decide +kernel
theorem dX2_highest_10 : decode cX2_highest 10 = .ok (.iconst 0, 1) := by decide +kernel
theorem dX2_highest_11 : decode cX2_highest 11 = .ok (.istore 4, 2) := by decide +kernel
theorem dX2_highest_13 : decode cX2_highest 13 = .ok (.iload 4, 2) := by decide +kernel
theorem dX2_highest_15 : decode cX2_highest 15 = .ok (.iload_n 3, 1) := by decide +kernel
theorem dX2_highest_16 : decode cX2_highest 16 = .ok (.if_icmp .ge 24, 3) := by decide +kernel
theorem dX2_highest_19 : decode cX2_highest 19 = .ok (.aload_n 2, 1) := by decide +kernel
theorem dX2_highest_20 : decode cX2_highest 20 = .ok (.iload 4, 2) := by decide +kernel
theorem dX2_highest_22 : decode cX2_highest 22 = .ok (.aaload, 1) := by decide +kernel
theorem dX2_highest_23 : decode cX2_highest 23 = .ok (.astore 5, 2) := by decide +kernel
theorem dX2_highest_25 : decode cX2_highest 25 = .ok (.iload_n 1, 1) := by decide +kernel
theorem dX2_highest_26 : decode cX2_highest 26 = .ok (.aload 5, 2) := by decide +kernel
theorem dX2_highest_28 : decode cX2_highest 28 = .ok (.iconst 0, 1) := by decide +kernel
theorem dX2_highest_29 : decode cX2_highest 29 = .ok (.iaload, 1) := by decide +kernel
theorem dX2_highest_30 : decode cX2_highest 30 = .ok (.invokestatic 57, 3) := by decide +kernel
theorem dX2_highest_33 : decode cX2_highest 33 = .ok (.istore_n 1, 1) := by decide +kernel
theorem dX2_highest_34 : decode cX2_highest 34 = .ok (.iinc 4 1, 3) := by decide +kernel
theorem dX2_highest_37 : decode cX2_highest 37 = .ok (.goto (-24), 3) := by decide +kernel
theorem dX2_highest_40 : decode cX2_highest 40 = .ok (.iload_n 1, 1) := by decide +kernel
theorem dX2_highest_41 : decode cX2_highest 41 = .ok (.ireturn, 1) := by decide +kernel
set_option maxRecDepth 20000 in
theorem ggX2_isSame_X1_told : GoodIn wsX2_isSame wsX1_told := goodIn_ca (goodIn_r _ [14, 15, 16, 17, 18, 19, 20, 13, 21, 22, 23, 24, 25, 26, 27, 28, 29, 30, 31, 32, 33, 34, 35, 36, 37, 38, 39, 40, 41, 42, 43, 44, 45, 46, 47, 48, 49, 50, 51, 52, 53, 54, 55, 56, 57, 58, 59, 60, 61, 62, 63, 64, 65, 66, 67, 68, 69, 70, 71, 72, 73, 74, 192, 193, 194, 195, 196, 197, 198, 199, 200, 201, 202, 203, 204, 205] (by decide +kernel) (by decide +kernel)) (goodIn_sub (fun _ h => List.mem_cons_of_mem _ (List.mem_append_right _ h)) (by decide +kernel))
set_option maxRecDepth 20000 in
theorem gX2_isSame_X1_told : GoodIn wsX2_isSame (wsV RX2 62 RX1 yX1_told wsX1_told) := goodIn_app (goodIn_of _ (by decide +kernel)) ggX2_isSame_X1_told
set_option maxRecDepth 20000 in
theorem ggX2_isSame_X2_weight : GoodIn wsX2_isSame wsX2_weight := goodIn_r _ [79, 1, 188, 189, 190, 191] (by decide +kernel) (by decide +kernel)
set_option maxRecDepth 20000 in
theorem gX2_isSame_X2_weight : GoodIn wsX2_isSame (wsV RX2 19 RX2 yX2_weight wsX2_weight) := goodIn_app (goodIn_of _ (by decide +kernel)) ggX2_isSame_X2_weight
set_option maxRecDepth 20000 in
theorem ggX2_isSame_X1_match : GoodIn wsX2_isSame wsX1_match := goodIn_ca (goodIn_r _ [83, 17, 18, 19, 20, 13, 21, 15, 16, 22, 23, 24, 25, 26, 27, 84, 85, 86, 87, 37, 88, 89, 90, 91, 92, 93, 4, 94, 95, 96, 97, 98, 32, 99, 100, 101, 102, 3, 5, 103, 192, 193, 194, 195, 196, 197, 198, 199, 200, 201, 202, 203, 204, 205] (by decide +kernel) (by decide +kernel)) (goodIn_sub (fun _ h => List.mem_cons_of_mem _ (List.mem_append_right _ h)) (by decide +kernel))
set_option maxRecDepth 20000 in
theorem gX2_isSame_X1_match : GoodIn wsX2_isSame (wsV RX2 67 RX1 yX1_match wsX1_match) := goodIn_app (goodIn_of _ (by decide +kernel)) ggX2_isSame_X1_match
set_option maxRecDepth 20000 in
theorem ggX2_isSame_X2_match : GoodIn wsX2_isSame wsX2_match := goodIn_r _ [107, 1, 108, 109, 110, 78, 111, 112, 113, 114, 115, 6, 188, 189, 190, 191] (by decide +kernel) (by decide +kernel)
set_option maxRecDepth 20000 in
theorem gX2_isSame_X2_match : GoodIn wsX2_isSame (wsV RX2 70 RX2 yX2_match wsX2_match) := goodIn_app (goodIn_of _ (by decide +kernel)) ggX2_isSame_X2_match
set_option maxRecDepth 20000 in
theorem ggX2_isSame_X1_expected : GoodIn wsX2_isSame wsX1_expected := goodIn_ca (goodIn_r _ [119, 17, 18, 19, 20, 13, 21, 15, 16, 22, 23, 24, 25, 26, 27, 120, 96, 97, 98, 32, 99, 100, 101, 102, 3, 4, 5, 103, 192, 193, 194, 195, 196, 197, 198, 199, 200, 201, 202, 203, 204, 205] (by decide +kernel) (by decide +kernel)) (goodIn_sub (fun _ h => List.mem_cons_of_mem _ (List.mem_append_right _ h)) (by decide +kernel))
set_option maxRecDepth 20000 in
theorem gX2_isSame_X1_expected : GoodIn wsX2_isSame (wsV RX2 71 RX1 yX1_expected wsX1_expected) := goodIn_app (goodIn_of _ (by decide +kernel)) ggX2_isSame_X1_expected
set_option maxRecDepth 20000 in
theorem ggX2_isSame_X2_expected : GoodIn wsX2_isSame wsX2_expected := goodIn_r _ [115, 1, 6, 112, 113, 114, 78, 188, 189, 190, 191] (by decide +kernel) (by decide +kernel)
set_option maxRecDepth 20000 in
theorem gX2_isSame_X2_expected : GoodIn wsX2_isSame (wsV RX2 15 RX2 yX2_expected wsX2_expected) := goodIn_app (goodIn_of _ (by decide +kernel)) ggX2_isSame_X2_expected
set_option maxRecDepth 20000 in
theorem ggX2_isSame_X2_highest : GoodIn wsX2_isSame wsX2_highest := goodIn_r _ [124, 1, 125, 126, 4, 127, 188, 189, 190, 191] (by decide +kernel) (by decide +kernel)
set_option maxRecDepth 20000 in
theorem gX2_isSame_X2_highest : GoodIn wsX2_isSame (wsV RX2 75 RX2 yX2_highest wsX2_highest) := goodIn_app (goodIn_of _ (by decide +kernel)) ggX2_isSame_X2_highest
set_option maxRecDepth 20000 in
theorem ggX2_isSame_X2_order : GoodIn wsX2_isSame wsX2_order := goodIn_r _ [131, 1, 6, 188, 189, 190, 191] (by decide +kernel) (by decide +kernel)
set_option maxRecDepth 20000 in
theorem gX2_isSame_X2_order : GoodIn wsX2_isSame (wsV RX2 41 RX2 yX2_order wsX2_order) := goodIn_app (goodIn_of _ (by decide +kernel)) ggX2_isSame_X2_order
set_option maxRecDepth 20000 in
theorem ggX2_isSame_X1_at : GoodIn wsX2_isSame wsX1_at := goodIn_ca (goodIn_r _ [135, 15, 16, 17, 136, 137, 13, 138, 139, 140, 141, 25, 142, 27, 37, 143, 64, 65, 66, 67, 68, 69, 70, 42, 32, 192, 193, 194, 195, 196, 197, 198, 199, 200, 201, 202, 203, 204, 205] (by decide +kernel) (by decide +kernel)) (goodIn_sub (fun _ h => List.mem_cons_of_mem _ (List.mem_append_right _ h)) (by decide +kernel))
set_option maxRecDepth 20000 in
theorem gX2_isSame_X1_at : GoodIn wsX2_isSame (wsV RX2 79 RX1 yX1_at wsX1_at) := goodIn_app (goodIn_of _ (by decide +kernel)) ggX2_isSame_X1_at
set_option maxRecDepth 20000 in
theorem ggX2_isSame_X1_count : GoodIn wsX2_isSame wsX1_count := goodIn_ca (goodIn_r _ [147, 15, 16, 148, 17, 149, 150, 151, 152, 153, 25, 154, 27, 155, 156, 157, 158, 37, 159, 160, 161, 162, 32, 163, 126, 4, 127, 164, 165, 166, 167, 102, 3, 5, 192, 193, 194, 195, 196, 197, 198, 199, 200, 201, 202, 203, 204, 205] (by decide +kernel) (by decide +kernel)) (goodIn_sub (fun _ h => List.mem_cons_of_mem _ (List.mem_append_right _ h)) (by decide +kernel))
set_option maxRecDepth 20000 in
theorem gX2_isSame_X1_count : GoodIn wsX2_isSame (wsV RX2 82 RX1 yX1_count wsX1_count) := goodIn_app (goodIn_of _ (by decide +kernel)) ggX2_isSame_X1_count
set_option maxRecDepth 20000 in
theorem ggX2_isSame_X1_next : GoodIn wsX2_isSame wsX1_next := goodIn_r _ [171, 17, 172, 173, 174, 25, 175, 27, 37, 52, 88, 89, 90, 91, 92, 93, 4, 94, 95, 96, 97, 98, 32, 99, 100, 101, 102, 3, 5, 103, 192, 193, 194, 195, 196, 197, 198, 199, 200, 201, 202, 203, 204, 205] (by decide +kernel) (by decide +kernel)
set_option maxRecDepth 20000 in
theorem gX2_isSame_X1_next : GoodIn wsX2_isSame (wsV RX2 85 RX1 yX1_next wsX1_next) := goodIn_app (goodIn_of _ (by decide +kernel)) ggX2_isSame_X1_next
set_option maxRecDepth 20000 in
theorem ggX2_isSame_X2_next : GoodIn wsX2_isSame wsX2_next := goodIn_r _ [179, 1, 108, 109, 110, 78, 111, 112, 113, 114, 115, 6, 188, 189, 190, 191] (by decide +kernel) (by decide +kernel)
set_option maxRecDepth 20000 in
theorem gX2_isSame_X2_next : GoodIn wsX2_isSame (wsV RX2 88 RX2 yX2_next wsX2_next) := goodIn_app (goodIn_of _ (by decide +kernel)) ggX2_isSame_X2_next
set_option maxRecDepth 20000 in
theorem ggX2_isSame_X1_mean : GoodIn wsX2_isSame wsX1_mean := goodIn_r _ [183, 17, 151, 152, 153, 25, 154, 27, 184, 185, 186, 187, 32, 192, 193, 194, 195, 196, 197, 198, 199, 200, 201, 202, 203, 204, 205] (by decide +kernel) (by decide +kernel)
set_option maxRecDepth 20000 in
theorem gX2_isSame_X1_mean : GoodIn wsX2_isSame (wsV RX2 89 RX1 yX1_mean wsX1_mean) := goodIn_app (goodIn_of _ (by decide +kernel)) ggX2_isSame_X1_mean
theorem dX2_isSame_0 : decode cX2_isSame 0 = .ok (.iconst 0, 1) := by decide +kernel
theorem dX2_isSame_1 : decode cX2_isSame 1 = .ok (.istore_n 2, 1) := by decide +kernel
theorem dX2_isSame_2 : decode cX2_isSame 2 = .ok (.aload_n 0, 1) := by decide +kernel
theorem dX2_isSame_3 : decode cX2_isSame 3 = .ok (.getfield 9, 3) := by decide +kernel
theorem dX2_isSame_6 : decode cX2_isSame 6 = .ok (.arraylength, 1) := by decide +kernel
theorem dX2_isSame_7 : decode cX2_isSame 7 = .ok (.ifCond .ne 7, 3) := by decide +kernel
theorem dX2_isSame_10 : decode cX2_isSame 10 = .ok (.iconst 0, 1) := by decide +kernel
theorem dX2_isSame_11 : decode cX2_isSame 11 = .ok (.goto 6, 3) := by decide +kernel
theorem dX2_isSame_14 : decode cX2_isSame 14 = .ok (.sipush 9999, 3) := by decide +kernel
theorem dX2_isSame_17 : decode cX2_isSame 17 = .ok (.istore_n 3, 1) := by decide +kernel
theorem dX2_isSame_18 : decode cX2_isSame 18 = .ok (.iconst 0, 1) := by decide +kernel
theorem dX2_isSame_19 : decode cX2_isSame 19 = .ok (.istore 4, 2) := by decide +kernel
theorem dX2_isSame_21 : decode cX2_isSame 21 = .ok (.iload 4, 2) := by decide +kernel
theorem dX2_isSame_23 : decode cX2_isSame 23 = .ok (.aload_n 0, 1) := by decide +kernel
theorem dX2_isSame_24 : decode cX2_isSame 24 = .ok (.getfield 9, 3) := by decide +kernel
theorem dX2_isSame_27 : decode cX2_isSame 27 = .ok (.arraylength, 1) := by decide +kernel
theorem dX2_isSame_28 : decode cX2_isSame 28 = .ok (.if_icmp .ge 148, 3) := by decide +kernel
theorem dX2_isSame_31 : decode cX2_isSame 31 = .ok (.iconst 0, 1) := by decide +kernel
theorem dX2_isSame_32 : decode cX2_isSame 32 = .ok (.istore 5, 2) := by decide +kernel
theorem dX2_isSame_34 : decode cX2_isSame 34 = .ok (.iload 5, 2) := by decide +kernel
theorem dX2_isSame_36 : decode cX2_isSame 36 = .ok (.bipush 7, 2) := by decide +kernel
theorem dX2_isSame_38 : decode cX2_isSame 38 = .ok (.if_icmp .ge 32, 3) := by decide +kernel
theorem dX2_isSame_41 : decode cX2_isSame 41 = .ok (.aload_n 1, 1) := by decide +kernel
theorem dX2_isSame_42 : decode cX2_isSame 42 = .ok (.iload 4, 2) := by decide +kernel
theorem dX2_isSame_44 : decode cX2_isSame 44 = .ok (.iload 5, 2) := by decide +kernel
theorem dX2_isSame_46 : decode cX2_isSame 46 = .ok (.invokevirtual 62, 3) := by decide +kernel
theorem dX2_isSame_49 : decode cX2_isSame 49 = .ok (.aload_n 0, 1) := by decide +kernel
theorem dX2_isSame_50 : decode cX2_isSame 50 = .ok (.getfield 9, 3) := by decide +kernel
theorem dX2_isSame_53 : decode cX2_isSame 53 = .ok (.iload 4, 2) := by decide +kernel
theorem dX2_isSame_55 : decode cX2_isSame 55 = .ok (.aaload, 1) := by decide +kernel
theorem dX2_isSame_56 : decode cX2_isSame 56 = .ok (.iload 5, 2) := by decide +kernel
theorem dX2_isSame_58 : decode cX2_isSame 58 = .ok (.iaload, 1) := by decide +kernel
theorem dX2_isSame_59 : decode cX2_isSame 59 = .ok (.if_icmp .eq 5, 3) := by decide +kernel
theorem dX2_isSame_62 : decode cX2_isSame 62 = .ok (.iconst 0, 1) := by decide +kernel
theorem dX2_isSame_63 : decode cX2_isSame 63 = .ok (.ireturn, 1) := by decide +kernel
theorem dX2_isSame_64 : decode cX2_isSame 64 = .ok (.iinc 5 1, 3) := by decide +kernel
theorem dX2_isSame_67 : decode cX2_isSame 67 = .ok (.goto (-33), 3) := by decide +kernel
theorem dX2_isSame_70 : decode cX2_isSame 70 = .ok (.aload_n 1, 1) := by decide +kernel
theorem dX2_isSame_71 : decode cX2_isSame 71 = .ok (.iload 4, 2) := by decide +kernel
theorem dX2_isSame_73 : decode cX2_isSame 73 = .ok (.bipush 8, 2) := by decide +kernel
theorem dX2_isSame_75 : decode cX2_isSame 75 = .ok (.invokevirtual 62, 3) := by decide +kernel
theorem dX2_isSame_78 : decode cX2_isSame 78 = .ok (.aload_n 0, 1) := by decide +kernel
theorem dX2_isSame_79 : decode cX2_isSame 79 = .ok (.iload 4, 2) := by decide +kernel
theorem dX2_isSame_81 : decode cX2_isSame 81 = .ok (.invokevirtual 19, 3) := by decide +kernel
theorem dX2_isSame_84 : decode cX2_isSame 84 = .ok (.if_icmp .ne 18, 3) := by decide +kernel
theorem dX2_isSame_87 : decode cX2_isSame 87 = .ok (.aload_n 1, 1) := by decide +kernel
theorem dX2_isSame_88 : decode cX2_isSame 88 = .ok (.iload 4, 2) := by decide +kernel
theorem dX2_isSame_90 : decode cX2_isSame 90 = .ok (.invokevirtual 67, 3) := by decide +kernel
theorem dX2_isSame_93 : decode cX2_isSame 93 = .ok (.aload_n 0, 1) := by decide +kernel
theorem dX2_isSame_94 : decode cX2_isSame 94 = .ok (.iload 4, 2) := by decide +kernel
theorem dX2_isSame_96 : decode cX2_isSame 96 = .ok (.invokevirtual 70, 3) := by decide +kernel
theorem dX2_isSame_99 : decode cX2_isSame 99 = .ok (.if_icmp .eq 5, 3) := by decide +kernel
theorem dX2_isSame_102 : decode cX2_isSame 102 = .ok (.iconst 0, 1) := by decide +kernel
theorem dX2_isSame_103 : decode cX2_isSame 103 = .ok (.ireturn, 1) := by decide +kernel
theorem dX2_isSame_104 : decode cX2_isSame 104 = .ok (.iconst 0, 1) := by decide +kernel
theorem dX2_isSame_105 : decode cX2_isSame 105 = .ok (.istore 5, 2) := by decide +kernel
theorem dX2_isSame_107 : decode cX2_isSame 107 = .ok (.iload 5, 2) := by decide +kernel
theorem dX2_isSame_109 : decode cX2_isSame 109 = .ok (.aload_n 0, 1) := by decide +kernel
theorem dX2_isSame_110 : decode cX2_isSame 110 = .ok (.getfield 9, 3) := by decide +kernel
theorem dX2_isSame_113 : decode cX2_isSame 113 = .ok (.arraylength, 1) := by decide +kernel
theorem dX2_isSame_114 : decode cX2_isSame 114 = .ok (.if_icmp .ge 30, 3) := by decide +kernel
theorem dX2_isSame_117 : decode cX2_isSame 117 = .ok (.aload_n 1, 1) := by decide +kernel
theorem dX2_isSame_118 : decode cX2_isSame 118 = .ok (.iload 4, 2) := by decide +kernel
theorem dX2_isSame_120 : decode cX2_isSame 120 = .ok (.iload 5, 2) := by decide +kernel
theorem dX2_isSame_122 : decode cX2_isSame 122 = .ok (.invokevirtual 71, 3) := by decide +kernel
theorem dX2_isSame_125 : decode cX2_isSame 125 = .ok (.aload_n 0, 1) := by decide +kernel
theorem dX2_isSame_126 : decode cX2_isSame 126 = .ok (.iload 4, 2) := by decide +kernel
theorem dX2_isSame_128 : decode cX2_isSame 128 = .ok (.iload 5, 2) := by decide +kernel
theorem dX2_isSame_130 : decode cX2_isSame 130 = .ok (.invokevirtual 15, 3) := by decide +kernel
theorem dX2_isSame_133 : decode cX2_isSame 133 = .ok (.if_icmp .eq 5, 3) := by decide +kernel
theorem dX2_isSame_136 : decode cX2_isSame 136 = .ok (.iconst 0, 1) := by decide +kernel
theorem dX2_isSame_137 : decode cX2_isSame 137 = .ok (.ireturn, 1) := by decide +kernel
theorem dX2_isSame_138 : decode cX2_isSame 138 = .ok (.iinc 5 1, 3) := by decide +kernel
theorem dX2_isSame_141 : decode cX2_isSame 141 = .ok (.goto (-34), 3) := by decide +kernel
theorem dX2_isSame_144 : decode cX2_isSame 144 = .ok (.iload_n 2, 1) := by decide +kernel
theorem dX2_isSame_145 : decode cX2_isSame 145 = .ok (.aload_n 0, 1) := by decide +kernel
theorem dX2_isSame_146 : decode cX2_isSame 146 = .ok (.getfield 9, 3) := by decide +kernel
theorem dX2_isSame_149 : decode cX2_isSame 149 = .ok (.iload 4, 2) := by decide +kernel
theorem dX2_isSame_151 : decode cX2_isSame 151 = .ok (.aaload, 1) := by decide +kernel
theorem dX2_isSame_152 : decode cX2_isSame 152 = .ok (.iconst 0, 1) := by decide +kernel
theorem dX2_isSame_153 : decode cX2_isSame 153 = .ok (.iaload, 1) := by decide +kernel
theorem dX2_isSame_154 : decode cX2_isSame 154 = .ok (.iadd, 1) := by decide +kernel
theorem dX2_isSame_155 : decode cX2_isSame 155 = .ok (.istore_n 2, 1) := by decide +kernel
theorem dX2_isSame_156 : decode cX2_isSame 156 = .ok (.iload_n 3, 1) := by decide +kernel
theorem dX2_isSame_157 : decode cX2_isSame 157 = .ok (.aload_n 0, 1) := by decide +kernel
theorem dX2_isSame_158 : decode cX2_isSame 158 = .ok (.getfield 9, 3) := by decide +kernel
theorem dX2_isSame_161 : decode cX2_isSame 161 = .ok (.iload 4, 2) := by decide +kernel
theorem dX2_isSame_163 : decode cX2_isSame 163 = .ok (.aaload, 1) := by decide +kernel
theorem dX2_isSame_164 : decode cX2_isSame 164 = .ok (.iconst 0, 1) := by decide +kernel
theorem dX2_isSame_165 : decode cX2_isSame 165 = .ok (.iaload, 1) := by decide +kernel
theorem dX2_isSame_166 : decode cX2_isSame 166 = .ok (.invokestatic 72, 3) := by decide +kernel
theorem dX2_isSame_169 : decode cX2_isSame 169 = .ok (.istore_n 3, 1) := by decide +kernel
theorem dX2_isSame_170 : decode cX2_isSame 170 = .ok (.iinc 4 1, 3) := by decide +kernel
theorem dX2_isSame_173 : decode cX2_isSame 173 = .ok (.goto (-152), 3) := by decide +kernel
theorem dX2_isSame_176 : decode cX2_isSame 176 = .ok (.bipush 9, 2) := by decide +kernel
theorem dX2_isSame_178 : decode cX2_isSame 178 = .ok (.newarray .int, 2) := by decide +kernel
theorem dX2_isSame_180 : decode cX2_isSame 180 = .ok (.dup, 1) := by decide +kernel
theorem dX2_isSame_181 : decode cX2_isSame 181 = .ok (.iconst 0, 1) := by decide +kernel
theorem dX2_isSame_182 : decode cX2_isSame 182 = .ok (.aload_n 0, 1) := by decide +kernel
theorem dX2_isSame_183 : decode cX2_isSame 183 = .ok (.getfield 45, 3) := by decide +kernel
theorem dX2_isSame_186 : decode cX2_isSame 186 = .ok (.iastore, 1) := by decide +kernel
theorem dX2_isSame_187 : decode cX2_isSame 187 = .ok (.dup, 1) := by decide +kernel
theorem dX2_isSame_188 : decode cX2_isSame 188 = .ok (.iconst 1, 1) := by decide +kernel
theorem dX2_isSame_189 : decode cX2_isSame 189 = .ok (.aload_n 0, 1) := by decide +kernel
theorem dX2_isSame_190 : decode cX2_isSame 190 = .ok (.getfield 9, 3) := by decide +kernel
theorem dX2_isSame_193 : decode cX2_isSame 193 = .ok (.arraylength, 1) := by decide +kernel
theorem dX2_isSame_194 : decode cX2_isSame 194 = .ok (.iastore, 1) := by decide +kernel
theorem dX2_isSame_195 : decode cX2_isSame 195 = .ok (.dup, 1) := by decide +kernel
theorem dX2_isSame_196 : decode cX2_isSame 196 = .ok (.iconst 2, 1) := by decide +kernel
theorem dX2_isSame_197 : decode cX2_isSame 197 = .ok (.aload_n 0, 1) := by decide +kernel
theorem dX2_isSame_198 : decode cX2_isSame 198 = .ok (.getfield 38, 3) := by decide +kernel
theorem dX2_isSame_201 : decode cX2_isSame 201 = .ok (.iastore, 1) := by decide +kernel
theorem dX2_isSame_202 : decode cX2_isSame 202 = .ok (.dup, 1) := by decide +kernel
theorem dX2_isSame_203 : decode cX2_isSame 203 = .ok (.iconst 3, 1) := by decide +kernel
theorem dX2_isSame_204 : decode cX2_isSame 204 = .ok (.aload_n 0, 1) := by decide +kernel
theorem dX2_isSame_205 : decode cX2_isSame 205 = .ok (.getfield 27, 3) := by decide +kernel
theorem dX2_isSame_208 : decode cX2_isSame 208 = .ok (.iastore, 1) := by decide +kernel
theorem dX2_isSame_209 : decode cX2_isSame 209 = .ok (.dup, 1) := by decide +kernel
theorem dX2_isSame_210 : decode cX2_isSame 210 = .ok (.iconst 4, 1) := by decide +kernel
theorem dX2_isSame_211 : decode cX2_isSame 211 = .ok (.iconst 0, 1) := by decide +kernel
theorem dX2_isSame_212 : decode cX2_isSame 212 = .ok (.iastore, 1) := by decide +kernel
theorem dX2_isSame_213 : decode cX2_isSame 213 = .ok (.dup, 1) := by decide +kernel
theorem dX2_isSame_214 : decode cX2_isSame 214 = .ok (.iconst 5, 1) := by decide +kernel
theorem dX2_isSame_215 : decode cX2_isSame 215 = .ok (.iconst 0, 1) := by decide +kernel
theorem dX2_isSame_216 : decode cX2_isSame 216 = .ok (.iastore, 1) := by decide +kernel
theorem dX2_isSame_217 : decode cX2_isSame 217 = .ok (.dup, 1) := by decide +kernel
theorem dX2_isSame_218 : decode cX2_isSame 218 = .ok (.bipush 6, 2) := by decide +kernel
theorem dX2_isSame_220 : decode cX2_isSame 220 = .ok (.iconst 0, 1) := by decide +kernel
theorem dX2_isSame_221 : decode cX2_isSame 221 = .ok (.iastore, 1) := by decide +kernel
theorem dX2_isSame_222 : decode cX2_isSame 222 = .ok (.dup, 1) := by decide +kernel
theorem dX2_isSame_223 : decode cX2_isSame 223 = .ok (.bipush 7, 2) := by decide +kernel
theorem dX2_isSame_225 : decode cX2_isSame 225 = .ok (.aload_n 0, 1) := by decide +kernel
theorem dX2_isSame_226 : decode cX2_isSame 226 = .ok (.invokevirtual 75, 3) := by decide +kernel
theorem dX2_isSame_229 : decode cX2_isSame 229 = .ok (.iastore, 1) := by decide +kernel
theorem dX2_isSame_230 : decode cX2_isSame 230 = .ok (.dup, 1) := by decide +kernel
theorem dX2_isSame_231 : decode cX2_isSame 231 = .ok (.bipush 8, 2) := by decide +kernel
theorem dX2_isSame_233 : decode cX2_isSame 233 = .ok (.iload_n 3, 1) := by decide +kernel
theorem dX2_isSame_234 : decode cX2_isSame 234 = .ok (.iastore, 1) := by decide +kernel
theorem dX2_isSame_235 : decode cX2_isSame 235 = .ok (.astore 4, 2) := by decide +kernel
theorem dX2_isSame_237 : decode cX2_isSame 237 = .ok (.iconst 0, 1) := by decide +kernel
theorem dX2_isSame_238 : decode cX2_isSame 238 = .ok (.istore 5, 2) := by decide +kernel
theorem dX2_isSame_240 : decode cX2_isSame 240 = .ok (.iload 5, 2) := by decide +kernel
theorem dX2_isSame_242 : decode cX2_isSame 242 = .ok (.iconst 3, 1) := by decide +kernel
theorem dX2_isSame_243 : decode cX2_isSame 243 = .ok (.if_icmp .ge 82, 3) := by decide +kernel
theorem dX2_isSame_246 : decode cX2_isSame 246 = .ok (.aload_n 0, 1) := by decide +kernel
theorem dX2_isSame_247 : decode cX2_isSame 247 = .ok (.iload 5, 2) := by decide +kernel
theorem dX2_isSame_249 : decode cX2_isSame 249 = .ok (.invokevirtual 41, 3) := by decide +kernel
theorem dX2_isSame_252 : decode cX2_isSame 252 = .ok (.astore 6, 2) := by decide +kernel
theorem dX2_isSame_254 : decode cX2_isSame 254 = .ok (.aload 4, 2) := by decide +kernel
theorem dX2_isSame_256 : decode cX2_isSame 256 = .ok (.iconst 4, 1) := by decide +kernel
theorem dX2_isSame_257 : decode cX2_isSame 257 = .ok (.iload 5, 2) := by decide +kernel
theorem dX2_isSame_259 : decode cX2_isSame 259 = .ok (.iadd, 1) := by decide +kernel
theorem dX2_isSame_260 : decode cX2_isSame 260 = .ok (.aload 6, 2) := by decide +kernel
theorem dX2_isSame_262 : decode cX2_isSame 262 = .ok (.arraylength, 1) := by decide +kernel
theorem dX2_isSame_263 : decode cX2_isSame 263 = .ok (.iastore, 1) := by decide +kernel
theorem dX2_isSame_264 : decode cX2_isSame 264 = .ok (.iconst 0, 1) := by decide +kernel
theorem dX2_isSame_265 : decode cX2_isSame 265 = .ok (.istore 7, 2) := by decide +kernel
theorem dX2_isSame_267 : decode cX2_isSame 267 = .ok (.iload 7, 2) := by decide +kernel
theorem dX2_isSame_269 : decode cX2_isSame 269 = .ok (.aload 6, 2) := by decide +kernel
theorem dX2_isSame_271 : decode cX2_isSame 271 = .ok (.arraylength, 1) := by decide +kernel
theorem dX2_isSame_272 : decode cX2_isSame 272 = .ok (.if_icmp .ge 47, 3) := by decide +kernel
theorem dX2_isSame_275 : decode cX2_isSame 275 = .ok (.aload_n 1, 1) := by decide +kernel
theorem dX2_isSame_276 : decode cX2_isSame 276 = .ok (.iload 5, 2) := by decide +kernel
theorem dX2_isSame_278 : decode cX2_isSame 278 = .ok (.iload 7, 2) := by decide +kernel
theorem dX2_isSame_280 : decode cX2_isSame 280 = .ok (.iconst 1, 1) := by decide +kernel
theorem dX2_isSame_281 : decode cX2_isSame 281 = .ok (.iadd, 1) := by decide +kernel
theorem dX2_isSame_282 : decode cX2_isSame 282 = .ok (.invokevirtual 79, 3) := by decide +kernel
theorem dX2_isSame_285 : decode cX2_isSame 285 = .ok (.aload 6, 2) := by decide +kernel
theorem dX2_isSame_287 : decode cX2_isSame 287 = .ok (.iload 7, 2) := by decide +kernel
theorem dX2_isSame_289 : decode cX2_isSame 289 = .ok (.iaload, 1) := by decide +kernel
theorem dX2_isSame_290 : decode cX2_isSame 290 = .ok (.if_icmp .ne 21, 3) := by decide +kernel
theorem dX2_isSame_293 : decode cX2_isSame 293 = .ok (.aload_n 1, 1) := by decide +kernel
theorem dX2_isSame_294 : decode cX2_isSame 294 = .ok (.aload 6, 2) := by decide +kernel
theorem dX2_isSame_296 : decode cX2_isSame 296 = .ok (.iload 7, 2) := by decide +kernel
theorem dX2_isSame_298 : decode cX2_isSame 298 = .ok (.iaload, 1) := by decide +kernel
theorem dX2_isSame_299 : decode cX2_isSame 299 = .ok (.bipush 7, 2) := by decide +kernel
