theorem dL_act_365 : decode cL_act 365 = .ok (.iload 4, 2) := by decide +kernel
theorem dL_act_367 : decode cL_act 367 = .ok (.iload 5, 2) := by decide +kernel
theorem dL_act_369 : decode cL_act 369 = .ok (.iload 6, 2) := by decide +kernel
theorem dL_act_371 : decode cL_act 371 = .ok (.invokevirtual 47, 3) := by decide +kernel
theorem dL_act_374 : decode cL_act 374 = .ok (.if_icmp .ne 7, 3) := by decide +kernel
theorem dL_act_377 : decode cL_act 377 = .ok (.iconst 1, 1) := by decide +kernel
theorem dL_act_378 : decode cL_act 378 = .ok (.goto 4, 3) := by decide +kernel
theorem dL_act_381 : decode cL_act 381 = .ok (.iconst 0, 1) := by decide +kernel
theorem dL_act_382 : decode cL_act 382 = .ok (.ireturn, 1) := by decide +kernel
set_option maxRecDepth 20000 in
theorem ggL_build_X2_init : GoodIn wsL_build wsX2_init := goodIn_r _ [6, 7, 8, 9, 10, 11, 197, 198, 199, 200] (by decide +kernel) (by decide +kernel)
set_option maxRecDepth 20000 in
theorem gL_build_X2_init_n48 : GoodIn wsL_build (wsX2_init) := ggL_build_X2_init
set_option maxRecDepth 20000 in
theorem ggL_build_L_cell : GoodIn wsL_build wsL_cell := goodIn_r _ [15, 16] (by decide +kernel) (by decide +kernel)
set_option maxRecDepth 20000 in
theorem gL_build_L_cell : GoodIn wsL_build (va_wsS RL 49 yL_cell wsL_cell) := goodIn_app (goodIn_of _ (by decide +kernel)) ggL_build_L_cell
set_option maxRecDepth 20000 in
theorem ggL_build_L_below : GoodIn wsL_build wsL_below := goodIn_r _ [19, 20] (by decide +kernel) (by decide +kernel)
set_option maxRecDepth 20000 in
theorem gL_build_L_below : GoodIn wsL_build (va_wsS RL 15 yL_below wsL_below) := goodIn_app (goodIn_of _ (by decide +kernel)) ggL_build_L_below
set_option maxRecDepth 20000 in
set_option maxRecDepth 20000 in
theorem ggL_build_L_act_h0 : GoodIn wsL_build (.codeWith yL_act cL_act 9 (some .boolean) [(174, 199, 200, 29)] :: wsL_act_r1) := goodIn_r _ [23, 24, 25, 26, 27, 17, 18, 14, 19, 20, 28, 29, 30, 31, 32, 33, 34, 35, 36, 37, 38, 39, 40, 41, 42] (by decide +kernel) (by decide +kernel)
set_option maxRecDepth 20000 in
theorem ggL_build_L_act_h1 : GoodIn wsL_build wsL_act_r2 := goodIn_r _ [43, 44, 45, 46, 47, 48, 49, 50, 51, 52, 53, 54, 55, 56, 3, 57, 11, 58, 59, 60, 61, 62, 63, 64] (by decide +kernel) (by decide +kernel)
set_option maxRecDepth 20000 in
theorem ggL_build_L_act_h2 : GoodIn wsL_build wsL_act_r3 := goodIn_r _ [65, 66, 67, 68, 69, 70, 71, 72, 73, 74, 75, 76, 77, 78, 79, 80, 81, 82, 83, 84, 85, 86, 87, 88] (by decide +kernel) (by decide +kernel)
set_option maxRecDepth 20000 in
theorem ggL_build_L_act_h3 : GoodIn wsL_build wsL_act_r4 := goodIn_r _ [89, 90, 91, 92, 93, 94, 95, 96, 97, 98, 99, 100, 101, 102, 103, 104, 105, 106, 107, 108, 109, 110, 111, 112] (by decide +kernel) (by decide +kernel)
set_option maxRecDepth 20000 in
theorem ggL_build_L_act_h4 : GoodIn wsL_build wsL_act_r5 := goodIn_r _ [113, 114, 115, 116, 117, 118, 119, 120, 121, 122, 123, 124, 125, 126, 127, 128, 129, 130, 131, 132, 133, 134, 135, 136] (by decide +kernel) (by decide +kernel)
set_option maxRecDepth 20000 in
theorem ggL_build_L_act_h5 : GoodIn wsL_build wsL_act_r6 := goodIn_r _ [137, 138, 139, 140, 141, 142, 143, 144, 145, 146, 147, 148, 149, 150, 151, 152, 153, 154, 155, 156, 157, 158, 159, 160] (by decide +kernel) (by decide +kernel)
set_option maxRecDepth 20000 in
theorem ggL_build_L_act_h6 : GoodIn wsL_build wsL_act_r7 := goodIn_r _ [161, 162, 163, 164, 165, 166, 167, 168, 169, 170, 171, 172, 173, 174, 175, 176, 177, 178, 179, 180, 181, 182, 183, 184] (by decide +kernel) (by decide +kernel)
set_option maxRecDepth 20000 in
theorem ggL_build_L_act_h7 : GoodIn wsL_build wsL_act_r8 := goodIn_r _ [185, 186, 187, 188, 189, 190, 191, 192, 193, 194, 195, 196] (by decide +kernel) (by decide +kernel)
set_option maxRecDepth 20000 in
theorem ggL_build_L_act_h8 : GoodIn wsL_build wsX20 := goodIn_r _ [197, 198, 199, 200] (by decide +kernel) (by decide +kernel)
set_option maxRecDepth 20000 in
theorem ggL_build_L_act_h9 : GoodIn wsL_build wsX10 := goodIn_r _ [201, 202, 203, 204, 205, 206] (by decide +kernel) (by decide +kernel)
set_option maxRecDepth 20000 in
theorem ggL_build_L_act_h10 : GoodIn wsL_build wsX00 := goodIn_r _ [207, 208, 209, 210, 211, 212, 213, 214] (by decide +kernel) (by decide +kernel)
theorem ggL_build_L_act_h : GoodIn wsL_build (.codeWith yL_act cL_act 9 (some .boolean) [(174, 199, 200, 29)] :: ((wsL_act_r1 ++ (wsL_act_r2 ++ (wsL_act_r3 ++ (wsL_act_r4 ++ (wsL_act_r5 ++ (wsL_act_r6 ++ (wsL_act_r7 ++ (wsL_act_r8)))))))) ++ wsX20 ++ wsX10 ++ wsX00)) := goodIn_ca (goodIn_ca (goodIn_ca (goodIn_ca ggL_build_L_act_h0 (goodIn_app ggL_build_L_act_h1 (goodIn_app ggL_build_L_act_h2 (goodIn_app ggL_build_L_act_h3 (goodIn_app ggL_build_L_act_h4 (goodIn_app ggL_build_L_act_h5 (goodIn_app ggL_build_L_act_h6 ggL_build_L_act_h7))))))) ggL_build_L_act_h8) ggL_build_L_act_h9) ggL_build_L_act_h10
theorem ggL_build_L_act : GoodIn wsL_build wsL_act := goodIn_ca (goodIn_ca (goodIn_ca ggL_build_L_act_h (goodIn_sub (fun _ h => List.mem_cons_of_mem _ (List.mem_append_left _ (List.mem_append_left _ (List.mem_append_right _ h)))) (by decide +kernel))) (goodIn_sub (fun _ h => List.mem_cons_of_mem _ (List.mem_append_left _ (List.mem_append_right _ h))) (by decide +kernel))) (goodIn_sub (fun _ h => List.mem_cons_of_mem _ (List.mem_append_right _ h)) (by decide +kernel))
set_option maxRecDepth 20000 in
theorem gL_build_L_act : GoodIn wsL_build (va_wsS RL 54 yL_act wsL_act) := goodIn_app (goodIn_of _ (by decide +kernel)) ggL_build_L_act
theorem dL_build_0 : decode cL_build 0 = .ok (.new 10, 3) := by decide +kernel
theorem dL_build_3 : decode cL_build 3 = .ok (.dup, 1) := by decide +kernel
theorem dL_build_4 : decode cL_build 4 = .ok (.invokespecial 48, 3) := by decide +kernel
theorem dL_build_7 : decode cL_build 7 = .ok (.astore_n 2, 1) := by decide +kernel
theorem dL_build_8 : decode cL_build 8 = .ok (.iconst 0, 1) := by decide +kernel
theorem dL_build_9 : decode cL_build 9 = .ok (.istore_n 3, 1) := by decide +kernel
theorem dL_build_10 : decode cL_build 10 = .ok (.iload_n 3, 1) := by decide +kernel
theorem dL_build_11 : decode cL_build 11 = .ok (.bipush 40, 2) := by decide +kernel
theorem dL_build_13 : decode cL_build 13 = .ok (.if_icmp .ge 62, 3) := by decide +kernel
theorem dL_build_16 : decode cL_build 16 = .ok (.aload_n 1, 1) := by decide +kernel
theorem dL_build_17 : decode cL_build 17 = .ok (.iload_n 3, 1) := by decide +kernel
theorem dL_build_18 : decode cL_build 18 = .ok (.bipush 16, 2) := by decide +kernel
theorem dL_build_20 : decode cL_build 20 = .ok (.irem, 1) := by decide +kernel
theorem dL_build_21 : decode cL_build 21 = .ok (.invokestatic 49, 3) := by decide +kernel
theorem dL_build_24 : decode cL_build 24 = .ok (.iload_n 3, 1) := by decide +kernel
theorem dL_build_25 : decode cL_build 25 = .ok (.bipush 16, 2) := by decide +kernel
theorem dL_build_27 : decode cL_build 27 = .ok (.idiv, 1) := by decide +kernel
theorem dL_build_28 : decode cL_build 28 = .ok (.iconst 5, 1) := by decide +kernel
theorem dL_build_29 : decode cL_build 29 = .ok (.imul, 1) := by decide +kernel
theorem dL_build_30 : decode cL_build 30 = .ok (.ishr, 1) := by decide +kernel
theorem dL_build_31 : decode cL_build 31 = .ok (.sipush 263, 3) := by decide +kernel
theorem dL_build_34 : decode cL_build 34 = .ok (.iload_n 3, 1) := by decide +kernel
theorem dL_build_35 : decode cL_build 35 = .ok (.imul, 1) := by decide +kernel
theorem dL_build_36 : decode cL_build 36 = .ok (.iadd, 1) := by decide +kernel
theorem dL_build_37 : decode cL_build 37 = .ok (.istore 4, 2) := by decide +kernel
theorem dL_build_39 : decode cL_build 39 = .ok (.iload_n 3, 1) := by decide +kernel
theorem dL_build_40 : decode cL_build 40 = .ok (.bipush 7, 2) := by decide +kernel
theorem dL_build_42 : decode cL_build 42 = .ok (.if_icmp .ge 15, 3) := by decide +kernel
theorem dL_build_45 : decode cL_build 45 = .ok (.bipush 14, 2) := by decide +kernel
theorem dL_build_47 : decode cL_build 47 = .ok (.iload 4, 2) := by decide +kernel
theorem dL_build_49 : decode cL_build 49 = .ok (.ldc 53, 2) := by decide +kernel
theorem dL_build_51 : decode cL_build 51 = .ok (.invokestatic 15, 3) := by decide +kernel
theorem dL_build_54 : decode cL_build 54 = .ok (.imul, 1) := by decide +kernel
theorem dL_build_55 : decode cL_build 55 = .ok (.istore 4, 2) := by decide +kernel
theorem dL_build_57 : decode cL_build 57 = .ok (.aload_n 0, 1) := by decide +kernel
theorem dL_build_58 : decode cL_build 58 = .ok (.aload_n 2, 1) := by decide +kernel
theorem dL_build_59 : decode cL_build 59 = .ok (.iload 4, 2) := by decide +kernel
theorem dL_build_61 : decode cL_build 61 = .ok (.invokestatic 54, 3) := by decide +kernel
theorem dL_build_64 : decode cL_build 64 = .ok (.ifCond .ne 5, 3) := by decide +kernel
theorem dL_build_67 : decode cL_build 67 = .ok (.aconst_null, 1) := by decide +kernel
theorem dL_build_68 : decode cL_build 68 = .ok (.areturn, 1) := by decide +kernel
theorem dL_build_69 : decode cL_build 69 = .ok (.iinc 3 1, 3) := by decide +kernel
theorem dL_build_72 : decode cL_build 72 = .ok (.goto (-62), 3) := by decide +kernel
theorem dL_build_75 : decode cL_build 75 = .ok (.aload_n 2, 1) := by decide +kernel
theorem dL_build_76 : decode cL_build 76 = .ok (.areturn, 1) := by decide +kernel
set_option maxRecDepth 20000 in
theorem ggL_law_X1_init : GoodIn wsL_law wsX1_init := goodIn_r _ [17, 18, 19, 20, 21, 22, 23, 24, 25, 3, 26, 27, 28, 29, 30, 31, 32, 33, 34, 35, 36, 378, 379, 380, 381, 382, 383, 384, 385, 372, 373, 374, 375, 376, 377] (by decide +kernel) (by decide +kernel)
set_option maxRecDepth 20000 in
theorem gL_law_X1_init : GoodIn wsL_law (wsX1_init) := ggL_law_X1_init
set_option maxRecDepth 20000 in
set_option maxRecDepth 20000 in
theorem ggL_law_L_build_h0 : GoodIn wsL_law (.code yL_build cL_build 5 (some (.object "WrestleBookLaw$Sim")) :: wsL_build_r1) := goodIn_r _ [40, 41, 42, 43, 44, 45, 46, 47, 19, 20, 48, 49, 50, 51, 39, 52, 53, 54, 55, 56, 57, 58, 59, 60, 61] (by decide +kernel) (by decide +kernel)
set_option maxRecDepth 20000 in
theorem ggL_law_L_build_h1 : GoodIn wsL_law wsL_build_r2 := goodIn_r _ [62, 63, 3, 64, 65, 66, 2, 67, 68, 69, 70, 71, 24, 72, 73, 74, 75, 76, 77, 23, 78, 79, 80, 81] (by decide +kernel) (by decide +kernel)
set_option maxRecDepth 20000 in
theorem ggL_law_L_build_h2 : GoodIn wsL_law wsL_build_r3 := goodIn_r _ [82, 83, 30, 31, 36, 84, 85, 86, 87, 88, 89, 90, 91, 92, 93, 94, 95, 96, 97, 98, 99, 100, 101, 102] (by decide +kernel) (by decide +kernel)
set_option maxRecDepth 20000 in
theorem ggL_law_L_build_h3 : GoodIn wsL_law wsL_build_r4 := goodIn_r _ [103, 104, 105, 106, 107, 108, 109, 110, 5, 6, 7, 111, 112, 113, 114, 115, 116, 117, 118, 119, 34, 120, 121, 122] (by decide +kernel) (by decide +kernel)
set_option maxRecDepth 20000 in
theorem ggL_law_L_build_h4 : GoodIn wsL_law wsL_build_r5 := goodIn_r _ [123, 124, 32, 125, 126, 127, 128, 129, 130, 131, 132, 133, 134, 135, 136, 137, 138, 139, 140, 141, 142, 143, 144, 145] (by decide +kernel) (by decide +kernel)
set_option maxRecDepth 20000 in
theorem ggL_law_L_build_h5 : GoodIn wsL_law wsL_build_r6 := goodIn_r _ [146, 147, 148, 149, 150, 151, 152, 153, 154, 155, 156, 157, 158, 159, 160, 161, 162, 163, 164, 165, 166, 167, 168, 169] (by decide +kernel) (by decide +kernel)
set_option maxRecDepth 20000 in
theorem ggL_law_L_build_h6 : GoodIn wsL_law wsL_build_r7 := goodIn_r _ [170, 171, 172, 173, 174, 175, 176, 177, 178, 9, 10, 179, 180, 181, 182, 183, 184, 185, 186, 187, 188, 189, 190, 191] (by decide +kernel) (by decide +kernel)
set_option maxRecDepth 20000 in
theorem ggL_law_L_build_h7 : GoodIn wsL_law wsL_build_r8 := goodIn_r _ [33, 192, 193, 194, 195, 35, 196, 197, 198, 199, 200, 201, 202, 203, 204, 205, 206, 207, 208, 209, 210, 211, 212, 213] (by decide +kernel) (by decide +kernel)
set_option maxRecDepth 20000 in
theorem ggL_law_L_build_h8 : GoodIn wsL_law wsL_build_r9 := goodIn_r _ [214, 215, 216, 217] (by decide +kernel) (by decide +kernel)
set_option maxRecDepth 20000 in
theorem ggL_law_L_build_h9 : GoodIn wsL_law wsX20 := goodIn_r _ [386, 387, 388, 389] (by decide +kernel) (by decide +kernel)
set_option maxRecDepth 20000 in
theorem ggL_law_L_build_h10 : GoodIn wsL_law wsX10 := goodIn_r _ [372, 373, 374, 375, 376, 377] (by decide +kernel) (by decide +kernel)
set_option maxRecDepth 20000 in
theorem ggL_law_L_build_h11 : GoodIn wsL_law wsX00 := goodIn_r _ [378, 379, 380, 381, 382, 383, 384, 385] (by decide +kernel) (by decide +kernel)
theorem ggL_law_L_build_h : GoodIn wsL_law (.code yL_build cL_build 5 (some (.object "WrestleBookLaw$Sim")) :: ((wsL_build_r1 ++ (wsL_build_r2 ++ (wsL_build_r3 ++ (wsL_build_r4 ++ (wsL_build_r5 ++ (wsL_build_r6 ++ (wsL_build_r7 ++ (wsL_build_r8 ++ (wsL_build_r9))))))))) ++ wsX20 ++ wsX10 ++ wsX00)) := goodIn_ca (goodIn_ca (goodIn_ca (goodIn_ca ggL_law_L_build_h0 (goodIn_app ggL_law_L_build_h1 (goodIn_app ggL_law_L_build_h2 (goodIn_app ggL_law_L_build_h3 (goodIn_app ggL_law_L_build_h4 (goodIn_app ggL_law_L_build_h5 (goodIn_app ggL_law_L_build_h6 (goodIn_app ggL_law_L_build_h7 ggL_law_L_build_h8)))))))) ggL_law_L_build_h9) ggL_law_L_build_h10) ggL_law_L_build_h11
theorem ggL_law_L_build : GoodIn wsL_law wsL_build := goodIn_ca (goodIn_ca (goodIn_ca ggL_law_L_build_h (goodIn_sub (fun _ h => List.mem_append_left _ (List.mem_append_left _ (List.mem_append_right _ h))) (by decide +kernel))) (goodIn_sub (fun _ h => List.mem_append_left _ (List.mem_append_right _ h)) (by decide +kernel))) (goodIn_sub (fun _ h => List.mem_append_right _ h) (by decide +kernel))
set_option maxRecDepth 20000 in
theorem gL_law_L_build : GoodIn wsL_law (va_wsS RL 59 yL_build wsL_build) := goodIn_app (goodIn_of _ (by decide +kernel)) ggL_law_L_build
set_option maxRecDepth 20000 in
theorem ggL_law_L_cell : GoodIn wsL_law wsL_cell := goodIn_r _ [52, 53] (by decide +kernel) (by decide +kernel)
set_option maxRecDepth 20000 in
theorem gL_law_L_cell : GoodIn wsL_law (va_wsS RL 49 yL_cell wsL_cell) := goodIn_app (goodIn_of _ (by decide +kernel)) ggL_law_L_cell
set_option maxRecDepth 20000 in
set_option maxRecDepth 20000 in
theorem ggL_law_L_act_h0 : GoodIn wsL_law (.codeWith yL_act cL_act 9 (some .boolean) [(174, 199, 200, 29)] :: wsL_act_r1) := goodIn_r _ [60, 61, 62, 63, 3, 54, 55, 39, 56, 57, 64, 65, 66, 2, 67, 68, 69, 70, 71, 24, 72, 73, 74, 75, 76] (by decide +kernel) (by decide +kernel)
set_option maxRecDepth 20000 in
theorem ggL_law_L_act_h1 : GoodIn wsL_law wsL_act_r2 := goodIn_r _ [77, 23, 78, 79, 80, 81, 82, 83, 30, 31, 36, 84, 85, 86, 43, 87, 49, 88, 89, 90, 91, 92, 93, 94] (by decide +kernel) (by decide +kernel)
set_option maxRecDepth 20000 in
theorem ggL_law_L_act_h2 : GoodIn wsL_law wsL_act_r3 := goodIn_r _ [95, 96, 97, 98, 99, 100, 101, 102, 103, 104, 105, 106, 107, 108, 109, 110, 5, 6, 7, 111, 112, 113, 114, 115] (by decide +kernel) (by decide +kernel)
set_option maxRecDepth 20000 in
theorem ggL_law_L_act_h3 : GoodIn wsL_law wsL_act_r4 := goodIn_r _ [116, 117, 118, 119, 34, 120, 121, 122, 123, 124, 32, 125, 126, 127, 128, 129, 130, 131, 132, 133, 134, 135, 136, 137] (by decide +kernel) (by decide +kernel)
set_option maxRecDepth 20000 in
theorem ggL_law_L_act_h4 : GoodIn wsL_law wsL_act_r5 := goodIn_r _ [138, 139, 140, 141, 142, 143, 144, 145, 146, 147, 148, 149, 150, 151, 152, 153, 154, 155, 156, 157, 158, 159, 160, 161] (by decide +kernel) (by decide +kernel)
set_option maxRecDepth 20000 in
theorem ggL_law_L_act_h5 : GoodIn wsL_law wsL_act_r6 := goodIn_r _ [162, 163, 164, 165, 166, 167, 168, 169, 170, 171, 172, 173, 174, 175, 176, 177, 178, 9, 10, 179, 180, 181, 182, 183] (by decide +kernel) (by decide +kernel)
set_option maxRecDepth 20000 in
theorem ggL_law_L_act_h6 : GoodIn wsL_law wsL_act_r7 := goodIn_r _ [184, 185, 186, 187, 188, 189, 190, 191, 33, 192, 193, 194, 195, 35, 196, 197, 198, 199, 200, 201, 202, 203, 204, 205] (by decide +kernel) (by decide +kernel)
set_option maxRecDepth 20000 in
theorem ggL_law_L_act_h7 : GoodIn wsL_law wsL_act_r8 := goodIn_r _ [206, 207, 208, 209, 210, 211, 212, 213, 214, 215, 216, 217] (by decide +kernel) (by decide +kernel)
set_option maxRecDepth 20000 in
theorem ggL_law_L_act_h8 : GoodIn wsL_law wsX20 := goodIn_r _ [386, 387, 388, 389] (by decide +kernel) (by decide +kernel)
set_option maxRecDepth 20000 in
theorem ggL_law_L_act_h9 : GoodIn wsL_law wsX10 := goodIn_r _ [372, 373, 374, 375, 376, 377] (by decide +kernel) (by decide +kernel)
set_option maxRecDepth 20000 in
theorem ggL_law_L_act_h10 : GoodIn wsL_law wsX00 := goodIn_r _ [378, 379, 380, 381, 382, 383, 384, 385] (by decide +kernel) (by decide +kernel)
theorem ggL_law_L_act_h : GoodIn wsL_law (.codeWith yL_act cL_act 9 (some .boolean) [(174, 199, 200, 29)] :: ((wsL_act_r1 ++ (wsL_act_r2 ++ (wsL_act_r3 ++ (wsL_act_r4 ++ (wsL_act_r5 ++ (wsL_act_r6 ++ (wsL_act_r7 ++ (wsL_act_r8)))))))) ++ wsX20 ++ wsX10 ++ wsX00)) := goodIn_ca (goodIn_ca (goodIn_ca (goodIn_ca ggL_law_L_act_h0 (goodIn_app ggL_law_L_act_h1 (goodIn_app ggL_law_L_act_h2 (goodIn_app ggL_law_L_act_h3 (goodIn_app ggL_law_L_act_h4 (goodIn_app ggL_law_L_act_h5 (goodIn_app ggL_law_L_act_h6 ggL_law_L_act_h7))))))) ggL_law_L_act_h8) ggL_law_L_act_h9) ggL_law_L_act_h10
theorem ggL_law_L_act : GoodIn wsL_law wsL_act := goodIn_ca (goodIn_ca (goodIn_ca ggL_law_L_act_h (goodIn_sub (fun _ h => List.mem_append_left _ (List.mem_append_left _ (List.mem_append_right _ h))) (by decide +kernel))) (goodIn_sub (fun _ h => List.mem_append_left _ (List.mem_append_right _ h)) (by decide +kernel))) (goodIn_sub (fun _ h => List.mem_append_right _ h) (by decide +kernel))
set_option maxRecDepth 20000 in
theorem gL_law_L_act : GoodIn wsL_law (va_wsS RL 54 yL_act wsL_act) := goodIn_app (goodIn_of _ (by decide +kernel)) ggL_law_L_act
set_option maxRecDepth 20000 in
theorem ggL_law_X1_count : GoodIn wsL_law wsX1_count := goodIn_ca (goodIn_r _ [221, 96, 97, 115, 24, 160, 159, 222, 223, 224, 23, 225, 79, 226, 126, 127, 128, 30, 227, 228, 229, 230, 31, 110, 5, 6, 7, 231, 232, 233, 234, 178, 9, 10, 372, 373, 374, 375, 376, 377, 378, 379, 380, 381, 382, 383, 384, 385] (by decide +kernel) (by decide +kernel)) (goodIn_sub (fun _ h => List.mem_append_right _ h) (by decide +kernel))
set_option maxRecDepth 20000 in
theorem gL_law_X1_count : GoodIn wsL_law (wsV RL 63 RX1 yX1_count wsX1_count) := goodIn_app (goodIn_of _ (by decide +kernel)) ggL_law_X1_count
set_option maxRecDepth 20000 in
theorem ggL_law_X1_digest : GoodIn wsL_law wsX1_digest := goodIn_ca (goodIn_r _ [238, 239, 240, 24, 241, 219, 220, 2, 221, 96, 97, 115, 160, 159, 222, 223, 224, 23, 225, 79, 226, 126, 127, 128, 30, 227, 228, 229, 230, 31, 110, 5, 6, 7, 231, 232, 233, 234, 178, 9, 10, 242, 243, 244, 245, 92, 93, 94, 95, 98, 99, 100, 101, 102, 103, 104, 105, 246, 247, 248, 249, 250, 251, 252, 253, 32, 254, 255, 256, 257, 33, 258, 259, 260, 261, 34, 262, 263, 264, 265, 35, 266, 267, 268, 269, 36, 270, 134, 135, 136, 137, 138, 139, 140, 271, 189, 190, 191, 272, 273, 274, 275, 276, 277, 278, 279, 280, 281, 282, 283, 284, 13, 14, 171, 172, 173, 174, 175, 176, 177, 179, 372, 373, 374, 375, 376, 377, 378, 379, 380, 381, 382, 383, 384, 385] (by decide +kernel) (by decide +kernel)) (goodIn_sub (fun _ h => List.mem_append_right _ h) (by decide +kernel))
set_option maxRecDepth 20000 in
theorem gL_law_X1_digest : GoodIn wsL_law (wsV RL 66 RX1 yX1_digest wsX1_digest) := goodIn_app (goodIn_of _ (by decide +kernel)) ggL_law_X1_digest
set_option maxRecDepth 20000 in
theorem ggL_law_X1_told : GoodIn wsL_law wsX1_told := goodIn_ca (goodIn_r _ [245, 96, 97, 24, 92, 93, 94, 2, 95, 98, 99, 100, 23, 101, 79, 102, 103, 104, 105, 31, 246, 247, 248, 249, 30, 250, 251, 252, 253, 32, 254, 255, 256, 257, 33, 258, 259, 260, 261, 34, 262, 263, 264, 265, 35, 266, 267, 268, 269, 36, 270, 134, 135, 136, 137, 138, 139, 140, 271, 189, 190, 191, 372, 373, 374, 375, 376, 377, 378, 379, 380, 381, 382, 383, 384, 385] (by decide +kernel) (by decide +kernel)) (goodIn_sub (fun _ h => List.mem_append_right _ h) (by decide +kernel))
set_option maxRecDepth 20000 in
theorem gL_law_X1_told : GoodIn wsL_law (wsV RL 70 RX1 yX1_told wsX1_told) := goodIn_app (goodIn_of _ (by decide +kernel)) ggL_law_X1_told
set_option maxRecDepth 20000 in
theorem ggL_law_X1_at : GoodIn wsL_law wsX1_at := goodIn_ca (goodIn_r _ [289, 96, 97, 24, 72, 73, 2, 74, 290, 130, 131, 23, 132, 79, 30, 133, 134, 135, 136, 137, 138, 139, 140, 32, 31, 372, 373, 374, 375, 376, 377, 378, 379, 380, 381, 382, 383, 384, 385] (by decide +kernel) (by decide +kernel)) (goodIn_sub (fun _ h => List.mem_append_right _ h) (by decide +kernel))
set_option maxRecDepth 20000 in
theorem gL_law_X1_at : GoodIn wsL_law (wsV RL 81 RX1 yX1_at wsX1_at) := goodIn_app (goodIn_of _ (by decide +kernel)) ggL_law_X1_at
set_option maxRecDepth 20000 in
theorem ggL_law_X1_expected : GoodIn wsL_law wsX1_expected := goodIn_ca (goodIn_r _ [294, 24, 92, 93, 94, 2, 95, 96, 97, 98, 99, 100, 23, 101, 79, 295, 172, 173, 174, 31, 175, 176, 177, 178, 9, 6, 10, 179, 372, 373, 374, 375, 376, 377, 378, 379, 380, 381, 382, 383, 384, 385] (by decide +kernel) (by decide +kernel)) (goodIn_sub (fun _ h => List.mem_append_right _ h) (by decide +kernel))
set_option maxRecDepth 20000 in
theorem gL_law_X1_expected : GoodIn wsL_law (wsV RL 84 RX1 yX1_expected wsX1_expected) := goodIn_app (goodIn_of _ (by decide +kernel)) ggL_law_X1_expected
set_option maxRecDepth 20000 in
theorem ggL_law_X1_match : GoodIn wsL_law wsX1_match := goodIn_ca (goodIn_r _ [299, 24, 92, 93, 94, 2, 95, 96, 97, 98, 99, 100, 23, 101, 79, 300, 301, 302, 303, 30, 280, 281, 282, 283, 284, 13, 6, 14, 171, 172, 173, 174, 31, 175, 176, 177, 178, 9, 10, 179, 372, 373, 374, 375, 376, 377, 378, 379, 380, 381, 382, 383, 384, 385] (by decide +kernel) (by decide +kernel)) (goodIn_sub (fun _ h => List.mem_append_right _ h) (by decide +kernel))
set_option maxRecDepth 20000 in
theorem gL_law_X1_match : GoodIn wsL_law (wsV RL 87 RX1 yX1_match wsX1_match) := goodIn_app (goodIn_of _ (by decide +kernel)) ggL_law_X1_match
set_option maxRecDepth 20000 in
theorem ggL_law_X1_mean : GoodIn wsL_law wsX1_mean := goodIn_r _ [307, 24, 222, 223, 224, 23, 225, 79, 308, 309, 310, 311, 31, 372, 373, 374, 375, 376, 377, 378, 379, 380, 381, 382, 383, 384, 385] (by decide +kernel) (by decide +kernel)
set_option maxRecDepth 20000 in
theorem gL_law_X1_mean : GoodIn wsL_law (wsV RL 90 RX1 yX1_mean wsX1_mean) := goodIn_app (goodIn_of _ (by decide +kernel)) ggL_law_X1_mean
set_option maxRecDepth 20000 in
theorem ggL_law_J9_abs_294c1 : GoodIn wsL_law wsJ9_abs_294c1 := goodIn_r _ [315, 316, 317, 318, 319, 320, 321, 322, 323] (by decide +kernel) (by decide +kernel)
set_option maxRecDepth 20000 in
theorem gL_law_J9_abs_294c1 : GoodIn wsL_law (va_wsS RL 94 yJ9_abs_294c1 wsJ9_abs_294c1) := goodIn_app (goodIn_of _ (by decide +kernel)) ggL_law_J9_abs_294c1
set_option maxRecDepth 20000 in
theorem ggL_law_X1_next : GoodIn wsL_law wsX1_next := goodIn_r _ [275, 24, 276, 277, 278, 23, 279, 79, 30, 34, 280, 281, 282, 283, 284, 13, 6, 14, 171, 172, 173, 174, 31, 175, 176, 177, 178, 9, 10, 179, 372, 373, 374, 375, 376, 377, 378, 379, 380, 381, 382, 383, 384, 385] (by decide +kernel) (by decide +kernel)
set_option maxRecDepth 20000 in
theorem gL_law_X1_next : GoodIn wsL_law (wsV RL 100 RX1 yX1_next wsX1_next) := goodIn_app (goodIn_of _ (by decide +kernel)) ggL_law_X1_next
set_option maxRecDepth 20000 in
theorem ggL_law_X1_foresee : GoodIn wsL_law wsX1_foresee := goodIn_ca (goodIn_r _ [328, 68, 69, 25, 24, 329, 330, 331, 23, 332, 79, 30, 31, 32, 33, 34, 35, 36, 276, 277, 278, 279, 280, 281, 282, 283, 284, 13, 6, 14, 171, 172, 173, 174, 175, 176, 177, 178, 9, 10, 179, 333, 334, 335, 336, 337, 181, 182, 183, 184, 185, 186, 187, 110, 5, 7, 188, 189, 190, 191, 192, 193, 194, 195, 120, 107, 108, 109, 227, 228, 229, 230, 372, 373, 374, 375, 376, 377, 378, 379, 380, 381, 382, 383, 384, 385] (by decide +kernel) (by decide +kernel)) (goodIn_sub (fun _ h => List.mem_append_left _ (List.mem_append_left _ (List.mem_append_right _ h))) (by decide +kernel))
set_option maxRecDepth 20000 in
theorem gL_law_X1_foresee : GoodIn wsL_law (wsV RL 103 RX1 yX1_foresee wsX1_foresee) := goodIn_app (goodIn_of _ (by decide +kernel)) ggL_law_X1_foresee
set_option maxRecDepth 20000 in
theorem ggL_law_L_below : GoodIn wsL_law wsL_below := goodIn_r _ [56, 57] (by decide +kernel) (by decide +kernel)
set_option maxRecDepth 20000 in
theorem gL_law_L_below : GoodIn wsL_law (va_wsS RL 15 yL_below wsL_below) := goodIn_app (goodIn_of _ (by decide +kernel)) ggL_law_L_below
set_option maxRecDepth 20000 in
theorem ggL_law_X1_would : GoodIn wsL_law wsX1_would := goodIn_ca (goodIn_ca (goodIn_r _ [341, 96, 97, 24, 92, 93, 94, 2, 95, 98, 99, 100, 23, 101, 79, 161, 162, 163, 68, 69, 164, 165, 166, 342, 185, 186, 187, 31, 178, 9, 6, 10, 110, 5, 7, 188, 189, 190, 191, 33, 171, 172, 173, 174, 175, 176, 177, 179, 372, 373, 374, 375, 376, 377, 378, 379, 380, 381, 382, 383, 384, 385] (by decide +kernel) (by decide +kernel)) (goodIn_sub (fun _ h => List.mem_append_right _ h) (by decide +kernel))) (goodIn_sub (fun _ h => List.mem_append_left _ (List.mem_append_left _ (List.mem_append_right _ h))) (by decide +kernel))
set_option maxRecDepth 20000 in
theorem gL_law_X1_would : GoodIn wsL_law (wsV RL 106 RX1 yX1_would wsX1_would) := goodIn_app (goodIn_of _ (by decide +kernel)) ggL_law_X1_would
set_option maxRecDepth 20000 in
theorem ggL_law_X1_bout : GoodIn wsL_law wsX1_bout := goodIn_ca (goodIn_ca (goodIn_r _ [158, 24, 159, 160, 92, 93, 94, 2, 95, 96, 97, 98, 99, 100, 23, 101, 79, 161, 162, 163, 68, 69, 164, 165, 166, 167, 168, 169, 170, 171, 172, 173, 174, 31, 175, 176, 177, 178, 9, 6, 10, 179, 180, 181, 182, 183, 184, 185, 186, 187, 110, 5, 7, 188, 189, 190, 191, 33, 192, 193, 194, 195, 32, 34, 35, 120, 107, 108, 109, 36, 372, 373, 374, 375, 376, 377, 378, 379, 380, 381, 382, 383, 384, 385] (by decide +kernel) (by decide +kernel)) (goodIn_sub (fun _ h => List.mem_append_right _ h) (by decide +kernel))) (goodIn_sub (fun _ h => List.mem_append_left _ (List.mem_append_left _ (List.mem_append_right _ h))) (by decide +kernel))
set_option maxRecDepth 20000 in
theorem gL_law_X1_bout : GoodIn wsL_law (wsV RL 43 RX1 yX1_bout wsX1_bout) := goodIn_app (goodIn_of _ (by decide +kernel)) ggL_law_X1_bout
set_option maxRecDepth 20000 in
theorem ggL_law_X2_bout : GoodIn wsL_law wsX2_bout := goodIn_r _ [199, 200, 201, 202, 203, 204, 43, 205, 49, 206, 207, 208, 209, 210, 211, 212, 213, 3, 150, 85, 86, 87, 214, 215, 216, 217, 386, 387, 388, 389] (by decide +kernel) (by decide +kernel)
set_option maxRecDepth 20000 in
theorem gL_law_X2_bout : GoodIn wsL_law (wsV RL 47 RX2 yX2_bout wsX2_bout) := goodIn_app (goodIn_of _ (by decide +kernel)) ggL_law_X2_bout
set_option maxRecDepth 20000 in
theorem ggL_law_X1_end : GoodIn wsL_law wsX1_end := goodIn_r _ [114, 24, 115, 116, 117, 118, 23, 119, 79, 34, 31, 120, 107, 108, 109, 36, 110, 5, 6, 7, 121, 122, 123, 124, 32, 30, 125, 126, 127, 128, 129, 130, 131, 132, 133, 134, 135, 136, 137, 138, 139, 140, 141, 142, 143, 144, 372, 373, 374, 375, 376, 377, 378, 379, 380, 381, 382, 383, 384, 385] (by decide +kernel) (by decide +kernel)
set_option maxRecDepth 20000 in
theorem gL_law_X1_end : GoodIn wsL_law (wsV RL 38 RX1 yX1_end wsX1_end) := goodIn_app (goodIn_of _ (by decide +kernel)) ggL_law_X1_end
set_option maxRecDepth 20000 in
theorem ggL_law_X2_end : GoodIn wsL_law wsX2_end := goodIn_r _ [148, 49, 149, 150, 85, 86, 43, 87, 151, 152, 153, 154, 3, 386, 387, 388, 389] (by decide +kernel) (by decide +kernel)
set_option maxRecDepth 20000 in
theorem gL_law_X2_end : GoodIn wsL_law (wsV RL 42 RX2 yX2_end wsX2_end) := goodIn_app (goodIn_of _ (by decide +kernel)) ggL_law_X2_end
set_option maxRecDepth 20000 in
set_option maxRecDepth 20000 in
theorem ggL_law_X2_isSame_h0 : GoodIn wsL_law (.code yX2_isSame cX2_isSame 8 (some .boolean) :: wsX2_isSame_r1) := goodIn_r _ [346, 49, 347, 9, 6, 10, 3, 149, 201, 200, 348, 243, 244, 2, 245, 96, 97, 24, 92, 93, 94, 95, 98, 99, 100] (by decide +kernel) (by decide +kernel)
set_option maxRecDepth 20000 in
theorem ggL_law_X2_isSame_h1 : GoodIn wsL_law wsX2_isSame_r2 := goodIn_r _ [23, 101, 79, 102, 103, 104, 105, 31, 246, 247, 248, 249, 30, 250, 251, 252, 253, 32, 254, 255, 256, 257, 33, 258] (by decide +kernel) (by decide +kernel)
set_option maxRecDepth 20000 in
theorem ggL_law_X2_isSame_h2 : GoodIn wsL_law wsX2_isSame_r3 := goodIn_r _ [259, 260, 261, 34, 262, 263, 264, 265, 35, 266, 267, 268, 269, 36, 270, 134, 135, 136, 137, 138, 139, 140, 271, 189] (by decide +kernel) (by decide +kernel)
set_option maxRecDepth 20000 in
theorem ggL_law_X2_isSame_h3 : GoodIn wsL_law wsX2_isSame_r4 := goodIn_r _ [190, 191, 206, 207, 208, 43, 209, 349, 297, 298, 299, 300, 301, 302, 303, 280, 281, 282, 283, 284, 13, 14, 171, 172] (by decide +kernel) (by decide +kernel)
set_option maxRecDepth 20000 in
theorem ggL_law_X2_isSame_h4 : GoodIn wsL_law wsX2_isSame_r5 := goodIn_r _ [173, 174, 175, 176, 177, 178, 179, 350, 351, 352, 353, 354, 355, 356, 357, 210, 211, 212, 213, 358, 292, 293, 294, 295] (by decide +kernel) (by decide +kernel)
set_option maxRecDepth 20000 in
theorem ggL_law_X2_isSame_h5 : GoodIn wsL_law wsX2_isSame_r6 := goodIn_r _ [359, 360, 361, 362, 363, 5, 7, 151, 152, 153, 154, 364, 287, 288, 289, 72, 73, 74, 290, 130, 131, 132, 133, 365] (by decide +kernel) (by decide +kernel)
set_option maxRecDepth 20000 in
theorem ggL_law_X2_isSame_h6 : GoodIn wsL_law wsX2_isSame_r7 := goodIn_r _ [219, 220, 221, 115, 160, 159, 222, 223, 224, 225, 226, 126, 127, 128, 227, 228, 229, 230, 110, 231, 232, 233, 234, 366] (by decide +kernel) (by decide +kernel)
set_option maxRecDepth 20000 in
theorem ggL_law_X2_isSame_h7 : GoodIn wsL_law wsX2_isSame_r8 := goodIn_r _ [273, 274, 275, 276, 277, 278, 279, 367, 368, 369, 370, 371, 305, 306, 307, 308, 309, 310, 311] (by decide +kernel) (by decide +kernel)
set_option maxRecDepth 20000 in
theorem ggL_law_X2_isSame_h8 : GoodIn wsL_law wsX20 := goodIn_r _ [386, 387, 388, 389] (by decide +kernel) (by decide +kernel)
set_option maxRecDepth 20000 in
theorem ggL_law_X2_isSame_h9 : GoodIn wsL_law wsX10 := goodIn_r _ [372, 373, 374, 375, 376, 377] (by decide +kernel) (by decide +kernel)
set_option maxRecDepth 20000 in
theorem ggL_law_X2_isSame_h10 : GoodIn wsL_law wsX00 := goodIn_r _ [378, 379, 380, 381, 382, 383, 384, 385] (by decide +kernel) (by decide +kernel)
theorem ggL_law_X2_isSame_h : GoodIn wsL_law (.code yX2_isSame cX2_isSame 8 (some .boolean) :: ((wsX2_isSame_r1 ++ (wsX2_isSame_r2 ++ (wsX2_isSame_r3 ++ (wsX2_isSame_r4 ++ (wsX2_isSame_r5 ++ (wsX2_isSame_r6 ++ (wsX2_isSame_r7 ++ (wsX2_isSame_r8)))))))) ++ wsX20 ++ wsX10 ++ wsX00)) := goodIn_ca (goodIn_ca (goodIn_ca (goodIn_ca ggL_law_X2_isSame_h0 (goodIn_app ggL_law_X2_isSame_h1 (goodIn_app ggL_law_X2_isSame_h2 (goodIn_app ggL_law_X2_isSame_h3 (goodIn_app ggL_law_X2_isSame_h4 (goodIn_app ggL_law_X2_isSame_h5 (goodIn_app ggL_law_X2_isSame_h6 ggL_law_X2_isSame_h7))))))) ggL_law_X2_isSame_h8) ggL_law_X2_isSame_h9) ggL_law_X2_isSame_h10
theorem ggL_law_X2_isSame : GoodIn wsL_law wsX2_isSame := goodIn_ca ggL_law_X2_isSame_h (goodIn_sub (fun _ h => List.mem_append_right _ h) (by decide +kernel))
set_option maxRecDepth 20000 in
theorem gL_law_X2_isSame : GoodIn wsL_law (wsV RL 112 RX2 yX2_isSame wsX2_isSame) := goodIn_app (goodIn_of _ (by decide +kernel)) ggL_law_X2_isSame
theorem dL_law_0 : decode cL_law 0 = .ok (.new 24, 3) := by decide +kernel
theorem dL_law_3 : decode cL_law 3 = .ok (.dup, 1) := by decide +kernel
theorem dL_law_4 : decode cL_law 4 = .ok (.invokespecial 58, 3) := by decide +kernel
theorem dL_law_7 : decode cL_law 7 = .ok (.astore_n 1, 1) := by decide +kernel
theorem dL_law_8 : decode cL_law 8 = .ok (.aload_n 1, 1) := by decide +kernel
theorem dL_law_9 : decode cL_law 9 = .ok (.aload_n 0, 1) := by decide +kernel
theorem dL_law_10 : decode cL_law 10 = .ok (.invokestatic 59, 3) := by decide +kernel
theorem dL_law_13 : decode cL_law 13 = .ok (.astore_n 2, 1) := by decide +kernel
theorem dL_law_14 : decode cL_law 14 = .ok (.aload_n 2, 1) := by decide +kernel
theorem dL_law_15 : decode cL_law 15 = .ok (.ifnonnull 5, 3) := by decide +kernel
theorem dL_law_18 : decode cL_law 18 = .ok (.iconst 0, 1) := by decide +kernel
theorem dL_law_19 : decode cL_law 19 = .ok (.ireturn, 1) := by decide +kernel
theorem dL_law_20 : decode cL_law 20 = .ok (.iconst 0, 1) := by decide +kernel
theorem dL_law_21 : decode cL_law 21 = .ok (.istore_n 3, 1) := by decide +kernel
theorem dL_law_22 : decode cL_law 22 = .ok (.iload_n 3, 1) := by decide +kernel
theorem dL_law_23 : decode cL_law 23 = .ok (.bipush 24, 2) := by decide +kernel
theorem dL_law_25 : decode cL_law 25 = .ok (.if_icmp .ge 1221, 3) := by decide +kernel
theorem dL_law_28 : decode cL_law 28 = .ok (.aload_n 0, 1) := by decide +kernel
theorem dL_law_29 : decode cL_law 29 = .ok (.iload_n 3, 1) := by decide +kernel
theorem dL_law_30 : decode cL_law 30 = .ok (.bipush 16, 2) := by decide +kernel
theorem dL_law_32 : decode cL_law 32 = .ok (.irem, 1) := by decide +kernel
theorem dL_law_33 : decode cL_law 33 = .ok (.invokestatic 49, 3) := by decide +kernel
theorem dL_law_36 : decode cL_law 36 = .ok (.iload_n 3, 1) := by decide +kernel
theorem dL_law_37 : decode cL_law 37 = .ok (.bipush 16, 2) := by decide +kernel
theorem dL_law_39 : decode cL_law 39 = .ok (.idiv, 1) := by decide +kernel
theorem dL_law_40 : decode cL_law 40 = .ok (.iconst 4, 1) := by decide +kernel
theorem dL_law_41 : decode cL_law 41 = .ok (.imul, 1) := by decide +kernel
theorem dL_law_42 : decode cL_law 42 = .ok (.ishr, 1) := by decide +kernel
theorem dL_law_43 : decode cL_law 43 = .ok (.sipush 263, 3) := by decide +kernel
theorem dL_law_46 : decode cL_law 46 = .ok (.iload_n 3, 1) := by decide +kernel
theorem dL_law_47 : decode cL_law 47 = .ok (.imul, 1) := by decide +kernel
theorem dL_law_48 : decode cL_law 48 = .ok (.iadd, 1) := by decide +kernel
theorem dL_law_49 : decode cL_law 49 = .ok (.istore 4, 2) := by decide +kernel
theorem dL_law_51 : decode cL_law 51 = .ok (.aload_n 1, 1) := by decide +kernel
theorem dL_law_52 : decode cL_law 52 = .ok (.aload_n 2, 1) := by decide +kernel
theorem dL_law_53 : decode cL_law 53 = .ok (.iload 4, 2) := by decide +kernel
theorem dL_law_55 : decode cL_law 55 = .ok (.invokestatic 54, 3) := by decide +kernel
theorem dL_law_58 : decode cL_law 58 = .ok (.ifCond .ne 5, 3) := by decide +kernel
theorem dL_law_61 : decode cL_law 61 = .ok (.iconst 0, 1) := by decide +kernel
theorem dL_law_62 : decode cL_law 62 = .ok (.ireturn, 1) := by decide +kernel
theorem dL_law_63 : decode cL_law 63 = .ok (.aload_n 1, 1) := by decide +kernel
theorem dL_law_64 : decode cL_law 64 = .ok (.iconst 1, 1) := by decide +kernel
theorem dL_law_65 : decode cL_law 65 = .ok (.invokevirtual 63, 3) := by decide +kernel
theorem dL_law_68 : decode cL_law 68 = .ok (.istore 5, 2) := by decide +kernel
theorem dL_law_70 : decode cL_law 70 = .ok (.aload_n 1, 1) := by decide +kernel
theorem dL_law_71 : decode cL_law 71 = .ok (.invokevirtual 66, 3) := by decide +kernel
theorem dL_law_74 : decode cL_law 74 = .ok (.lstore 6, 2) := by decide +kernel
theorem dL_law_76 : decode cL_law 76 = .ok (.iconst 0, 1) := by decide +kernel
theorem dL_law_77 : decode cL_law 77 = .ok (.istore 8, 2) := by decide +kernel
theorem dL_law_79 : decode cL_law 79 = .ok (.iconst 0, 1) := by decide +kernel
theorem dL_law_80 : decode cL_law 80 = .ok (.istore 9, 2) := by decide +kernel
theorem dL_law_82 : decode cL_law 82 = .ok (.iconst 0, 1) := by decide +kernel
theorem dL_law_83 : decode cL_law 83 = .ok (.istore 10, 2) := by decide +kernel
theorem dL_law_85 : decode cL_law 85 = .ok (.iconst 0, 1) := by decide +kernel
theorem dL_law_86 : decode cL_law 86 = .ok (.istore 11, 2) := by decide +kernel
theorem dL_law_88 : decode cL_law 88 = .ok (.iconst 3, 1) := by decide +kernel
theorem dL_law_89 : decode cL_law 89 = .ok (.newarray .int, 2) := by decide +kernel
theorem dL_law_91 : decode cL_law 91 = .ok (.astore 12, 2) := by decide +kernel
theorem dL_law_93 : decode cL_law 93 = .ok (.iconst 0, 1) := by decide +kernel
theorem dL_law_94 : decode cL_law 94 = .ok (.istore 13, 2) := by decide +kernel
theorem dL_law_96 : decode cL_law 96 = .ok (.sipush 9999, 3) := by decide +kernel
theorem dL_law_99 : decode cL_law 99 = .ok (.istore 14, 2) := by decide +kernel
theorem dL_law_101 : decode cL_law 101 = .ok (.iconst 0, 1) := by decide +kernel
theorem dL_law_102 : decode cL_law 102 = .ok (.istore 15, 2) := by decide +kernel
theorem dL_law_104 : decode cL_law 104 = .ok (.iload 15, 2) := by decide +kernel
theorem dL_law_106 : decode cL_law 106 = .ok (.iload 5, 2) := by decide +kernel
theorem dL_law_108 : decode cL_law 108 = .ok (.if_icmp .ge 464, 3) := by decide +kernel
theorem dL_law_111 : decode cL_law 111 = .ok (.aload_n 1, 1) := by decide +kernel
theorem dL_law_112 : decode cL_law 112 = .ok (.iload 15, 2) := by decide +kernel
theorem dL_law_114 : decode cL_law 114 = .ok (.iconst 0, 1) := by decide +kernel
theorem dL_law_115 : decode cL_law 115 = .ok (.invokevirtual 70, 3) := by decide +kernel
theorem dL_law_118 : decode cL_law 118 = .ok (.istore 16, 2) := by decide +kernel
theorem dL_law_120 : decode cL_law 120 = .ok (.aload_n 1, 1) := by decide +kernel
theorem dL_law_121 : decode cL_law 121 = .ok (.iload 15, 2) := by decide +kernel
theorem dL_law_123 : decode cL_law 123 = .ok (.iconst 1, 1) := by decide +kernel
theorem dL_law_124 : decode cL_law 124 = .ok (.invokevirtual 70, 3) := by decide +kernel
theorem dL_law_127 : decode cL_law 127 = .ok (.istore 17, 2) := by decide +kernel
theorem dL_law_129 : decode cL_law 129 = .ok (.iload 8, 2) := by decide +kernel
theorem dL_law_131 : decode cL_law 131 = .ok (.iload 16, 2) := by decide +kernel
theorem dL_law_133 : decode cL_law 133 = .ok (.iadd, 1) := by decide +kernel
theorem dL_law_134 : decode cL_law 134 = .ok (.istore 8, 2) := by decide +kernel
theorem dL_law_136 : decode cL_law 136 = .ok (.iload 13, 2) := by decide +kernel
theorem dL_law_138 : decode cL_law 138 = .ok (.iload 16, 2) := by decide +kernel
