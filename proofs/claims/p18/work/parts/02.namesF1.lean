theorem dL_build_68 : decode cL_build 68 = .ok (.areturn, 1) := by decide +kernel
theorem dL_build_69 : decode cL_build 69 = .ok (.iinc 3 1, 3) := by decide +kernel
theorem dL_build_72 : decode cL_build 72 = .ok (.goto (-62), 3) := by decide +kernel
theorem dL_build_75 : decode cL_build 75 = .ok (.aload_n 2, 1) := by decide +kernel
theorem dL_build_76 : decode cL_build 76 = .ok (.areturn, 1) := by decide +kernel
set_option maxRecDepth 20000 in
theorem ggL_law_X1_init : GoodIn wsL_law wsX1_init := goodIn_r _ [17, 18, 19, 20, 21, 22, 23, 24, 25, 3, 26, 27, 28, 29, 30, 31, 32, 33, 34, 35, 36, 378, 379, 380, 381, 382, 383, 384, 385, 372, 373, 374, 375, 376, 377] (by decide +kernel) (by decide +kernel)
set_option maxRecDepth 20000 in
theorem gL_law_X1_init : GoodIn wsL_law (wsX1_init) := ggL_law_X1_init
set_option maxRecDepth 20000 in
theorem ggL_law_L_build : GoodIn wsL_law wsL_build := goodIn_ca (goodIn_ca (goodIn_ca (goodIn_r _ [40, 41, 42, 43, 44, 45, 46, 47, 19, 20, 48, 49, 50, 51, 39, 52, 53, 54, 55, 56, 57, 58, 59, 60, 61, 62, 63, 3, 64, 65, 66, 2, 67, 68, 69, 70, 71, 24, 72, 73, 74, 75, 76, 77, 23, 78, 79, 80, 81, 82, 83, 30, 31, 36, 84, 85, 86, 87, 88, 89, 90, 91, 92, 93, 94, 95, 96, 97, 98, 99, 100, 101, 102, 103, 104, 105, 106, 107, 108, 109, 110, 5, 6, 7, 111, 112, 113, 114, 115, 116, 117, 118, 119, 34, 120, 121, 122, 123, 124, 32, 125, 126, 127, 128, 129, 130, 131, 132, 133, 134, 135, 136, 137, 138, 139, 140, 141, 142, 143, 144, 145, 146, 147, 148, 149, 150, 151, 152, 153, 154, 155, 156, 157, 158, 159, 160, 161, 162, 163, 164, 165, 166, 167, 168, 169, 170, 171, 172, 173, 174, 175, 176, 177, 178, 9, 10, 179, 180, 181, 182, 183, 184, 185, 186, 187, 188, 189, 190, 191, 33, 192, 193, 194, 195, 35, 196, 197, 198, 199, 200, 201, 202, 203, 204, 205, 206, 207, 208, 209, 210, 211, 212, 213, 214, 215, 216, 217, 386, 387, 388, 389, 372, 373, 374, 375, 376, 377, 378, 379, 380, 381, 382, 383, 384, 385] (by decide +kernel) (by decide +kernel)) (goodIn_sub (fun _ h => List.mem_append_left _ (List.mem_append_left _ (List.mem_append_right _ h))) (by decide +kernel))) (goodIn_sub (fun _ h => List.mem_append_left _ (List.mem_append_right _ h)) (by decide +kernel))) (goodIn_sub (fun _ h => List.mem_append_right _ h) (by decide +kernel))
set_option maxRecDepth 20000 in
theorem gL_law_L_build : GoodIn wsL_law (va_wsS RL 59 yL_build wsL_build) := goodIn_app (goodIn_of _ (by decide +kernel)) ggL_law_L_build
set_option maxRecDepth 20000 in
theorem ggL_law_L_cell : GoodIn wsL_law wsL_cell := goodIn_r _ [52, 53] (by decide +kernel) (by decide +kernel)
set_option maxRecDepth 20000 in
theorem gL_law_L_cell : GoodIn wsL_law (va_wsS RL 49 yL_cell wsL_cell) := goodIn_app (goodIn_of _ (by decide +kernel)) ggL_law_L_cell
set_option maxRecDepth 20000 in
theorem ggL_law_L_act : GoodIn wsL_law wsL_act := goodIn_ca (goodIn_ca (goodIn_ca (goodIn_r _ [60, 61, 62, 63, 3, 54, 55, 39, 56, 57, 64, 65, 66, 2, 67, 68, 69, 70, 71, 24, 72, 73, 74, 75, 76, 77, 23, 78, 79, 80, 81, 82, 83, 30, 31, 36, 84, 85, 86, 43, 87, 49, 88, 89, 90, 91, 92, 93, 94, 95, 96, 97, 98, 99, 100, 101, 102, 103, 104, 105, 106, 107, 108, 109, 110, 5, 6, 7, 111, 112, 113, 114, 115, 116, 117, 118, 119, 34, 120, 121, 122, 123, 124, 32, 125, 126, 127, 128, 129, 130, 131, 132, 133, 134, 135, 136, 137, 138, 139, 140, 141, 142, 143, 144, 145, 146, 147, 148, 149, 150, 151, 152, 153, 154, 155, 156, 157, 158, 159, 160, 161, 162, 163, 164, 165, 166, 167, 168, 169, 170, 171, 172, 173, 174, 175, 176, 177, 178, 9, 10, 179, 180, 181, 182, 183, 184, 185, 186, 187, 188, 189, 190, 191, 33, 192, 193, 194, 195, 35, 196, 197, 198, 199, 200, 201, 202, 203, 204, 205, 206, 207, 208, 209, 210, 211, 212, 213, 214, 215, 216, 217, 386, 387, 388, 389, 372, 373, 374, 375, 376, 377, 378, 379, 380, 381, 382, 383, 384, 385] (by decide +kernel) (by decide +kernel)) (goodIn_sub (fun _ h => List.mem_append_left _ (List.mem_append_left _ (List.mem_append_right _ h))) (by decide +kernel))) (goodIn_sub (fun _ h => List.mem_append_left _ (List.mem_append_right _ h)) (by decide +kernel))) (goodIn_sub (fun _ h => List.mem_append_right _ h) (by decide +kernel))
set_option maxRecDepth 20000 in
theorem gL_law_L_act : GoodIn wsL_law (va_wsS RL 54 yL_act wsL_act) := goodIn_app (goodIn_of _ (by decide +kernel)) ggL_law_L_act
set_option maxRecDepth 20000 in
theorem ggL_law_X1_count : GoodIn wsL_law wsX1_count := goodIn_ca (goodIn_r _ [221, 96, 97, 115, 24, 160, 159, 222, 223, 224, 23, 225, 79, 226, 126, 127, 128, 30, 227, 228, 229, 230, 31, 110, 5, 6, 7, 231, 232, 233, 234, 178, 9, 10, 372, 373, 374, 375, 376, 377, 378, 379, 380, 381, 382, 383, 384, 385] (by decide +kernel) (by decide +kernel)) (goodIn_sub (fun _ h => List.mem_append_right _ h) (by decide +kernel))
set_option maxRecDepth 20000 in
theorem gL_law_X1_count : GoodIn wsL_law (wsV RL 63 RX1 yX1_count wsX1_count) := goodIn_app (goodIn_of _ (by decide +kernel)) ggL_law_X1_count
set_option maxRecDepth 20000 in
theorem ggL_law_X1_digest : GoodIn wsL_law wsX1_digest := goodIn_ca (goodIn_r _ [238, 239, 240, 24, 241, 219, 220, 2, 221, 96, 97, 115, 160, 159, 222, 223, 224, 23, 225, 79, 226, 126, 127, 128, 30, 227, 228, 229, 230, 31, 110, 5, 6, 7, 231, 232, 233, 234, 178, 9, 10, 242, 243, 244, 245, 92, 93, 94, 95, 98, 99, 100, 101, 102, 103, 104, 105, 246, 247, 248, 249, 250, 251, 252, 253, 32, 254, 255, 256, 257, 33, 258, 259, 260, 261, 34, 262, 263, 264, 265, 35, 266, 267, 268, 269, 36, 270, 134, 135, 136, 137, 138, 139, 140, 271, 189, 190, 191, 272, 273, 274, 275, 276, 277, 278, 279, 280, 281, 282, 283, 284, 13, 14, 171, 172, 173, 174, 175, 176, 177, 179, 372, 373, 374, 375, 376, 377, 378, 379, 380, 381, 382, 383, 384, 385] (by decide +kernel) (by decide +kernel)) (goodIn_sub (fun _ h => List.mem_append_right _ h) (by decide +kernel))
set_option maxRecDepth 20000 in
theorem gL_law_X1_digest : GoodIn wsL_law (wsV RL 66 RX1 yX1_digest wsX1_digest) := goodIn_app (goodIn_of _ (by decide +kernel)) ggL_law_X1_digest
set_option maxRecDepth 20000 in
theorem ggL_law_X1_told : GoodIn wsL_law wsX1_told := goodIn_ca (goodIn_r _ [245, 96, 97, 24, 92, 93, 94, 2, 95, 98, 99, 100, 23, 101, 79, 102, 103, 104, 105, 31, 246, 247, 248, 249, 30, 250, 251, 252, 253, 32, 254, 255, 256, 257, 33, 258, 259, 260, 261, 34, 262, 263, 264, 265, 35, 266, 267, 268, 269, 36, 270, 134, 135, 136, 137, 138, 139, 140, 271, 189, 190, 191, 372, 373, 374, 375, 376, 377, 378, 379, 380, 381, 382, 383, 384, 385] (by decide +kernel) (by decide +kernel)) (goodIn_sub (fun _ h => List.mem_append_right _ h) (by decide +kernel))
set_option maxRecDepth 20000 in
theorem gL_law_X1_told : GoodIn wsL_law (wsV RL 70 RX1 yX1_told wsX1_told) := goodIn_app (goodIn_of _ (by decide +kernel)) ggL_law_X1_told
set_option maxRecDepth 20000 in
theorem ggL_law_X1_at : GoodIn wsL_law wsX1_at := goodIn_ca (goodIn_r _ [289, 96, 97, 24, 72, 73, 2, 74, 290, 130, 131, 23, 132, 79, 30, 133, 134, 135, 136, 137, 138, 139, 140, 32, 31, 372, 373, 374, 375, 376, 377, 378, 379, 380, 381, 382, 383, 384, 385] (by decide +kernel) (by decide +kernel)) (goodIn_sub (fun _ h => List.mem_append_right _ h) (by decide +kernel))
set_option maxRecDepth 20000 in
theorem gL_law_X1_at : GoodIn wsL_law (wsV RL 81 RX1 yX1_at wsX1_at) := goodIn_app (goodIn_of _ (by decide +kernel)) ggL_law_X1_at
set_option maxRecDepth 20000 in
theorem ggL_law_X1_expected : GoodIn wsL_law wsX1_expected := goodIn_ca (goodIn_r _ [294, 24, 92, 93, 94, 2, 95, 96, 97, 98, 99, 100, 23, 101, 79, 295, 172, 173, 174, 31, 175, 176, 177, 178, 9, 6, 10, 179, 372, 373, 374, 375, 376, 377, 378, 379, 380, 381, 382, 383, 384, 385] (by decide +kernel) (by decide +kernel)) (goodIn_sub (fun _ h => List.mem_append_right _ h) (by decide +kernel))
set_option maxRecDepth 20000 in
theorem gL_law_X1_expected : GoodIn wsL_law (wsV RL 84 RX1 yX1_expected wsX1_expected) := goodIn_app (goodIn_of _ (by decide +kernel)) ggL_law_X1_expected
set_option maxRecDepth 20000 in
theorem ggL_law_X1_match : GoodIn wsL_law wsX1_match := goodIn_ca (goodIn_r _ [299, 24, 92, 93, 94, 2, 95, 96, 97, 98, 99, 100, 23, 101, 79, 300, 301, 302, 303, 30, 280, 281, 282, 283, 284, 13, 6, 14, 171, 172, 173, 174, 31, 175, 176, 177, 178, 9, 10, 179, 372, 373, 374, 375, 376, 377, 378, 379, 380, 381, 382, 383, 384, 385] (by decide +kernel) (by decide +kernel)) (goodIn_sub (fun _ h => List.mem_append_right _ h) (by decide +kernel))
set_option maxRecDepth 20000 in
theorem gL_law_X1_match : GoodIn wsL_law (wsV RL 87 RX1 yX1_match wsX1_match) := goodIn_app (goodIn_of _ (by decide +kernel)) ggL_law_X1_match
set_option maxRecDepth 20000 in
theorem ggL_law_X1_mean : GoodIn wsL_law wsX1_mean := goodIn_r _ [307, 24, 222, 223, 224, 23, 225, 79, 308, 309, 310, 311, 31, 372, 373, 374, 375, 376, 377, 378, 379, 380, 381, 382, 383, 384, 385] (by decide +kernel) (by decide +kernel)
set_option maxRecDepth 20000 in
theorem gL_law_X1_mean : GoodIn wsL_law (wsV RL 90 RX1 yX1_mean wsX1_mean) := goodIn_app (goodIn_of _ (by decide +kernel)) ggL_law_X1_mean
set_option maxRecDepth 20000 in
theorem ggL_law_J9_abs_294c1 : GoodIn wsL_law wsJ9_abs_294c1 := goodIn_r _ [315, 316, 317, 318, 319, 320, 321, 322, 323] (by decide +kernel) (by decide +kernel)
set_option maxRecDepth 20000 in
theorem gL_law_J9_abs_294c1 : GoodIn wsL_law (va_wsS RL 94 yJ9_abs_294c1 wsJ9_abs_294c1) := goodIn_app (goodIn_of _ (by decide +kernel)) ggL_law_J9_abs_294c1
set_option maxRecDepth 20000 in
theorem ggL_law_X1_next : GoodIn wsL_law wsX1_next := goodIn_r _ [275, 24, 276, 277, 278, 23, 279, 79, 30, 34, 280, 281, 282, 283, 284, 13, 6, 14, 171, 172, 173, 174, 31, 175, 176, 177, 178, 9, 10, 179, 372, 373, 374, 375, 376, 377, 378, 379, 380, 381, 382, 383, 384, 385] (by decide +kernel) (by decide +kernel)
set_option maxRecDepth 20000 in
theorem gL_law_X1_next : GoodIn wsL_law (wsV RL 100 RX1 yX1_next wsX1_next) := goodIn_app (goodIn_of _ (by decide +kernel)) ggL_law_X1_next
set_option maxRecDepth 20000 in
theorem ggL_law_X1_foresee : GoodIn wsL_law wsX1_foresee := goodIn_ca (goodIn_r _ [328, 68, 69, 25, 24, 329, 330, 331, 23, 332, 79, 30, 31, 32, 33, 34, 35, 36, 276, 277, 278, 279, 280, 281, 282, 283, 284, 13, 6, 14, 171, 172, 173, 174, 175, 176, 177, 178, 9, 10, 179, 333, 334, 335, 336, 337, 181, 182, 183, 184, 185, 186, 187, 110, 5, 7, 188, 189, 190, 191, 192, 193, 194, 195, 120, 107, 108, 109, 227, 228, 229, 230, 372, 373, 374, 375, 376, 377, 378, 379, 380, 381, 382, 383, 384, 385] (by decide +kernel) (by decide +kernel)) (goodIn_sub (fun _ h => List.mem_append_left _ (List.mem_append_left _ (List.mem_append_right _ h))) (by decide +kernel))
set_option maxRecDepth 20000 in
theorem gL_law_X1_foresee : GoodIn wsL_law (wsV RL 103 RX1 yX1_foresee wsX1_foresee) := goodIn_app (goodIn_of _ (by decide +kernel)) ggL_law_X1_foresee
set_option maxRecDepth 20000 in
theorem ggL_law_L_below : GoodIn wsL_law wsL_below := goodIn_r _ [56, 57] (by decide +kernel) (by decide +kernel)
set_option maxRecDepth 20000 in
theorem gL_law_L_below : GoodIn wsL_law (va_wsS RL 15 yL_below wsL_below) := goodIn_app (goodIn_of _ (by decide +kernel)) ggL_law_L_below
set_option maxRecDepth 20000 in
theorem ggL_law_X1_would : GoodIn wsL_law wsX1_would := goodIn_ca (goodIn_ca (goodIn_r _ [341, 96, 97, 24, 92, 93, 94, 2, 95, 98, 99, 100, 23, 101, 79, 161, 162, 163, 68, 69, 164, 165, 166, 342, 185, 186, 187, 31, 178, 9, 6, 10, 110, 5, 7, 188, 189, 190, 191, 33, 171, 172, 173, 174, 175, 176, 177, 179, 372, 373, 374, 375, 376, 377, 378, 379, 380, 381, 382, 383, 384, 385] (by decide +kernel) (by decide +kernel)) (goodIn_sub (fun _ h => List.mem_append_right _ h) (by decide +kernel))) (goodIn_sub (fun _ h => List.mem_append_left _ (List.mem_append_left _ (List.mem_append_right _ h))) (by decide +kernel))
set_option maxRecDepth 20000 in
theorem gL_law_X1_would : GoodIn wsL_law (wsV RL 106 RX1 yX1_would wsX1_would) := goodIn_app (goodIn_of _ (by decide +kernel)) ggL_law_X1_would
set_option maxRecDepth 20000 in
theorem ggL_law_X1_bout : GoodIn wsL_law wsX1_bout := goodIn_ca (goodIn_ca (goodIn_r _ [158, 24, 159, 160, 92, 93, 94, 2, 95, 96, 97, 98, 99, 100, 23, 101, 79, 161, 162, 163, 68, 69, 164, 165, 166, 167, 168, 169, 170, 171, 172, 173, 174, 31, 175, 176, 177, 178, 9, 6, 10, 179, 180, 181, 182, 183, 184, 185, 186, 187, 110, 5, 7, 188, 189, 190, 191, 33, 192, 193, 194, 195, 32, 34, 35, 120, 107, 108, 109, 36, 372, 373, 374, 375, 376, 377, 378, 379, 380, 381, 382, 383, 384, 385] (by decide +kernel) (by decide +kernel)) (goodIn_sub (fun _ h => List.mem_append_right _ h) (by decide +kernel))) (goodIn_sub (fun _ h => List.mem_append_left _ (List.mem_append_left _ (List.mem_append_right _ h))) (by decide +kernel))
set_option maxRecDepth 20000 in
theorem gL_law_X1_bout : GoodIn wsL_law (wsV RL 43 RX1 yX1_bout wsX1_bout) := goodIn_app (goodIn_of _ (by decide +kernel)) ggL_law_X1_bout
set_option maxRecDepth 20000 in
theorem ggL_law_X2_bout : GoodIn wsL_law wsX2_bout := goodIn_r _ [199, 200, 201, 202, 203, 204, 43, 205, 49, 206, 207, 208, 209, 210, 211, 212, 213, 3, 150, 85, 86, 87, 214, 215, 216, 217, 386, 387, 388, 389] (by decide +kernel) (by decide +kernel)
set_option maxRecDepth 20000 in
theorem gL_law_X2_bout : GoodIn wsL_law (wsV RL 47 RX2 yX2_bout wsX2_bout) := goodIn_app (goodIn_of _ (by decide +kernel)) ggL_law_X2_bout
set_option maxRecDepth 20000 in
theorem ggL_law_X1_end : GoodIn wsL_law wsX1_end := goodIn_r _ [114, 24, 115, 116, 117, 118, 23, 119, 79, 34, 31, 120, 107, 108, 109, 36, 110, 5, 6, 7, 121, 122, 123, 124, 32, 30, 125, 126, 127, 128, 129, 130, 131, 132, 133, 134, 135, 136, 137, 138, 139, 140, 141, 142, 143, 144, 372, 373, 374, 375, 376, 377, 378, 379, 380, 381, 382, 383, 384, 385] (by decide +kernel) (by decide +kernel)
set_option maxRecDepth 20000 in
theorem gL_law_X1_end : GoodIn wsL_law (wsV RL 38 RX1 yX1_end wsX1_end) := goodIn_app (goodIn_of _ (by decide +kernel)) ggL_law_X1_end
set_option maxRecDepth 20000 in
theorem ggL_law_X2_end : GoodIn wsL_law wsX2_end := goodIn_r _ [148, 49, 149, 150, 85, 86, 43, 87, 151, 152, 153, 154, 3, 386, 387, 388, 389] (by decide +kernel) (by decide +kernel)
set_option maxRecDepth 20000 in
theorem gL_law_X2_end : GoodIn wsL_law (wsV RL 42 RX2 yX2_end wsX2_end) := goodIn_app (goodIn_of _ (by decide +kernel)) ggL_law_X2_end
set_option maxRecDepth 20000 in
theorem ggL_law_X2_isSame : GoodIn wsL_law wsX2_isSame := goodIn_ca (goodIn_r _ [346, 49, 347, 9, 6, 10, 3, 149, 201, 200, 348, 243, 244, 2, 245, 96, 97, 24, 92, 93, 94, 95, 98, 99, 100, 23, 101, 79, 102, 103, 104, 105, 31, 246, 247, 248, 249, 30, 250, 251, 252, 253, 32, 254, 255, 256, 257, 33, 258, 259, 260, 261, 34, 262, 263, 264, 265, 35, 266, 267, 268, 269, 36, 270, 134, 135, 136, 137, 138, 139, 140, 271, 189, 190, 191, 206, 207, 208, 43, 209, 349, 297, 298, 299, 300, 301, 302, 303, 280, 281, 282, 283, 284, 13, 14, 171, 172, 173, 174, 175, 176, 177, 178, 179, 350, 351, 352, 353, 354, 355, 356, 357, 210, 211, 212, 213, 358, 292, 293, 294, 295, 359, 360, 361, 362, 363, 5, 7, 151, 152, 153, 154, 364, 287, 288, 289, 72, 73, 74, 290, 130, 131, 132, 133, 365, 219, 220, 221, 115, 160, 159, 222, 223, 224, 225, 226, 126, 127, 128, 227, 228, 229, 230, 110, 231, 232, 233, 234, 366, 273, 274, 275, 276, 277, 278, 279, 367, 368, 369, 370, 371, 305, 306, 307, 308, 309, 310, 311, 386, 387, 388, 389, 372, 373, 374, 375, 376, 377, 378, 379, 380, 381, 382, 383, 384, 385] (by decide +kernel) (by decide +kernel)) (goodIn_sub (fun _ h => List.mem_append_right _ h) (by decide +kernel))
set_option maxRecDepth 20000 in
theorem gL_law_X2_isSame : GoodIn wsL_law (wsV RL 112 RX2 yX2_isSame wsX2_isSame) := goodIn_app (goodIn_of _ (by decide +kernel)) ggL_law_X2_isSame
theorem dL_law_0 : decode cL_law 0 = .ok (.new 24, 3) := by decide +kernel
theorem dL_law_3 : decode cL_law 3 = .ok (.dup, 1) := by decide +kernel
theorem dL_law_4 : decode cL_law 4 = .ok (.invokespecial 58, 3) := by decide +kernel
theorem dL_law_7 : decode cL_law 7 = .ok (.astore_n 1, 1) := by decide +kernel
theorem dL_law_8 : decode cL_law 8 = .ok (.aload_n 1, 1) := by decide +kernel
theorem dL_law_9 : decode cL_law 9 = .ok (.aload_n 0, 1) := by decide +kernel
theorem dL_law_10 : decode cL_law 10 = .ok (.invokestatic 59, 3) := by decide +kernel
theorem dL_law_13 : decode cL_law 13 = .ok (.astore_n 2, 1) := by decide +kernel
theorem dL_law_14 : decode cL_law 14 = .ok (.aload_n 2, 1) := by decide +kernel
theorem dL_law_15 : decode cL_law 15 = .ok (.ifnonnull 5, 3) := by decide +kernel
theorem dL_law_18 : decode cL_law 18 = .ok (.iconst 0, 1) := by decide +kernel
theorem dL_law_19 : decode cL_law 19 = .ok (.ireturn, 1) := by decide +kernel
theorem dL_law_20 : decode cL_law 20 = .ok (.iconst 0, 1) := by decide +kernel
theorem dL_law_21 : decode cL_law 21 = .ok (.istore_n 3, 1) := by decide +kernel
theorem dL_law_22 : decode cL_law 22 = .ok (.iload_n 3, 1) := by decide +kernel
theorem dL_law_23 : decode cL_law 23 = .ok (.bipush 24, 2) := by decide +kernel
theorem dL_law_25 : decode cL_law 25 = .ok (.if_icmp .ge 1221, 3) := by decide +kernel
theorem dL_law_28 : decode cL_law 28 = .ok (.aload_n 0, 1) := by decide +kernel
theorem dL_law_29 : decode cL_law 29 = .ok (.iload_n 3, 1) := by decide +kernel
theorem dL_law_30 : decode cL_law 30 = .ok (.bipush 16, 2) := by decide +kernel
theorem dL_law_32 : decode cL_law 32 = .ok (.irem, 1) := by decide +kernel
theorem dL_law_33 : decode cL_law 33 = .ok (.invokestatic 49, 3) := by decide +kernel
theorem dL_law_36 : decode cL_law 36 = .ok (.iload_n 3, 1) := by decide +kernel
theorem dL_law_37 : decode cL_law 37 = .ok (.bipush 16, 2) := by decide +kernel
theorem dL_law_39 : decode cL_law 39 = .ok (.idiv, 1) := by decide +kernel
theorem dL_law_40 : decode cL_law 40 = .ok (.iconst 4, 1) := by decide +kernel
theorem dL_law_41 : decode cL_law 41 = .ok (.imul, 1) := by decide +kernel
theorem dL_law_42 : decode cL_law 42 = .ok (.ishr, 1) := by decide +kernel
theorem dL_law_43 : decode cL_law 43 = .ok (.sipush 263, 3) := by decide +kernel
theorem dL_law_46 : decode cL_law 46 = .ok (.iload_n 3, 1) := by decide +kernel
theorem dL_law_47 : decode cL_law 47 = .ok (.imul, 1) := by decide +kernel
theorem dL_law_48 : decode cL_law 48 = .ok (.iadd, 1) := by decide +kernel
theorem dL_law_49 : decode cL_law 49 = .ok (.istore 4, 2) := by decide +kernel
theorem dL_law_51 : decode cL_law 51 = .ok (.aload_n 1, 1) := by decide +kernel
theorem dL_law_52 : decode cL_law 52 = .ok (.aload_n 2, 1) := by decide +kernel
theorem dL_law_53 : decode cL_law 53 = .ok (.iload 4, 2) := by decide +kernel
theorem dL_law_55 : decode cL_law 55 = .ok (.invokestatic 54, 3) := by decide +kernel
theorem dL_law_58 : decode cL_law 58 = .ok (.ifCond .ne 5, 3) := by decide +kernel
theorem dL_law_61 : decode cL_law 61 = .ok (.iconst 0, 1) := by decide +kernel
theorem dL_law_62 : decode cL_law 62 = .ok (.ireturn, 1) := by decide +kernel
theorem dL_law_63 : decode cL_law 63 = .ok (.aload_n 1, 1) := by decide +kernel
theorem dL_law_64 : decode cL_law 64 = .ok (.iconst 1, 1) := by decide +kernel
theorem dL_law_65 : decode cL_law 65 = .ok (.invokevirtual 63, 3) := by decide +kernel
theorem dL_law_68 : decode cL_law 68 = .ok (.istore 5, 2) := by decide +kernel
theorem dL_law_70 : decode cL_law 70 = .ok (.aload_n 1, 1) := by decide +kernel
theorem dL_law_71 : decode cL_law 71 = .ok (.invokevirtual 66, 3) := by decide +kernel
theorem dL_law_74 : decode cL_law 74 = .ok (.lstore 6, 2) := by decide +kernel
theorem dL_law_76 : decode cL_law 76 = .ok (.iconst 0, 1) := by decide +kernel
theorem dL_law_77 : decode cL_law 77 = .ok (.istore 8, 2) := by decide +kernel
theorem dL_law_79 : decode cL_law 79 = .ok (.iconst 0, 1) := by decide +kernel
theorem dL_law_80 : decode cL_law 80 = .ok (.istore 9, 2) := by decide +kernel
theorem dL_law_82 : decode cL_law 82 = .ok (.iconst 0, 1) := by decide +kernel
theorem dL_law_83 : decode cL_law 83 = .ok (.istore 10, 2) := by decide +kernel
theorem dL_law_85 : decode cL_law 85 = .ok (.iconst 0, 1) := by decide +kernel
theorem dL_law_86 : decode cL_law 86 = .ok (.istore 11, 2) := by decide +kernel
theorem dL_law_88 : decode cL_law 88 = .ok (.iconst 3, 1) := by decide +kernel
theorem dL_law_89 : decode cL_law 89 = .ok (.newarray .int, 2) := by decide +kernel
theorem dL_law_91 : decode cL_law 91 = .ok (.astore 12, 2) := by decide +kernel
theorem dL_law_93 : decode cL_law 93 = .ok (.iconst 0, 1) := by decide +kernel
theorem dL_law_94 : decode cL_law 94 = .ok (.istore 13, 2) := by decide +kernel
theorem dL_law_96 : decode cL_law 96 = .ok (.sipush 9999, 3) := by decide +kernel
theorem dL_law_99 : decode cL_law 99 = .ok (.istore 14, 2) := by decide +kernel
theorem dL_law_101 : decode cL_law 101 = .ok (.iconst 0, 1) := by decide +kernel
theorem dL_law_102 : decode cL_law 102 = .ok (.istore 15, 2) := by decide +kernel
theorem dL_law_104 : decode cL_law 104 = .ok (.iload 15, 2) := by decide +kernel
theorem dL_law_106 : decode cL_law 106 = .ok (.iload 5, 2) := by decide +kernel
theorem dL_law_108 : decode cL_law 108 = .ok (.if_icmp .ge 464, 3) := by decide +kernel
theorem dL_law_111 : decode cL_law 111 = .ok (.aload_n 1, 1) := by decide +kernel
theorem dL_law_112 : decode cL_law 112 = .ok (.iload 15, 2) := by decide +kernel
theorem dL_law_114 : decode cL_law 114 = .ok (.iconst 0, 1) := by decide +kernel
theorem dL_law_115 : decode cL_law 115 = .ok (.invokevirtual 70, 3) := by decide +kernel
theorem dL_law_118 : decode cL_law 118 = .ok (.istore 16, 2) := by decide +kernel
theorem dL_law_120 : decode cL_law 120 = .ok (.aload_n 1, 1) := by decide +kernel
theorem dL_law_121 : decode cL_law 121 = .ok (.iload 15, 2) := by decide +kernel
theorem dL_law_123 : decode cL_law 123 = .ok (.iconst 1, 1) := by decide +kernel
theorem dL_law_124 : decode cL_law 124 = .ok (.invokevirtual 70, 3) := by decide +kernel
theorem dL_law_127 : decode cL_law 127 = .ok (.istore 17, 2) := by decide +kernel
theorem dL_law_129 : decode cL_law 129 = .ok (.iload 8, 2) := by decide +kernel
theorem dL_law_131 : decode cL_law 131 = .ok (.iload 16, 2) := by decide +kernel
theorem dL_law_133 : decode cL_law 133 = .ok (.iadd, 1) := by decide +kernel
theorem dL_law_134 : decode cL_law 134 = .ok (.istore 8, 2) := by decide +kernel
theorem dL_law_136 : decode cL_law 136 = .ok (.iload 13, 2) := by decide +kernel
theorem dL_law_138 : decode cL_law 138 = .ok (.iload 16, 2) := by decide +kernel
theorem dL_law_140 : decode cL_law 140 = .ok (.invokestatic 73, 3) := by decide +kernel
theorem dL_law_143 : decode cL_law 143 = .ok (.istore 13, 2) := by decide +kernel
theorem dL_law_145 : decode cL_law 145 = .ok (.iload 14, 2) := by decide +kernel
theorem dL_law_147 : decode cL_law 147 = .ok (.iload 16, 2) := by decide +kernel
theorem dL_law_149 : decode cL_law 149 = .ok (.invokestatic 78, 3) := by decide +kernel
theorem dL_law_152 : decode cL_law 152 = .ok (.istore 14, 2) := by decide +kernel
theorem dL_law_154 : decode cL_law 154 = .ok (.iload 11, 2) := by decide +kernel
theorem dL_law_156 : decode cL_law 156 = .ok (.aload_n 1, 1) := by decide +kernel
theorem dL_law_157 : decode cL_law 157 = .ok (.iload 15, 2) := by decide +kernel
theorem dL_law_159 : decode cL_law 159 = .ok (.iconst 2, 1) := by decide +kernel
theorem dL_law_160 : decode cL_law 160 = .ok (.invokevirtual 70, 3) := by decide +kernel
theorem dL_law_163 : decode cL_law 163 = .ok (.iadd, 1) := by decide +kernel
theorem dL_law_164 : decode cL_law 164 = .ok (.istore 11, 2) := by decide +kernel
theorem dL_law_166 : decode cL_law 166 = .ok (.iload 9, 2) := by decide +kernel
theorem dL_law_168 : decode cL_law 168 = .ok (.aload_n 1, 1) := by decide +kernel
theorem dL_law_169 : decode cL_law 169 = .ok (.iload 15, 2) := by decide +kernel
theorem dL_law_171 : decode cL_law 171 = .ok (.iconst 3, 1) := by decide +kernel
theorem dL_law_172 : decode cL_law 172 = .ok (.invokevirtual 70, 3) := by decide +kernel
theorem dL_law_175 : decode cL_law 175 = .ok (.iadd, 1) := by decide +kernel
theorem dL_law_176 : decode cL_law 176 = .ok (.istore 9, 2) := by decide +kernel
theorem dL_law_178 : decode cL_law 178 = .ok (.iload 10, 2) := by decide +kernel
theorem dL_law_180 : decode cL_law 180 = .ok (.aload_n 1, 1) := by decide +kernel
theorem dL_law_181 : decode cL_law 181 = .ok (.iload 15, 2) := by decide +kernel
theorem dL_law_183 : decode cL_law 183 = .ok (.iconst 4, 1) := by decide +kernel
theorem dL_law_184 : decode cL_law 184 = .ok (.invokevirtual 70, 3) := by decide +kernel
theorem dL_law_187 : decode cL_law 187 = .ok (.iadd, 1) := by decide +kernel
theorem dL_law_188 : decode cL_law 188 = .ok (.istore 10, 2) := by decide +kernel
theorem dL_law_190 : decode cL_law 190 = .ok (.aload 12, 2) := by decide +kernel
theorem dL_law_192 : decode cL_law 192 = .ok (.iload 17, 2) := by decide +kernel
theorem dL_law_194 : decode cL_law 194 = .ok (.dup2, 1) := by decide +kernel
theorem dL_law_195 : decode cL_law 195 = .ok (.iaload, 1) := by decide +kernel
theorem dL_law_196 : decode cL_law 196 = .ok (.iconst 1, 1) := by decide +kernel
theorem dL_law_197 : decode cL_law 197 = .ok (.aload_n 1, 1) := by decide +kernel
theorem dL_law_198 : decode cL_law 198 = .ok (.iload 15, 2) := by decide +kernel
theorem dL_law_200 : decode cL_law 200 = .ok (.bipush 7, 2) := by decide +kernel
theorem dL_law_202 : decode cL_law 202 = .ok (.invokevirtual 70, 3) := by decide +kernel
theorem dL_law_205 : decode cL_law 205 = .ok (.ishl, 1) := by decide +kernel
theorem dL_law_206 : decode cL_law 206 = .ok (.ior, 1) := by decide +kernel
theorem dL_law_207 : decode cL_law 207 = .ok (.iastore, 1) := by decide +kernel
theorem dL_law_208 : decode cL_law 208 = .ok (.iload 16, 2) := by decide +kernel
theorem dL_law_210 : decode cL_law 210 = .ok (.bipush 100, 2) := by decide +kernel
theorem dL_law_212 : decode cL_law 212 = .ok (.if_icmp .lt 116, 3) := by decide +kernel
theorem dL_law_215 : decode cL_law 215 = .ok (.iload 16, 2) := by decide +kernel
theorem dL_law_217 : decode cL_law 217 = .ok (.sipush 3000, 3) := by decide +kernel
theorem dL_law_220 : decode cL_law 220 = .ok (.if_icmp .gt 108, 3) := by decide +kernel
theorem dL_law_223 : decode cL_law 223 = .ok (.aload_n 1, 1) := by decide +kernel
theorem dL_law_224 : decode cL_law 224 = .ok (.iload 15, 2) := by decide +kernel
theorem dL_law_226 : decode cL_law 226 = .ok (.bipush 6, 2) := by decide +kernel
theorem dL_law_228 : decode cL_law 228 = .ok (.invokevirtual 70, 3) := by decide +kernel
theorem dL_law_231 : decode cL_law 231 = .ok (.sipush 1000, 3) := by decide +kernel
theorem dL_law_234 : decode cL_law 234 = .ok (.iload 16, 2) := by decide +kernel
theorem dL_law_236 : decode cL_law 236 = .ok (.invokestatic 73, 3) := by decide +kernel
theorem dL_law_239 : decode cL_law 239 = .ok (.if_icmp .lt 89, 3) := by decide +kernel
theorem dL_law_242 : decode cL_law 242 = .ok (.aload_n 1, 1) := by decide +kernel
theorem dL_law_243 : decode cL_law 243 = .ok (.iload 15, 2) := by decide +kernel
theorem dL_law_245 : decode cL_law 245 = .ok (.iconst 4, 1) := by decide +kernel
theorem dL_law_246 : decode cL_law 246 = .ok (.invokevirtual 70, 3) := by decide +kernel
theorem dL_law_249 : decode cL_law 249 = .ok (.aload_n 1, 1) := by decide +kernel
theorem dL_law_250 : decode cL_law 250 = .ok (.iload 15, 2) := by decide +kernel
theorem dL_law_252 : decode cL_law 252 = .ok (.iconst 3, 1) := by decide +kernel
theorem dL_law_253 : decode cL_law 253 = .ok (.invokevirtual 70, 3) := by decide +kernel
theorem dL_law_256 : decode cL_law 256 = .ok (.if_icmp .gt 72, 3) := by decide +kernel
theorem dL_law_259 : decode cL_law 259 = .ok (.aload_n 1, 1) := by decide +kernel
theorem dL_law_260 : decode cL_law 260 = .ok (.iload 15, 2) := by decide +kernel
theorem dL_law_262 : decode cL_law 262 = .ok (.iconst 5, 1) := by decide +kernel
theorem dL_law_263 : decode cL_law 263 = .ok (.invokevirtual 70, 3) := by decide +kernel
theorem dL_law_266 : decode cL_law 266 = .ok (.aload_n 1, 1) := by decide +kernel
theorem dL_law_267 : decode cL_law 267 = .ok (.iload 15, 2) := by decide +kernel
theorem dL_law_269 : decode cL_law 269 = .ok (.iconst 3, 1) := by decide +kernel
theorem dL_law_270 : decode cL_law 270 = .ok (.invokevirtual 70, 3) := by decide +kernel
theorem dL_law_273 : decode cL_law 273 = .ok (.if_icmp .gt 55, 3) := by decide +kernel
theorem dL_law_276 : decode cL_law 276 = .ok (.aload_n 1, 1) := by decide +kernel
theorem dL_law_277 : decode cL_law 277 = .ok (.iload 15, 2) := by decide +kernel
theorem dL_law_279 : decode cL_law 279 = .ok (.iconst 2, 1) := by decide +kernel
theorem dL_law_280 : decode cL_law 280 = .ok (.invokevirtual 70, 3) := by decide +kernel
theorem dL_law_283 : decode cL_law 283 = .ok (.iconst 2, 1) := by decide +kernel
theorem dL_law_284 : decode cL_law 284 = .ok (.aload_n 1, 1) := by decide +kernel
theorem dL_law_285 : decode cL_law 285 = .ok (.iload 15, 2) := by decide +kernel
theorem dL_law_287 : decode cL_law 287 = .ok (.iconst 4, 1) := by decide +kernel
theorem dL_law_288 : decode cL_law 288 = .ok (.invokevirtual 70, 3) := by decide +kernel
theorem dL_law_291 : decode cL_law 291 = .ok (.imul, 1) := by decide +kernel
