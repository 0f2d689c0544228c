theorem dL_act_17 : decode cL_act 17 = .ok (.iload_n 3, 1) := by decide +kernel
theorem dL_act_18 : decode cL_act 18 = .ok (.invokestatic 15, 3) := by decide +kernel
theorem dL_act_21 : decode cL_act 21 = .ok (.istore 4, 2) := by decide +kernel
theorem dL_act_23 : decode cL_act 23 = .ok (.iload_n 3, 1) := by decide +kernel
theorem dL_act_24 : decode cL_act 24 = .ok (.ifCond .ne 7, 3) := by decide +kernel
theorem dL_act_27 : decode cL_act 27 = .ok (.iconst 0, 1) := by decide +kernel
theorem dL_act_28 : decode cL_act 28 = .ok (.goto 11, 3) := by decide +kernel
theorem dL_act_31 : decode cL_act 31 = .ok (.iload_n 2, 1) := by decide +kernel
theorem dL_act_32 : decode cL_act 32 = .ok (.bipush 6, 2) := by decide +kernel
theorem dL_act_34 : decode cL_act 34 = .ok (.ishr, 1) := by decide +kernel
theorem dL_act_35 : decode cL_act 35 = .ok (.iload_n 3, 1) := by decide +kernel
theorem dL_act_36 : decode cL_act 36 = .ok (.invokestatic 15, 3) := by decide +kernel
theorem dL_act_39 : decode cL_act 39 = .ok (.istore 5, 2) := by decide +kernel
theorem dL_act_41 : decode cL_act 41 = .ok (.iload_n 2, 1) := by decide +kernel
theorem dL_act_42 : decode cL_act 42 = .ok (.bipush 14, 2) := by decide +kernel
theorem dL_act_44 : decode cL_act 44 = .ok (.invokestatic 15, 3) := by decide +kernel
theorem dL_act_47 : decode cL_act 47 = .ok (.tableswitch 284 0 3 #[29, 29, 167, 255], 29) := by decide +kernel
theorem dL_act_76 : decode cL_act 76 = .ok (.iload_n 2, 1) := by decide +kernel
theorem dL_act_77 : decode cL_act 77 = .ok (.iconst 5, 1) := by decide +kernel
theorem dL_act_78 : decode cL_act 78 = .ok (.ishr, 1) := by decide +kernel
theorem dL_act_79 : decode cL_act 79 = .ok (.iconst 3, 1) := by decide +kernel
theorem dL_act_80 : decode cL_act 80 = .ok (.invokestatic 15, 3) := by decide +kernel
theorem dL_act_83 : decode cL_act 83 = .ok (.istore 6, 2) := by decide +kernel
theorem dL_act_85 : decode cL_act 85 = .ok (.iload_n 3, 1) := by decide +kernel
theorem dL_act_86 : decode cL_act 86 = .ok (.bipush 12, 2) := by decide +kernel
theorem dL_act_88 : decode cL_act 88 = .ok (.if_icmp .ge 86, 3) := by decide +kernel
theorem dL_act_91 : decode cL_act 91 = .ok (.iload_n 3, 1) := by decide +kernel
theorem dL_act_92 : decode cL_act 92 = .ok (.iconst 1, 1) := by decide +kernel
theorem dL_act_93 : decode cL_act 93 = .ok (.iadd, 1) := by decide +kernel
theorem dL_act_94 : decode cL_act 94 = .ok (.anewarray 21, 3) := by decide +kernel
theorem dL_act_97 : decode cL_act 97 = .ok (.astore 7, 2) := by decide +kernel
theorem dL_act_99 : decode cL_act 99 = .ok (.iconst 0, 1) := by decide +kernel
theorem dL_act_100 : decode cL_act 100 = .ok (.istore 8, 2) := by decide +kernel
theorem dL_act_102 : decode cL_act 102 = .ok (.iload 8, 2) := by decide +kernel
theorem dL_act_104 : decode cL_act 104 = .ok (.iload_n 3, 1) := by decide +kernel
theorem dL_act_105 : decode cL_act 105 = .ok (.if_icmp .ge 21, 3) := by decide +kernel
theorem dL_act_108 : decode cL_act 108 = .ok (.aload 7, 2) := by decide +kernel
theorem dL_act_110 : decode cL_act 110 = .ok (.iload 8, 2) := by decide +kernel
theorem dL_act_112 : decode cL_act 112 = .ok (.aload_n 1, 1) := by decide +kernel
theorem dL_act_113 : decode cL_act 113 = .ok (.getfield 9, 3) := by decide +kernel
theorem dL_act_116 : decode cL_act 116 = .ok (.iload 8, 2) := by decide +kernel
theorem dL_act_118 : decode cL_act 118 = .ok (.aaload, 1) := by decide +kernel
theorem dL_act_119 : decode cL_act 119 = .ok (.aastore, 1) := by decide +kernel
theorem dL_act_120 : decode cL_act 120 = .ok (.iinc 8 1, 3) := by decide +kernel
theorem dL_act_123 : decode cL_act 123 = .ok (.goto (-21), 3) := by decide +kernel
theorem dL_act_126 : decode cL_act 126 = .ok (.aload 7, 2) := by decide +kernel
theorem dL_act_128 : decode cL_act 128 = .ok (.iload_n 3, 1) := by decide +kernel
theorem dL_act_129 : decode cL_act 129 = .ok (.bipush 7, 2) := by decide +kernel
theorem dL_act_131 : decode cL_act 131 = .ok (.newarray .int, 2) := by decide +kernel
theorem dL_act_133 : decode cL_act 133 = .ok (.dup, 1) := by decide +kernel
theorem dL_act_134 : decode cL_act 134 = .ok (.iconst 0, 1) := by decide +kernel
theorem dL_act_135 : decode cL_act 135 = .ok (.sipush 1000, 3) := by decide +kernel
theorem dL_act_138 : decode cL_act 138 = .ok (.iastore, 1) := by decide +kernel
theorem dL_act_139 : decode cL_act 139 = .ok (.dup, 1) := by decide +kernel
theorem dL_act_140 : decode cL_act 140 = .ok (.iconst 1, 1) := by decide +kernel
theorem dL_act_141 : decode cL_act 141 = .ok (.iload 6, 2) := by decide +kernel
theorem dL_act_143 : decode cL_act 143 = .ok (.iastore, 1) := by decide +kernel
theorem dL_act_144 : decode cL_act 144 = .ok (.dup, 1) := by decide +kernel
theorem dL_act_145 : decode cL_act 145 = .ok (.iconst 2, 1) := by decide +kernel
theorem dL_act_146 : decode cL_act 146 = .ok (.iconst 0, 1) := by decide +kernel
theorem dL_act_147 : decode cL_act 147 = .ok (.iastore, 1) := by decide +kernel
theorem dL_act_148 : decode cL_act 148 = .ok (.dup, 1) := by decide +kernel
theorem dL_act_149 : decode cL_act 149 = .ok (.iconst 3, 1) := by decide +kernel
theorem dL_act_150 : decode cL_act 150 = .ok (.iconst 0, 1) := by decide +kernel
theorem dL_act_151 : decode cL_act 151 = .ok (.iastore, 1) := by decide +kernel
theorem dL_act_152 : decode cL_act 152 = .ok (.dup, 1) := by decide +kernel
theorem dL_act_153 : decode cL_act 153 = .ok (.iconst 4, 1) := by decide +kernel
theorem dL_act_154 : decode cL_act 154 = .ok (.iconst 0, 1) := by decide +kernel
theorem dL_act_155 : decode cL_act 155 = .ok (.iastore, 1) := by decide +kernel
theorem dL_act_156 : decode cL_act 156 = .ok (.dup, 1) := by decide +kernel
theorem dL_act_157 : decode cL_act 157 = .ok (.iconst 5, 1) := by decide +kernel
theorem dL_act_158 : decode cL_act 158 = .ok (.iconst 0, 1) := by decide +kernel
theorem dL_act_159 : decode cL_act 159 = .ok (.iastore, 1) := by decide +kernel
theorem dL_act_160 : decode cL_act 160 = .ok (.dup, 1) := by decide +kernel
theorem dL_act_161 : decode cL_act 161 = .ok (.bipush 6, 2) := by decide +kernel
theorem dL_act_163 : decode cL_act 163 = .ok (.sipush 1000, 3) := by decide +kernel
theorem dL_act_166 : decode cL_act 166 = .ok (.iastore, 1) := by decide +kernel
theorem dL_act_167 : decode cL_act 167 = .ok (.aastore, 1) := by decide +kernel
theorem dL_act_168 : decode cL_act 168 = .ok (.aload_n 1, 1) := by decide +kernel
theorem dL_act_169 : decode cL_act 169 = .ok (.aload 7, 2) := by decide +kernel
theorem dL_act_171 : decode cL_act 171 = .ok (.putfield 9, 3) := by decide +kernel
theorem dL_act_174 : decode cL_act 174 = .ok (.aload_n 0, 1) := by decide +kernel
theorem dL_act_175 : decode cL_act 175 = .ok (.iload 6, 2) := by decide +kernel
theorem dL_act_177 : decode cL_act 177 = .ok (.invokevirtual 23, 3) := by decide +kernel
theorem dL_act_180 : decode cL_act 180 = .ok (.istore 7, 2) := by decide +kernel
theorem dL_act_182 : decode cL_act 182 = .ok (.iload_n 3, 1) := by decide +kernel
theorem dL_act_183 : decode cL_act 183 = .ok (.bipush 12, 2) := by decide +kernel
theorem dL_act_185 : decode cL_act 185 = .ok (.if_icmp .ge 13, 3) := by decide +kernel
theorem dL_act_188 : decode cL_act 188 = .ok (.iload 7, 2) := by decide +kernel
theorem dL_act_190 : decode cL_act 190 = .ok (.iload_n 3, 1) := by decide +kernel
theorem dL_act_191 : decode cL_act 191 = .ok (.if_icmp .ne 7, 3) := by decide +kernel
theorem dL_act_194 : decode cL_act 194 = .ok (.iconst 1, 1) := by decide +kernel
theorem dL_act_195 : decode cL_act 195 = .ok (.goto 4, 3) := by decide +kernel
theorem dL_act_198 : decode cL_act 198 = .ok (.iconst 0, 1) := by decide +kernel
theorem dL_act_199 : decode cL_act 199 = .ok (.ireturn, 1) := by decide +kernel
theorem dL_act_200 : decode cL_act 200 = .ok (.astore 7, 2) := by decide +kernel
theorem dL_act_202 : decode cL_act 202 = .ok (.iload_n 3, 1) := by decide +kernel
theorem dL_act_203 : decode cL_act 203 = .ok (.bipush 12, 2) := by decide +kernel
theorem dL_act_205 : decode cL_act 205 = .ok (.if_icmp .ne 7, 3) := by decide +kernel
theorem dL_act_208 : decode cL_act 208 = .ok (.iconst 1, 1) := by decide +kernel
theorem dL_act_209 : decode cL_act 209 = .ok (.goto 4, 3) := by decide +kernel
theorem dL_act_212 : decode cL_act 212 = .ok (.iconst 0, 1) := by decide +kernel
theorem dL_act_213 : decode cL_act 213 = .ok (.ireturn, 1) := by decide +kernel
theorem dL_act_214 : decode cL_act 214 = .ok (.iload_n 3, 1) := by decide +kernel
theorem dL_act_215 : decode cL_act 215 = .ok (.ifCond .ne 5, 3) := by decide +kernel
theorem dL_act_218 : decode cL_act 218 = .ok (.iconst 1, 1) := by decide +kernel
theorem dL_act_219 : decode cL_act 219 = .ok (.ireturn, 1) := by decide +kernel
theorem dL_act_220 : decode cL_act 220 = .ok (.iload_n 2, 1) := by decide +kernel
theorem dL_act_221 : decode cL_act 221 = .ok (.bipush 9, 2) := by decide +kernel
theorem dL_act_223 : decode cL_act 223 = .ok (.ishr, 1) := by decide +kernel
theorem dL_act_224 : decode cL_act 224 = .ok (.iconst 3, 1) := by decide +kernel
theorem dL_act_225 : decode cL_act 225 = .ok (.invokestatic 15, 3) := by decide +kernel
theorem dL_act_228 : decode cL_act 228 = .ok (.ifCond .ne 18, 3) := by decide +kernel
theorem dL_act_231 : decode cL_act 231 = .ok (.bipush 100, 2) := by decide +kernel
theorem dL_act_233 : decode cL_act 233 = .ok (.iload_n 2, 1) := by decide +kernel
theorem dL_act_234 : decode cL_act 234 = .ok (.iconst 3, 1) := by decide +kernel
theorem dL_act_235 : decode cL_act 235 = .ok (.ishr, 1) := by decide +kernel
theorem dL_act_236 : decode cL_act 236 = .ok (.sipush 2901, 3) := by decide +kernel
theorem dL_act_239 : decode cL_act 239 = .ok (.invokestatic 15, 3) := by decide +kernel
theorem dL_act_242 : decode cL_act 242 = .ok (.iadd, 1) := by decide +kernel
theorem dL_act_243 : decode cL_act 243 = .ok (.goto 16, 3) := by decide +kernel
theorem dL_act_246 : decode cL_act 246 = .ok (.sipush 800, 3) := by decide +kernel
theorem dL_act_249 : decode cL_act 249 = .ok (.iload_n 2, 1) := by decide +kernel
theorem dL_act_250 : decode cL_act 250 = .ok (.iconst 3, 1) := by decide +kernel
theorem dL_act_251 : decode cL_act 251 = .ok (.ishr, 1) := by decide +kernel
theorem dL_act_252 : decode cL_act 252 = .ok (.sipush 500, 3) := by decide +kernel
theorem dL_act_255 : decode cL_act 255 = .ok (.invokestatic 15, 3) := by decide +kernel
theorem dL_act_258 : decode cL_act 258 = .ok (.iadd, 1) := by decide +kernel
theorem dL_act_259 : decode cL_act 259 = .ok (.istore 6, 2) := by decide +kernel
theorem dL_act_261 : decode cL_act 261 = .ok (.aload_n 1, 1) := by decide +kernel
theorem dL_act_262 : decode cL_act 262 = .ok (.getfield 9, 3) := by decide +kernel
theorem dL_act_265 : decode cL_act 265 = .ok (.iload 4, 2) := by decide +kernel
theorem dL_act_267 : decode cL_act 267 = .ok (.aaload, 1) := by decide +kernel
theorem dL_act_268 : decode cL_act 268 = .ok (.iconst 0, 1) := by decide +kernel
theorem dL_act_269 : decode cL_act 269 = .ok (.iaload, 1) := by decide +kernel
theorem dL_act_270 : decode cL_act 270 = .ok (.istore 7, 2) := by decide +kernel
theorem dL_act_272 : decode cL_act 272 = .ok (.aload_n 1, 1) := by decide +kernel
theorem dL_act_273 : decode cL_act 273 = .ok (.iload 4, 2) := by decide +kernel
theorem dL_act_275 : decode cL_act 275 = .ok (.iload 6, 2) := by decide +kernel
theorem dL_act_277 : decode cL_act 277 = .ok (.iload 7, 2) := by decide +kernel
theorem dL_act_279 : decode cL_act 279 = .ok (.isub, 1) := by decide +kernel
theorem dL_act_280 : decode cL_act 280 = .ok (.invokevirtual 31, 3) := by decide +kernel
theorem dL_act_283 : decode cL_act 283 = .ok (.aload_n 0, 1) := by decide +kernel
theorem dL_act_284 : decode cL_act 284 = .ok (.iload 4, 2) := by decide +kernel
theorem dL_act_286 : decode cL_act 286 = .ok (.iload 6, 2) := by decide +kernel
theorem dL_act_288 : decode cL_act 288 = .ok (.invokevirtual 35, 3) := by decide +kernel
theorem dL_act_291 : decode cL_act 291 = .ok (.iload 7, 2) := by decide +kernel
theorem dL_act_293 : decode cL_act 293 = .ok (.if_icmp .ne 7, 3) := by decide +kernel
theorem dL_act_296 : decode cL_act 296 = .ok (.iconst 1, 1) := by decide +kernel
theorem dL_act_297 : decode cL_act 297 = .ok (.goto 4, 3) := by decide +kernel
theorem dL_act_300 : decode cL_act 300 = .ok (.iconst 0, 1) := by decide +kernel
theorem dL_act_301 : decode cL_act 301 = .ok (.ireturn, 1) := by decide +kernel
theorem dL_act_302 : decode cL_act 302 = .ok (.iload_n 2, 1) := by decide +kernel
theorem dL_act_303 : decode cL_act 303 = .ok (.iconst 4, 1) := by decide +kernel
theorem dL_act_304 : decode cL_act 304 = .ok (.ishr, 1) := by decide +kernel
theorem dL_act_305 : decode cL_act 305 = .ok (.iconst 3, 1) := by decide +kernel
theorem dL_act_306 : decode cL_act 306 = .ok (.invokestatic 15, 3) := by decide +kernel
theorem dL_act_309 : decode cL_act 309 = .ok (.ifCond .le 5, 3) := by decide +kernel
theorem dL_act_312 : decode cL_act 312 = .ok (.iconst 1, 1) := by decide +kernel
theorem dL_act_313 : decode cL_act 313 = .ok (.ireturn, 1) := by decide +kernel
theorem dL_act_314 : decode cL_act 314 = .ok (.aload_n 0, 1) := by decide +kernel
theorem dL_act_315 : decode cL_act 315 = .ok (.invokevirtual 38, 3) := by decide +kernel
theorem dL_act_318 : decode cL_act 318 = .ok (.aload_n 1, 1) := by decide +kernel
theorem dL_act_319 : decode cL_act 319 = .ok (.invokevirtual 42, 3) := by decide +kernel
theorem dL_act_322 : decode cL_act 322 = .ok (.if_icmp .ne 7, 3) := by decide +kernel
theorem dL_act_325 : decode cL_act 325 = .ok (.iconst 1, 1) := by decide +kernel
theorem dL_act_326 : decode cL_act 326 = .ok (.goto 4, 3) := by decide +kernel
theorem dL_act_329 : decode cL_act 329 = .ok (.iconst 0, 1) := by decide +kernel
theorem dL_act_330 : decode cL_act 330 = .ok (.ireturn, 1) := by decide +kernel
theorem dL_act_331 : decode cL_act 331 = .ok (.iload_n 3, 1) := by decide +kernel
theorem dL_act_332 : decode cL_act 332 = .ok (.ifCond .eq 10, 3) := by decide +kernel
theorem dL_act_335 : decode cL_act 335 = .ok (.iload 4, 2) := by decide +kernel
theorem dL_act_337 : decode cL_act 337 = .ok (.iload 5, 2) := by decide +kernel
theorem dL_act_339 : decode cL_act 339 = .ok (.if_icmp .ne 5, 3) := by decide +kernel
theorem dL_act_342 : decode cL_act 342 = .ok (.iconst 1, 1) := by decide +kernel
theorem dL_act_343 : decode cL_act 343 = .ok (.ireturn, 1) := by decide +kernel
theorem dL_act_344 : decode cL_act 344 = .ok (.iload_n 2, 1) := by decide +kernel
theorem dL_act_345 : decode cL_act 345 = .ok (.bipush 9, 2) := by decide +kernel
theorem dL_act_347 : decode cL_act 347 = .ok (.ishr, 1) := by decide +kernel
theorem dL_act_348 : decode cL_act 348 = .ok (.iconst 3, 1) := by decide +kernel
theorem dL_act_349 : decode cL_act 349 = .ok (.invokestatic 15, 3) := by decide +kernel
theorem dL_act_352 : decode cL_act 352 = .ok (.istore 6, 2) := by decide +kernel
theorem dL_act_354 : decode cL_act 354 = .ok (.aload_n 0, 1) := by decide +kernel
theorem dL_act_355 : decode cL_act 355 = .ok (.iload 4, 2) := by decide +kernel
theorem dL_act_357 : decode cL_act 357 = .ok (.iload 5, 2) := by decide +kernel
theorem dL_act_359 : decode cL_act 359 = .ok (.iload 6, 2) := by decide +kernel
theorem dL_act_361 : decode cL_act 361 = .ok (.invokevirtual 43, 3) := by decide +kernel
theorem dL_act_364 : decode cL_act 364 = .ok (.aload_n 1, 1) := by decide +kernel
theorem dL_act_365 : decode cL_act 365 = .ok (.iload 4, 2) := by decide +kernel
theorem dL_act_367 : decode cL_act 367 = .ok (.iload 5, 2) := by decide +kernel
theorem dL_act_369 : decode cL_act 369 = .ok (.iload 6, 2) := by decide +kernel
theorem dL_act_371 : decode cL_act 371 = .ok (.invokevirtual 47, 3) := by decide +kernel
theorem dL_act_374 : decode cL_act 374 = .ok (.if_icmp .ne 7, 3) := by decide +kernel
theorem dL_act_377 : decode cL_act 377 = .ok (.iconst 1, 1) := by decide +kernel
theorem dL_act_378 : decode cL_act 378 = .ok (.goto 4, 3) := by decide +kernel
theorem dL_act_381 : decode cL_act 381 = .ok (.iconst 0, 1) := by decide +kernel
theorem dL_act_382 : decode cL_act 382 = .ok (.ireturn, 1) := by decide +kernel
set_option maxRecDepth 20000 in
theorem ggL_build_X2_init : GoodIn wsL_build wsX2_init := goodIn_r _ [6, 7, 8, 9, 10, 11, 197, 198, 199, 200] (by decide +kernel) (by decide +kernel)
set_option maxRecDepth 20000 in
theorem gL_build_X2_init_n48 : GoodIn wsL_build (wsX2_init) := ggL_build_X2_init
set_option maxRecDepth 20000 in
theorem ggL_build_L_cell : GoodIn wsL_build wsL_cell := goodIn_r _ [15, 16] (by decide +kernel) (by decide +kernel)
set_option maxRecDepth 20000 in
theorem gL_build_L_cell : GoodIn wsL_build (va_wsS RL 49 yL_cell wsL_cell) := goodIn_app (goodIn_of _ (by decide +kernel)) ggL_build_L_cell
set_option maxRecDepth 20000 in
theorem ggL_build_L_below : GoodIn wsL_build wsL_below := goodIn_r _ [19, 20] (by decide +kernel) (by decide +kernel)
set_option maxRecDepth 20000 in
theorem gL_build_L_below : GoodIn wsL_build (va_wsS RL 15 yL_below wsL_below) := goodIn_app (goodIn_of _ (by decide +kernel)) ggL_build_L_below
set_option maxRecDepth 20000 in
theorem ggL_build_L_act : GoodIn wsL_build wsL_act := goodIn_ca (goodIn_ca (goodIn_ca (goodIn_r _ [23, 24, 25, 26, 27, 17, 18, 14, 19, 20, 28, 29, 30, 31, 32, 33, 34, 35, 36, 37, 38, 39, 40, 41, 42, 43, 44, 45, 46, 47, 48, 49, 50, 51, 52, 53, 54, 55, 56, 3, 57, 11, 58, 59, 60, 61, 62, 63, 64, 65, 66, 67, 68, 69, 70, 71, 72, 73, 74, 75, 76, 77, 78, 79, 80, 81, 82, 83, 84, 85, 86, 87, 88, 89, 90, 91, 92, 93, 94, 95, 96, 97, 98, 99, 100, 101, 102, 103, 104, 105, 106, 107, 108, 109, 110, 111, 112, 113, 114, 115, 116, 117, 118, 119, 120, 121, 122, 123, 124, 125, 126, 127, 128, 129, 130, 131, 132, 133, 134, 135, 136, 137, 138, 139, 140, 141, 142, 143, 144, 145, 146, 147, 148, 149, 150, 151, 152, 153, 154, 155, 156, 157, 158, 159, 160, 161, 162, 163, 164, 165, 166, 167, 168, 169, 170, 171, 172, 173, 174, 175, 176, 177, 178, 179, 180, 181, 182, 183, 184, 185, 186, 187, 188, 189, 190, 191, 192, 193, 194, 195, 196, 197, 198, 199, 200, 201, 202, 203, 204, 205, 206, 207, 208, 209, 210, 211, 212, 213, 214] (by decide +kernel) (by decide +kernel)) (goodIn_sub (fun _ h => List.mem_cons_of_mem _ (List.mem_append_left _ (List.mem_append_left _ (List.mem_append_right _ h)))) (by decide +kernel))) (goodIn_sub (fun _ h => List.mem_cons_of_mem _ (List.mem_append_left _ (List.mem_append_right _ h))) (by decide +kernel))) (goodIn_sub (fun _ h => List.mem_cons_of_mem _ (List.mem_append_right _ h)) (by decide +kernel))
set_option maxRecDepth 20000 in
theorem gL_build_L_act : GoodIn wsL_build (va_wsS RL 54 yL_act wsL_act) := goodIn_app (goodIn_of _ (by decide +kernel)) ggL_build_L_act
theorem dL_build_0 : decode cL_build 0 = .ok (.new 10, 3) := by decide +kernel
theorem dL_build_3 : decode cL_build 3 = .ok (.dup, 1) := by decide +kernel
theorem dL_build_4 : decode cL_build 4 = .ok (.invokespecial 48, 3) := by decide +kernel
theorem dL_build_7 : decode cL_build 7 = .ok (.astore_n 2, 1) := by decide +kernel
theorem dL_build_8 : decode cL_build 8 = .ok (.iconst 0, 1) := by decide +kernel
theorem dL_build_9 : decode cL_build 9 = .ok (.istore_n 3, 1) := by decide +kernel
theorem dL_build_10 : decode cL_build 10 = .ok (.iload_n 3, 1) := by decide +kernel
theorem dL_build_11 : decode cL_build 11 = .ok (.bipush 40, 2) := by decide +kernel
theorem dL_build_13 : decode cL_build 13 = .ok (.if_icmp .ge 62, 3) := by decide +kernel
theorem dL_build_16 : decode cL_build 16 = .ok (.aload_n 1, 1) := by decide +kernel
theorem dL_build_17 : decode cL_build 17 = .ok (.iload_n 3, 1) := by decide +kernel
theorem dL_build_18 : decode cL_build 18 = .ok (.bipush 16, 2) := by decide +kernel
theorem dL_build_20 : decode cL_build 20 = .ok (.irem, 1) := by decide +kernel
theorem dL_build_21 : decode cL_build 21 = .ok (.invokestatic 49, 3) := by decide +kernel
theorem dL_build_24 : decode cL_build 24 = .ok (.iload_n 3, 1) := by decide +kernel
theorem dL_build_25 : decode cL_build 25 = .ok (.bipush 16, 2) := by decide +kernel
theorem dL_build_27 : decode cL_build 27 = .ok (.idiv, 1) := by decide +kernel
theorem dL_build_28 : decode cL_build 28 = .ok (.iconst 5, 1) := by decide +kernel
theorem dL_build_29 : decode cL_build 29 = .ok (.imul, 1) := by decide +kernel
theorem dL_build_30 : decode cL_build 30 = .ok (.ishr, 1) := by decide +kernel
theorem dL_build_31 : decode cL_build 31 = .ok (.sipush 263, 3) := by decide +kernel
theorem dL_build_34 : decode cL_build 34 = .ok (.iload_n 3, 1) := by decide +kernel
theorem dL_build_35 : decode cL_build 35 = .ok (.imul, 1) := by decide +kernel
theorem dL_build_36 : decode cL_build 36 = .ok (.iadd, 1) := by decide +kernel
theorem dL_build_37 : decode cL_build 37 = .ok (.istore 4, 2) := by decide +kernel
theorem dL_build_39 : decode cL_build 39 = .ok (.iload_n 3, 1) := by decide +kernel
theorem dL_build_40 : decode cL_build 40 = .ok (.bipush 7, 2) := by decide +kernel
theorem dL_build_42 : decode cL_build 42 = .ok (.if_icmp .ge 15, 3) := by decide +kernel
theorem dL_build_45 : decode cL_build 45 = .ok (.bipush 14, 2) := by decide +kernel
theorem dL_build_47 : decode cL_build 47 = .ok (.iload 4, 2) := by decide +kernel
theorem dL_build_49 : decode cL_build 49 = .ok (.ldc 53, 2) := by decide +kernel
theorem dL_build_51 : decode cL_build 51 = .ok (.invokestatic 15, 3) := by decide +kernel
theorem dL_build_54 : decode cL_build 54 = .ok (.imul, 1) := by decide +kernel
theorem dL_build_55 : decode cL_build 55 = .ok (.istore 4, 2) := by decide +kernel
theorem dL_build_57 : decode cL_build 57 = .ok (.aload_n 0, 1) := by decide +kernel
theorem dL_build_58 : decode cL_build 58 = .ok (.aload_n 2, 1) := by decide +kernel
theorem dL_build_59 : decode cL_build 59 = .ok (.iload 4, 2) := by decide +kernel
theorem dL_build_61 : decode cL_build 61 = .ok (.invokestatic 54, 3) := by decide +kernel
theorem dL_build_64 : decode cL_build 64 = .ok (.ifCond .ne 5, 3) := by decide +kernel
theorem dL_build_67 : decode cL_build 67 = .ok (.aconst_null, 1) := by decide +kernel
