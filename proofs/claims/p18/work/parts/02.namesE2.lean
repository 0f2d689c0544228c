theorem dX2_isSame_125 : decode cX2_isSame 125 = .ok (.aload_n 0, 1) := by decide +kernel
theorem dX2_isSame_126 : decode cX2_isSame 126 = .ok (.iload 4, 2) := by decide +kernel
theorem dX2_isSame_128 : decode cX2_isSame 128 = .ok (.iload 5, 2) := by decide +kernel
theorem dX2_isSame_130 : decode cX2_isSame 130 = .ok (.invokevirtual 15, 3) := by decide +kernel
theorem dX2_isSame_133 : decode cX2_isSame 133 = .ok (.if_icmp .eq 5, 3) := by decide +kernel
theorem dX2_isSame_136 : decode cX2_isSame 136 = .ok (.iconst 0, 1) := by decide +kernel
theorem dX2_isSame_137 : decode cX2_isSame 137 = .ok (.ireturn, 1) := by decide +kernel
theorem dX2_isSame_138 : decode cX2_isSame 138 = .ok (.iinc 5 1, 3) := by decide +kernel
theorem dX2_isSame_141 : decode cX2_isSame 141 = .ok (.goto (-34), 3) := by decide +kernel
theorem dX2_isSame_144 : decode cX2_isSame 144 = .ok (.iload_n 2, 1) := by decide +kernel
theorem dX2_isSame_145 : decode cX2_isSame 145 = .ok (.aload_n 0, 1) := by decide +kernel
theorem dX2_isSame_146 : decode cX2_isSame 146 = .ok (.getfield 9, 3) := by decide +kernel
theorem dX2_isSame_149 : decode cX2_isSame 149 = .ok (.iload 4, 2) := by decide +kernel
theorem dX2_isSame_151 : decode cX2_isSame 151 = .ok (.aaload, 1) := by decide +kernel
theorem dX2_isSame_152 : decode cX2_isSame 152 = .ok (.iconst 0, 1) := by decide +kernel
theorem dX2_isSame_153 : decode cX2_isSame 153 = .ok (.iaload, 1) := by decide +kernel
theorem dX2_isSame_154 : decode cX2_isSame 154 = .ok (.iadd, 1) := by decide +kernel
theorem dX2_isSame_155 : decode cX2_isSame 155 = .ok (.istore_n 2, 1) := by decide +kernel
theorem dX2_isSame_156 : decode cX2_isSame 156 = .ok (.iload_n 3, 1) := by decide +kernel
theorem dX2_isSame_157 : decode cX2_isSame 157 = .ok (.aload_n 0, 1) := by decide +kernel
theorem dX2_isSame_158 : decode cX2_isSame 158 = .ok (.getfield 9, 3) := by decide +kernel
theorem dX2_isSame_161 : decode cX2_isSame 161 = .ok (.iload 4, 2) := by decide +kernel
theorem dX2_isSame_163 : decode cX2_isSame 163 = .ok (.aaload, 1) := by decide +kernel
theorem dX2_isSame_164 : decode cX2_isSame 164 = .ok (.iconst 0, 1) := by decide +kernel
theorem dX2_isSame_165 : decode cX2_isSame 165 = .ok (.iaload, 1) := by decide +kernel
theorem dX2_isSame_166 : decode cX2_isSame 166 = .ok (.invokestatic 72, 3) := by decide +kernel
theorem dX2_isSame_169 : decode cX2_isSame 169 = .ok (.istore_n 3, 1) := by decide +kernel
theorem dX2_isSame_170 : decode cX2_isSame 170 = .ok (.iinc 4 1, 3) := by decide +kernel
theorem dX2_isSame_173 : decode cX2_isSame 173 = .ok (.goto (-152), 3) := by decide +kernel
theorem dX2_isSame_176 : decode cX2_isSame 176 = .ok (.bipush 9, 2) := by decide +kernel
theorem dX2_isSame_178 : decode cX2_isSame 178 = .ok (.newarray .int, 2) := by decide +kernel
theorem dX2_isSame_180 : decode cX2_isSame 180 = .ok (.dup, 1) := by decide +kernel
theorem dX2_isSame_181 : decode cX2_isSame 181 = .ok (.iconst 0, 1) := by decide +kernel
theorem dX2_isSame_182 : decode cX2_isSame 182 = .ok (.aload_n 0, 1) := by decide +kernel
theorem dX2_isSame_183 : decode cX2_isSame 183 = .ok (.getfield 45, 3) := by decide +kernel
theorem dX2_isSame_186 : decode cX2_isSame 186 = .ok (.iastore, 1) := by decide +kernel
theorem dX2_isSame_187 : decode cX2_isSame 187 = .ok (.dup, 1) := by decide +kernel
theorem dX2_isSame_188 : decode cX2_isSame 188 = .ok (.iconst 1, 1) := by decide +kernel
theorem dX2_isSame_189 : decode cX2_isSame 189 = .ok (.aload_n 0, 1) := by decide +kernel
theorem dX2_isSame_190 : decode cX2_isSame 190 = .ok (.getfield 9, 3) := by decide +kernel
theorem dX2_isSame_193 : decode cX2_isSame 193 = .ok (.arraylength, 1) := by decide +kernel
theorem dX2_isSame_194 : decode cX2_isSame 194 = .ok (.iastore, 1) := by decide +kernel
theorem dX2_isSame_195 : decode cX2_isSame 195 = .ok (.dup, 1) := by decide +kernel
theorem dX2_isSame_196 : decode cX2_isSame 196 = .ok (.iconst 2, 1) := by decide +kernel
theorem dX2_isSame_197 : decode cX2_isSame 197 = .ok (.aload_n 0, 1) := by decide +kernel
theorem dX2_isSame_198 : decode cX2_isSame 198 = .ok (.getfield 38, 3) := by decide +kernel
theorem dX2_isSame_201 : decode cX2_isSame 201 = .ok (.iastore, 1) := by decide +kernel
theorem dX2_isSame_202 : decode cX2_isSame 202 = .ok (.dup, 1) := by decide +kernel
theorem dX2_isSame_203 : decode cX2_isSame 203 = .ok (.iconst 3, 1) := by decide +kernel
theorem dX2_isSame_204 : decode cX2_isSame 204 = .ok (.aload_n 0, 1) := by decide +kernel
theorem dX2_isSame_205 : decode cX2_isSame 205 = .ok (.getfield 27, 3) := by decide +kernel
theorem dX2_isSame_208 : decode cX2_isSame 208 = .ok (.iastore, 1) := by decide +kernel
theorem dX2_isSame_209 : decode cX2_isSame 209 = .ok (.dup, 1) := by decide +kernel
theorem dX2_isSame_210 : decode cX2_isSame 210 = .ok (.iconst 4, 1) := by decide +kernel
theorem dX2_isSame_211 : decode cX2_isSame 211 = .ok (.iconst 0, 1) := by decide +kernel
theorem dX2_isSame_212 : decode cX2_isSame 212 = .ok (.iastore, 1) := by decide +kernel
theorem dX2_isSame_213 : decode cX2_isSame 213 = .ok (.dup, 1) := by decide +kernel
theorem dX2_isSame_214 : decode cX2_isSame 214 = .ok (.iconst 5, 1) := by decide +kernel
theorem dX2_isSame_215 : decode cX2_isSame 215 = .ok (.iconst 0, 1) := by decide +kernel
theorem dX2_isSame_216 : decode cX2_isSame 216 = .ok (.iastore, 1) := by decide +kernel
theorem dX2_isSame_217 : decode cX2_isSame 217 = .ok (.dup, 1) := by decide +kernel
theorem dX2_isSame_218 : decode cX2_isSame 218 = .ok (.bipush 6, 2) := by decide +kernel
theorem dX2_isSame_220 : decode cX2_isSame 220 = .ok (.iconst 0, 1) := by decide +kernel
theorem dX2_isSame_221 : decode cX2_isSame 221 = .ok (.iastore, 1) := by decide +kernel
theorem dX2_isSame_222 : decode cX2_isSame 222 = .ok (.dup, 1) := by decide +kernel
theorem dX2_isSame_223 : decode cX2_isSame 223 = .ok (.bipush 7, 2) := by decide +kernel
theorem dX2_isSame_225 : decode cX2_isSame 225 = .ok (.aload_n 0, 1) := by decide +kernel
theorem dX2_isSame_226 : decode cX2_isSame 226 = .ok (.invokevirtual 75, 3) := by decide +kernel
theorem dX2_isSame_229 : decode cX2_isSame 229 = .ok (.iastore, 1) := by decide +kernel
theorem dX2_isSame_230 : decode cX2_isSame 230 = .ok (.dup, 1) := by decide +kernel
theorem dX2_isSame_231 : decode cX2_isSame 231 = .ok (.bipush 8, 2) := by decide +kernel
theorem dX2_isSame_233 : decode cX2_isSame 233 = .ok (.iload_n 3, 1) := by decide +kernel
theorem dX2_isSame_234 : decode cX2_isSame 234 = .ok (.iastore, 1) := by decide +kernel
theorem dX2_isSame_235 : decode cX2_isSame 235 = .ok (.astore 4, 2) := by decide +kernel
theorem dX2_isSame_237 : decode cX2_isSame 237 = .ok (.iconst 0, 1) := by decide +kernel
theorem dX2_isSame_238 : decode cX2_isSame 238 = .ok (.istore 5, 2) := by decide +kernel
theorem dX2_isSame_240 : decode cX2_isSame 240 = .ok (.iload 5, 2) := by decide +kernel
theorem dX2_isSame_242 : decode cX2_isSame 242 = .ok (.iconst 3, 1) := by decide +kernel
theorem dX2_isSame_243 : decode cX2_isSame 243 = .ok (.if_icmp .ge 82, 3) := by decide +kernel
theorem dX2_isSame_246 : decode cX2_isSame 246 = .ok (.aload_n 0, 1) := by decide +kernel
theorem dX2_isSame_247 : decode cX2_isSame 247 = .ok (.iload 5, 2) := by decide +kernel
theorem dX2_isSame_249 : decode cX2_isSame 249 = .ok (.invokevirtual 41, 3) := by decide +kernel
theorem dX2_isSame_252 : decode cX2_isSame 252 = .ok (.astore 6, 2) := by decide +kernel
theorem dX2_isSame_254 : decode cX2_isSame 254 = .ok (.aload 4, 2) := by decide +kernel
theorem dX2_isSame_256 : decode cX2_isSame 256 = .ok (.iconst 4, 1) := by decide +kernel
theorem dX2_isSame_257 : decode cX2_isSame 257 = .ok (.iload 5, 2) := by decide +kernel
theorem dX2_isSame_259 : decode cX2_isSame 259 = .ok (.iadd, 1) := by decide +kernel
theorem dX2_isSame_260 : decode cX2_isSame 260 = .ok (.aload 6, 2) := by decide +kernel
theorem dX2_isSame_262 : decode cX2_isSame 262 = .ok (.arraylength, 1) := by decide +kernel
theorem dX2_isSame_263 : decode cX2_isSame 263 = .ok (.iastore, 1) := by decide +kernel
theorem dX2_isSame_264 : decode cX2_isSame 264 = .ok (.iconst 0, 1) := by decide +kernel
theorem dX2_isSame_265 : decode cX2_isSame 265 = .ok (.istore 7, 2) := by decide +kernel
theorem dX2_isSame_267 : decode cX2_isSame 267 = .ok (.iload 7, 2) := by decide +kernel
theorem dX2_isSame_269 : decode cX2_isSame 269 = .ok (.aload 6, 2) := by decide +kernel
theorem dX2_isSame_271 : decode cX2_isSame 271 = .ok (.arraylength, 1) := by decide +kernel
theorem dX2_isSame_272 : decode cX2_isSame 272 = .ok (.if_icmp .ge 47, 3) := by decide +kernel
theorem dX2_isSame_275 : decode cX2_isSame 275 = .ok (.aload_n 1, 1) := by decide +kernel
theorem dX2_isSame_276 : decode cX2_isSame 276 = .ok (.iload 5, 2) := by decide +kernel
theorem dX2_isSame_278 : decode cX2_isSame 278 = .ok (.iload 7, 2) := by decide +kernel
theorem dX2_isSame_280 : decode cX2_isSame 280 = .ok (.iconst 1, 1) := by decide +kernel
theorem dX2_isSame_281 : decode cX2_isSame 281 = .ok (.iadd, 1) := by decide +kernel
theorem dX2_isSame_282 : decode cX2_isSame 282 = .ok (.invokevirtual 79, 3) := by decide +kernel
theorem dX2_isSame_285 : decode cX2_isSame 285 = .ok (.aload 6, 2) := by decide +kernel
theorem dX2_isSame_287 : decode cX2_isSame 287 = .ok (.iload 7, 2) := by decide +kernel
theorem dX2_isSame_289 : decode cX2_isSame 289 = .ok (.iaload, 1) := by decide +kernel
theorem dX2_isSame_290 : decode cX2_isSame 290 = .ok (.if_icmp .ne 21, 3) := by decide +kernel
theorem dX2_isSame_293 : decode cX2_isSame 293 = .ok (.aload_n 1, 1) := by decide +kernel
theorem dX2_isSame_294 : decode cX2_isSame 294 = .ok (.aload 6, 2) := by decide +kernel
theorem dX2_isSame_296 : decode cX2_isSame 296 = .ok (.iload 7, 2) := by decide +kernel
theorem dX2_isSame_298 : decode cX2_isSame 298 = .ok (.iaload, 1) := by decide +kernel
theorem dX2_isSame_299 : decode cX2_isSame 299 = .ok (.bipush 7, 2) := by decide +kernel
theorem dX2_isSame_301 : decode cX2_isSame 301 = .ok (.invokevirtual 62, 3) := by decide +kernel
theorem dX2_isSame_304 : decode cX2_isSame 304 = .ok (.iload 7, 2) := by decide +kernel
theorem dX2_isSame_306 : decode cX2_isSame 306 = .ok (.iconst 1, 1) := by decide +kernel
theorem dX2_isSame_307 : decode cX2_isSame 307 = .ok (.iadd, 1) := by decide +kernel
theorem dX2_isSame_308 : decode cX2_isSame 308 = .ok (.if_icmp .eq 5, 3) := by decide +kernel
theorem dX2_isSame_311 : decode cX2_isSame 311 = .ok (.iconst 0, 1) := by decide +kernel
theorem dX2_isSame_312 : decode cX2_isSame 312 = .ok (.ireturn, 1) := by decide +kernel
theorem dX2_isSame_313 : decode cX2_isSame 313 = .ok (.iinc 7 1, 3) := by decide +kernel
theorem dX2_isSame_316 : decode cX2_isSame 316 = .ok (.goto (-49), 3) := by decide +kernel
theorem dX2_isSame_319 : decode cX2_isSame 319 = .ok (.iinc 5 1, 3) := by decide +kernel
theorem dX2_isSame_322 : decode cX2_isSame 322 = .ok (.goto (-82), 3) := by decide +kernel
theorem dX2_isSame_325 : decode cX2_isSame 325 = .ok (.iconst 0, 1) := by decide +kernel
theorem dX2_isSame_326 : decode cX2_isSame 326 = .ok (.istore 5, 2) := by decide +kernel
theorem dX2_isSame_328 : decode cX2_isSame 328 = .ok (.iload 5, 2) := by decide +kernel
theorem dX2_isSame_330 : decode cX2_isSame 330 = .ok (.bipush 9, 2) := by decide +kernel
theorem dX2_isSame_332 : decode cX2_isSame 332 = .ok (.if_icmp .ge 25, 3) := by decide +kernel
theorem dX2_isSame_335 : decode cX2_isSame 335 = .ok (.aload_n 1, 1) := by decide +kernel
theorem dX2_isSame_336 : decode cX2_isSame 336 = .ok (.iload 5, 2) := by decide +kernel
theorem dX2_isSame_338 : decode cX2_isSame 338 = .ok (.invokevirtual 82, 3) := by decide +kernel
theorem dX2_isSame_341 : decode cX2_isSame 341 = .ok (.aload 4, 2) := by decide +kernel
theorem dX2_isSame_343 : decode cX2_isSame 343 = .ok (.iload 5, 2) := by decide +kernel
theorem dX2_isSame_345 : decode cX2_isSame 345 = .ok (.iaload, 1) := by decide +kernel
theorem dX2_isSame_346 : decode cX2_isSame 346 = .ok (.if_icmp .eq 5, 3) := by decide +kernel
theorem dX2_isSame_349 : decode cX2_isSame 349 = .ok (.iconst 0, 1) := by decide +kernel
theorem dX2_isSame_350 : decode cX2_isSame 350 = .ok (.ireturn, 1) := by decide +kernel
theorem dX2_isSame_351 : decode cX2_isSame 351 = .ok (.iinc 5 1, 3) := by decide +kernel
theorem dX2_isSame_354 : decode cX2_isSame 354 = .ok (.goto (-26), 3) := by decide +kernel
theorem dX2_isSame_357 : decode cX2_isSame 357 = .ok (.aload_n 1, 1) := by decide +kernel
theorem dX2_isSame_358 : decode cX2_isSame 358 = .ok (.invokevirtual 85, 3) := by decide +kernel
theorem dX2_isSame_361 : decode cX2_isSame 361 = .ok (.aload_n 0, 1) := by decide +kernel
theorem dX2_isSame_362 : decode cX2_isSame 362 = .ok (.invokevirtual 88, 3) := by decide +kernel
theorem dX2_isSame_365 : decode cX2_isSame 365 = .ok (.if_icmp .ne 36, 3) := by decide +kernel
theorem dX2_isSame_368 : decode cX2_isSame 368 = .ok (.aload_n 1, 1) := by decide +kernel
theorem dX2_isSame_369 : decode cX2_isSame 369 = .ok (.invokevirtual 89, 3) := by decide +kernel
theorem dX2_isSame_372 : decode cX2_isSame 372 = .ok (.aload_n 0, 1) := by decide +kernel
theorem dX2_isSame_373 : decode cX2_isSame 373 = .ok (.getfield 9, 3) := by decide +kernel
theorem dX2_isSame_376 : decode cX2_isSame 376 = .ok (.arraylength, 1) := by decide +kernel
theorem dX2_isSame_377 : decode cX2_isSame 377 = .ok (.ifCond .ne 7, 3) := by decide +kernel
theorem dX2_isSame_380 : decode cX2_isSame 380 = .ok (.dconst 0, 1) := by decide +kernel
theorem dX2_isSame_381 : decode cX2_isSame 381 = .ok (.goto 12, 3) := by decide +kernel
theorem dX2_isSame_384 : decode cX2_isSame 384 = .ok (.iload_n 2, 1) := by decide +kernel
theorem dX2_isSame_385 : decode cX2_isSame 385 = .ok (.i2d, 1) := by decide +kernel
theorem dX2_isSame_386 : decode cX2_isSame 386 = .ok (.aload_n 0, 1) := by decide +kernel
theorem dX2_isSame_387 : decode cX2_isSame 387 = .ok (.getfield 9, 3) := by decide +kernel
theorem dX2_isSame_390 : decode cX2_isSame 390 = .ok (.arraylength, 1) := by decide +kernel
theorem dX2_isSame_391 : decode cX2_isSame 391 = .ok (.i2d, 1) := by decide +kernel
theorem dX2_isSame_392 : decode cX2_isSame 392 = .ok (.ddiv, 1) := by decide +kernel
theorem dX2_isSame_393 : decode cX2_isSame 393 = .ok (.dcmp .l, 1) := by decide +kernel
theorem dX2_isSame_394 : decode cX2_isSame 394 = .ok (.ifCond .ne 7, 3) := by decide +kernel
theorem dX2_isSame_397 : decode cX2_isSame 397 = .ok (.iconst 1, 1) := by decide +kernel
theorem dX2_isSame_398 : decode cX2_isSame 398 = .ok (.goto 4, 3) := by decide +kernel
theorem dX2_isSame_401 : decode cX2_isSame 401 = .ok (.iconst 0, 1) := by decide +kernel
theorem dX2_isSame_402 : decode cX2_isSame 402 = .ok (.ireturn, 1) := by decide +kernel
theorem dJ9_abs_0f7a4_0 : decode cJ9_abs_0f7a4 0 = .ok (.iload_n 0, 1) := by decide +kernel
theorem dJ9_abs_0f7a4_1 : decode cJ9_abs_0f7a4 1 = .ok (.ifCond .ge 8, 3) := by decide +kernel
theorem dJ9_abs_0f7a4_4 : decode cJ9_abs_0f7a4 4 = .ok (.iload_n 0, 1) := by decide +kernel
theorem dJ9_abs_0f7a4_5 : decode cJ9_abs_0f7a4 5 = .ok (.ineg, 1) := by decide +kernel
theorem dJ9_abs_0f7a4_6 : decode cJ9_abs_0f7a4 6 = .ok (.goto 4, 3) := by decide +kernel
theorem dJ9_abs_0f7a4_9 : decode cJ9_abs_0f7a4 9 = .ok (.iload_n 0, 1) := by decide +kernel
theorem dJ9_abs_0f7a4_10 : decode cJ9_abs_0f7a4 10 = .ok (.ireturn, 1) := by decide +kernel
theorem dJ9_abs_294c1_0 : decode cJ9_abs_294c1 0 = .ok (.dload_n 0, 1) := by decide +kernel
theorem dJ9_abs_294c1_1 : decode cJ9_abs_294c1 1 = .ok (.invokestatic 79, 3) := by decide +kernel
theorem dJ9_abs_294c1_4 : decode cJ9_abs_294c1 4 = .ok (.ldc2_w 135, 3) := by decide +kernel
theorem dJ9_abs_294c1_7 : decode cJ9_abs_294c1 7 = .ok (.land, 1) := by decide +kernel
theorem dJ9_abs_294c1_8 : decode cJ9_abs_294c1 8 = .ok (.invokestatic 166, 3) := by decide +kernel
theorem dJ9_abs_294c1_11 : decode cJ9_abs_294c1 11 = .ok (.dreturn, 1) := by decide +kernel
theorem dJ9_max_7cf53_0 : decode cJ9_max_7cf53 0 = .ok (.iload_n 0, 1) := by decide +kernel
theorem dJ9_max_7cf53_1 : decode cJ9_max_7cf53 1 = .ok (.iload_n 1, 1) := by decide +kernel
theorem dJ9_max_7cf53_2 : decode cJ9_max_7cf53 2 = .ok (.if_icmp .lt 7, 3) := by decide +kernel
theorem dJ9_max_7cf53_5 : decode cJ9_max_7cf53 5 = .ok (.iload_n 0, 1) := by decide +kernel
theorem dJ9_max_7cf53_6 : decode cJ9_max_7cf53 6 = .ok (.goto 4, 3) := by decide +kernel
theorem dJ9_max_7cf53_9 : decode cJ9_max_7cf53 9 = .ok (.iload_n 1, 1) := by decide +kernel
theorem dJ9_max_7cf53_10 : decode cJ9_max_7cf53 10 = .ok (.ireturn, 1) := by decide +kernel
theorem dJ9_min_7cf53_0 : decode cJ9_min_7cf53 0 = .ok (.iload_n 0, 1) := by decide +kernel
theorem dJ9_min_7cf53_1 : decode cJ9_min_7cf53 1 = .ok (.iload_n 1, 1) := by decide +kernel
theorem dJ9_min_7cf53_2 : decode cJ9_min_7cf53 2 = .ok (.if_icmp .gt 7, 3) := by decide +kernel
theorem dJ9_min_7cf53_5 : decode cJ9_min_7cf53 5 = .ok (.iload_n 0, 1) := by decide +kernel
theorem dJ9_min_7cf53_6 : decode cJ9_min_7cf53 6 = .ok (.goto 4, 3) := by decide +kernel
theorem dJ9_min_7cf53_9 : decode cJ9_min_7cf53 9 = .ok (.iload_n 1, 1) := by decide +kernel
theorem dJ9_min_7cf53_10 : decode cJ9_min_7cf53 10 = .ok (.ireturn, 1) := by decide +kernel
theorem dL_below_0 : decode cL_below 0 = .ok (.iload_n 0, 1) := by decide +kernel
theorem dL_below_1 : decode cL_below 1 = .ok (.ldc 7, 2) := by decide +kernel
theorem dL_below_3 : decode cL_below 3 = .ok (.iand, 1) := by decide +kernel
theorem dL_below_4 : decode cL_below 4 = .ok (.iload_n 1, 1) := by decide +kernel
theorem dL_below_5 : decode cL_below 5 = .ok (.irem, 1) := by decide +kernel
theorem dL_below_6 : decode cL_below 6 = .ok (.ireturn, 1) := by decide +kernel
theorem dL_cell_0 : decode cL_cell 0 = .ok (.iload_n 1, 1) := by decide +kernel
theorem dL_cell_1 : decode cL_cell 1 = .ok (.aload_n 0, 1) := by decide +kernel
theorem dL_cell_2 : decode cL_cell 2 = .ok (.arraylength, 1) := by decide +kernel
theorem dL_cell_3 : decode cL_cell 3 = .ok (.if_icmp .ge 9, 3) := by decide +kernel
theorem dL_cell_6 : decode cL_cell 6 = .ok (.aload_n 0, 1) := by decide +kernel
theorem dL_cell_7 : decode cL_cell 7 = .ok (.iload_n 1, 1) := by decide +kernel
theorem dL_cell_8 : decode cL_cell 8 = .ok (.iaload, 1) := by decide +kernel
theorem dL_cell_9 : decode cL_cell 9 = .ok (.goto 9, 3) := by decide +kernel
theorem dL_cell_12 : decode cL_cell 12 = .ok (.ldc 8, 2) := by decide +kernel
theorem dL_cell_14 : decode cL_cell 14 = .ok (.iload_n 1, 1) := by decide +kernel
theorem dL_cell_15 : decode cL_cell 15 = .ok (.iconst 3, 1) := by decide +kernel
theorem dL_cell_16 : decode cL_cell 16 = .ok (.iadd, 1) := by decide +kernel
theorem dL_cell_17 : decode cL_cell 17 = .ok (.imul, 1) := by decide +kernel
theorem dL_cell_18 : decode cL_cell 18 = .ok (.ireturn, 1) := by decide +kernel
set_option maxRecDepth 20000 in
theorem ggL_act_L_below : GoodIn wsL_act wsL_below := goodIn_r _ [8, 9] (by decide +kernel) (by decide +kernel)
set_option maxRecDepth 20000 in
theorem gL_act_L_below : GoodIn wsL_act (va_wsS RL 15 yL_below wsL_below) := goodIn_app (goodIn_of _ (by decide +kernel)) ggL_act_L_below
set_option maxRecDepth 20000 in
theorem ggL_act_X1_join : GoodIn wsL_act wsX1_join := goodIn_ca (goodIn_ca (goodIn_r _ [14, 15, 16, 17, 18, 19, 20, 21, 13, 22, 23, 24, 25, 26, 27, 28, 29, 30, 31, 32, 33, 34, 35, 185, 186, 187, 188, 189, 190, 191, 192, 193, 194, 195, 196, 197, 198] (by decide +kernel) (by decide +kernel)) (goodIn_sub (fun _ h => List.mem_cons_of_mem _ (List.mem_append_left _ (List.mem_append_left _ (List.mem_append_right _ h)))) (by decide +kernel))) (goodIn_sub (fun _ h => List.mem_cons_of_mem _ (List.mem_append_left _ (List.mem_append_right _ h))) (by decide +kernel))
set_option maxRecDepth 20000 in
theorem gL_act_X1_join : GoodIn wsL_act (wsV RL 23 RX1 yX1_join wsX1_join) := goodIn_app (goodIn_of _ (by decide +kernel)) ggL_act_X1_join
set_option maxRecDepth 20000 in
theorem ggL_act_X2_raise : GoodIn wsL_act wsX2_raise := goodIn_r _ [40, 41, 181, 182, 183, 184] (by decide +kernel) (by decide +kernel)
set_option maxRecDepth 20000 in
theorem gL_act_X2_raise : GoodIn wsL_act (wsV RL 31 RX2 yX2_raise wsX2_raise) := goodIn_app (goodIn_of _ (by decide +kernel)) ggL_act_X2_raise
set_option maxRecDepth 20000 in
theorem ggL_act_X1_rate : GoodIn wsL_act wsX1_rate := goodIn_ca (goodIn_ca (goodIn_r _ [45, 15, 16, 19, 46, 47, 48, 13, 49, 50, 51, 52, 53, 54, 26, 55, 28, 56, 57, 58, 59, 34, 60, 61, 62, 63, 35, 64, 65, 66, 67, 185, 186, 187, 188, 189, 190, 191, 192, 193, 194, 195, 196, 197, 198] (by decide +kernel) (by decide +kernel)) (goodIn_sub (fun _ h => List.mem_cons_of_mem _ (List.mem_append_left _ (List.mem_append_left _ (List.mem_append_right _ h)))) (by decide +kernel))) (goodIn_sub (fun _ h => List.mem_cons_of_mem _ (List.mem_append_right _ h)) (by decide +kernel))
set_option maxRecDepth 20000 in
theorem gL_act_X1_rate : GoodIn wsL_act (wsV RL 35 RX1 yX1_rate wsX1_rate) := goodIn_app (goodIn_of _ (by decide +kernel)) ggL_act_X1_rate
set_option maxRecDepth 20000 in
theorem ggL_act_X1_end : GoodIn wsL_act wsX1_end := goodIn_r _ [71, 19, 72, 73, 74, 75, 26, 76, 28, 77, 34, 78, 61, 62, 63, 35, 64, 65, 66, 67, 79, 80, 81, 82, 83, 33, 84, 85, 86, 87, 88, 89, 90, 91, 92, 93, 94, 95, 96, 97, 98, 99, 100, 101, 102, 103, 185, 186, 187, 188, 189, 190, 191, 192, 193, 194, 195, 196, 197, 198] (by decide +kernel) (by decide +kernel)
set_option maxRecDepth 20000 in
theorem gL_act_X1_end : GoodIn wsL_act (wsV RL 38 RX1 yX1_end wsX1_end) := goodIn_app (goodIn_of _ (by decide +kernel)) ggL_act_X1_end
set_option maxRecDepth 20000 in
theorem ggL_act_X2_end : GoodIn wsL_act wsX2_end := goodIn_r _ [107, 41, 108, 109, 37, 38, 39, 40, 110, 111, 112, 113, 4, 181, 182, 183, 184] (by decide +kernel) (by decide +kernel)
set_option maxRecDepth 20000 in
theorem gL_act_X2_end : GoodIn wsL_act (wsV RL 42 RX2 yX2_end wsX2_end) := goodIn_app (goodIn_of _ (by decide +kernel)) ggL_act_X2_end
set_option maxRecDepth 20000 in
theorem ggL_act_X1_bout : GoodIn wsL_act wsX1_bout := goodIn_ca (goodIn_ca (goodIn_r _ [117, 19, 118, 119, 46, 47, 48, 13, 49, 50, 51, 52, 53, 54, 26, 55, 28, 120, 121, 122, 15, 16, 123, 124, 125, 126, 127, 128, 129, 130, 131, 132, 133, 34, 134, 135, 136, 137, 138, 66, 139, 140, 141, 142, 143, 144, 145, 146, 147, 148, 64, 65, 67, 149, 150, 151, 152, 153, 154, 155, 156, 157, 83, 77, 158, 78, 61, 62, 63, 35, 185, 186, 187, 188, 189, 190, 191, 192, 193, 194, 195, 196, 197, 198] (by decide +kernel) (by decide +kernel)) (goodIn_sub (fun _ h => List.mem_cons_of_mem _ (List.mem_append_right _ h)) (by decide +kernel))) (goodIn_sub (fun _ h => List.mem_cons_of_mem _ (List.mem_append_left _ (List.mem_append_left _ (List.mem_append_right _ h)))) (by decide +kernel))
set_option maxRecDepth 20000 in
theorem gL_act_X1_bout : GoodIn wsL_act (wsV RL 43 RX1 yX1_bout wsX1_bout) := goodIn_app (goodIn_of _ (by decide +kernel)) ggL_act_X1_bout
set_option maxRecDepth 20000 in
theorem ggL_act_X2_bout : GoodIn wsL_act wsX2_bout := goodIn_r _ [162, 163, 164, 165, 166, 167, 39, 168, 41, 169, 170, 171, 172, 173, 174, 175, 176, 4, 109, 37, 38, 40, 177, 178, 179, 180, 181, 182, 183, 184] (by decide +kernel) (by decide +kernel)
set_option maxRecDepth 20000 in
theorem gL_act_X2_bout : GoodIn wsL_act (wsV RL 47 RX2 yX2_bout wsX2_bout) := goodIn_app (goodIn_of _ (by decide +kernel)) ggL_act_X2_bout
theorem dL_act_0 : decode cL_act 0 = .ok (.aload_n 1, 1) := by decide +kernel
theorem dL_act_1 : decode cL_act 1 = .ok (.getfield 9, 3) := by decide +kernel
theorem dL_act_4 : decode cL_act 4 = .ok (.arraylength, 1) := by decide +kernel
theorem dL_act_5 : decode cL_act 5 = .ok (.istore_n 3, 1) := by decide +kernel
theorem dL_act_6 : decode cL_act 6 = .ok (.iload_n 3, 1) := by decide +kernel
theorem dL_act_7 : decode cL_act 7 = .ok (.ifCond .ne 7, 3) := by decide +kernel
theorem dL_act_10 : decode cL_act 10 = .ok (.iconst 0, 1) := by decide +kernel
theorem dL_act_11 : decode cL_act 11 = .ok (.goto 10, 3) := by decide +kernel
theorem dL_act_14 : decode cL_act 14 = .ok (.iload_n 2, 1) := by decide +kernel
theorem dL_act_15 : decode cL_act 15 = .ok (.iconst 4, 1) := by decide +kernel
theorem dL_act_16 : decode cL_act 16 = .ok (.ishr, 1) := by decide +kernel
