theorem cv_12_730 : kp_CV RX12 730 yX12_answers cX12_answers 4 none 3 12 := ⟨⟨kp_mem 2514 (by decide +kernel) (by decide +kernel), kp_mem 220 (by decide +kernel) (by decide +kernel), by decide +kernel⟩, kp_mem 2511 (by decide +kernel) (by decide +kernel), kp_mem 2513 (by decide +kernel) (by decide +kernel), kp_mem 199 (by decide +kernel) (by decide +kernel), by decide, TX12, 125, rfl⟩
theorem cv_12_733 : kp_CV RX12 733 yX12_answersGate cX12_answersGate 3 none 0 12 := ⟨⟨kp_mem 2518 (by decide +kernel) (by decide +kernel), kp_mem 220 (by decide +kernel) (by decide +kernel), by decide +kernel⟩, kp_mem 2515 (by decide +kernel) (by decide +kernel), kp_mem 2517 (by decide +kernel) (by decide +kernel), kp_mem 200 (by decide +kernel) (by decide +kernel), by decide, TX12, 125, rfl⟩
set_option maxRecDepth 100000 in
theorem cv_12_721 : kp_CV RX12 721 yX12_stepOfStatement cX12_stepOfStatement 4 none 3 12 := ⟨⟨kp_mem 2446 rfl rfl, kp_mem 220 (by decide +kernel) (by decide +kernel), by decide +kernel⟩, kp_mem 2443 (by decide +kernel) (by decide +kernel), kp_mem 2445 (by decide +kernel) (by decide +kernel), kp_mem 182 (by decide +kernel) (by decide +kernel), by decide, TX12, 125, rfl⟩
theorem fp_12_809 : kp_FP RX12 809 12 118 := ⟨RX12, TX12, 125, cl_12, by decide, kp_mem 1810 (by decide +kernel) (by decide +kernel), rfl⟩
theorem fp_12_242 : kp_FP RX12 242 12 117 := ⟨RX12, TX12, 125, cl_12, by decide, kp_mem 1809 (by decide +kernel) (by decide +kernel), rfl⟩
theorem fp_12_812 : kp_FP RX12 812 12 119 := ⟨RX12, TX12, 125, cl_12, by decide, kp_mem 1811 (by decide +kernel) (by decide +kernel), rfl⟩
theorem fp_12_815 : kp_FP RX12 815 12 120 := ⟨RX12, TX12, 125, cl_12, by decide, kp_mem 1812 (by decide +kernel) (by decide +kernel), rfl⟩
theorem fp_12_245 : kp_FP RX12 245 12 122 := ⟨RX12, TX12, 125, cl_12, by decide, kp_mem 1814 (by decide +kernel) (by decide +kernel), rfl⟩
theorem fp_12_818 : kp_FP RX12 818 12 121 := ⟨RX12, TX12, 125, cl_12, by decide, kp_mem 1813 (by decide +kernel) (by decide +kernel), rfl⟩
theorem fp_12_803 : kp_FP RX12 803 12 123 := ⟨RX12, TX12, 125, cl_12, by decide, kp_mem 1815 (by decide +kernel) (by decide +kernel), rfl⟩
theorem fp_12_793 : kp_FP RX12 793 12 124 := ⟨RX12, TX12, 125, cl_12, by decide, kp_mem 1816 (by decide +kernel) (by decide +kernel), rfl⟩
theorem cv_12_806 : kp_CV RX12 806 yX12_tellEnd cX12_tellEnd 2 none 0 12 := ⟨⟨kp_mem 2526 (by decide +kernel) (by decide +kernel), kp_mem 220 (by decide +kernel) (by decide +kernel), by decide +kernel⟩, kp_mem 2523 (by decide +kernel) (by decide +kernel), kp_mem 2525 (by decide +kernel) (by decide +kernel), kp_mem 202 (by decide +kernel) (by decide +kernel), by decide, TX12, 125, rfl⟩
theorem cv_12_800 : kp_CV RX12 800 yX12_step cX12_step 4 none 0 12 := ⟨⟨kp_mem 2442 (by decide +kernel) (by decide +kernel), kp_mem 220 (by decide +kernel) (by decide +kernel), by decide +kernel⟩, kp_mem 2439 (by decide +kernel) (by decide +kernel), kp_mem 2441 (by decide +kernel) (by decide +kernel), kp_mem 181 (by decide +kernel) (by decide +kernel), by decide, TX12, 125, rfl⟩
theorem kc_12_796 : Cond.constant RX12 796 200000 ∈ kp_tb := kp_mem 2358 (by decide +kernel) (by decide +kernel)
theorem cv_12_797 : kp_CV RX12 797 yX12_clear cX12_clear 1 none 0 12 := ⟨⟨kp_mem 2362 (by decide +kernel) (by decide +kernel), kp_mem 220 (by decide +kernel) (by decide +kernel), by decide +kernel⟩, kp_mem 2359 (by decide +kernel) (by decide +kernel), kp_mem 2361 (by decide +kernel) (by decide +kernel), kp_mem 161 (by decide +kernel) (by decide +kernel), by decide, TX12, 125, rfl⟩
theorem dX12_stepOfStatement_0 : decode cX12_stepOfStatement 0 = .ok (.iload_n 1, 1) := by decide +kernel
theorem dX12_stepOfStatement_1 : decode cX12_stepOfStatement 1 = .ok (.tableswitch 593 30 61 #[143, 156, 168, 176, 184, 191, 198, 209, 217, 237, 237, 264, 272, 294, 304, 435, 455, 463, 471, 478, 490, 524, 555, 564, 593, 317, 325, 341, 365, 396, 405, 416], 143) := by decide +kernel
theorem dX12_stepOfStatement_144 : decode cX12_stepOfStatement 144 = .ok (.aload_n 0, 1) := by decide +kernel
theorem dX12_stepOfStatement_145 : decode cX12_stepOfStatement 145 = .ok (.iload_n 2, 1) := by decide +kernel
theorem dX12_stepOfStatement_146 : decode cX12_stepOfStatement 146 = .ok (.putfield 639, 3) := by decide +kernel
theorem dX12_stepOfStatement_149 : decode cX12_stepOfStatement 149 = .ok (.aload_n 0, 1) := by decide +kernel
theorem dX12_stepOfStatement_150 : decode cX12_stepOfStatement 150 = .ok (.invokevirtual 693, 3) := by decide +kernel
theorem dX12_stepOfStatement_153 : decode cX12_stepOfStatement 153 = .ok (.pop, 1) := by decide +kernel
theorem dX12_stepOfStatement_154 : decode cX12_stepOfStatement 154 = .ok (.goto 446, 3) := by decide +kernel
theorem dX12_stepOfStatement_157 : decode cX12_stepOfStatement 157 = .ok (.aload_n 0, 1) := by decide +kernel
theorem dX12_stepOfStatement_158 : decode cX12_stepOfStatement 158 = .ok (.iconst 0, 1) := by decide +kernel
theorem dX12_stepOfStatement_159 : decode cX12_stepOfStatement 159 = .ok (.aload_n 0, 1) := by decide +kernel
theorem dX12_stepOfStatement_160 : decode cX12_stepOfStatement 160 = .ok (.invokevirtual 718, 3) := by decide +kernel
theorem dX12_stepOfStatement_163 : decode cX12_stepOfStatement 163 = .ok (.invokevirtual 637, 3) := by decide +kernel
theorem dX12_stepOfStatement_166 : decode cX12_stepOfStatement 166 = .ok (.goto 434, 3) := by decide +kernel
theorem dX12_stepOfStatement_169 : decode cX12_stepOfStatement 169 = .ok (.aload_n 0, 1) := by decide +kernel
theorem dX12_stepOfStatement_170 : decode cX12_stepOfStatement 170 = .ok (.iconst 1, 1) := by decide +kernel
theorem dX12_stepOfStatement_171 : decode cX12_stepOfStatement 171 = .ok (.invokevirtual 739, 3) := by decide +kernel
theorem dX12_stepOfStatement_174 : decode cX12_stepOfStatement 174 = .ok (.goto 426, 3) := by decide +kernel
theorem dX12_stepOfStatement_177 : decode cX12_stepOfStatement 177 = .ok (.aload_n 0, 1) := by decide +kernel
theorem dX12_stepOfStatement_178 : decode cX12_stepOfStatement 178 = .ok (.iconst 0, 1) := by decide +kernel
theorem dX12_stepOfStatement_179 : decode cX12_stepOfStatement 179 = .ok (.invokevirtual 739, 3) := by decide +kernel
theorem dX12_stepOfStatement_182 : decode cX12_stepOfStatement 182 = .ok (.goto 418, 3) := by decide +kernel
theorem dX12_stepOfStatement_185 : decode cX12_stepOfStatement 185 = .ok (.aload_n 0, 1) := by decide +kernel
theorem dX12_stepOfStatement_186 : decode cX12_stepOfStatement 186 = .ok (.invokevirtual 743, 3) := by decide +kernel
theorem dX12_stepOfStatement_189 : decode cX12_stepOfStatement 189 = .ok (.goto 411, 3) := by decide +kernel
theorem dX12_stepOfStatement_192 : decode cX12_stepOfStatement 192 = .ok (.aload_n 0, 1) := by decide +kernel
theorem dX12_stepOfStatement_193 : decode cX12_stepOfStatement 193 = .ok (.invokevirtual 745, 3) := by decide +kernel
theorem dX12_stepOfStatement_196 : decode cX12_stepOfStatement 196 = .ok (.goto 404, 3) := by decide +kernel
theorem dX12_stepOfStatement_199 : decode cX12_stepOfStatement 199 = .ok (.aload_n 0, 1) := by decide +kernel
theorem dX12_stepOfStatement_200 : decode cX12_stepOfStatement 200 = .ok (.aload_n 0, 1) := by decide +kernel
theorem dX12_stepOfStatement_201 : decode cX12_stepOfStatement 201 = .ok (.invokevirtual 718, 3) := by decide +kernel
theorem dX12_stepOfStatement_204 : decode cX12_stepOfStatement 204 = .ok (.invokevirtual 747, 3) := by decide +kernel
theorem dX12_stepOfStatement_207 : decode cX12_stepOfStatement 207 = .ok (.goto 393, 3) := by decide +kernel
theorem dX12_stepOfStatement_210 : decode cX12_stepOfStatement 210 = .ok (.aload_n 0, 1) := by decide +kernel
theorem dX12_stepOfStatement_211 : decode cX12_stepOfStatement 211 = .ok (.iconst 1, 1) := by decide +kernel
theorem dX12_stepOfStatement_212 : decode cX12_stepOfStatement 212 = .ok (.putfield 610, 3) := by decide +kernel
theorem dX12_stepOfStatement_215 : decode cX12_stepOfStatement 215 = .ok (.goto 385, 3) := by decide +kernel
theorem dX12_stepOfStatement_218 : decode cX12_stepOfStatement 218 = .ok (.aload_n 0, 1) := by decide +kernel
theorem dX12_stepOfStatement_219 : decode cX12_stepOfStatement 219 = .ok (.aload_n 0, 1) := by decide +kernel
theorem dX12_stepOfStatement_220 : decode cX12_stepOfStatement 220 = .ok (.invokevirtual 718, 3) := by decide +kernel
theorem dX12_stepOfStatement_223 : decode cX12_stepOfStatement 223 = .ok (.putfield 622, 3) := by decide +kernel
theorem dX12_stepOfStatement_226 : decode cX12_stepOfStatement 226 = .ok (.aload_n 0, 1) := by decide +kernel
theorem dX12_stepOfStatement_227 : decode cX12_stepOfStatement 227 = .ok (.iconst 3, 1) := by decide +kernel
theorem dX12_stepOfStatement_228 : decode cX12_stepOfStatement 228 = .ok (.putfield 616, 3) := by decide +kernel
theorem dX12_stepOfStatement_231 : decode cX12_stepOfStatement 231 = .ok (.aload_n 0, 1) := by decide +kernel
theorem dX12_stepOfStatement_232 : decode cX12_stepOfStatement 232 = .ok (.invokevirtual 645, 3) := by decide +kernel
theorem dX12_stepOfStatement_235 : decode cX12_stepOfStatement 235 = .ok (.goto 365, 3) := by decide +kernel
theorem dX12_stepOfStatement_238 : decode cX12_stepOfStatement 238 = .ok (.aload_n 0, 1) := by decide +kernel
theorem dX12_stepOfStatement_239 : decode cX12_stepOfStatement 239 = .ok (.iload_n 1, 1) := by decide +kernel
theorem dX12_stepOfStatement_240 : decode cX12_stepOfStatement 240 = .ok (.bipush 39, 2) := by decide +kernel
theorem dX12_stepOfStatement_242 : decode cX12_stepOfStatement 242 = .ok (.if_icmp .ne 7, 3) := by decide +kernel
theorem dX12_stepOfStatement_245 : decode cX12_stepOfStatement 245 = .ok (.iconst 1, 1) := by decide +kernel
theorem dX12_stepOfStatement_246 : decode cX12_stepOfStatement 246 = .ok (.goto 4, 3) := by decide +kernel
theorem dX12_stepOfStatement_249 : decode cX12_stepOfStatement 249 = .ok (.iconst 2, 1) := by decide +kernel
theorem dX12_stepOfStatement_250 : decode cX12_stepOfStatement 250 = .ok (.putfield 616, 3) := by decide +kernel
theorem dX12_stepOfStatement_253 : decode cX12_stepOfStatement 253 = .ok (.aload_n 0, 1) := by decide +kernel
theorem dX12_stepOfStatement_254 : decode cX12_stepOfStatement 254 = .ok (.iload_n 2, 1) := by decide +kernel
theorem dX12_stepOfStatement_255 : decode cX12_stepOfStatement 255 = .ok (.putfield 619, 3) := by decide +kernel
theorem dX12_stepOfStatement_258 : decode cX12_stepOfStatement 258 = .ok (.aload_n 0, 1) := by decide +kernel
theorem dX12_stepOfStatement_259 : decode cX12_stepOfStatement 259 = .ok (.invokevirtual 645, 3) := by decide +kernel
theorem dX12_stepOfStatement_262 : decode cX12_stepOfStatement 262 = .ok (.goto 338, 3) := by decide +kernel
theorem dX12_stepOfStatement_265 : decode cX12_stepOfStatement 265 = .ok (.aload_n 0, 1) := by decide +kernel
theorem dX12_stepOfStatement_266 : decode cX12_stepOfStatement 266 = .ok (.iload_n 2, 1) := by decide +kernel
theorem dX12_stepOfStatement_267 : decode cX12_stepOfStatement 267 = .ok (.putfield 648, 3) := by decide +kernel
theorem dX12_stepOfStatement_270 : decode cX12_stepOfStatement 270 = .ok (.goto 330, 3) := by decide +kernel
theorem dX12_stepOfStatement_273 : decode cX12_stepOfStatement 273 = .ok (.aload_n 0, 1) := by decide +kernel
theorem dX12_stepOfStatement_274 : decode cX12_stepOfStatement 274 = .ok (.aload_n 0, 1) := by decide +kernel
theorem dX12_stepOfStatement_275 : decode cX12_stepOfStatement 275 = .ok (.invokevirtual 718, 3) := by decide +kernel
theorem dX12_stepOfStatement_278 : decode cX12_stepOfStatement 278 = .ok (.ifCond .ne 7, 3) := by decide +kernel
theorem dX12_stepOfStatement_281 : decode cX12_stepOfStatement 281 = .ok (.iload_n 2, 1) := by decide +kernel
theorem dX12_stepOfStatement_282 : decode cX12_stepOfStatement 282 = .ok (.goto 7, 3) := by decide +kernel
theorem dX12_stepOfStatement_285 : decode cX12_stepOfStatement 285 = .ok (.aload_n 0, 1) := by decide +kernel
theorem dX12_stepOfStatement_286 : decode cX12_stepOfStatement 286 = .ok (.getfield 648, 3) := by decide +kernel
theorem dX12_stepOfStatement_289 : decode cX12_stepOfStatement 289 = .ok (.putfield 648, 3) := by decide +kernel
theorem dX12_stepOfStatement_292 : decode cX12_stepOfStatement 292 = .ok (.goto 308, 3) := by decide +kernel
theorem dX12_stepOfStatement_295 : decode cX12_stepOfStatement 295 = .ok (.aload_n 0, 1) := by decide +kernel
theorem dX12_stepOfStatement_296 : decode cX12_stepOfStatement 296 = .ok (.iconst 3, 1) := by decide +kernel
theorem dX12_stepOfStatement_297 : decode cX12_stepOfStatement 297 = .ok (.iconst 0, 1) := by decide +kernel
theorem dX12_stepOfStatement_298 : decode cX12_stepOfStatement 298 = .ok (.iload_n 2, 1) := by decide +kernel
theorem dX12_stepOfStatement_299 : decode cX12_stepOfStatement 299 = .ok (.invokevirtual 714, 3) := by decide +kernel
theorem dX12_stepOfStatement_302 : decode cX12_stepOfStatement 302 = .ok (.goto 298, 3) := by decide +kernel
theorem dX12_stepOfStatement_305 : decode cX12_stepOfStatement 305 = .ok (.aload_n 0, 1) := by decide +kernel
theorem dX12_stepOfStatement_306 : decode cX12_stepOfStatement 306 = .ok (.iload_n 2, 1) := by decide +kernel
theorem dX12_stepOfStatement_307 : decode cX12_stepOfStatement 307 = .ok (.putfield 639, 3) := by decide +kernel
theorem dX12_stepOfStatement_310 : decode cX12_stepOfStatement 310 = .ok (.aload_n 0, 1) := by decide +kernel
theorem dX12_stepOfStatement_311 : decode cX12_stepOfStatement 311 = .ok (.invokevirtual 693, 3) := by decide +kernel
theorem dX12_stepOfStatement_314 : decode cX12_stepOfStatement 314 = .ok (.pop, 1) := by decide +kernel
theorem dX12_stepOfStatement_315 : decode cX12_stepOfStatement 315 = .ok (.goto 285, 3) := by decide +kernel
theorem dX12_stepOfStatement_318 : decode cX12_stepOfStatement 318 = .ok (.aload_n 0, 1) := by decide +kernel
theorem dX12_stepOfStatement_319 : decode cX12_stepOfStatement 319 = .ok (.iload_n 2, 1) := by decide +kernel
theorem dX12_stepOfStatement_320 : decode cX12_stepOfStatement 320 = .ok (.putfield 639, 3) := by decide +kernel
theorem dX12_stepOfStatement_323 : decode cX12_stepOfStatement 323 = .ok (.goto 277, 3) := by decide +kernel
theorem dX12_stepOfStatement_326 : decode cX12_stepOfStatement 326 = .ok (.aload_n 0, 1) := by decide +kernel
theorem dX12_stepOfStatement_327 : decode cX12_stepOfStatement 327 = .ok (.invokevirtual 693, 3) := by decide +kernel
theorem dX12_stepOfStatement_330 : decode cX12_stepOfStatement 330 = .ok (.ifCond .eq 270, 3) := by decide +kernel
theorem dX12_stepOfStatement_333 : decode cX12_stepOfStatement 333 = .ok (.aload_n 0, 1) := by decide +kernel
theorem dX12_stepOfStatement_334 : decode cX12_stepOfStatement 334 = .ok (.iload_n 2, 1) := by decide +kernel
theorem dX12_stepOfStatement_335 : decode cX12_stepOfStatement 335 = .ok (.iconst 1, 1) := by decide +kernel
theorem dX12_stepOfStatement_336 : decode cX12_stepOfStatement 336 = .ok (.invokevirtual 750, 3) := by decide +kernel
theorem dX12_stepOfStatement_339 : decode cX12_stepOfStatement 339 = .ok (.goto 261, 3) := by decide +kernel
theorem dX12_stepOfStatement_342 : decode cX12_stepOfStatement 342 = .ok (.aload_n 0, 1) := by decide +kernel
theorem dX12_stepOfStatement_343 : decode cX12_stepOfStatement 343 = .ok (.invokevirtual 718, 3) := by decide +kernel
theorem dX12_stepOfStatement_346 : decode cX12_stepOfStatement 346 = .ok (.ifCond .ne 11, 3) := by decide +kernel
theorem dX12_stepOfStatement_349 : decode cX12_stepOfStatement 349 = .ok (.aload_n 0, 1) := by decide +kernel
theorem dX12_stepOfStatement_350 : decode cX12_stepOfStatement 350 = .ok (.iload_n 3, 1) := by decide +kernel
theorem dX12_stepOfStatement_351 : decode cX12_stepOfStatement 351 = .ok (.putfield 648, 3) := by decide +kernel
theorem dX12_stepOfStatement_354 : decode cX12_stepOfStatement 354 = .ok (.goto 246, 3) := by decide +kernel
theorem dX12_stepOfStatement_357 : decode cX12_stepOfStatement 357 = .ok (.aload_n 0, 1) := by decide +kernel
theorem dX12_stepOfStatement_358 : decode cX12_stepOfStatement 358 = .ok (.iload_n 2, 1) := by decide +kernel
theorem dX12_stepOfStatement_359 : decode cX12_stepOfStatement 359 = .ok (.iconst 0, 1) := by decide +kernel
theorem dX12_stepOfStatement_360 : decode cX12_stepOfStatement 360 = .ok (.invokevirtual 750, 3) := by decide +kernel
theorem dX12_stepOfStatement_363 : decode cX12_stepOfStatement 363 = .ok (.goto 237, 3) := by decide +kernel
theorem dX12_stepOfStatement_366 : decode cX12_stepOfStatement 366 = .ok (.aload_n 0, 1) := by decide +kernel
theorem dX12_stepOfStatement_367 : decode cX12_stepOfStatement 367 = .ok (.aload_n 0, 1) := by decide +kernel
theorem dX12_stepOfStatement_368 : decode cX12_stepOfStatement 368 = .ok (.invokevirtual 718, 3) := by decide +kernel
theorem dX12_stepOfStatement_371 : decode cX12_stepOfStatement 371 = .ok (.aload_n 0, 1) := by decide +kernel
theorem dX12_stepOfStatement_372 : decode cX12_stepOfStatement 372 = .ok (.getfield 239, 3) := by decide +kernel
theorem dX12_stepOfStatement_375 : decode cX12_stepOfStatement 375 = .ok (.aload_n 0, 1) := by decide +kernel
theorem dX12_stepOfStatement_376 : decode cX12_stepOfStatement 376 = .ok (.getfield 604, 3) := by decide +kernel
theorem dX12_stepOfStatement_379 : decode cX12_stepOfStatement 379 = .ok (.iconst 1, 1) := by decide +kernel
theorem dX12_stepOfStatement_380 : decode cX12_stepOfStatement 380 = .ok (.isub, 1) := by decide +kernel
theorem dX12_stepOfStatement_381 : decode cX12_stepOfStatement 381 = .ok (.iaload, 1) := by decide +kernel
theorem dX12_stepOfStatement_382 : decode cX12_stepOfStatement 382 = .ok (.if_icmp .ne 7, 3) := by decide +kernel
theorem dX12_stepOfStatement_385 : decode cX12_stepOfStatement 385 = .ok (.iconst 1, 1) := by decide +kernel
theorem dX12_stepOfStatement_386 : decode cX12_stepOfStatement 386 = .ok (.goto 4, 3) := by decide +kernel
theorem dX12_stepOfStatement_389 : decode cX12_stepOfStatement 389 = .ok (.iconst 0, 1) := by decide +kernel
theorem dX12_stepOfStatement_390 : decode cX12_stepOfStatement 390 = .ok (.iload_n 2, 1) := by decide +kernel
theorem dX12_stepOfStatement_391 : decode cX12_stepOfStatement 391 = .ok (.invokevirtual 754, 3) := by decide +kernel
theorem dX12_stepOfStatement_394 : decode cX12_stepOfStatement 394 = .ok (.goto 206, 3) := by decide +kernel
theorem dX12_stepOfStatement_397 : decode cX12_stepOfStatement 397 = .ok (.aload_n 0, 1) := by decide +kernel
theorem dX12_stepOfStatement_398 : decode cX12_stepOfStatement 398 = .ok (.iconst 1, 1) := by decide +kernel
theorem dX12_stepOfStatement_399 : decode cX12_stepOfStatement 399 = .ok (.iload_n 2, 1) := by decide +kernel
theorem dX12_stepOfStatement_400 : decode cX12_stepOfStatement 400 = .ok (.invokevirtual 754, 3) := by decide +kernel
theorem dX12_stepOfStatement_403 : decode cX12_stepOfStatement 403 = .ok (.goto 197, 3) := by decide +kernel
theorem dX12_stepOfStatement_406 : decode cX12_stepOfStatement 406 = .ok (.aload_n 0, 1) := by decide +kernel
theorem dX12_stepOfStatement_407 : decode cX12_stepOfStatement 407 = .ok (.iconst 5, 1) := by decide +kernel
theorem dX12_stepOfStatement_408 : decode cX12_stepOfStatement 408 = .ok (.bipush 8, 2) := by decide +kernel
theorem dX12_stepOfStatement_410 : decode cX12_stepOfStatement 410 = .ok (.iload_n 2, 1) := by decide +kernel
theorem dX12_stepOfStatement_411 : decode cX12_stepOfStatement 411 = .ok (.invokevirtual 714, 3) := by decide +kernel
theorem dX12_stepOfStatement_414 : decode cX12_stepOfStatement 414 = .ok (.goto 186, 3) := by decide +kernel
theorem dX12_stepOfStatement_417 : decode cX12_stepOfStatement 417 = .ok (.aload_n 0, 1) := by decide +kernel
theorem dX12_stepOfStatement_418 : decode cX12_stepOfStatement 418 = .ok (.aload_n 0, 1) := by decide +kernel
theorem dX12_stepOfStatement_419 : decode cX12_stepOfStatement 419 = .ok (.invokevirtual 718, 3) := by decide +kernel
theorem dX12_stepOfStatement_422 : decode cX12_stepOfStatement 422 = .ok (.ifCond .eq 7, 3) := by decide +kernel
theorem dX12_stepOfStatement_425 : decode cX12_stepOfStatement 425 = .ok (.iconst 1, 1) := by decide +kernel
theorem dX12_stepOfStatement_426 : decode cX12_stepOfStatement 426 = .ok (.goto 4, 3) := by decide +kernel
theorem dX12_stepOfStatement_429 : decode cX12_stepOfStatement 429 = .ok (.iconst 0, 1) := by decide +kernel
theorem dX12_stepOfStatement_430 : decode cX12_stepOfStatement 430 = .ok (.invokevirtual 758, 3) := by decide +kernel
theorem dX12_stepOfStatement_433 : decode cX12_stepOfStatement 433 = .ok (.goto 167, 3) := by decide +kernel
theorem dX12_stepOfStatement_436 : decode cX12_stepOfStatement 436 = .ok (.aload_n 0, 1) := by decide +kernel
theorem dX12_stepOfStatement_437 : decode cX12_stepOfStatement 437 = .ok (.iload_n 2, 1) := by decide +kernel
theorem dX12_stepOfStatement_438 : decode cX12_stepOfStatement 438 = .ok (.aload_n 0, 1) := by decide +kernel
theorem dX12_stepOfStatement_439 : decode cX12_stepOfStatement 439 = .ok (.invokevirtual 718, 3) := by decide +kernel
theorem dX12_stepOfStatement_442 : decode cX12_stepOfStatement 442 = .ok (.ifCond .eq 7, 3) := by decide +kernel
theorem dX12_stepOfStatement_445 : decode cX12_stepOfStatement 445 = .ok (.iconst 1, 1) := by decide +kernel
theorem dX12_stepOfStatement_446 : decode cX12_stepOfStatement 446 = .ok (.goto 4, 3) := by decide +kernel
theorem dX12_stepOfStatement_449 : decode cX12_stepOfStatement 449 = .ok (.iconst 0, 1) := by decide +kernel
theorem dX12_stepOfStatement_450 : decode cX12_stepOfStatement 450 = .ok (.invokevirtual 750, 3) := by decide +kernel
theorem dX12_stepOfStatement_453 : decode cX12_stepOfStatement 453 = .ok (.goto 147, 3) := by decide +kernel
theorem dX12_stepOfStatement_456 : decode cX12_stepOfStatement 456 = .ok (.aload_n 0, 1) := by decide +kernel
theorem dX12_stepOfStatement_457 : decode cX12_stepOfStatement 457 = .ok (.iload_n 2, 1) := by decide +kernel
theorem dX12_stepOfStatement_458 : decode cX12_stepOfStatement 458 = .ok (.invokevirtual 761, 3) := by decide +kernel
theorem dX12_stepOfStatement_461 : decode cX12_stepOfStatement 461 = .ok (.goto 139, 3) := by decide +kernel
theorem dX12_stepOfStatement_464 : decode cX12_stepOfStatement 464 = .ok (.aload_n 0, 1) := by decide +kernel
theorem dX12_stepOfStatement_465 : decode cX12_stepOfStatement 465 = .ok (.iload_n 2, 1) := by decide +kernel
theorem dX12_stepOfStatement_466 : decode cX12_stepOfStatement 466 = .ok (.invokevirtual 764, 3) := by decide +kernel
theorem dX12_stepOfStatement_469 : decode cX12_stepOfStatement 469 = .ok (.goto 131, 3) := by decide +kernel
theorem dX12_stepOfStatement_472 : decode cX12_stepOfStatement 472 = .ok (.aload_n 0, 1) := by decide +kernel
theorem dX12_stepOfStatement_473 : decode cX12_stepOfStatement 473 = .ok (.invokevirtual 645, 3) := by decide +kernel
theorem dX12_stepOfStatement_476 : decode cX12_stepOfStatement 476 = .ok (.goto 124, 3) := by decide +kernel
theorem dX12_stepOfStatement_479 : decode cX12_stepOfStatement 479 = .ok (.aload_n 0, 1) := by decide +kernel
theorem dX12_stepOfStatement_480 : decode cX12_stepOfStatement 480 = .ok (.aload_n 0, 1) := by decide +kernel
theorem dX12_stepOfStatement_481 : decode cX12_stepOfStatement 481 = .ok (.invokevirtual 718, 3) := by decide +kernel
theorem dX12_stepOfStatement_484 : decode cX12_stepOfStatement 484 = .ok (.iload_n 2, 1) := by decide +kernel
theorem dX12_stepOfStatement_485 : decode cX12_stepOfStatement 485 = .ok (.invokevirtual 767, 3) := by decide +kernel
theorem dX12_stepOfStatement_488 : decode cX12_stepOfStatement 488 = .ok (.goto 112, 3) := by decide +kernel
theorem dX12_stepOfStatement_491 : decode cX12_stepOfStatement 491 = .ok (.aload_n 0, 1) := by decide +kernel
theorem dX12_stepOfStatement_492 : decode cX12_stepOfStatement 492 = .ok (.iconst 4, 1) := by decide +kernel
theorem dX12_stepOfStatement_493 : decode cX12_stepOfStatement 493 = .ok (.iconst 3, 1) := by decide +kernel
theorem dX12_stepOfStatement_494 : decode cX12_stepOfStatement 494 = .ok (.iload_n 2, 1) := by decide +kernel
theorem dX12_stepOfStatement_495 : decode cX12_stepOfStatement 495 = .ok (.invokevirtual 714, 3) := by decide +kernel
theorem dX12_stepOfStatement_498 : decode cX12_stepOfStatement 498 = .ok (.aload_n 0, 1) := by decide +kernel
theorem dX12_stepOfStatement_499 : decode cX12_stepOfStatement 499 = .ok (.dup, 1) := by decide +kernel
theorem dX12_stepOfStatement_500 : decode cX12_stepOfStatement 500 = .ok (.getfield 770, 3) := by decide +kernel
theorem dX12_stepOfStatement_503 : decode cX12_stepOfStatement 503 = .ok (.aload_n 0, 1) := by decide +kernel
theorem dX12_stepOfStatement_504 : decode cX12_stepOfStatement 504 = .ok (.getfield 124, 3) := by decide +kernel
theorem dX12_stepOfStatement_507 : decode cX12_stepOfStatement 507 = .ok (.iload_n 2, 1) := by decide +kernel
theorem dX12_stepOfStatement_508 : decode cX12_stepOfStatement 508 = .ok (.iaload, 1) := by decide +kernel
theorem dX12_stepOfStatement_509 : decode cX12_stepOfStatement 509 = .ok (.iconst (-1), 1) := by decide +kernel
theorem dX12_stepOfStatement_510 : decode cX12_stepOfStatement 510 = .ok (.if_icmp .ne 7, 3) := by decide +kernel
theorem dX12_stepOfStatement_513 : decode cX12_stepOfStatement 513 = .ok (.iconst 0, 1) := by decide +kernel
theorem dX12_stepOfStatement_514 : decode cX12_stepOfStatement 514 = .ok (.goto 4, 3) := by decide +kernel
theorem dX12_stepOfStatement_517 : decode cX12_stepOfStatement 517 = .ok (.iconst 1, 1) := by decide +kernel
theorem dX12_stepOfStatement_518 : decode cX12_stepOfStatement 518 = .ok (.iadd, 1) := by decide +kernel
theorem dX12_stepOfStatement_519 : decode cX12_stepOfStatement 519 = .ok (.putfield 770, 3) := by decide +kernel
theorem dX12_stepOfStatement_522 : decode cX12_stepOfStatement 522 = .ok (.goto 78, 3) := by decide +kernel
theorem dX12_stepOfStatement_525 : decode cX12_stepOfStatement 525 = .ok (.aload_n 0, 1) := by decide +kernel
theorem dX12_stepOfStatement_526 : decode cX12_stepOfStatement 526 = .ok (.aload_n 0, 1) := by decide +kernel
theorem dX12_stepOfStatement_527 : decode cX12_stepOfStatement 527 = .ok (.invokevirtual 718, 3) := by decide +kernel
theorem dX12_stepOfStatement_530 : decode cX12_stepOfStatement 530 = .ok (.aload_n 0, 1) := by decide +kernel
theorem dX12_stepOfStatement_531 : decode cX12_stepOfStatement 531 = .ok (.getfield 206, 3) := by decide +kernel
theorem dX12_stepOfStatement_534 : decode cX12_stepOfStatement 534 = .ok (.aload_n 0, 1) := by decide +kernel
theorem dX12_stepOfStatement_535 : decode cX12_stepOfStatement 535 = .ok (.getfield 613, 3) := by decide +kernel
theorem dX12_stepOfStatement_538 : decode cX12_stepOfStatement 538 = .ok (.iconst 1, 1) := by decide +kernel
theorem dX12_stepOfStatement_539 : decode cX12_stepOfStatement 539 = .ok (.isub, 1) := by decide +kernel
theorem dX12_stepOfStatement_540 : decode cX12_stepOfStatement 540 = .ok (.iaload, 1) := by decide +kernel
theorem dX12_stepOfStatement_541 : decode cX12_stepOfStatement 541 = .ok (.if_icmp .ne 7, 3) := by decide +kernel
theorem dX12_stepOfStatement_544 : decode cX12_stepOfStatement 544 = .ok (.iconst 1, 1) := by decide +kernel
theorem dX12_stepOfStatement_545 : decode cX12_stepOfStatement 545 = .ok (.goto 4, 3) := by decide +kernel
theorem dX12_stepOfStatement_548 : decode cX12_stepOfStatement 548 = .ok (.iconst 0, 1) := by decide +kernel
theorem dX12_stepOfStatement_549 : decode cX12_stepOfStatement 549 = .ok (.iload_n 2, 1) := by decide +kernel
theorem dX12_stepOfStatement_550 : decode cX12_stepOfStatement 550 = .ok (.invokevirtual 773, 3) := by decide +kernel
theorem dX12_stepOfStatement_553 : decode cX12_stepOfStatement 553 = .ok (.goto 47, 3) := by decide +kernel
theorem dX12_stepOfStatement_556 : decode cX12_stepOfStatement 556 = .ok (.aload_n 0, 1) := by decide +kernel
theorem dX12_stepOfStatement_557 : decode cX12_stepOfStatement 557 = .ok (.iconst 1, 1) := by decide +kernel
theorem dX12_stepOfStatement_558 : decode cX12_stepOfStatement 558 = .ok (.iload_n 2, 1) := by decide +kernel
theorem dX12_stepOfStatement_559 : decode cX12_stepOfStatement 559 = .ok (.invokevirtual 773, 3) := by decide +kernel
theorem dX12_stepOfStatement_562 : decode cX12_stepOfStatement 562 = .ok (.goto 38, 3) := by decide +kernel
theorem dX12_stepOfStatement_565 : decode cX12_stepOfStatement 565 = .ok (.aload_n 0, 1) := by decide +kernel
theorem dX12_stepOfStatement_566 : decode cX12_stepOfStatement 566 = .ok (.aload_n 0, 1) := by decide +kernel
theorem dX12_stepOfStatement_567 : decode cX12_stepOfStatement 567 = .ok (.getfield 613, 3) := by decide +kernel
theorem dX12_stepOfStatement_570 : decode cX12_stepOfStatement 570 = .ok (.iconst 1, 1) := by decide +kernel
theorem dX12_stepOfStatement_571 : decode cX12_stepOfStatement 571 = .ok (.isub, 1) := by decide +kernel
theorem dX12_stepOfStatement_572 : decode cX12_stepOfStatement 572 = .ok (.invokevirtual 681, 3) := by decide +kernel
theorem dX12_stepOfStatement_575 : decode cX12_stepOfStatement 575 = .ok (.aload_n 0, 1) := by decide +kernel
theorem dX12_stepOfStatement_576 : decode cX12_stepOfStatement 576 = .ok (.getfield 179, 3) := by decide +kernel
theorem dX12_stepOfStatement_579 : decode cX12_stepOfStatement 579 = .ok (.aload_n 0, 1) := by decide +kernel
theorem dX12_stepOfStatement_580 : decode cX12_stepOfStatement 580 = .ok (.getfield 613, 3) := by decide +kernel
theorem dX12_stepOfStatement_583 : decode cX12_stepOfStatement 583 = .ok (.iconst 1, 1) := by decide +kernel
theorem dX12_stepOfStatement_584 : decode cX12_stepOfStatement 584 = .ok (.isub, 1) := by decide +kernel
theorem dX12_stepOfStatement_585 : decode cX12_stepOfStatement 585 = .ok (.iconst 5, 1) := by decide +kernel
theorem dX12_stepOfStatement_586 : decode cX12_stepOfStatement 586 = .ok (.iastore, 1) := by decide +kernel
theorem dX12_stepOfStatement_587 : decode cX12_stepOfStatement 587 = .ok (.aload_n 0, 1) := by decide +kernel
theorem dX12_stepOfStatement_588 : decode cX12_stepOfStatement 588 = .ok (.invokevirtual 645, 3) := by decide +kernel
theorem dX12_stepOfStatement_591 : decode cX12_stepOfStatement 591 = .ok (.goto 9, 3) := by decide +kernel
theorem dX12_stepOfStatement_594 : decode cX12_stepOfStatement 594 = .ok (.aload_n 0, 1) := by decide +kernel
theorem dX12_stepOfStatement_595 : decode cX12_stepOfStatement 595 = .ok (.iload_n 2, 1) := by decide +kernel
theorem dX12_stepOfStatement_596 : decode cX12_stepOfStatement 596 = .ok (.iload_n 3, 1) := by decide +kernel
theorem dX12_stepOfStatement_597 : decode cX12_stepOfStatement 597 = .ok (.invokevirtual 775, 3) := by decide +kernel
theorem dX12_stepOfStatement_600 : decode cX12_stepOfStatement 600 = .ok (.return_, 1) := by decide +kernel
def wX12_stepOfStatement_b600 (a0 : Nat) (x1 : Int32) (x2 : Int32) (x3 : Int32)  (Sn : kp_S) (post : kp_S → Prop) : Prop :=
  post Sn
def wX12_stepOfStatement_b250 (a0 : Nat) (x1 : Int32) (x2 : Int32) (x3 : Int32) (xt0 : Int32) (at1 : Nat)  (Sn : kp_S) (post : kp_S → Prop) : Prop :=
  ∀ T2001 : kp_S, T2001 = kp_sI Sn 2481 at1 xt0 →
  ∀ T2002 : kp_S, T2002 = kp_sI T2001 2482 a0 x2 →
  wX12_leaves a0 T2002 (fun T2003 =>
  wX12_stepOfStatement_b600 a0 x1 x2 x3   T2003 post)
def wX12_stepOfStatement_b238 (a0 : Nat) (x1 : Int32) (x2 : Int32) (x3 : Int32)  (Sn : kp_S) (post : kp_S → Prop) : Prop :=
  ((¬ x1 = 39 →
  wX12_stepOfStatement_b250 a0 x1 x2 x3 2 a0  Sn post) ∧ (x1 = 39 →
  wX12_stepOfStatement_b250 a0 x1 x2 x3 1 a0  Sn post))
def wX12_stepOfStatement_b289 (a0 : Nat) (x1 : Int32) (x2 : Int32) (x3 : Int32) (xt0 : Int32) (at1 : Nat)  (Sn : kp_S) (post : kp_S → Prop) : Prop :=
  ∀ T4001 : kp_S, T4001 = kp_sI Sn 2510 at1 xt0 →
  wX12_stepOfStatement_b600 a0 x1 x2 x3   T4001 post
def wX12_stepOfStatement_b450 (a0 : Nat) (x1 : Int32) (x2 : Int32) (x3 : Int32) (xt0 : Int32) (xt1 : Int32) (at2 : Nat)  (Sn : kp_S) (post : kp_S → Prop) : Prop :=
  wX12_rounds at2 xt1 xt0 Sn (fun T5001 =>
  wX12_stepOfStatement_b600 a0 x1 x2 x3   T5001 post)
def wX12_stepOfStatement_b518 (a0 : Nat) (x1 : Int32) (x2 : Int32) (x3 : Int32) (xt0 : Int32) (xt1 : Int32) (at2 : Nat)  (Sn : kp_S) (post : kp_S → Prop) : Prop :=
  ∀ T6001 : kp_S, T6001 = kp_sI Sn 2473 at2 (xt1 + xt0) →
  wX12_stepOfStatement_b600 a0 x1 x2 x3   T6001 post
def wX12_stepOfStatement_b549 (a0 : Nat) (x1 : Int32) (x2 : Int32) (x3 : Int32) (xt0 : Int32) (at1 : Nat)  (Sn : kp_S) (post : kp_S → Prop) : Prop :=
  wX12_mends at1 xt0 x2 Sn (fun T7001 =>
  wX12_stepOfStatement_b600 a0 x1 x2 x3   T7001 post)
def wX12_stepOfStatement_b594 (a0 : Nat) (x1 : Int32) (x2 : Int32) (x3 : Int32)  (Sn : kp_S) (post : kp_S → Prop) : Prop :=
  wX12_pledges a0 x2 x3 Sn (fun T8001 =>
  wX12_stepOfStatement_b600 a0 x1 x2 x3   T8001 post)
def wX12_stepOfStatement_b390 (a0 : Nat) (x1 : Int32) (x2 : Int32) (x3 : Int32) (xt0 : Int32) (at1 : Nat)  (Sn : kp_S) (post : kp_S → Prop) : Prop :=
  wX12_chooses at1 xt0 x2 Sn (fun T9001 =>
  wX12_stepOfStatement_b600 a0 x1 x2 x3   T9001 post)
def wX12_stepOfStatement_b430 (a0 : Nat) (x1 : Int32) (x2 : Int32) (x3 : Int32) (xt0 : Int32) (at1 : Nat)  (Sn : kp_S) (post : kp_S → Prop) : Prop :=
  wX12_ensures at1 xt0 Sn (fun T10001 =>
  wX12_stepOfStatement_b600 a0 x1 x2 x3   T10001 post)
def wX12_stepOfStatement (a0 : Nat) (x1 : Int32) (x2 : Int32) (x3 : Int32) (S : kp_S) (post : kp_S → Prop) : Prop :=
  ((x1 = 30 →
  ∀ T2 : kp_S, T2 = kp_sI S 2511 a0 x2 →
  wX12_burns a0 T2 (fun y4 T3 =>
  wX12_stepOfStatement_b600 a0 x1 x2 x3   T3 post)) ∧ (¬ x1 = 30 →
  ((x1 = 31 →
  wX12_pop a0 S (fun y7 T6 =>
  wX12_note a0 0 y7 T6 (fun T8 =>
  wX12_stepOfStatement_b600 a0 x1 x2 x3   T8 post))) ∧ (¬ x1 = 31 →
  ((x1 = 32 →
  wX12_moveGate a0 1 S (fun T10 =>
  wX12_stepOfStatement_b600 a0 x1 x2 x3   T10 post)) ∧ (¬ x1 = 32 →
  ((x1 = 33 →
  wX12_moveGate a0 0 S (fun T12 =>
  wX12_stepOfStatement_b600 a0 x1 x2 x3   T12 post)) ∧ (¬ x1 = 33 →
  ((x1 = 34 →
  wX12_sluice a0 S (fun T14 =>
  wX12_stepOfStatement_b600 a0 x1 x2 x3   T14 post)) ∧ (¬ x1 = 34 →
  ((x1 = 35 →
  wX12_sail a0 S (fun T16 =>
  wX12_stepOfStatement_b600 a0 x1 x2 x3   T16 post)) ∧ (¬ x1 = 35 →
  ((x1 = 36 →
  wX12_pop a0 S (fun y19 T18 =>
  wX12_fails a0 y19 T18 (fun T20 =>
  wX12_stepOfStatement_b600 a0 x1 x2 x3   T20 post))) ∧ (¬ x1 = 36 →
  ((x1 = 37 →
  ∀ T22 : kp_S, T22 = kp_sI S 2513 a0 1 →
  wX12_stepOfStatement_b600 a0 x1 x2 x3   T22 post) ∧ (¬ x1 = 37 →
  ((x1 = 38 →
  wX12_pop a0 S (fun y25 T24 =>
  ∀ T26 : kp_S, T26 = kp_sI T24 2483 a0 y25 →
  ∀ T27 : kp_S, T27 = kp_sI T26 2481 a0 3 →
  wX12_leaves a0 T27 (fun T28 =>
  wX12_stepOfStatement_b600 a0 x1 x2 x3   T28 post))) ∧ (¬ x1 = 38 →
  ((x1 = 39 →
  wX12_stepOfStatement_b238 a0 x1 x2 x3   S post) ∧ (¬ x1 = 39 →
  ((x1 = 40 →
  wX12_stepOfStatement_b238 a0 x1 x2 x3   S post) ∧ (¬ x1 = 40 →
  ((x1 = 41 →
  ∀ T32 : kp_S, T32 = kp_sI S 2510 a0 x2 →
  wX12_stepOfStatement_b600 a0 x1 x2 x3   T32 post) ∧ (¬ x1 = 41 →
  ((x1 = 42 →
  wX12_pop a0 S (fun y35 T34 =>
  ((¬ y35 = 0 →
  wX12_stepOfStatement_b289 a0 x1 x2 x3 (kp_I T34 2510 a0) a0  T34 post) ∧ (y35 = 0 →
  wX12_stepOfStatement_b289 a0 x1 x2 x3 x2 a0  T34 post)))) ∧ (¬ x1 = 42 →
  ((x1 = 43 →
  wX12_opens a0 3 0 x2 S (fun T38 =>
  wX12_stepOfStatement_b600 a0 x1 x2 x3   T38 post)) ∧ (¬ x1 = 43 →
  ((x1 = 44 →
  ∀ T40 : kp_S, T40 = kp_sI S 2511 a0 x2 →
  wX12_burns a0 T40 (fun y42 T41 =>
  wX12_stepOfStatement_b600 a0 x1 x2 x3   T41 post)) ∧ (¬ x1 = 44 →
  ((x1 = 45 →
  wX12_pop a0 S (fun y45 T44 =>
  ((y45 = 0 →
  wX12_stepOfStatement_b450 a0 x1 x2 x3 0 x2 a0  T44 post) ∧ (¬ y45 = 0 →
  wX12_stepOfStatement_b450 a0 x1 x2 x3 1 x2 a0  T44 post)))) ∧ (¬ x1 = 45 →
  ((x1 = 46 →
  wX12_beginsEach a0 x2 S (fun T48 =>
  wX12_stepOfStatement_b600 a0 x1 x2 x3   T48 post)) ∧ (¬ x1 = 46 →
  ((x1 = 47 →
  wX12_testsEach a0 x2 S (fun T50 =>
  wX12_stepOfStatement_b600 a0 x1 x2 x3   T50 post)) ∧ (¬ x1 = 47 →
  ((x1 = 48 →
  wX12_leaves a0 S (fun T52 =>
  wX12_stepOfStatement_b600 a0 x1 x2 x3   T52 post)) ∧ (¬ x1 = 48 →
  ((x1 = 49 →
  wX12_pop a0 S (fun y55 T54 =>
  wX12_takes a0 y55 x2 T54 (fun T56 =>
  wX12_stepOfStatement_b600 a0 x1 x2 x3   T56 post))) ∧ (¬ x1 = 49 →
  ((x1 = 50 →
  wX12_opens a0 4 3 x2 S (fun T58 =>
  ∃ b59 : Nat, kp_R T58 2452 a0 = some b59 ∧
  vp_in x2 (kp_N T58 b59) ∧
  ((¬ (kp_A T58 b59 x2.toNatClampNeg) = (-1) →
  wX12_stepOfStatement_b518 a0 x1 x2 x3 1 (kp_I T58 2473 a0) a0  T58 post) ∧ ((kp_A T58 b59 x2.toNatClampNeg) = (-1) →
  wX12_stepOfStatement_b518 a0 x1 x2 x3 0 (kp_I T58 2473 a0) a0  T58 post)))) ∧ (¬ x1 = 50 →
  ((x1 = 51 →
  wX12_pop a0 S (fun y63 T62 =>
  ∃ b64 : Nat, kp_R T62 2498 a0 = some b64 ∧
  vp_in ((kp_I T62 2487 a0) - 1) (kp_N T62 b64) ∧
  ((¬ y63 = (kp_A T62 b64 ((kp_I T62 2487 a0) - 1).toNatClampNeg) →
  wX12_stepOfStatement_b549 a0 x1 x2 x3 0 a0  T62 post) ∧ (y63 = (kp_A T62 b64 ((kp_I T62 2487 a0) - 1).toNatClampNeg) →
  wX12_stepOfStatement_b549 a0 x1 x2 x3 1 a0  T62 post)))) ∧ (¬ x1 = 51 →
  ((x1 = 52 →
  wX12_mends a0 1 x2 S (fun T67 =>
  wX12_stepOfStatement_b600 a0 x1 x2 x3   T67 post)) ∧ (¬ x1 = 52 →
  ((x1 = 53 →
  wX12_takeWay a0 ((kp_I S 2487 a0) - 1) S (fun T69 =>
  ∃ b70 : Nat, kp_R T69 2489 a0 = some b70 ∧
  vp_in ((kp_I T69 2487 a0) - 1) (kp_N T69 b70) ∧ ∀ T71 : kp_S, T71 = kp_sA T69 b70 (upd (kp_A T69 b70) (((kp_I T69 2487 a0) - 1).toNatClampNeg) 5) →
  wX12_leaves a0 T71 (fun T72 =>
  wX12_stepOfStatement_b600 a0 x1 x2 x3   T72 post))) ∧ (¬ x1 = 53 →
  ((x1 = 54 →
  wX12_stepOfStatement_b594 a0 x1 x2 x3   S post) ∧ (¬ x1 = 54 →
  ((x1 = 55 →
  ∀ T75 : kp_S, T75 = kp_sI S 2511 a0 x2 →
  wX12_stepOfStatement_b600 a0 x1 x2 x3   T75 post) ∧ (¬ x1 = 55 →
  ((x1 = 56 →
  wX12_burns a0 S (fun y78 T77 =>
  ((y78 = 0 →
  wX12_stepOfStatement_b600 a0 x1 x2 x3   T77 post) ∧ (¬ y78 = 0 →
  wX12_rounds a0 x2 1 T77 (fun T79 =>
  wX12_stepOfStatement_b600 a0 x1 x2 x3   T79 post))))) ∧ (¬ x1 = 56 →
  ((x1 = 57 →
  wX12_pop a0 S (fun y83 T82 =>
  ((¬ y83 = 0 →
  wX12_rounds a0 x2 0 T82 (fun T84 =>
  wX12_stepOfStatement_b600 a0 x1 x2 x3   T84 post)) ∧ (y83 = 0 →
  ∀ T85 : kp_S, T85 = kp_sI T82 2510 a0 x3 →
  wX12_stepOfStatement_b600 a0 x1 x2 x3   T85 post)))) ∧ (¬ x1 = 57 →
  ((x1 = 58 →
  wX12_pop a0 S (fun y89 T88 =>
  ∃ b90 : Nat, kp_R T88 2515 a0 = some b90 ∧
  vp_in ((kp_I T88 2516 a0) - 1) (kp_N T88 b90) ∧
  ((¬ y89 = (kp_A T88 b90 ((kp_I T88 2516 a0) - 1).toNatClampNeg) →
  wX12_stepOfStatement_b390 a0 x1 x2 x3 0 a0  T88 post) ∧ (y89 = (kp_A T88 b90 ((kp_I T88 2516 a0) - 1).toNatClampNeg) →
  wX12_stepOfStatement_b390 a0 x1 x2 x3 1 a0  T88 post)))) ∧ (¬ x1 = 58 →
  ((x1 = 59 →
  wX12_chooses a0 1 x2 S (fun T93 =>
  wX12_stepOfStatement_b600 a0 x1 x2 x3   T93 post)) ∧ (¬ x1 = 59 →
  ((x1 = 60 →
  wX12_opens a0 5 8 x2 S (fun T95 =>
  wX12_stepOfStatement_b600 a0 x1 x2 x3   T95 post)) ∧ (¬ x1 = 60 →
  ((x1 = 61 →
  wX12_pop a0 S (fun y98 T97 =>
  ((y98 = 0 →
  wX12_stepOfStatement_b430 a0 x1 x2 x3 0 a0  T97 post) ∧ (¬ y98 = 0 →
  wX12_stepOfStatement_b430 a0 x1 x2 x3 1 a0  T97 post)))) ∧ (¬ x1 = 61 →
  wX12_stepOfStatement_b594 a0 x1 x2 x3   S post))))))))))))))))))))))))))))))))))))))))))))))))))))))))))))))))
set_option maxHeartbeats 4000000 in
set_option maxRecDepth 100000 in
theorem c_X12_stepOfStatement (l : Launch) (D : va_G) (cy : Nat → ClassId) (ad : (Nat → Nat) × (Nat → Nat)) (S : kp_S) (a0 : Nat) (x1 : Int32) (x2 : Int32) (x3 : Int32) (post : kp_S → Prop) (hS : kp_ok S) (f_a0 : kp_is S a0 12) (hw : wX12_stepOfStatement a0 x1 x2 x3 S post) : kp_M l yX12_stepOfStatement cX12_stepOfStatement 4 none { frames := 7, cells := 0, slots := 0, locals := 158 } D cy ad S [.ref a0, .int x1, .int x2, .int x3] 0 0 (fun A => kp_Qv D cy A S post) := by
  refine kp_start (own := RX12) (by decide) rfl (Nat.le_of_ble_eq_true rfl) hS ?_
  intro p e s m below meth c A ls X hr hlocks hname h hl
  have hle : kp_le S S := kp_le.rf
  have hl : lv_has ls 4 [(0, .ref a0), (1, .int x1), (2, .int x2), (3, .int x3)] := hl
  have j600 : ∀  (Sn : kp_S) (H : Heap) (locs : List Loc) (ls : Array Slot), lv_has ls 4 [] → kp_H D cy A Sn s.heap H locs → kp_le S Sn → kp_is Sn a0 12 → wX12_stepOfStatement_b600 a0 x1 x2 x3   Sn post → W p l e { frames := 7, cells := 0, slots := 0, locals := 158 } s m ([.ref a0, .int x1, .int x2, .int x3] : List Value).toArray below meth c H locs 0 0 (MQ below (kp_Qv D cy A S post) ([.ref a0, .int x1, .int x2, .int x3] : List Value).toArray s 0 0 A) (F0 m 600 ls []) := by
    intro  Sn H locs ls hl h hle f_a0 hw
    unfold wX12_stepOfStatement_b600 at hw
    exact kp_retv X hr hlocks h hle hw dX12_stepOfStatement_600
  have j250 : ∀ (xt0 : Int32) (at1 : Nat) (Sn : kp_S) (H : Heap) (locs : List Loc) (ls : Array Slot), lv_has ls 4 [(0, .ref a0), (2, .int x2)] → kp_H D cy A Sn s.heap H locs → kp_le S Sn → kp_is Sn a0 12 → kp_is Sn at1 12 → wX12_stepOfStatement_b250 a0 x1 x2 x3 xt0 at1  Sn post → W p l e { frames := 7, cells := 0, slots := 0, locals := 158 } s m ([.ref a0, .int x1, .int x2, .int x3] : List Value).toArray below meth c H locs 0 0 (MQ below (kp_Qv D cy A S post) ([.ref a0, .int x1, .int x2, .int x3] : List Value).toArray s 0 0 A) (F0 m 250 ls [.int xt0, .ref at1]) := by
    intro xt0 at1 Sn H locs ls hl h hle f_a0 f_at1 hw
    unfold wX12_stepOfStatement_b250 at hw
    refine kp_putI X h f_at1 fp_12_616 rfl ⟨rfl, rfl⟩ dX12_stepOfStatement_250 (fun T2001 e_T2001 l_T2001 H locs h => ?_)
    have hw := hw T2001 e_T2001
    have f_a0 := l_T2001.is f_a0
    have f_at1 := l_T2001.is f_at1
    have hle := hle.tr l_T2001
    refine lv_aload_n X.1 X.2.1 dX12_stepOfStatement_253 rfl (lv_at hl 0 rfl) ?_
    refine lv_iload_n X.1 X.2.1 dX12_stepOfStatement_254 rfl (lv_at hl 1 rfl) ?_
    refine kp_putI X h f_a0 fp_12_619 rfl ⟨rfl, rfl⟩ dX12_stepOfStatement_255 (fun T2002 e_T2002 l_T2002 H locs h => ?_)
    have hw := hw T2002 e_T2002
    have f_a0 := l_T2002.is f_a0
    have f_at1 := l_T2002.is f_at1
    have hle := hle.tr l_T2002
    refine lv_aload_n X.1 X.2.1 dX12_stepOfStatement_258 rfl (lv_at hl 0 rfl) ?_
    refine kp_callv X h (kp_runV (rm := { frames := 4, cells := 0, slots := 0, locals := 86 }) (mc := 0) (ms := 0) (rest := []) (Qc := fun A => kp_Qv D cy A T2002 _) X h (c_X12_leaves l D cy ad T2002 a0 _ h.2.2.2 f_a0 hw) f_a0 cv_12_645 ⟨by decide, by decide, rfl, rfl, by decide, by decide⟩ rfl hl.1 rfl (Nat.le_of_ble_eq_true rfl) dX12_stepOfStatement_259) (fun T2003 hw l_T2003 H locs h => ?_)
    have f_a0 := l_T2003.is f_a0
    have f_at1 := l_T2003.is f_at1
    have hle := hle.tr l_T2003
    refine lv_goto (tgt := 600) X.1 X.2.1 dX12_stepOfStatement_262 (by decide) ?_
    exact j600  T2003 H locs ls (lv_sub hl [] rfl) h hle f_a0 hw
  have j238 : ∀  (Sn : kp_S) (H : Heap) (locs : List Loc) (ls : Array Slot), lv_has ls 4 [(0, .ref a0), (1, .int x1), (2, .int x2)] → kp_H D cy A Sn s.heap H locs → kp_le S Sn → kp_is Sn a0 12 → wX12_stepOfStatement_b238 a0 x1 x2 x3   Sn post → W p l e { frames := 7, cells := 0, slots := 0, locals := 158 } s m ([.ref a0, .int x1, .int x2, .int x3] : List Value).toArray below meth c H locs 0 0 (MQ below (kp_Qv D cy A S post) ([.ref a0, .int x1, .int x2, .int x3] : List Value).toArray s 0 0 A) (F0 m 238 ls []) := by
    intro  Sn H locs ls hl h hle f_a0 hw
    unfold wX12_stepOfStatement_b238 at hw
    refine lv_aload_n X.1 X.2.1 dX12_stepOfStatement_238 rfl (lv_at hl 0 rfl) ?_
    refine lv_iload_n X.1 X.2.1 dX12_stepOfStatement_239 rfl (lv_at hl 1 rfl) ?_
    refine lv_bipush (v := 39) X.1 X.2.1 dX12_stepOfStatement_240 (by decide) ?_
    refine lv_icmp_ne (tgt := 249) X.1 X.2.1 dX12_stepOfStatement_242 (by decide) (fun c3001 => ?_) (fun c3001 => ?_)
    · have hw := hw.1 c3001
      refine lv_iconst (v := 2) X.1 X.2.1 dX12_stepOfStatement_249 (by decide) ?_
      exact j250 2 a0 Sn H locs ls (lv_sub hl [0, 2] rfl) h hle f_a0 f_a0 hw
    · have hw := hw.2 c3001
      refine lv_iconst (v := 1) X.1 X.2.1 dX12_stepOfStatement_245 (by decide) ?_
      refine lv_goto (tgt := 250) X.1 X.2.1 dX12_stepOfStatement_246 (by decide) ?_
      exact j250 1 a0 Sn H locs ls (lv_sub hl [0, 2] rfl) h hle f_a0 f_a0 hw
  have j289 : ∀ (xt0 : Int32) (at1 : Nat) (Sn : kp_S) (H : Heap) (locs : List Loc) (ls : Array Slot), lv_has ls 4 [] → kp_H D cy A Sn s.heap H locs → kp_le S Sn → kp_is Sn at1 12 → kp_is Sn a0 12 → wX12_stepOfStatement_b289 a0 x1 x2 x3 xt0 at1  Sn post → W p l e { frames := 7, cells := 0, slots := 0, locals := 158 } s m ([.ref a0, .int x1, .int x2, .int x3] : List Value).toArray below meth c H locs 0 0 (MQ below (kp_Qv D cy A S post) ([.ref a0, .int x1, .int x2, .int x3] : List Value).toArray s 0 0 A) (F0 m 289 ls [.int xt0, .ref at1]) := by
    intro xt0 at1 Sn H locs ls hl h hle f_at1 f_a0 hw
    unfold wX12_stepOfStatement_b289 at hw
    refine kp_putI X h f_at1 fp_12_648 rfl ⟨rfl, rfl⟩ dX12_stepOfStatement_289 (fun T4001 e_T4001 l_T4001 H locs h => ?_)
    have hw := hw T4001 e_T4001
    have f_at1 := l_T4001.is f_at1
    have f_a0 := l_T4001.is f_a0
    have hle := hle.tr l_T4001
    refine lv_goto (tgt := 600) X.1 X.2.1 dX12_stepOfStatement_292 (by decide) ?_
    exact j600  T4001 H locs ls (lv_sub hl [] rfl) h hle f_a0 hw
  have j450 : ∀ (xt0 : Int32) (xt1 : Int32) (at2 : Nat) (Sn : kp_S) (H : Heap) (locs : List Loc) (ls : Array Slot), lv_has ls 4 [] → kp_H D cy A Sn s.heap H locs → kp_le S Sn → kp_is Sn at2 12 → kp_is Sn a0 12 → wX12_stepOfStatement_b450 a0 x1 x2 x3 xt0 xt1 at2  Sn post → W p l e { frames := 7, cells := 0, slots := 0, locals := 158 } s m ([.ref a0, .int x1, .int x2, .int x3] : List Value).toArray below meth c H locs 0 0 (MQ below (kp_Qv D cy A S post) ([.ref a0, .int x1, .int x2, .int x3] : List Value).toArray s 0 0 A) (F0 m 450 ls [.int xt0, .int xt1, .ref at2]) := by
    intro xt0 xt1 at2 Sn H locs ls hl h hle f_at2 f_a0 hw
    unfold wX12_stepOfStatement_b450 at hw
    refine kp_callv X h (kp_runV (rm := { frames := 1, cells := 0, slots := 0, locals := 22 }) (mc := 0) (ms := 0) (rest := []) (Qc := fun A => kp_Qv D cy A Sn _) X h (c_X12_rounds l D cy ad Sn at2 xt1 xt0 _ h.2.2.2 f_at2 hw) f_at2 cv_12_750 ⟨by decide, by decide, rfl, rfl, by decide, by decide⟩ rfl hl.1 rfl (Nat.le_of_ble_eq_true rfl) dX12_stepOfStatement_450) (fun T5001 hw l_T5001 H locs h => ?_)
    have f_at2 := l_T5001.is f_at2
    have f_a0 := l_T5001.is f_a0
    have hle := hle.tr l_T5001
    refine lv_goto (tgt := 600) X.1 X.2.1 dX12_stepOfStatement_453 (by decide) ?_
    exact j600  T5001 H locs ls (lv_sub hl [] rfl) h hle f_a0 hw
  have j518 : ∀ (xt0 : Int32) (xt1 : Int32) (at2 : Nat) (Sn : kp_S) (H : Heap) (locs : List Loc) (ls : Array Slot), lv_has ls 4 [] → kp_H D cy A Sn s.heap H locs → kp_le S Sn → kp_is Sn at2 12 → kp_is Sn a0 12 → wX12_stepOfStatement_b518 a0 x1 x2 x3 xt0 xt1 at2  Sn post → W p l e { frames := 7, cells := 0, slots := 0, locals := 158 } s m ([.ref a0, .int x1, .int x2, .int x3] : List Value).toArray below meth c H locs 0 0 (MQ below (kp_Qv D cy A S post) ([.ref a0, .int x1, .int x2, .int x3] : List Value).toArray s 0 0 A) (F0 m 518 ls [.int xt0, .int xt1, .ref at2]) := by
    intro xt0 xt1 at2 Sn H locs ls hl h hle f_at2 f_a0 hw
    unfold wX12_stepOfStatement_b518 at hw
    refine lv_iadd X.1 X.2.1 dX12_stepOfStatement_518 ?_
    refine kp_putI X h f_at2 fp_12_770 rfl ⟨rfl, rfl⟩ dX12_stepOfStatement_519 (fun T6001 e_T6001 l_T6001 H locs h => ?_)
    have hw := hw T6001 e_T6001
    have f_at2 := l_T6001.is f_at2
    have f_a0 := l_T6001.is f_a0
    have hle := hle.tr l_T6001
    refine lv_goto (tgt := 600) X.1 X.2.1 dX12_stepOfStatement_522 (by decide) ?_
    exact j600  T6001 H locs ls (lv_sub hl [] rfl) h hle f_a0 hw
  have j549 : ∀ (xt0 : Int32) (at1 : Nat) (Sn : kp_S) (H : Heap) (locs : List Loc) (ls : Array Slot), lv_has ls 4 [(2, .int x2)] → kp_H D cy A Sn s.heap H locs → kp_le S Sn → kp_is Sn at1 12 → kp_is Sn a0 12 → wX12_stepOfStatement_b549 a0 x1 x2 x3 xt0 at1  Sn post → W p l e { frames := 7, cells := 0, slots := 0, locals := 158 } s m ([.ref a0, .int x1, .int x2, .int x3] : List Value).toArray below meth c H locs 0 0 (MQ below (kp_Qv D cy A S post) ([.ref a0, .int x1, .int x2, .int x3] : List Value).toArray s 0 0 A) (F0 m 549 ls [.int xt0, .ref at1]) := by
    intro xt0 at1 Sn H locs ls hl h hle f_at1 f_a0 hw
    unfold wX12_stepOfStatement_b549 at hw
    refine lv_iload_n X.1 X.2.1 dX12_stepOfStatement_549 rfl (lv_at hl 0 rfl) ?_
    refine kp_callv X h (kp_runV (rm := { frames := 1, cells := 0, slots := 0, locals := 22 }) (mc := 0) (ms := 0) (rest := []) (Qc := fun A => kp_Qv D cy A Sn _) X h (c_X12_mends l D cy ad Sn at1 xt0 x2 _ h.2.2.2 f_at1 hw) f_at1 cv_12_773 ⟨by decide, by decide, rfl, rfl, by decide, by decide⟩ rfl hl.1 rfl (Nat.le_of_ble_eq_true rfl) dX12_stepOfStatement_550) (fun T7001 hw l_T7001 H locs h => ?_)
    have f_at1 := l_T7001.is f_at1
    have f_a0 := l_T7001.is f_a0
    have hle := hle.tr l_T7001
    refine lv_goto (tgt := 600) X.1 X.2.1 dX12_stepOfStatement_553 (by decide) ?_
    exact j600  T7001 H locs ls (lv_sub hl [] rfl) h hle f_a0 hw
  have j594 : ∀  (Sn : kp_S) (H : Heap) (locs : List Loc) (ls : Array Slot), lv_has ls 4 [(0, .ref a0), (2, .int x2), (3, .int x3)] → kp_H D cy A Sn s.heap H locs → kp_le S Sn → kp_is Sn a0 12 → wX12_stepOfStatement_b594 a0 x1 x2 x3   Sn post → W p l e { frames := 7, cells := 0, slots := 0, locals := 158 } s m ([.ref a0, .int x1, .int x2, .int x3] : List Value).toArray below meth c H locs 0 0 (MQ below (kp_Qv D cy A S post) ([.ref a0, .int x1, .int x2, .int x3] : List Value).toArray s 0 0 A) (F0 m 594 ls []) := by
    intro  Sn H locs ls hl h hle f_a0 hw
    unfold wX12_stepOfStatement_b594 at hw
    refine lv_aload_n X.1 X.2.1 dX12_stepOfStatement_594 rfl (lv_at hl 0 rfl) ?_
    refine lv_iload_n X.1 X.2.1 dX12_stepOfStatement_595 rfl (lv_at hl 1 rfl) ?_
    refine lv_iload_n X.1 X.2.1 dX12_stepOfStatement_596 rfl (lv_at hl 2 rfl) ?_
    refine kp_callv X h (kp_runV (rm := { frames := 6, cells := 0, slots := 0, locals := 130 }) (mc := 0) (ms := 0) (rest := []) (Qc := fun A => kp_Qv D cy A Sn _) X h (c_X12_pledges l D cy ad Sn a0 x2 x3 _ h.2.2.2 f_a0 hw) f_a0 cv_12_775 ⟨by decide, by decide, rfl, rfl, by decide, by decide⟩ rfl hl.1 rfl (Nat.le_of_ble_eq_true rfl) dX12_stepOfStatement_597) (fun T8001 hw l_T8001 H locs h => ?_)
    have f_a0 := l_T8001.is f_a0
    have hle := hle.tr l_T8001
    exact j600  T8001 H locs ls (lv_sub hl [] rfl) h hle f_a0 hw
  have j390 : ∀ (xt0 : Int32) (at1 : Nat) (Sn : kp_S) (H : Heap) (locs : List Loc) (ls : Array Slot), lv_has ls 4 [(2, .int x2)] → kp_H D cy A Sn s.heap H locs → kp_le S Sn → kp_is Sn at1 12 → kp_is Sn a0 12 → wX12_stepOfStatement_b390 a0 x1 x2 x3 xt0 at1  Sn post → W p l e { frames := 7, cells := 0, slots := 0, locals := 158 } s m ([.ref a0, .int x1, .int x2, .int x3] : List Value).toArray below meth c H locs 0 0 (MQ below (kp_Qv D cy A S post) ([.ref a0, .int x1, .int x2, .int x3] : List Value).toArray s 0 0 A) (F0 m 390 ls [.int xt0, .ref at1]) := by
    intro xt0 at1 Sn H locs ls hl h hle f_at1 f_a0 hw
    unfold wX12_stepOfStatement_b390 at hw
    refine lv_iload_n X.1 X.2.1 dX12_stepOfStatement_390 rfl (lv_at hl 0 rfl) ?_
    refine kp_callv X h (kp_runV (rm := { frames := 0, cells := 0, slots := 0, locals := 0 }) (mc := 0) (ms := 0) (rest := []) (Qc := fun A => kp_Qv D cy A Sn _) X h (c_X12_chooses l D cy ad Sn at1 xt0 x2 _ h.2.2.2 f_at1 hw) f_at1 cv_12_754 ⟨by decide, by decide, rfl, rfl, by decide, by decide⟩ rfl hl.1 rfl (Nat.le_of_ble_eq_true rfl) dX12_stepOfStatement_391) (fun T9001 hw l_T9001 H locs h => ?_)
    have f_at1 := l_T9001.is f_at1
    have f_a0 := l_T9001.is f_a0
    have hle := hle.tr l_T9001
    refine lv_goto (tgt := 600) X.1 X.2.1 dX12_stepOfStatement_394 (by decide) ?_
    exact j600  T9001 H locs ls (lv_sub hl [] rfl) h hle f_a0 hw
  have j430 : ∀ (xt0 : Int32) (at1 : Nat) (Sn : kp_S) (H : Heap) (locs : List Loc) (ls : Array Slot), lv_has ls 4 [] → kp_H D cy A Sn s.heap H locs → kp_le S Sn → kp_is Sn at1 12 → kp_is Sn a0 12 → wX12_stepOfStatement_b430 a0 x1 x2 x3 xt0 at1  Sn post → W p l e { frames := 7, cells := 0, slots := 0, locals := 158 } s m ([.ref a0, .int x1, .int x2, .int x3] : List Value).toArray below meth c H locs 0 0 (MQ below (kp_Qv D cy A S post) ([.ref a0, .int x1, .int x2, .int x3] : List Value).toArray s 0 0 A) (F0 m 430 ls [.int xt0, .ref at1]) := by
    intro xt0 at1 Sn H locs ls hl h hle f_at1 f_a0 hw
    unfold wX12_stepOfStatement_b430 at hw
    refine kp_callv X h (kp_runV (rm := { frames := 6, cells := 0, slots := 0, locals := 130 }) (mc := 0) (ms := 0) (rest := []) (Qc := fun A => kp_Qv D cy A Sn _) X h (c_X12_ensures l D cy ad Sn at1 xt0 _ h.2.2.2 f_at1 hw) f_at1 cv_12_758 ⟨by decide, by decide, rfl, rfl, by decide, by decide⟩ rfl hl.1 rfl (Nat.le_of_ble_eq_true rfl) dX12_stepOfStatement_430) (fun T10001 hw l_T10001 H locs h => ?_)
    have f_at1 := l_T10001.is f_at1
    have f_a0 := l_T10001.is f_a0
    have hle := hle.tr l_T10001
    refine lv_goto (tgt := 600) X.1 X.2.1 dX12_stepOfStatement_433 (by decide) ?_
    exact j600  T10001 H locs ls (lv_sub hl [] rfl) h hle f_a0 hw
  unfold wX12_stepOfStatement at hw
  have h : kp_H D cy A S s.heap s.heap [] := h
  revert h
  intro h
  refine lv_iload_n X.1 X.2.1 dX12_stepOfStatement_0 rfl (lv_at hl 1 rfl) ?_
  by_cases c1 : x1 = 30
  · have hw := hw.1 c1
    refine lv_tableIn (off := 143) (tgt := 144) X.1 X.2.1 dX12_stepOfStatement_1 (by rw [c1]; decide) (by rw [c1]; decide) (by rw [c1]; decide) (by decide) ?_
    refine lv_aload_n X.1 X.2.1 dX12_stepOfStatement_144 rfl (lv_at hl 0 rfl) ?_
    refine lv_iload_n X.1 X.2.1 dX12_stepOfStatement_145 rfl (lv_at hl 2 rfl) ?_
    refine kp_putI X h f_a0 fp_12_639 rfl ⟨rfl, rfl⟩ dX12_stepOfStatement_146 (fun T2 e_T2 l_T2 H locs h => ?_)
    have hw := hw T2 e_T2
    have f_a0 := l_T2.is f_a0
    have hle := hle.tr l_T2
    refine lv_aload_n X.1 X.2.1 dX12_stepOfStatement_149 rfl (lv_at hl 0 rfl) ?_
    refine kp_calli X h (kp_runV (rm := { frames := 0, cells := 0, slots := 0, locals := 0 }) (mc := 0) (ms := 0) (rest := []) (Qc := fun A => kp_Qi D cy A T2 _) X h (c_X12_burns l D cy ad T2 a0 _ h.2.2.2 f_a0 hw) f_a0 cv_12_693 ⟨by decide, by decide, rfl, rfl, by decide, by decide⟩ rfl hl.1 rfl (Nat.le_of_ble_eq_true rfl) dX12_stepOfStatement_150) (fun y4 T3 hw l_T3 H locs h => ?_)
    have f_a0 := l_T3.is f_a0
    have hle := hle.tr l_T3
    refine lv_pop X.1 X.2.1 dX12_stepOfStatement_153 rfl ?_
    refine lv_goto (tgt := 600) X.1 X.2.1 dX12_stepOfStatement_154 (by decide) ?_
    exact j600  T3 _ _ ls (lv_sub hl [] rfl) h hle f_a0 hw
  have hw := hw.2 c1
  by_cases c5 : x1 = 31
  · have hw := hw.1 c5
    refine lv_tableIn (off := 156) (tgt := 157) X.1 X.2.1 dX12_stepOfStatement_1 (by rw [c5]; decide) (by rw [c5]; decide) (by rw [c5]; decide) (by decide) ?_
    refine lv_aload_n X.1 X.2.1 dX12_stepOfStatement_157 rfl (lv_at hl 0 rfl) ?_
    refine lv_iconst (v := 0) X.1 X.2.1 dX12_stepOfStatement_158 (by decide) ?_
    refine lv_aload_n X.1 X.2.1 dX12_stepOfStatement_159 rfl (lv_at hl 0 rfl) ?_
    refine kp_calli X h (kp_runV (rm := { frames := 0, cells := 0, slots := 0, locals := 0 }) (mc := 0) (ms := 0) (rest := [.int 0, .ref a0]) (Qc := fun A => kp_Qi D cy A S _) X h (c_X12_pop l D cy ad S a0 _ h.2.2.2 f_a0 hw) f_a0 cv_12_718 ⟨by decide, by decide, rfl, rfl, by decide, by decide⟩ rfl hl.1 rfl (Nat.le_of_ble_eq_true rfl) dX12_stepOfStatement_160) (fun y7 T6 hw l_T6 H locs h => ?_)
    have f_a0 := l_T6.is f_a0
    have hle := hle.tr l_T6
    refine kp_callv X h (kp_runV (rm := { frames := 0, cells := 0, slots := 0, locals := 0 }) (mc := 0) (ms := 0) (rest := []) (Qc := fun A => kp_Qv D cy A T6 _) X h (c_X12_note l D cy ad T6 a0 0 y7 _ h.2.2.2 f_a0 hw) f_a0 cv_12_637 ⟨by decide, by decide, rfl, rfl, by decide, by decide⟩ rfl hl.1 rfl (Nat.le_of_ble_eq_true rfl) dX12_stepOfStatement_163) (fun T8 hw l_T8 H locs h => ?_)
    have f_a0 := l_T8.is f_a0
    have hle := hle.tr l_T8
    refine lv_goto (tgt := 600) X.1 X.2.1 dX12_stepOfStatement_166 (by decide) ?_
    exact j600  T8 _ _ ls (lv_sub hl [] rfl) h hle f_a0 hw
  have hw := hw.2 c5
  by_cases c9 : x1 = 32
  · have hw := hw.1 c9
    refine lv_tableIn (off := 168) (tgt := 169) X.1 X.2.1 dX12_stepOfStatement_1 (by rw [c9]; decide) (by rw [c9]; decide) (by rw [c9]; decide) (by decide) ?_
    refine lv_aload_n X.1 X.2.1 dX12_stepOfStatement_169 rfl (lv_at hl 0 rfl) ?_
    refine lv_iconst (v := 1) X.1 X.2.1 dX12_stepOfStatement_170 (by decide) ?_
    refine kp_callv X h (kp_runV (rm := { frames := 6, cells := 0, slots := 0, locals := 130 }) (mc := 0) (ms := 0) (rest := []) (Qc := fun A => kp_Qv D cy A S _) X h (c_X12_moveGate l D cy ad S a0 1 _ h.2.2.2 f_a0 hw) f_a0 cv_12_739 ⟨by decide, by decide, rfl, rfl, by decide, by decide⟩ rfl hl.1 rfl (Nat.le_of_ble_eq_true rfl) dX12_stepOfStatement_171) (fun T10 hw l_T10 H locs h => ?_)
    have f_a0 := l_T10.is f_a0
    have hle := hle.tr l_T10
    refine lv_goto (tgt := 600) X.1 X.2.1 dX12_stepOfStatement_174 (by decide) ?_
    exact j600  T10 _ _ ls (lv_sub hl [] rfl) h hle f_a0 hw
  have hw := hw.2 c9
  by_cases c11 : x1 = 33
  · have hw := hw.1 c11
    refine lv_tableIn (off := 176) (tgt := 177) X.1 X.2.1 dX12_stepOfStatement_1 (by rw [c11]; decide) (by rw [c11]; decide) (by rw [c11]; decide) (by decide) ?_
    refine lv_aload_n X.1 X.2.1 dX12_stepOfStatement_177 rfl (lv_at hl 0 rfl) ?_
    refine lv_iconst (v := 0) X.1 X.2.1 dX12_stepOfStatement_178 (by decide) ?_
    refine kp_callv X h (kp_runV (rm := { frames := 6, cells := 0, slots := 0, locals := 130 }) (mc := 0) (ms := 0) (rest := []) (Qc := fun A => kp_Qv D cy A S _) X h (c_X12_moveGate l D cy ad S a0 0 _ h.2.2.2 f_a0 hw) f_a0 cv_12_739 ⟨by decide, by decide, rfl, rfl, by decide, by decide⟩ rfl hl.1 rfl (Nat.le_of_ble_eq_true rfl) dX12_stepOfStatement_179) (fun T12 hw l_T12 H locs h => ?_)
    have f_a0 := l_T12.is f_a0
    have hle := hle.tr l_T12
    refine lv_goto (tgt := 600) X.1 X.2.1 dX12_stepOfStatement_182 (by decide) ?_
    exact j600  T12 _ _ ls (lv_sub hl [] rfl) h hle f_a0 hw
  have hw := hw.2 c11
  by_cases c13 : x1 = 34
  · have hw := hw.1 c13
    refine lv_tableIn (off := 184) (tgt := 185) X.1 X.2.1 dX12_stepOfStatement_1 (by rw [c13]; decide) (by rw [c13]; decide) (by rw [c13]; decide) (by decide) ?_
    refine lv_aload_n X.1 X.2.1 dX12_stepOfStatement_185 rfl (lv_at hl 0 rfl) ?_
    refine kp_callv X h (kp_runV (rm := { frames := 6, cells := 0, slots := 0, locals := 130 }) (mc := 0) (ms := 0) (rest := []) (Qc := fun A => kp_Qv D cy A S _) X h (c_X12_sluice l D cy ad S a0 _ h.2.2.2 f_a0 hw) f_a0 cv_12_743 ⟨by decide, by decide, rfl, rfl, by decide, by decide⟩ rfl hl.1 rfl (Nat.le_of_ble_eq_true rfl) dX12_stepOfStatement_186) (fun T14 hw l_T14 H locs h => ?_)
    have f_a0 := l_T14.is f_a0
    have hle := hle.tr l_T14
    refine lv_goto (tgt := 600) X.1 X.2.1 dX12_stepOfStatement_189 (by decide) ?_
    exact j600  T14 _ _ ls (lv_sub hl [] rfl) h hle f_a0 hw
  have hw := hw.2 c13
  by_cases c15 : x1 = 35
  · have hw := hw.1 c15
    refine lv_tableIn (off := 191) (tgt := 192) X.1 X.2.1 dX12_stepOfStatement_1 (by rw [c15]; decide) (by rw [c15]; decide) (by rw [c15]; decide) (by decide) ?_
    refine lv_aload_n X.1 X.2.1 dX12_stepOfStatement_192 rfl (lv_at hl 0 rfl) ?_
    refine kp_callv X h (kp_runV (rm := { frames := 6, cells := 0, slots := 0, locals := 130 }) (mc := 0) (ms := 0) (rest := []) (Qc := fun A => kp_Qv D cy A S _) X h (c_X12_sail l D cy ad S a0 _ h.2.2.2 f_a0 hw) f_a0 cv_12_745 ⟨by decide, by decide, rfl, rfl, by decide, by decide⟩ rfl hl.1 rfl (Nat.le_of_ble_eq_true rfl) dX12_stepOfStatement_193) (fun T16 hw l_T16 H locs h => ?_)
    have f_a0 := l_T16.is f_a0
    have hle := hle.tr l_T16
    refine lv_goto (tgt := 600) X.1 X.2.1 dX12_stepOfStatement_196 (by decide) ?_
    exact j600  T16 _ _ ls (lv_sub hl [] rfl) h hle f_a0 hw
  have hw := hw.2 c15
  by_cases c17 : x1 = 36
  · have hw := hw.1 c17
    refine lv_tableIn (off := 198) (tgt := 199) X.1 X.2.1 dX12_stepOfStatement_1 (by rw [c17]; decide) (by rw [c17]; decide) (by rw [c17]; decide) (by decide) ?_
    refine lv_aload_n X.1 X.2.1 dX12_stepOfStatement_199 rfl (lv_at hl 0 rfl) ?_
    refine lv_aload_n X.1 X.2.1 dX12_stepOfStatement_200 rfl (lv_at hl 0 rfl) ?_
    refine kp_calli X h (kp_runV (rm := { frames := 0, cells := 0, slots := 0, locals := 0 }) (mc := 0) (ms := 0) (rest := [.ref a0]) (Qc := fun A => kp_Qi D cy A S _) X h (c_X12_pop l D cy ad S a0 _ h.2.2.2 f_a0 hw) f_a0 cv_12_718 ⟨by decide, by decide, rfl, rfl, by decide, by decide⟩ rfl hl.1 rfl (Nat.le_of_ble_eq_true rfl) dX12_stepOfStatement_201) (fun y19 T18 hw l_T18 H locs h => ?_)
    have f_a0 := l_T18.is f_a0
    have hle := hle.tr l_T18
    refine kp_callv X h (kp_runV (rm := { frames := 6, cells := 0, slots := 0, locals := 130 }) (mc := 0) (ms := 0) (rest := []) (Qc := fun A => kp_Qv D cy A T18 _) X h (c_X12_fails l D cy ad T18 a0 y19 _ h.2.2.2 f_a0 hw) f_a0 cv_12_747 ⟨by decide, by decide, rfl, rfl, by decide, by decide⟩ rfl hl.1 rfl (Nat.le_of_ble_eq_true rfl) dX12_stepOfStatement_204) (fun T20 hw l_T20 H locs h => ?_)
    have f_a0 := l_T20.is f_a0
    have hle := hle.tr l_T20
    refine lv_goto (tgt := 600) X.1 X.2.1 dX12_stepOfStatement_207 (by decide) ?_
    exact j600  T20 _ _ ls (lv_sub hl [] rfl) h hle f_a0 hw
  have hw := hw.2 c17
  by_cases c21 : x1 = 37
  · have hw := hw.1 c21
    refine lv_tableIn (off := 209) (tgt := 210) X.1 X.2.1 dX12_stepOfStatement_1 (by rw [c21]; decide) (by rw [c21]; decide) (by rw [c21]; decide) (by decide) ?_
    refine lv_aload_n X.1 X.2.1 dX12_stepOfStatement_210 rfl (lv_at hl 0 rfl) ?_
    refine lv_iconst (v := 1) X.1 X.2.1 dX12_stepOfStatement_211 (by decide) ?_
    refine kp_putI X h f_a0 fp_12_610 rfl ⟨rfl, rfl⟩ dX12_stepOfStatement_212 (fun T22 e_T22 l_T22 H locs h => ?_)
    have hw := hw T22 e_T22
    have f_a0 := l_T22.is f_a0
    have hle := hle.tr l_T22
    refine lv_goto (tgt := 600) X.1 X.2.1 dX12_stepOfStatement_215 (by decide) ?_
    exact j600  T22 _ _ ls (lv_sub hl [] rfl) h hle f_a0 hw
  have hw := hw.2 c21
  by_cases c23 : x1 = 38
  · have hw := hw.1 c23
    refine lv_tableIn (off := 217) (tgt := 218) X.1 X.2.1 dX12_stepOfStatement_1 (by rw [c23]; decide) (by rw [c23]; decide) (by rw [c23]; decide) (by decide) ?_
    refine lv_aload_n X.1 X.2.1 dX12_stepOfStatement_218 rfl (lv_at hl 0 rfl) ?_
    refine lv_aload_n X.1 X.2.1 dX12_stepOfStatement_219 rfl (lv_at hl 0 rfl) ?_
    refine kp_calli X h (kp_runV (rm := { frames := 0, cells := 0, slots := 0, locals := 0 }) (mc := 0) (ms := 0) (rest := [.ref a0]) (Qc := fun A => kp_Qi D cy A S _) X h (c_X12_pop l D cy ad S a0 _ h.2.2.2 f_a0 hw) f_a0 cv_12_718 ⟨by decide, by decide, rfl, rfl, by decide, by decide⟩ rfl hl.1 rfl (Nat.le_of_ble_eq_true rfl) dX12_stepOfStatement_220) (fun y25 T24 hw l_T24 H locs h => ?_)
    have f_a0 := l_T24.is f_a0
    have hle := hle.tr l_T24
    refine kp_putI X h f_a0 fp_12_622 rfl ⟨rfl, rfl⟩ dX12_stepOfStatement_223 (fun T26 e_T26 l_T26 H locs h => ?_)
    have hw := hw T26 e_T26
    have f_a0 := l_T26.is f_a0
    have hle := hle.tr l_T26
    refine lv_aload_n X.1 X.2.1 dX12_stepOfStatement_226 rfl (lv_at hl 0 rfl) ?_
    refine lv_iconst (v := 3) X.1 X.2.1 dX12_stepOfStatement_227 (by decide) ?_
    refine kp_putI X h f_a0 fp_12_616 rfl ⟨rfl, rfl⟩ dX12_stepOfStatement_228 (fun T27 e_T27 l_T27 H locs h => ?_)
    have hw := hw T27 e_T27
    have f_a0 := l_T27.is f_a0
    have hle := hle.tr l_T27
    refine lv_aload_n X.1 X.2.1 dX12_stepOfStatement_231 rfl (lv_at hl 0 rfl) ?_
    refine kp_callv X h (kp_runV (rm := { frames := 4, cells := 0, slots := 0, locals := 86 }) (mc := 0) (ms := 0) (rest := []) (Qc := fun A => kp_Qv D cy A T27 _) X h (c_X12_leaves l D cy ad T27 a0 _ h.2.2.2 f_a0 hw) f_a0 cv_12_645 ⟨by decide, by decide, rfl, rfl, by decide, by decide⟩ rfl hl.1 rfl (Nat.le_of_ble_eq_true rfl) dX12_stepOfStatement_232) (fun T28 hw l_T28 H locs h => ?_)
    have f_a0 := l_T28.is f_a0
    have hle := hle.tr l_T28
    refine lv_goto (tgt := 600) X.1 X.2.1 dX12_stepOfStatement_235 (by decide) ?_
    exact j600  T28 _ _ ls (lv_sub hl [] rfl) h hle f_a0 hw
  have hw := hw.2 c23
  by_cases c29 : x1 = 39
  · have hw := hw.1 c29
    refine lv_tableIn (off := 237) (tgt := 238) X.1 X.2.1 dX12_stepOfStatement_1 (by rw [c29]; decide) (by rw [c29]; decide) (by rw [c29]; decide) (by decide) ?_
    exact j238  S _ _ ls (lv_sub hl [0, 1, 2] rfl) h hle f_a0 hw
  have hw := hw.2 c29
  by_cases c30 : x1 = 40
  · have hw := hw.1 c30
    refine lv_tableIn (off := 237) (tgt := 238) X.1 X.2.1 dX12_stepOfStatement_1 (by rw [c30]; decide) (by rw [c30]; decide) (by rw [c30]; decide) (by decide) ?_
    exact j238  S _ _ ls (lv_sub hl [0, 1, 2] rfl) h hle f_a0 hw
  have hw := hw.2 c30
  by_cases c31 : x1 = 41
  · have hw := hw.1 c31
    refine lv_tableIn (off := 264) (tgt := 265) X.1 X.2.1 dX12_stepOfStatement_1 (by rw [c31]; decide) (by rw [c31]; decide) (by rw [c31]; decide) (by decide) ?_
    refine lv_aload_n X.1 X.2.1 dX12_stepOfStatement_265 rfl (lv_at hl 0 rfl) ?_
    refine lv_iload_n X.1 X.2.1 dX12_stepOfStatement_266 rfl (lv_at hl 2 rfl) ?_
    refine kp_putI X h f_a0 fp_12_648 rfl ⟨rfl, rfl⟩ dX12_stepOfStatement_267 (fun T32 e_T32 l_T32 H locs h => ?_)
    have hw := hw T32 e_T32
    have f_a0 := l_T32.is f_a0
    have hle := hle.tr l_T32
    refine lv_goto (tgt := 600) X.1 X.2.1 dX12_stepOfStatement_270 (by decide) ?_
    exact j600  T32 _ _ ls (lv_sub hl [] rfl) h hle f_a0 hw
  have hw := hw.2 c31
  by_cases c33 : x1 = 42
  · have hw := hw.1 c33
    refine lv_tableIn (off := 272) (tgt := 273) X.1 X.2.1 dX12_stepOfStatement_1 (by rw [c33]; decide) (by rw [c33]; decide) (by rw [c33]; decide) (by decide) ?_
    refine lv_aload_n X.1 X.2.1 dX12_stepOfStatement_273 rfl (lv_at hl 0 rfl) ?_
    refine lv_aload_n X.1 X.2.1 dX12_stepOfStatement_274 rfl (lv_at hl 0 rfl) ?_
    refine kp_calli X h (kp_runV (rm := { frames := 0, cells := 0, slots := 0, locals := 0 }) (mc := 0) (ms := 0) (rest := [.ref a0]) (Qc := fun A => kp_Qi D cy A S _) X h (c_X12_pop l D cy ad S a0 _ h.2.2.2 f_a0 hw) f_a0 cv_12_718 ⟨by decide, by decide, rfl, rfl, by decide, by decide⟩ rfl hl.1 rfl (Nat.le_of_ble_eq_true rfl) dX12_stepOfStatement_275) (fun y35 T34 hw l_T34 H locs h => ?_)
    have f_a0 := l_T34.is f_a0
    have hle := hle.tr l_T34
    refine lv_if_ne (tgt := 285) X.1 X.2.1 dX12_stepOfStatement_278 (by decide) (fun c36 => ?_) (fun c36 => ?_)
    · have hw := hw.1 c36
      refine lv_aload_n X.1 X.2.1 dX12_stepOfStatement_285 rfl (lv_at hl 0 rfl) ?_
      refine kp_get X h f_a0 fp_12_648.l (v := .int (kp_I T34 2510 a0)) rfl dX12_stepOfStatement_286 ?_
      exact j289 (kp_I T34 2510 a0) a0 T34 _ _ ls (lv_sub hl [] rfl) h hle f_a0 f_a0 hw
    · have hw := hw.2 c36
      refine lv_iload_n X.1 X.2.1 dX12_stepOfStatement_281 rfl (lv_at hl 2 rfl) ?_
      refine lv_goto (tgt := 289) X.1 X.2.1 dX12_stepOfStatement_282 (by decide) ?_
      exact j289 x2 a0 T34 _ _ ls (lv_sub hl [] rfl) h hle f_a0 f_a0 hw
  have hw := hw.2 c33
  by_cases c37 : x1 = 43
  · have hw := hw.1 c37
    refine lv_tableIn (off := 294) (tgt := 295) X.1 X.2.1 dX12_stepOfStatement_1 (by rw [c37]; decide) (by rw [c37]; decide) (by rw [c37]; decide) (by decide) ?_
    refine lv_aload_n X.1 X.2.1 dX12_stepOfStatement_295 rfl (lv_at hl 0 rfl) ?_
    refine lv_iconst (v := 3) X.1 X.2.1 dX12_stepOfStatement_296 (by decide) ?_
    refine lv_iconst (v := 0) X.1 X.2.1 dX12_stepOfStatement_297 (by decide) ?_
    refine lv_iload_n X.1 X.2.1 dX12_stepOfStatement_298 rfl (lv_at hl 2 rfl) ?_
    refine kp_callv X h (kp_runV (rm := { frames := 0, cells := 0, slots := 0, locals := 0 }) (mc := 0) (ms := 0) (rest := []) (Qc := fun A => kp_Qv D cy A S _) X h (c_X12_opens l D cy ad S a0 3 0 x2 _ h.2.2.2 f_a0 hw) f_a0 cv_12_714 ⟨by decide, by decide, rfl, rfl, by decide, by decide⟩ rfl hl.1 rfl (Nat.le_of_ble_eq_true rfl) dX12_stepOfStatement_299) (fun T38 hw l_T38 H locs h => ?_)
    have f_a0 := l_T38.is f_a0
    have hle := hle.tr l_T38
    refine lv_goto (tgt := 600) X.1 X.2.1 dX12_stepOfStatement_302 (by decide) ?_
    exact j600  T38 _ _ ls (lv_sub hl [] rfl) h hle f_a0 hw
  have hw := hw.2 c37
  by_cases c39 : x1 = 44
  · have hw := hw.1 c39
    refine lv_tableIn (off := 304) (tgt := 305) X.1 X.2.1 dX12_stepOfStatement_1 (by rw [c39]; decide) (by rw [c39]; decide) (by rw [c39]; decide) (by decide) ?_
    refine lv_aload_n X.1 X.2.1 dX12_stepOfStatement_305 rfl (lv_at hl 0 rfl) ?_
    refine lv_iload_n X.1 X.2.1 dX12_stepOfStatement_306 rfl (lv_at hl 2 rfl) ?_
    refine kp_putI X h f_a0 fp_12_639 rfl ⟨rfl, rfl⟩ dX12_stepOfStatement_307 (fun T40 e_T40 l_T40 H locs h => ?_)
    have hw := hw T40 e_T40
    have f_a0 := l_T40.is f_a0
    have hle := hle.tr l_T40
    refine lv_aload_n X.1 X.2.1 dX12_stepOfStatement_310 rfl (lv_at hl 0 rfl) ?_
    refine kp_calli X h (kp_runV (rm := { frames := 0, cells := 0, slots := 0, locals := 0 }) (mc := 0) (ms := 0) (rest := []) (Qc := fun A => kp_Qi D cy A T40 _) X h (c_X12_burns l D cy ad T40 a0 _ h.2.2.2 f_a0 hw) f_a0 cv_12_693 ⟨by decide, by decide, rfl, rfl, by decide, by decide⟩ rfl hl.1 rfl (Nat.le_of_ble_eq_true rfl) dX12_stepOfStatement_311) (fun y42 T41 hw l_T41 H locs h => ?_)
    have f_a0 := l_T41.is f_a0
    have hle := hle.tr l_T41
    refine lv_pop X.1 X.2.1 dX12_stepOfStatement_314 rfl ?_
    refine lv_goto (tgt := 600) X.1 X.2.1 dX12_stepOfStatement_315 (by decide) ?_
    exact j600  T41 _ _ ls (lv_sub hl [] rfl) h hle f_a0 hw
  have hw := hw.2 c39
  by_cases c43 : x1 = 45
  · have hw := hw.1 c43
    refine lv_tableIn (off := 435) (tgt := 436) X.1 X.2.1 dX12_stepOfStatement_1 (by rw [c43]; decide) (by rw [c43]; decide) (by rw [c43]; decide) (by decide) ?_
    refine lv_aload_n X.1 X.2.1 dX12_stepOfStatement_436 rfl (lv_at hl 0 rfl) ?_
    refine lv_iload_n X.1 X.2.1 dX12_stepOfStatement_437 rfl (lv_at hl 2 rfl) ?_
    refine lv_aload_n X.1 X.2.1 dX12_stepOfStatement_438 rfl (lv_at hl 0 rfl) ?_
    refine kp_calli X h (kp_runV (rm := { frames := 0, cells := 0, slots := 0, locals := 0 }) (mc := 0) (ms := 0) (rest := [.int x2, .ref a0]) (Qc := fun A => kp_Qi D cy A S _) X h (c_X12_pop l D cy ad S a0 _ h.2.2.2 f_a0 hw) f_a0 cv_12_718 ⟨by decide, by decide, rfl, rfl, by decide, by decide⟩ rfl hl.1 rfl (Nat.le_of_ble_eq_true rfl) dX12_stepOfStatement_439) (fun y45 T44 hw l_T44 H locs h => ?_)
    have f_a0 := l_T44.is f_a0
    have hle := hle.tr l_T44
    refine lv_if_eq (tgt := 449) X.1 X.2.1 dX12_stepOfStatement_442 (by decide) (fun c46 => ?_) (fun c46 => ?_)
    · have hw := hw.1 c46
      refine lv_iconst (v := 0) X.1 X.2.1 dX12_stepOfStatement_449 (by decide) ?_
      exact j450 0 x2 a0 T44 _ _ ls (lv_sub hl [] rfl) h hle f_a0 f_a0 hw
    · have hw := hw.2 c46
      refine lv_iconst (v := 1) X.1 X.2.1 dX12_stepOfStatement_445 (by decide) ?_
      refine lv_goto (tgt := 450) X.1 X.2.1 dX12_stepOfStatement_446 (by decide) ?_
      exact j450 1 x2 a0 T44 _ _ ls (lv_sub hl [] rfl) h hle f_a0 f_a0 hw
  have hw := hw.2 c43
  by_cases c47 : x1 = 46
  · have hw := hw.1 c47
    refine lv_tableIn (off := 455) (tgt := 456) X.1 X.2.1 dX12_stepOfStatement_1 (by rw [c47]; decide) (by rw [c47]; decide) (by rw [c47]; decide) (by decide) ?_
    refine lv_aload_n X.1 X.2.1 dX12_stepOfStatement_456 rfl (lv_at hl 0 rfl) ?_
    refine lv_iload_n X.1 X.2.1 dX12_stepOfStatement_457 rfl (lv_at hl 2 rfl) ?_
    refine kp_callv X h (kp_runV (rm := { frames := 1, cells := 0, slots := 0, locals := 23 }) (mc := 0) (ms := 0) (rest := []) (Qc := fun A => kp_Qv D cy A S _) X h (c_X12_beginsEach l D cy ad S a0 x2 _ h.2.2.2 f_a0 hw) f_a0 cv_12_761 ⟨by decide, by decide, rfl, rfl, by decide, by decide⟩ rfl hl.1 rfl (Nat.le_of_ble_eq_true rfl) dX12_stepOfStatement_458) (fun T48 hw l_T48 H locs h => ?_)
    have f_a0 := l_T48.is f_a0
    have hle := hle.tr l_T48
    refine lv_goto (tgt := 600) X.1 X.2.1 dX12_stepOfStatement_461 (by decide) ?_
    exact j600  T48 _ _ ls (lv_sub hl [] rfl) h hle f_a0 hw
  have hw := hw.2 c47
  by_cases c49 : x1 = 47
  · have hw := hw.1 c49
    refine lv_tableIn (off := 463) (tgt := 464) X.1 X.2.1 dX12_stepOfStatement_1 (by rw [c49]; decide) (by rw [c49]; decide) (by rw [c49]; decide) (by decide) ?_
    refine lv_aload_n X.1 X.2.1 dX12_stepOfStatement_464 rfl (lv_at hl 0 rfl) ?_
    refine lv_iload_n X.1 X.2.1 dX12_stepOfStatement_465 rfl (lv_at hl 2 rfl) ?_
    refine kp_callv X h (kp_runV (rm := { frames := 2, cells := 0, slots := 0, locals := 45 }) (mc := 0) (ms := 0) (rest := []) (Qc := fun A => kp_Qv D cy A S _) X h (c_X12_testsEach l D cy ad S a0 x2 _ h.2.2.2 f_a0 hw) f_a0 cv_12_764 ⟨by decide, by decide, rfl, rfl, by decide, by decide⟩ rfl hl.1 rfl (Nat.le_of_ble_eq_true rfl) dX12_stepOfStatement_466) (fun T50 hw l_T50 H locs h => ?_)
    have f_a0 := l_T50.is f_a0
    have hle := hle.tr l_T50
    refine lv_goto (tgt := 600) X.1 X.2.1 dX12_stepOfStatement_469 (by decide) ?_
    exact j600  T50 _ _ ls (lv_sub hl [] rfl) h hle f_a0 hw
  have hw := hw.2 c49
  by_cases c51 : x1 = 48
  · have hw := hw.1 c51
    refine lv_tableIn (off := 471) (tgt := 472) X.1 X.2.1 dX12_stepOfStatement_1 (by rw [c51]; decide) (by rw [c51]; decide) (by rw [c51]; decide) (by decide) ?_
    refine lv_aload_n X.1 X.2.1 dX12_stepOfStatement_472 rfl (lv_at hl 0 rfl) ?_
    refine kp_callv X h (kp_runV (rm := { frames := 4, cells := 0, slots := 0, locals := 86 }) (mc := 0) (ms := 0) (rest := []) (Qc := fun A => kp_Qv D cy A S _) X h (c_X12_leaves l D cy ad S a0 _ h.2.2.2 f_a0 hw) f_a0 cv_12_645 ⟨by decide, by decide, rfl, rfl, by decide, by decide⟩ rfl hl.1 rfl (Nat.le_of_ble_eq_true rfl) dX12_stepOfStatement_473) (fun T52 hw l_T52 H locs h => ?_)
    have f_a0 := l_T52.is f_a0
    have hle := hle.tr l_T52
    refine lv_goto (tgt := 600) X.1 X.2.1 dX12_stepOfStatement_476 (by decide) ?_
    exact j600  T52 _ _ ls (lv_sub hl [] rfl) h hle f_a0 hw
  have hw := hw.2 c51
  by_cases c53 : x1 = 49
  · have hw := hw.1 c53
    refine lv_tableIn (off := 478) (tgt := 479) X.1 X.2.1 dX12_stepOfStatement_1 (by rw [c53]; decide) (by rw [c53]; decide) (by rw [c53]; decide) (by decide) ?_
    refine lv_aload_n X.1 X.2.1 dX12_stepOfStatement_479 rfl (lv_at hl 0 rfl) ?_
    refine lv_aload_n X.1 X.2.1 dX12_stepOfStatement_480 rfl (lv_at hl 0 rfl) ?_
    refine kp_calli X h (kp_runV (rm := { frames := 0, cells := 0, slots := 0, locals := 0 }) (mc := 0) (ms := 0) (rest := [.ref a0]) (Qc := fun A => kp_Qi D cy A S _) X h (c_X12_pop l D cy ad S a0 _ h.2.2.2 f_a0 hw) f_a0 cv_12_718 ⟨by decide, by decide, rfl, rfl, by decide, by decide⟩ rfl hl.1 rfl (Nat.le_of_ble_eq_true rfl) dX12_stepOfStatement_481) (fun y55 T54 hw l_T54 H locs h => ?_)
    have f_a0 := l_T54.is f_a0
    have hle := hle.tr l_T54
    refine lv_iload_n X.1 X.2.1 dX12_stepOfStatement_484 rfl (lv_at hl 2 rfl) ?_
    refine kp_callv X h (kp_runV (rm := { frames := 6, cells := 0, slots := 0, locals := 130 }) (mc := 0) (ms := 0) (rest := []) (Qc := fun A => kp_Qv D cy A T54 _) X h (c_X12_takes l D cy ad T54 a0 y55 x2 _ h.2.2.2 f_a0 hw) f_a0 cv_12_767 ⟨by decide, by decide, rfl, rfl, by decide, by decide⟩ rfl hl.1 rfl (Nat.le_of_ble_eq_true rfl) dX12_stepOfStatement_485) (fun T56 hw l_T56 H locs h => ?_)
    have f_a0 := l_T56.is f_a0
    have hle := hle.tr l_T56
    refine lv_goto (tgt := 600) X.1 X.2.1 dX12_stepOfStatement_488 (by decide) ?_
    exact j600  T56 _ _ ls (lv_sub hl [] rfl) h hle f_a0 hw
  have hw := hw.2 c53
  by_cases c57 : x1 = 50
  · have hw := hw.1 c57
    refine lv_tableIn (off := 490) (tgt := 491) X.1 X.2.1 dX12_stepOfStatement_1 (by rw [c57]; decide) (by rw [c57]; decide) (by rw [c57]; decide) (by decide) ?_
    refine lv_aload_n X.1 X.2.1 dX12_stepOfStatement_491 rfl (lv_at hl 0 rfl) ?_
    refine lv_iconst (v := 4) X.1 X.2.1 dX12_stepOfStatement_492 (by decide) ?_
    refine lv_iconst (v := 3) X.1 X.2.1 dX12_stepOfStatement_493 (by decide) ?_
    refine lv_iload_n X.1 X.2.1 dX12_stepOfStatement_494 rfl (lv_at hl 2 rfl) ?_
    refine kp_callv X h (kp_runV (rm := { frames := 0, cells := 0, slots := 0, locals := 0 }) (mc := 0) (ms := 0) (rest := []) (Qc := fun A => kp_Qv D cy A S _) X h (c_X12_opens l D cy ad S a0 4 3 x2 _ h.2.2.2 f_a0 hw) f_a0 cv_12_714 ⟨by decide, by decide, rfl, rfl, by decide, by decide⟩ rfl hl.1 rfl (Nat.le_of_ble_eq_true rfl) dX12_stepOfStatement_495) (fun T58 hw l_T58 H locs h => ?_)
    have f_a0 := l_T58.is f_a0
    have hle := hle.tr l_T58
    refine lv_aload_n X.1 X.2.1 dX12_stepOfStatement_498 rfl (lv_at hl 0 rfl) ?_
    refine lv_dup X.1 X.2.1 dX12_stepOfStatement_499 rfl ?_
    refine kp_get X h f_a0 fp_12_770.l (v := .int (kp_I T58 2473 a0)) rfl dX12_stepOfStatement_500 ?_
    refine lv_aload_n X.1 X.2.1 dX12_stepOfStatement_503 rfl (lv_at hl 0 rfl) ?_
    obtain ⟨b59, e_b59, hw⟩ := hw
    have f_b59 := h.2.2.2.rf (c := 12) (k := 52) f_a0 (by decide) (by decide) e_b59 (t := 14) rfl
    refine kp_get X h f_a0 ff_12_124.l (v := .ref b59) (congrArg va_rf e_b59) dX12_stepOfStatement_504 ?_
    refine lv_iload_n X.1 X.2.1 dX12_stepOfStatement_507 rfl (lv_at hl 2 rfl) ?_
    obtain ⟨hi, hw⟩ := hw
    refine kp_iald X h f_b59 hi dX12_stepOfStatement_508 ?_
    refine lv_iconst (v := (-1)) X.1 X.2.1 dX12_stepOfStatement_509 (by decide) ?_
    refine lv_icmp_ne (tgt := 517) X.1 X.2.1 dX12_stepOfStatement_510 (by decide) (fun c60 => ?_) (fun c60 => ?_)
    · have hw := hw.1 c60
      refine lv_iconst (v := 1) X.1 X.2.1 dX12_stepOfStatement_517 (by decide) ?_
      exact j518 1 (kp_I T58 2473 a0) a0 T58 _ _ ls (lv_sub hl [] rfl) h hle f_a0 f_a0 hw
    · have hw := hw.2 c60
      refine lv_iconst (v := 0) X.1 X.2.1 dX12_stepOfStatement_513 (by decide) ?_
      refine lv_goto (tgt := 518) X.1 X.2.1 dX12_stepOfStatement_514 (by decide) ?_
      exact j518 0 (kp_I T58 2473 a0) a0 T58 _ _ ls (lv_sub hl [] rfl) h hle f_a0 f_a0 hw
  have hw := hw.2 c57
  by_cases c61 : x1 = 51
  · have hw := hw.1 c61
    refine lv_tableIn (off := 524) (tgt := 525) X.1 X.2.1 dX12_stepOfStatement_1 (by rw [c61]; decide) (by rw [c61]; decide) (by rw [c61]; decide) (by decide) ?_
    refine lv_aload_n X.1 X.2.1 dX12_stepOfStatement_525 rfl (lv_at hl 0 rfl) ?_
    refine lv_aload_n X.1 X.2.1 dX12_stepOfStatement_526 rfl (lv_at hl 0 rfl) ?_
    refine kp_calli X h (kp_runV (rm := { frames := 0, cells := 0, slots := 0, locals := 0 }) (mc := 0) (ms := 0) (rest := [.ref a0]) (Qc := fun A => kp_Qi D cy A S _) X h (c_X12_pop l D cy ad S a0 _ h.2.2.2 f_a0 hw) f_a0 cv_12_718 ⟨by decide, by decide, rfl, rfl, by decide, by decide⟩ rfl hl.1 rfl (Nat.le_of_ble_eq_true rfl) dX12_stepOfStatement_527) (fun y63 T62 hw l_T62 H locs h => ?_)
    have f_a0 := l_T62.is f_a0
    have hle := hle.tr l_T62
    refine lv_aload_n X.1 X.2.1 dX12_stepOfStatement_530 rfl (lv_at hl 0 rfl) ?_
    obtain ⟨b64, e_b64, hw⟩ := hw
    have f_b64 := h.2.2.2.rf (c := 12) (k := 98) f_a0 (by decide) (by decide) e_b64 (t := 14) rfl
    refine kp_get X h f_a0 ff_12_206.l (v := .ref b64) (congrArg va_rf e_b64) dX12_stepOfStatement_531 ?_
    refine lv_aload_n X.1 X.2.1 dX12_stepOfStatement_534 rfl (lv_at hl 0 rfl) ?_
    refine kp_get X h f_a0 fp_12_613.l (v := .int (kp_I T62 2487 a0)) rfl dX12_stepOfStatement_535 ?_
    refine lv_iconst (v := 1) X.1 X.2.1 dX12_stepOfStatement_538 (by decide) ?_
    refine lv_isub X.1 X.2.1 dX12_stepOfStatement_539 ?_
    obtain ⟨hi, hw⟩ := hw
    refine kp_iald X h f_b64 hi dX12_stepOfStatement_540 ?_
    refine lv_icmp_ne (tgt := 548) X.1 X.2.1 dX12_stepOfStatement_541 (by decide) (fun c65 => ?_) (fun c65 => ?_)
    · have hw := hw.1 c65
      refine lv_iconst (v := 0) X.1 X.2.1 dX12_stepOfStatement_548 (by decide) ?_
      exact j549 0 a0 T62 _ _ ls (lv_sub hl [2] rfl) h hle f_a0 f_a0 hw
    · have hw := hw.2 c65
      refine lv_iconst (v := 1) X.1 X.2.1 dX12_stepOfStatement_544 (by decide) ?_
      refine lv_goto (tgt := 549) X.1 X.2.1 dX12_stepOfStatement_545 (by decide) ?_
      exact j549 1 a0 T62 _ _ ls (lv_sub hl [2] rfl) h hle f_a0 f_a0 hw
  have hw := hw.2 c61
  by_cases c66 : x1 = 52
  · have hw := hw.1 c66
    refine lv_tableIn (off := 555) (tgt := 556) X.1 X.2.1 dX12_stepOfStatement_1 (by rw [c66]; decide) (by rw [c66]; decide) (by rw [c66]; decide) (by decide) ?_
    refine lv_aload_n X.1 X.2.1 dX12_stepOfStatement_556 rfl (lv_at hl 0 rfl) ?_
    refine lv_iconst (v := 1) X.1 X.2.1 dX12_stepOfStatement_557 (by decide) ?_
    refine lv_iload_n X.1 X.2.1 dX12_stepOfStatement_558 rfl (lv_at hl 2 rfl) ?_
    refine kp_callv X h (kp_runV (rm := { frames := 1, cells := 0, slots := 0, locals := 22 }) (mc := 0) (ms := 0) (rest := []) (Qc := fun A => kp_Qv D cy A S _) X h (c_X12_mends l D cy ad S a0 1 x2 _ h.2.2.2 f_a0 hw) f_a0 cv_12_773 ⟨by decide, by decide, rfl, rfl, by decide, by decide⟩ rfl hl.1 rfl (Nat.le_of_ble_eq_true rfl) dX12_stepOfStatement_559) (fun T67 hw l_T67 H locs h => ?_)
    have f_a0 := l_T67.is f_a0
    have hle := hle.tr l_T67
    refine lv_goto (tgt := 600) X.1 X.2.1 dX12_stepOfStatement_562 (by decide) ?_
    exact j600  T67 _ _ ls (lv_sub hl [] rfl) h hle f_a0 hw
  have hw := hw.2 c66
  by_cases c68 : x1 = 53
  · have hw := hw.1 c68
    refine lv_tableIn (off := 564) (tgt := 565) X.1 X.2.1 dX12_stepOfStatement_1 (by rw [c68]; decide) (by rw [c68]; decide) (by rw [c68]; decide) (by decide) ?_
    refine lv_aload_n X.1 X.2.1 dX12_stepOfStatement_565 rfl (lv_at hl 0 rfl) ?_
    refine lv_aload_n X.1 X.2.1 dX12_stepOfStatement_566 rfl (lv_at hl 0 rfl) ?_
    refine kp_get X h f_a0 fp_12_613.l (v := .int (kp_I S 2487 a0)) rfl dX12_stepOfStatement_567 ?_
    refine lv_iconst (v := 1) X.1 X.2.1 dX12_stepOfStatement_570 (by decide) ?_
    refine lv_isub X.1 X.2.1 dX12_stepOfStatement_571 ?_
    refine kp_callv X h (kp_runV (rm := { frames := 0, cells := 0, slots := 0, locals := 0 }) (mc := 0) (ms := 0) (rest := []) (Qc := fun A => kp_Qv D cy A S _) X h (c_X12_takeWay l D cy ad S a0 ((kp_I S 2487 a0) - 1) _ h.2.2.2 f_a0 hw) f_a0 cv_12_681 ⟨by decide, by decide, rfl, rfl, by decide, by decide⟩ rfl hl.1 rfl (Nat.le_of_ble_eq_true rfl) dX12_stepOfStatement_572) (fun T69 hw l_T69 H locs h => ?_)
    have f_a0 := l_T69.is f_a0
    have hle := hle.tr l_T69
    refine lv_aload_n X.1 X.2.1 dX12_stepOfStatement_575 rfl (lv_at hl 0 rfl) ?_
    obtain ⟨b70, e_b70, hw⟩ := hw
    have f_b70 := h.2.2.2.rf (c := 12) (k := 89) f_a0 (by decide) (by decide) e_b70 (t := 14) rfl
    refine kp_get X h f_a0 ff_12_179.l (v := .ref b70) (congrArg va_rf e_b70) dX12_stepOfStatement_576 ?_
    refine lv_aload_n X.1 X.2.1 dX12_stepOfStatement_579 rfl (lv_at hl 0 rfl) ?_
    refine kp_get X h f_a0 fp_12_613.l (v := .int (kp_I T69 2487 a0)) rfl dX12_stepOfStatement_580 ?_
    refine lv_iconst (v := 1) X.1 X.2.1 dX12_stepOfStatement_583 (by decide) ?_
    refine lv_isub X.1 X.2.1 dX12_stepOfStatement_584 ?_
    refine lv_iconst (v := 5) X.1 X.2.1 dX12_stepOfStatement_585 (by decide) ?_
    obtain ⟨hi, hw⟩ := hw
    refine kp_iast X h f_b70 hi dX12_stepOfStatement_586 (fun T71 e_T71 l_T71 H locs h => ?_)
    have hw := hw T71 e_T71
    have f_a0 := l_T71.is f_a0
    have f_b70 := l_T71.is f_b70
    have hle := hle.tr l_T71
    have e_b70 : kp_R T71 2489 a0 = some b70 := by rw [e_T71]; exact e_b70
    refine lv_aload_n X.1 X.2.1 dX12_stepOfStatement_587 rfl (lv_at hl 0 rfl) ?_
    refine kp_callv X h (kp_runV (rm := { frames := 4, cells := 0, slots := 0, locals := 86 }) (mc := 0) (ms := 0) (rest := []) (Qc := fun A => kp_Qv D cy A T71 _) X h (c_X12_leaves l D cy ad T71 a0 _ h.2.2.2 f_a0 hw) f_a0 cv_12_645 ⟨by decide, by decide, rfl, rfl, by decide, by decide⟩ rfl hl.1 rfl (Nat.le_of_ble_eq_true rfl) dX12_stepOfStatement_588) (fun T72 hw l_T72 H locs h => ?_)
    have f_a0 := l_T72.is f_a0
    have f_b70 := l_T72.is f_b70
    have hle := hle.tr l_T72
    refine lv_goto (tgt := 600) X.1 X.2.1 dX12_stepOfStatement_591 (by decide) ?_
    exact j600  T72 _ _ ls (lv_sub hl [] rfl) h hle f_a0 hw
  have hw := hw.2 c68
  by_cases c73 : x1 = 54
  · have hw := hw.1 c73
    refine lv_tableIn (off := 593) (tgt := 594) X.1 X.2.1 dX12_stepOfStatement_1 (by rw [c73]; decide) (by rw [c73]; decide) (by rw [c73]; decide) (by decide) ?_
    exact j594  S _ _ ls (lv_sub hl [0, 2, 3] rfl) h hle f_a0 hw
  have hw := hw.2 c73
  by_cases c74 : x1 = 55
  · have hw := hw.1 c74
    refine lv_tableIn (off := 317) (tgt := 318) X.1 X.2.1 dX12_stepOfStatement_1 (by rw [c74]; decide) (by rw [c74]; decide) (by rw [c74]; decide) (by decide) ?_
    refine lv_aload_n X.1 X.2.1 dX12_stepOfStatement_318 rfl (lv_at hl 0 rfl) ?_
    refine lv_iload_n X.1 X.2.1 dX12_stepOfStatement_319 rfl (lv_at hl 2 rfl) ?_
    refine kp_putI X h f_a0 fp_12_639 rfl ⟨rfl, rfl⟩ dX12_stepOfStatement_320 (fun T75 e_T75 l_T75 H locs h => ?_)
    have hw := hw T75 e_T75
    have f_a0 := l_T75.is f_a0
    have hle := hle.tr l_T75
    refine lv_goto (tgt := 600) X.1 X.2.1 dX12_stepOfStatement_323 (by decide) ?_
    exact j600  T75 _ _ ls (lv_sub hl [] rfl) h hle f_a0 hw
  have hw := hw.2 c74
  by_cases c76 : x1 = 56
  · have hw := hw.1 c76
    refine lv_tableIn (off := 325) (tgt := 326) X.1 X.2.1 dX12_stepOfStatement_1 (by rw [c76]; decide) (by rw [c76]; decide) (by rw [c76]; decide) (by decide) ?_
    refine lv_aload_n X.1 X.2.1 dX12_stepOfStatement_326 rfl (lv_at hl 0 rfl) ?_
    refine kp_calli X h (kp_runV (rm := { frames := 0, cells := 0, slots := 0, locals := 0 }) (mc := 0) (ms := 0) (rest := []) (Qc := fun A => kp_Qi D cy A S _) X h (c_X12_burns l D cy ad S a0 _ h.2.2.2 f_a0 hw) f_a0 cv_12_693 ⟨by decide, by decide, rfl, rfl, by decide, by decide⟩ rfl hl.1 rfl (Nat.le_of_ble_eq_true rfl) dX12_stepOfStatement_327) (fun y78 T77 hw l_T77 H locs h => ?_)
    have f_a0 := l_T77.is f_a0
    have hle := hle.tr l_T77
    refine lv_if_eq (tgt := 600) X.1 X.2.1 dX12_stepOfStatement_330 (by decide) (fun c80 => ?_) (fun c80 => ?_)
    · have hw := hw.1 c80
      exact j600  T77 _ _ ls (lv_sub hl [] rfl) h hle f_a0 hw
    · have hw := hw.2 c80
      refine lv_aload_n X.1 X.2.1 dX12_stepOfStatement_333 rfl (lv_at hl 0 rfl) ?_
      refine lv_iload_n X.1 X.2.1 dX12_stepOfStatement_334 rfl (lv_at hl 2 rfl) ?_
      refine lv_iconst (v := 1) X.1 X.2.1 dX12_stepOfStatement_335 (by decide) ?_
      refine kp_callv X h (kp_runV (rm := { frames := 1, cells := 0, slots := 0, locals := 22 }) (mc := 0) (ms := 0) (rest := []) (Qc := fun A => kp_Qv D cy A T77 _) X h (c_X12_rounds l D cy ad T77 a0 x2 1 _ h.2.2.2 f_a0 hw) f_a0 cv_12_750 ⟨by decide, by decide, rfl, rfl, by decide, by decide⟩ rfl hl.1 rfl (Nat.le_of_ble_eq_true rfl) dX12_stepOfStatement_336) (fun T79 hw l_T79 H locs h => ?_)
      have f_a0 := l_T79.is f_a0
      have hle := hle.tr l_T79
      refine lv_goto (tgt := 600) X.1 X.2.1 dX12_stepOfStatement_339 (by decide) ?_
      exact j600  T79 _ _ ls (lv_sub hl [] rfl) h hle f_a0 hw
  have hw := hw.2 c76
  by_cases c81 : x1 = 57
  · have hw := hw.1 c81
    refine lv_tableIn (off := 341) (tgt := 342) X.1 X.2.1 dX12_stepOfStatement_1 (by rw [c81]; decide) (by rw [c81]; decide) (by rw [c81]; decide) (by decide) ?_
    refine lv_aload_n X.1 X.2.1 dX12_stepOfStatement_342 rfl (lv_at hl 0 rfl) ?_
    refine kp_calli X h (kp_runV (rm := { frames := 0, cells := 0, slots := 0, locals := 0 }) (mc := 0) (ms := 0) (rest := []) (Qc := fun A => kp_Qi D cy A S _) X h (c_X12_pop l D cy ad S a0 _ h.2.2.2 f_a0 hw) f_a0 cv_12_718 ⟨by decide, by decide, rfl, rfl, by decide, by decide⟩ rfl hl.1 rfl (Nat.le_of_ble_eq_true rfl) dX12_stepOfStatement_343) (fun y83 T82 hw l_T82 H locs h => ?_)
    have f_a0 := l_T82.is f_a0
    have hle := hle.tr l_T82
    refine lv_if_ne (tgt := 357) X.1 X.2.1 dX12_stepOfStatement_346 (by decide) (fun c86 => ?_) (fun c86 => ?_)
    · have hw := hw.1 c86
      refine lv_aload_n X.1 X.2.1 dX12_stepOfStatement_357 rfl (lv_at hl 0 rfl) ?_
      refine lv_iload_n X.1 X.2.1 dX12_stepOfStatement_358 rfl (lv_at hl 2 rfl) ?_
      refine lv_iconst (v := 0) X.1 X.2.1 dX12_stepOfStatement_359 (by decide) ?_
      refine kp_callv X h (kp_runV (rm := { frames := 1, cells := 0, slots := 0, locals := 22 }) (mc := 0) (ms := 0) (rest := []) (Qc := fun A => kp_Qv D cy A T82 _) X h (c_X12_rounds l D cy ad T82 a0 x2 0 _ h.2.2.2 f_a0 hw) f_a0 cv_12_750 ⟨by decide, by decide, rfl, rfl, by decide, by decide⟩ rfl hl.1 rfl (Nat.le_of_ble_eq_true rfl) dX12_stepOfStatement_360) (fun T84 hw l_T84 H locs h => ?_)
      have f_a0 := l_T84.is f_a0
      have hle := hle.tr l_T84
      refine lv_goto (tgt := 600) X.1 X.2.1 dX12_stepOfStatement_363 (by decide) ?_
      exact j600  T84 _ _ ls (lv_sub hl [] rfl) h hle f_a0 hw
    · have hw := hw.2 c86
      refine lv_aload_n X.1 X.2.1 dX12_stepOfStatement_349 rfl (lv_at hl 0 rfl) ?_
      refine lv_iload_n X.1 X.2.1 dX12_stepOfStatement_350 rfl (lv_at hl 3 rfl) ?_
      refine kp_putI X h f_a0 fp_12_648 rfl ⟨rfl, rfl⟩ dX12_stepOfStatement_351 (fun T85 e_T85 l_T85 H locs h => ?_)
      have hw := hw T85 e_T85
      have f_a0 := l_T85.is f_a0
      have hle := hle.tr l_T85
      refine lv_goto (tgt := 600) X.1 X.2.1 dX12_stepOfStatement_354 (by decide) ?_
      exact j600  T85 _ _ ls (lv_sub hl [] rfl) h hle f_a0 hw
  have hw := hw.2 c81
  by_cases c87 : x1 = 58
  · have hw := hw.1 c87
    refine lv_tableIn (off := 365) (tgt := 366) X.1 X.2.1 dX12_stepOfStatement_1 (by rw [c87]; decide) (by rw [c87]; decide) (by rw [c87]; decide) (by decide) ?_
    refine lv_aload_n X.1 X.2.1 dX12_stepOfStatement_366 rfl (lv_at hl 0 rfl) ?_
    refine lv_aload_n X.1 X.2.1 dX12_stepOfStatement_367 rfl (lv_at hl 0 rfl) ?_
    refine kp_calli X h (kp_runV (rm := { frames := 0, cells := 0, slots := 0, locals := 0 }) (mc := 0) (ms := 0) (rest := [.ref a0]) (Qc := fun A => kp_Qi D cy A S _) X h (c_X12_pop l D cy ad S a0 _ h.2.2.2 f_a0 hw) f_a0 cv_12_718 ⟨by decide, by decide, rfl, rfl, by decide, by decide⟩ rfl hl.1 rfl (Nat.le_of_ble_eq_true rfl) dX12_stepOfStatement_368) (fun y89 T88 hw l_T88 H locs h => ?_)
    have f_a0 := l_T88.is f_a0
    have hle := hle.tr l_T88
    refine lv_aload_n X.1 X.2.1 dX12_stepOfStatement_371 rfl (lv_at hl 0 rfl) ?_
    obtain ⟨b90, e_b90, hw⟩ := hw
    have f_b90 := h.2.2.2.rf (c := 12) (k := 115) f_a0 (by decide) (by decide) e_b90 (t := 14) rfl
    refine kp_get X h f_a0 ff_12_239.l (v := .ref b90) (congrArg va_rf e_b90) dX12_stepOfStatement_372 ?_
    refine lv_aload_n X.1 X.2.1 dX12_stepOfStatement_375 rfl (lv_at hl 0 rfl) ?_
    refine kp_get X h f_a0 fp_12_604.l (v := .int (kp_I T88 2516 a0)) rfl dX12_stepOfStatement_376 ?_
    refine lv_iconst (v := 1) X.1 X.2.1 dX12_stepOfStatement_379 (by decide) ?_
    refine lv_isub X.1 X.2.1 dX12_stepOfStatement_380 ?_
    obtain ⟨hi, hw⟩ := hw
    refine kp_iald X h f_b90 hi dX12_stepOfStatement_381 ?_
    refine lv_icmp_ne (tgt := 389) X.1 X.2.1 dX12_stepOfStatement_382 (by decide) (fun c91 => ?_) (fun c91 => ?_)
    · have hw := hw.1 c91
      refine lv_iconst (v := 0) X.1 X.2.1 dX12_stepOfStatement_389 (by decide) ?_
      exact j390 0 a0 T88 _ _ ls (lv_sub hl [2] rfl) h hle f_a0 f_a0 hw
    · have hw := hw.2 c91
      refine lv_iconst (v := 1) X.1 X.2.1 dX12_stepOfStatement_385 (by decide) ?_
      refine lv_goto (tgt := 390) X.1 X.2.1 dX12_stepOfStatement_386 (by decide) ?_
      exact j390 1 a0 T88 _ _ ls (lv_sub hl [2] rfl) h hle f_a0 f_a0 hw
  have hw := hw.2 c87
  by_cases c92 : x1 = 59
  · have hw := hw.1 c92
    refine lv_tableIn (off := 396) (tgt := 397) X.1 X.2.1 dX12_stepOfStatement_1 (by rw [c92]; decide) (by rw [c92]; decide) (by rw [c92]; decide) (by decide) ?_
    refine lv_aload_n X.1 X.2.1 dX12_stepOfStatement_397 rfl (lv_at hl 0 rfl) ?_
    refine lv_iconst (v := 1) X.1 X.2.1 dX12_stepOfStatement_398 (by decide) ?_
    refine lv_iload_n X.1 X.2.1 dX12_stepOfStatement_399 rfl (lv_at hl 2 rfl) ?_
    refine kp_callv X h (kp_runV (rm := { frames := 0, cells := 0, slots := 0, locals := 0 }) (mc := 0) (ms := 0) (rest := []) (Qc := fun A => kp_Qv D cy A S _) X h (c_X12_chooses l D cy ad S a0 1 x2 _ h.2.2.2 f_a0 hw) f_a0 cv_12_754 ⟨by decide, by decide, rfl, rfl, by decide, by decide⟩ rfl hl.1 rfl (Nat.le_of_ble_eq_true rfl) dX12_stepOfStatement_400) (fun T93 hw l_T93 H locs h => ?_)
    have f_a0 := l_T93.is f_a0
    have hle := hle.tr l_T93
    refine lv_goto (tgt := 600) X.1 X.2.1 dX12_stepOfStatement_403 (by decide) ?_
    exact j600  T93 _ _ ls (lv_sub hl [] rfl) h hle f_a0 hw
  have hw := hw.2 c92
  by_cases c94 : x1 = 60
  · have hw := hw.1 c94
    refine lv_tableIn (off := 405) (tgt := 406) X.1 X.2.1 dX12_stepOfStatement_1 (by rw [c94]; decide) (by rw [c94]; decide) (by rw [c94]; decide) (by decide) ?_
    refine lv_aload_n X.1 X.2.1 dX12_stepOfStatement_406 rfl (lv_at hl 0 rfl) ?_
    refine lv_iconst (v := 5) X.1 X.2.1 dX12_stepOfStatement_407 (by decide) ?_
    refine lv_bipush (v := 8) X.1 X.2.1 dX12_stepOfStatement_408 (by decide) ?_
    refine lv_iload_n X.1 X.2.1 dX12_stepOfStatement_410 rfl (lv_at hl 2 rfl) ?_
    refine kp_callv X h (kp_runV (rm := { frames := 0, cells := 0, slots := 0, locals := 0 }) (mc := 0) (ms := 0) (rest := []) (Qc := fun A => kp_Qv D cy A S _) X h (c_X12_opens l D cy ad S a0 5 8 x2 _ h.2.2.2 f_a0 hw) f_a0 cv_12_714 ⟨by decide, by decide, rfl, rfl, by decide, by decide⟩ rfl hl.1 rfl (Nat.le_of_ble_eq_true rfl) dX12_stepOfStatement_411) (fun T95 hw l_T95 H locs h => ?_)
    have f_a0 := l_T95.is f_a0
    have hle := hle.tr l_T95
    refine lv_goto (tgt := 600) X.1 X.2.1 dX12_stepOfStatement_414 (by decide) ?_
    exact j600  T95 _ _ ls (lv_sub hl [] rfl) h hle f_a0 hw
  have hw := hw.2 c94
  by_cases c96 : x1 = 61
  · have hw := hw.1 c96
    refine lv_tableIn (off := 416) (tgt := 417) X.1 X.2.1 dX12_stepOfStatement_1 (by rw [c96]; decide) (by rw [c96]; decide) (by rw [c96]; decide) (by decide) ?_
    refine lv_aload_n X.1 X.2.1 dX12_stepOfStatement_417 rfl (lv_at hl 0 rfl) ?_
    refine lv_aload_n X.1 X.2.1 dX12_stepOfStatement_418 rfl (lv_at hl 0 rfl) ?_
    refine kp_calli X h (kp_runV (rm := { frames := 0, cells := 0, slots := 0, locals := 0 }) (mc := 0) (ms := 0) (rest := [.ref a0]) (Qc := fun A => kp_Qi D cy A S _) X h (c_X12_pop l D cy ad S a0 _ h.2.2.2 f_a0 hw) f_a0 cv_12_718 ⟨by decide, by decide, rfl, rfl, by decide, by decide⟩ rfl hl.1 rfl (Nat.le_of_ble_eq_true rfl) dX12_stepOfStatement_419) (fun y98 T97 hw l_T97 H locs h => ?_)
    have f_a0 := l_T97.is f_a0
    have hle := hle.tr l_T97
    refine lv_if_eq (tgt := 429) X.1 X.2.1 dX12_stepOfStatement_422 (by decide) (fun c99 => ?_) (fun c99 => ?_)
    · have hw := hw.1 c99
      refine lv_iconst (v := 0) X.1 X.2.1 dX12_stepOfStatement_429 (by decide) ?_
      exact j430 0 a0 T97 _ _ ls (lv_sub hl [] rfl) h hle f_a0 f_a0 hw
    · have hw := hw.2 c99
      refine lv_iconst (v := 1) X.1 X.2.1 dX12_stepOfStatement_425 (by decide) ?_
      refine lv_goto (tgt := 430) X.1 X.2.1 dX12_stepOfStatement_426 (by decide) ?_
      exact j430 1 a0 T97 _ _ ls (lv_sub hl [] rfl) h hle f_a0 f_a0 hw
  have hw := hw.2 c96
  have t_c1 := lv_neT (a := 30) c1 (by decide)
  have t_c5 := lv_neT (a := 31) c5 (by decide)
  have t_c9 := lv_neT (a := 32) c9 (by decide)
  have t_c11 := lv_neT (a := 33) c11 (by decide)
  have t_c13 := lv_neT (a := 34) c13 (by decide)
  have t_c15 := lv_neT (a := 35) c15 (by decide)
  have t_c17 := lv_neT (a := 36) c17 (by decide)
  have t_c21 := lv_neT (a := 37) c21 (by decide)
  have t_c23 := lv_neT (a := 38) c23 (by decide)
  have t_c29 := lv_neT (a := 39) c29 (by decide)
  have t_c30 := lv_neT (a := 40) c30 (by decide)
  have t_c31 := lv_neT (a := 41) c31 (by decide)
  have t_c33 := lv_neT (a := 42) c33 (by decide)
  have t_c37 := lv_neT (a := 43) c37 (by decide)
  have t_c39 := lv_neT (a := 44) c39 (by decide)
  have t_c43 := lv_neT (a := 45) c43 (by decide)
  have t_c47 := lv_neT (a := 46) c47 (by decide)
  have t_c49 := lv_neT (a := 47) c49 (by decide)
  have t_c51 := lv_neT (a := 48) c51 (by decide)
  have t_c53 := lv_neT (a := 49) c53 (by decide)
  have t_c57 := lv_neT (a := 50) c57 (by decide)
  have t_c61 := lv_neT (a := 51) c61 (by decide)
  have t_c66 := lv_neT (a := 52) c66 (by decide)
  have t_c68 := lv_neT (a := 53) c68 (by decide)
  have t_c73 := lv_neT (a := 54) c73 (by decide)
  have t_c74 := lv_neT (a := 55) c74 (by decide)
  have t_c76 := lv_neT (a := 56) c76 (by decide)
  have t_c81 := lv_neT (a := 57) c81 (by decide)
  have t_c87 := lv_neT (a := 58) c87 (by decide)
  have t_c92 := lv_neT (a := 59) c92 (by decide)
  have t_c94 := lv_neT (a := 60) c94 (by decide)
  have t_c96 := lv_neT (a := 61) c96 (by decide)
  refine lv_tableOut (tgt := 594) X.1 X.2.1 dX12_stepOfStatement_1 (by omega) (by decide) ?_
  exact j594  S _ _ ls (lv_sub hl [0, 2, 3] rfl) h hle f_a0 hw
theorem dX12_step_0 : decode cX12_step 0 = .ok (.aload_n 0, 1) := by decide +kernel
theorem dX12_step_1 : decode cX12_step 1 = .ok (.getfield 112, 3) := by decide +kernel
theorem dX12_step_4 : decode cX12_step 4 = .ok (.aload_n 0, 1) := by decide +kernel
theorem dX12_step_5 : decode cX12_step 5 = .ok (.getfield 648, 3) := by decide +kernel
theorem dX12_step_8 : decode cX12_step 8 = .ok (.iaload, 1) := by decide +kernel
theorem dX12_step_9 : decode cX12_step 9 = .ok (.istore_n 1, 1) := by decide +kernel
theorem dX12_step_10 : decode cX12_step 10 = .ok (.aload_n 0, 1) := by decide +kernel
theorem dX12_step_11 : decode cX12_step 11 = .ok (.getfield 115, 3) := by decide +kernel
theorem dX12_step_14 : decode cX12_step 14 = .ok (.aload_n 0, 1) := by decide +kernel
theorem dX12_step_15 : decode cX12_step 15 = .ok (.getfield 648, 3) := by decide +kernel
theorem dX12_step_18 : decode cX12_step 18 = .ok (.iaload, 1) := by decide +kernel
theorem dX12_step_19 : decode cX12_step 19 = .ok (.istore_n 2, 1) := by decide +kernel
theorem dX12_step_20 : decode cX12_step 20 = .ok (.aload_n 0, 1) := by decide +kernel
theorem dX12_step_21 : decode cX12_step 21 = .ok (.getfield 118, 3) := by decide +kernel
theorem dX12_step_24 : decode cX12_step 24 = .ok (.aload_n 0, 1) := by decide +kernel
theorem dX12_step_25 : decode cX12_step 25 = .ok (.getfield 648, 3) := by decide +kernel
theorem dX12_step_28 : decode cX12_step 28 = .ok (.iaload, 1) := by decide +kernel
theorem dX12_step_29 : decode cX12_step 29 = .ok (.istore_n 3, 1) := by decide +kernel
theorem dX12_step_30 : decode cX12_step 30 = .ok (.aload_n 0, 1) := by decide +kernel
theorem dX12_step_31 : decode cX12_step 31 = .ok (.dup, 1) := by decide +kernel
theorem dX12_step_32 : decode cX12_step 32 = .ok (.getfield 648, 3) := by decide +kernel
theorem dX12_step_35 : decode cX12_step 35 = .ok (.iconst 1, 1) := by decide +kernel
theorem dX12_step_36 : decode cX12_step 36 = .ok (.iadd, 1) := by decide +kernel
theorem dX12_step_37 : decode cX12_step 37 = .ok (.putfield 648, 3) := by decide +kernel
theorem dX12_step_40 : decode cX12_step 40 = .ok (.iload_n 1, 1) := by decide +kernel
theorem dX12_step_41 : decode cX12_step 41 = .ok (.bipush 30, 2) := by decide +kernel
theorem dX12_step_43 : decode cX12_step 43 = .ok (.if_icmp .lt 11, 3) := by decide +kernel
theorem dX12_step_46 : decode cX12_step 46 = .ok (.aload_n 0, 1) := by decide +kernel
theorem dX12_step_47 : decode cX12_step 47 = .ok (.iload_n 1, 1) := by decide +kernel
theorem dX12_step_48 : decode cX12_step 48 = .ok (.iload_n 2, 1) := by decide +kernel
theorem dX12_step_49 : decode cX12_step 49 = .ok (.iload_n 3, 1) := by decide +kernel
theorem dX12_step_50 : decode cX12_step 50 = .ok (.invokevirtual 721, 3) := by decide +kernel
theorem dX12_step_53 : decode cX12_step 53 = .ok (.return_, 1) := by decide +kernel
theorem dX12_step_54 : decode cX12_step 54 = .ok (.iload_n 1, 1) := by decide +kernel
theorem dX12_step_55 : decode cX12_step 55 = .ok (.tableswitch 376 1 26 #[117, 125, 146, 167, 180, 192, 376, 376, 376, 376, 376, 376, 376, 376, 376, 211, 232, 253, 272, 281, 295, 337, 309, 323, 344, 360], 117) := by decide +kernel
theorem dX12_step_172 : decode cX12_step 172 = .ok (.aload_n 0, 1) := by decide +kernel
theorem dX12_step_173 : decode cX12_step 173 = .ok (.iload_n 2, 1) := by decide +kernel
theorem dX12_step_174 : decode cX12_step 174 = .ok (.invokevirtual 708, 3) := by decide +kernel
theorem dX12_step_177 : decode cX12_step 177 = .ok (.goto 259, 3) := by decide +kernel
theorem dX12_step_180 : decode cX12_step 180 = .ok (.aload_n 0, 1) := by decide +kernel
theorem dX12_step_181 : decode cX12_step 181 = .ok (.aload_n 0, 1) := by decide +kernel
theorem dX12_step_182 : decode cX12_step 182 = .ok (.getfield 236, 3) := by decide +kernel
theorem dX12_step_185 : decode cX12_step 185 = .ok (.bipush 24, 2) := by decide +kernel
theorem dX12_step_187 : decode cX12_step 187 = .ok (.aload_n 0, 1) := by decide +kernel
theorem dX12_step_188 : decode cX12_step 188 = .ok (.getfield 699, 3) := by decide +kernel
theorem dX12_step_191 : decode cX12_step 191 = .ok (.imul, 1) := by decide +kernel
theorem dX12_step_192 : decode cX12_step 192 = .ok (.iload_n 2, 1) := by decide +kernel
theorem dX12_step_193 : decode cX12_step 193 = .ok (.iadd, 1) := by decide +kernel
theorem dX12_step_194 : decode cX12_step 194 = .ok (.iaload, 1) := by decide +kernel
theorem dX12_step_195 : decode cX12_step 195 = .ok (.invokevirtual 708, 3) := by decide +kernel
theorem dX12_step_198 : decode cX12_step 198 = .ok (.goto 238, 3) := by decide +kernel
theorem dX12_step_201 : decode cX12_step 201 = .ok (.aload_n 0, 1) := by decide +kernel
theorem dX12_step_202 : decode cX12_step 202 = .ok (.getfield 236, 3) := by decide +kernel
theorem dX12_step_205 : decode cX12_step 205 = .ok (.bipush 24, 2) := by decide +kernel
theorem dX12_step_207 : decode cX12_step 207 = .ok (.aload_n 0, 1) := by decide +kernel
theorem dX12_step_208 : decode cX12_step 208 = .ok (.getfield 699, 3) := by decide +kernel
theorem dX12_step_211 : decode cX12_step 211 = .ok (.imul, 1) := by decide +kernel
theorem dX12_step_212 : decode cX12_step 212 = .ok (.iload_n 2, 1) := by decide +kernel
theorem dX12_step_213 : decode cX12_step 213 = .ok (.iadd, 1) := by decide +kernel
theorem dX12_step_214 : decode cX12_step 214 = .ok (.aload_n 0, 1) := by decide +kernel
theorem dX12_step_215 : decode cX12_step 215 = .ok (.invokevirtual 718, 3) := by decide +kernel
theorem dX12_step_218 : decode cX12_step 218 = .ok (.iastore, 1) := by decide +kernel
theorem dX12_step_219 : decode cX12_step 219 = .ok (.goto 217, 3) := by decide +kernel
theorem dX12_step_222 : decode cX12_step 222 = .ok (.aload_n 0, 1) := by decide +kernel
theorem dX12_step_223 : decode cX12_step 223 = .ok (.dup, 1) := by decide +kernel
theorem dX12_step_224 : decode cX12_step 224 = .ok (.getfield 604, 3) := by decide +kernel
theorem dX12_step_227 : decode cX12_step 227 = .ok (.iconst 1, 1) := by decide +kernel
theorem dX12_step_228 : decode cX12_step 228 = .ok (.isub, 1) := by decide +kernel
theorem dX12_step_229 : decode cX12_step 229 = .ok (.putfield 604, 3) := by decide +kernel
theorem dX12_step_232 : decode cX12_step 232 = .ok (.goto 204, 3) := by decide +kernel
theorem dX12_step_235 : decode cX12_step 235 = .ok (.aload_n 0, 1) := by decide +kernel
theorem dX12_step_236 : decode cX12_step 236 = .ok (.aload_n 0, 1) := by decide +kernel
theorem dX12_step_237 : decode cX12_step 237 = .ok (.invokevirtual 718, 3) := by decide +kernel
theorem dX12_step_240 : decode cX12_step 240 = .ok (.ineg, 1) := by decide +kernel
theorem dX12_step_241 : decode cX12_step 241 = .ok (.invokevirtual 708, 3) := by decide +kernel
theorem dX12_step_244 : decode cX12_step 244 = .ok (.goto 192, 3) := by decide +kernel
theorem dX12_step_247 : decode cX12_step 247 = .ok (.aload_n 0, 1) := by decide +kernel
theorem dX12_step_248 : decode cX12_step 248 = .ok (.aload_n 0, 1) := by decide +kernel
theorem dX12_step_249 : decode cX12_step 249 = .ok (.invokevirtual 718, 3) := by decide +kernel
theorem dX12_step_252 : decode cX12_step 252 = .ok (.ifCond .ne 7, 3) := by decide +kernel
theorem dX12_step_255 : decode cX12_step 255 = .ok (.iconst 1, 1) := by decide +kernel
theorem dX12_step_256 : decode cX12_step 256 = .ok (.goto 4, 3) := by decide +kernel
theorem dX12_step_259 : decode cX12_step 259 = .ok (.iconst 0, 1) := by decide +kernel
theorem dX12_step_260 : decode cX12_step 260 = .ok (.invokevirtual 708, 3) := by decide +kernel
theorem dX12_step_263 : decode cX12_step 263 = .ok (.goto 173, 3) := by decide +kernel
theorem dX12_step_266 : decode cX12_step 266 = .ok (.aload_n 0, 1) := by decide +kernel
theorem dX12_step_267 : decode cX12_step 267 = .ok (.aload_n 0, 1) := by decide +kernel
theorem dX12_step_268 : decode cX12_step 268 = .ok (.invokevirtual 718, 3) := by decide +kernel
theorem dX12_step_271 : decode cX12_step 271 = .ok (.ifCond .eq 7, 3) := by decide +kernel
theorem dX12_step_274 : decode cX12_step 274 = .ok (.iconst 1, 1) := by decide +kernel
theorem dX12_step_275 : decode cX12_step 275 = .ok (.goto 4, 3) := by decide +kernel
theorem dX12_step_278 : decode cX12_step 278 = .ok (.iconst 0, 1) := by decide +kernel
theorem dX12_step_279 : decode cX12_step 279 = .ok (.iconst 1, 1) := by decide +kernel
theorem dX12_step_280 : decode cX12_step 280 = .ok (.iload_n 2, 1) := by decide +kernel
theorem dX12_step_281 : decode cX12_step 281 = .ok (.invokevirtual 724, 3) := by decide +kernel
theorem dX12_step_284 : decode cX12_step 284 = .ok (.goto 152, 3) := by decide +kernel
theorem dX12_step_287 : decode cX12_step 287 = .ok (.aload_n 0, 1) := by decide +kernel
theorem dX12_step_288 : decode cX12_step 288 = .ok (.aload_n 0, 1) := by decide +kernel
theorem dX12_step_289 : decode cX12_step 289 = .ok (.invokevirtual 718, 3) := by decide +kernel
theorem dX12_step_292 : decode cX12_step 292 = .ok (.ifCond .ne 7, 3) := by decide +kernel
theorem dX12_step_295 : decode cX12_step 295 = .ok (.iconst 1, 1) := by decide +kernel
theorem dX12_step_296 : decode cX12_step 296 = .ok (.goto 4, 3) := by decide +kernel
theorem dX12_step_299 : decode cX12_step 299 = .ok (.iconst 0, 1) := by decide +kernel
theorem dX12_step_300 : decode cX12_step 300 = .ok (.iconst 0, 1) := by decide +kernel
theorem dX12_step_301 : decode cX12_step 301 = .ok (.iload_n 2, 1) := by decide +kernel
theorem dX12_step_302 : decode cX12_step 302 = .ok (.invokevirtual 724, 3) := by decide +kernel
theorem dX12_step_305 : decode cX12_step 305 = .ok (.goto 131, 3) := by decide +kernel
theorem dX12_step_308 : decode cX12_step 308 = .ok (.aload_n 0, 1) := by decide +kernel
theorem dX12_step_309 : decode cX12_step 309 = .ok (.aload_n 0, 1) := by decide +kernel
theorem dX12_step_310 : decode cX12_step 310 = .ok (.invokevirtual 718, 3) := by decide +kernel
theorem dX12_step_313 : decode cX12_step 313 = .ok (.ifCond .eq 7, 3) := by decide +kernel
theorem dX12_step_316 : decode cX12_step 316 = .ok (.iconst 1, 1) := by decide +kernel
theorem dX12_step_317 : decode cX12_step 317 = .ok (.goto 4, 3) := by decide +kernel
theorem dX12_step_320 : decode cX12_step 320 = .ok (.iconst 0, 1) := by decide +kernel
theorem dX12_step_321 : decode cX12_step 321 = .ok (.invokevirtual 708, 3) := by decide +kernel
theorem dX12_step_324 : decode cX12_step 324 = .ok (.goto 112, 3) := by decide +kernel
theorem dX12_step_327 : decode cX12_step 327 = .ok (.aload_n 0, 1) := by decide +kernel
theorem dX12_step_328 : decode cX12_step 328 = .ok (.iload_n 2, 1) := by decide +kernel
theorem dX12_step_329 : decode cX12_step 329 = .ok (.iload_n 3, 1) := by decide +kernel
theorem dX12_step_330 : decode cX12_step 330 = .ok (.invokevirtual 728, 3) := by decide +kernel
theorem dX12_step_333 : decode cX12_step 333 = .ok (.goto 103, 3) := by decide +kernel
theorem dX12_step_336 : decode cX12_step 336 = .ok (.aload_n 0, 1) := by decide +kernel
theorem dX12_step_337 : decode cX12_step 337 = .ok (.aload_n 0, 1) := by decide +kernel
theorem dX12_step_338 : decode cX12_step 338 = .ok (.invokevirtual 718, 3) := by decide +kernel
theorem dX12_step_341 : decode cX12_step 341 = .ok (.bipush 6, 2) := by decide +kernel
theorem dX12_step_343 : decode cX12_step 343 = .ok (.iload_n 1, 1) := by decide +kernel
theorem dX12_step_344 : decode cX12_step 344 = .ok (.invokevirtual 730, 3) := by decide +kernel
theorem dX12_step_347 : decode cX12_step 347 = .ok (.goto 89, 3) := by decide +kernel
theorem dX12_step_350 : decode cX12_step 350 = .ok (.aload_n 0, 1) := by decide +kernel
theorem dX12_step_351 : decode cX12_step 351 = .ok (.aload_n 0, 1) := by decide +kernel
theorem dX12_step_352 : decode cX12_step 352 = .ok (.invokevirtual 718, 3) := by decide +kernel
theorem dX12_step_355 : decode cX12_step 355 = .ok (.bipush 7, 2) := by decide +kernel
theorem dX12_step_357 : decode cX12_step 357 = .ok (.iload_n 1, 1) := by decide +kernel
theorem dX12_step_358 : decode cX12_step 358 = .ok (.invokevirtual 730, 3) := by decide +kernel
theorem dX12_step_361 : decode cX12_step 361 = .ok (.goto 75, 3) := by decide +kernel
theorem dX12_step_364 : decode cX12_step 364 = .ok (.aload_n 0, 1) := by decide +kernel
theorem dX12_step_365 : decode cX12_step 365 = .ok (.aload_n 0, 1) := by decide +kernel
theorem dX12_step_366 : decode cX12_step 366 = .ok (.invokevirtual 718, 3) := by decide +kernel
theorem dX12_step_369 : decode cX12_step 369 = .ok (.bipush 8, 2) := by decide +kernel
theorem dX12_step_371 : decode cX12_step 371 = .ok (.iload_n 1, 1) := by decide +kernel
theorem dX12_step_372 : decode cX12_step 372 = .ok (.invokevirtual 730, 3) := by decide +kernel
theorem dX12_step_375 : decode cX12_step 375 = .ok (.goto 61, 3) := by decide +kernel
theorem dX12_step_378 : decode cX12_step 378 = .ok (.aload_n 0, 1) := by decide +kernel
theorem dX12_step_379 : decode cX12_step 379 = .ok (.aload_n 0, 1) := by decide +kernel
theorem dX12_step_380 : decode cX12_step 380 = .ok (.invokevirtual 718, 3) := by decide +kernel
theorem dX12_step_383 : decode cX12_step 383 = .ok (.bipush 6, 2) := by decide +kernel
theorem dX12_step_385 : decode cX12_step 385 = .ok (.iload_n 1, 1) := by decide +kernel
theorem dX12_step_386 : decode cX12_step 386 = .ok (.invokevirtual 730, 3) := by decide +kernel
theorem dX12_step_389 : decode cX12_step 389 = .ok (.goto 47, 3) := by decide +kernel
theorem dX12_step_392 : decode cX12_step 392 = .ok (.aload_n 0, 1) := by decide +kernel
theorem dX12_step_393 : decode cX12_step 393 = .ok (.invokevirtual 733, 3) := by decide +kernel
theorem dX12_step_396 : decode cX12_step 396 = .ok (.goto 40, 3) := by decide +kernel
theorem dX12_step_399 : decode cX12_step 399 = .ok (.aload_n 0, 1) := by decide +kernel
theorem dX12_step_400 : decode cX12_step 400 = .ok (.aload_n 0, 1) := by decide +kernel
theorem dX12_step_401 : decode cX12_step 401 = .ok (.getfield 221, 3) := by decide +kernel
theorem dX12_step_404 : decode cX12_step 404 = .ok (.aload_n 0, 1) := by decide +kernel
theorem dX12_step_405 : decode cX12_step 405 = .ok (.getfield 699, 3) := by decide +kernel
theorem dX12_step_408 : decode cX12_step 408 = .ok (.iaload, 1) := by decide +kernel
theorem dX12_step_409 : decode cX12_step 409 = .ok (.invokevirtual 708, 3) := by decide +kernel
theorem dX12_step_412 : decode cX12_step 412 = .ok (.goto 24, 3) := by decide +kernel
theorem dX12_step_415 : decode cX12_step 415 = .ok (.aload_n 0, 1) := by decide +kernel
theorem dX12_step_416 : decode cX12_step 416 = .ok (.aload_n 0, 1) := by decide +kernel
theorem dX12_step_417 : decode cX12_step 417 = .ok (.getfield 224, 3) := by decide +kernel
theorem dX12_step_420 : decode cX12_step 420 = .ok (.aload_n 0, 1) := by decide +kernel
theorem dX12_step_421 : decode cX12_step 421 = .ok (.getfield 699, 3) := by decide +kernel
theorem dX12_step_424 : decode cX12_step 424 = .ok (.iaload, 1) := by decide +kernel
theorem dX12_step_425 : decode cX12_step 425 = .ok (.invokevirtual 708, 3) := by decide +kernel
theorem dX12_step_428 : decode cX12_step 428 = .ok (.goto 8, 3) := by decide +kernel
theorem dX12_step_431 : decode cX12_step 431 = .ok (.aload_n 0, 1) := by decide +kernel
theorem dX12_step_432 : decode cX12_step 432 = .ok (.iload_n 1, 1) := by decide +kernel
theorem dX12_step_433 : decode cX12_step 433 = .ok (.invokevirtual 736, 3) := by decide +kernel
theorem dX12_step_436 : decode cX12_step 436 = .ok (.return_, 1) := by decide +kernel
def wX12_step_b436 (a0 : Nat)  (Sn : kp_S) (post : kp_S → Prop) : Prop :=
  post Sn
def wX12_step_b260 (a0 : Nat) (xt0 : Int32) (at1 : Nat)  (Sn : kp_S) (post : kp_S → Prop) : Prop :=
  wX12_push at1 xt0 Sn (fun T2001 =>
  wX12_step_b436 a0   T2001 post)
def wX12_step_b431 (a0 : Nat) (xn1 : Int32)  (Sn : kp_S) (post : kp_S → Prop) : Prop :=
  wX12_reckon a0 xn1 Sn (fun T3001 =>
  wX12_step_b436 a0   T3001 post)
def wX12_step_b279 (a0 : Nat) (xn2 : Int32) (xt0 : Int32) (at1 : Nat)  (Sn : kp_S) (post : kp_S → Prop) : Prop :=
  wX12_jumpIf at1 xt0 1 xn2 Sn (fun T4001 =>
  wX12_step_b436 a0   T4001 post)
def wX12_step_b300 (a0 : Nat) (xn2 : Int32) (xt0 : Int32) (at1 : Nat)  (Sn : kp_S) (post : kp_S → Prop) : Prop :=
  wX12_jumpIf at1 xt0 0 xn2 Sn (fun T5001 =>
  wX12_step_b436 a0   T5001 post)
def wX12_step_b321 (a0 : Nat) (xt0 : Int32) (at1 : Nat)  (Sn : kp_S) (post : kp_S → Prop) : Prop :=
  wX12_push at1 xt0 Sn (fun T6001 =>
  wX12_step_b436 a0   T6001 post)
def wX12_step (a0 : Nat) (S : kp_S) (post : kp_S → Prop) : Prop :=
  ∃ b1 : Nat, kp_R S 2448 a0 = some b1 ∧
  vp_in (kp_I S 2510 a0) (kp_N S b1) ∧
  ∀ y2 : Int32, y2 = (kp_A S b1 (kp_I S 2510 a0).toNatClampNeg) →
  ∃ b3 : Nat, kp_R S 2449 a0 = some b3 ∧
  vp_in (kp_I S 2510 a0) (kp_N S b3) ∧
  ∀ y4 : Int32, y4 = (kp_A S b3 (kp_I S 2510 a0).toNatClampNeg) →
  ∃ b5 : Nat, kp_R S 2450 a0 = some b5 ∧
  vp_in (kp_I S 2510 a0) (kp_N S b5) ∧
  ∀ y6 : Int32, y6 = (kp_A S b5 (kp_I S 2510 a0).toNatClampNeg) →
  ∀ T7 : kp_S, T7 = kp_sI S 2510 a0 ((kp_I S 2510 a0) + 1) →
  ((y2 < 30 →
  ((y2 = 1 →
  wX12_push a0 y4 T7 (fun T9 =>
  wX12_step_b436 a0   T9 post)) ∧ (¬ y2 = 1 →
  ((y2 = 2 →
  ∃ b11 : Nat, kp_R T7 2509 a0 = some b11 ∧
  vp_in ((24 * (kp_I T7 2501 a0)) + y4) (kp_N T7 b11) ∧
  wX12_push a0 (kp_A T7 b11 ((24 * (kp_I T7 2501 a0)) + y4).toNatClampNeg) T7 (fun T12 =>
  wX12_step_b436 a0   T12 post)) ∧ (¬ y2 = 2 →
  ((y2 = 3 →
  ∃ b14 : Nat, kp_R T7 2509 a0 = some b14 ∧
  wX12_pop a0 T7 (fun y16 T15 =>
  vp_in ((24 * (kp_I T7 2501 a0)) + y4) (kp_N T15 b14) ∧ ∀ T17 : kp_S, T17 = kp_sA T15 b14 (upd (kp_A T15 b14) (((24 * (kp_I T7 2501 a0)) + y4).toNatClampNeg) y16) →
  wX12_step_b436 a0   T17 post)) ∧ (¬ y2 = 3 →
  ((y2 = 4 →
  ∀ T19 : kp_S, T19 = kp_sI T7 2516 a0 ((kp_I T7 2516 a0) - 1) →
  wX12_step_b436 a0   T19 post) ∧ (¬ y2 = 4 →
  ((y2 = 5 →
  wX12_pop a0 T7 (fun y22 T21 =>
  wX12_push a0 (-y22) T21 (fun T23 =>
  wX12_step_b436 a0   T23 post))) ∧ (¬ y2 = 5 →
  ((y2 = 6 →
  wX12_pop a0 T7 (fun y26 T25 =>
  ((¬ y26 = 0 →
  wX12_step_b260 a0 0 a0  T25 post) ∧ (y26 = 0 →
  wX12_step_b260 a0 1 a0  T25 post)))) ∧ (¬ y2 = 6 →
  ((y2 = 7 →
  wX12_step_b431 a0 y2  T7 post) ∧ (¬ y2 = 7 →
  ((y2 = 8 →
  wX12_step_b431 a0 y2  T7 post) ∧ (¬ y2 = 8 →
  ((y2 = 9 →
  wX12_step_b431 a0 y2  T7 post) ∧ (¬ y2 = 9 →
  ((y2 = 10 →
  wX12_step_b431 a0 y2  T7 post) ∧ (¬ y2 = 10 →
  ((y2 = 11 →
  wX12_step_b431 a0 y2  T7 post) ∧ (¬ y2 = 11 →
  ((y2 = 12 →
  wX12_step_b431 a0 y2  T7 post) ∧ (¬ y2 = 12 →
  ((y2 = 13 →
  wX12_step_b431 a0 y2  T7 post) ∧ (¬ y2 = 13 →
  ((y2 = 14 →
  wX12_step_b431 a0 y2  T7 post) ∧ (¬ y2 = 14 →
  ((y2 = 15 →
  wX12_step_b431 a0 y2  T7 post) ∧ (¬ y2 = 15 →
  ((y2 = 16 →
  wX12_pop a0 T7 (fun y39 T38 =>
  ((y39 = 0 →
  wX12_step_b279 a0 y4 0 a0  T38 post) ∧ (¬ y39 = 0 →
  wX12_step_b279 a0 y4 1 a0  T38 post)))) ∧ (¬ y2 = 16 →
  ((y2 = 17 →
  wX12_pop a0 T7 (fun y43 T42 =>
  ((¬ y43 = 0 →
  wX12_step_b300 a0 y4 0 a0  T42 post) ∧ (y43 = 0 →
  wX12_step_b300 a0 y4 1 a0  T42 post)))) ∧ (¬ y2 = 17 →
  ((y2 = 18 →
  wX12_pop a0 T7 (fun y47 T46 =>
  ((y47 = 0 →
  wX12_step_b321 a0 0 a0  T46 post) ∧ (¬ y47 = 0 →
  wX12_step_b321 a0 1 a0  T46 post)))) ∧ (¬ y2 = 18 →
  ((y2 = 19 →
  wX12_calls a0 y4 y6 T7 (fun T50 =>
  wX12_step_b436 a0   T50 post)) ∧ (¬ y2 = 19 →
  ((y2 = 20 →
  wX12_pop a0 T7 (fun y53 T52 =>
  wX12_answers a0 y53 6 y2 T52 (fun T54 =>
  wX12_step_b436 a0   T54 post))) ∧ (¬ y2 = 20 →
  ((y2 = 21 →
  wX12_pop a0 T7 (fun y57 T56 =>
  wX12_answers a0 y57 7 y2 T56 (fun T58 =>
  wX12_step_b436 a0   T58 post))) ∧ (¬ y2 = 21 →
  ((y2 = 22 →
  wX12_answersGate a0 T7 (fun T60 =>
  wX12_step_b436 a0   T60 post)) ∧ (¬ y2 = 22 →
  ((y2 = 23 →
  wX12_pop a0 T7 (fun y63 T62 =>
  wX12_answers a0 y63 8 y2 T62 (fun T64 =>
  wX12_step_b436 a0   T64 post))) ∧ (¬ y2 = 23 →
  ((y2 = 24 →
  wX12_pop a0 T7 (fun y67 T66 =>
  wX12_answers a0 y67 6 y2 T66 (fun T68 =>
  wX12_step_b436 a0   T68 post))) ∧ (¬ y2 = 24 →
  ((y2 = 25 →
  ∃ b70 : Nat, kp_R T7 2504 a0 = some b70 ∧
  vp_in (kp_I T7 2501 a0) (kp_N T7 b70) ∧
  wX12_push a0 (kp_A T7 b70 (kp_I T7 2501 a0).toNatClampNeg) T7 (fun T71 =>
  wX12_step_b436 a0   T71 post)) ∧ (¬ y2 = 25 →
  ((y2 = 26 →
  ∃ b73 : Nat, kp_R T7 2505 a0 = some b73 ∧
  vp_in (kp_I T7 2501 a0) (kp_N T7 b73) ∧
  wX12_push a0 (kp_A T7 b73 (kp_I T7 2501 a0).toNatClampNeg) T7 (fun T74 =>
  wX12_step_b436 a0   T74 post)) ∧ (¬ y2 = 26 →
  wX12_step_b431 a0 y2  T7 post))))))))))))))))))))))))))))))))))))))))))))))))))))) ∧ (¬ y2 < 30 →
  wX12_stepOfStatement a0 y2 y4 y6 T7 (fun T75 =>
  post T75)))
