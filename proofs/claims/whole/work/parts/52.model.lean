theorem cv_12_773 : kp_CV RX12 773 yX12_mends cX12_mends 4 none 2 12 := ⟨⟨kp_mem 2507 (by decide +kernel) (by decide +kernel), kp_mem 221 (by decide +kernel) (by decide +kernel), by decide +kernel⟩, kp_mem 2504 (by decide +kernel) (by decide +kernel), kp_mem 2506 (by decide +kernel) (by decide +kernel), kp_mem 197 (by decide +kernel) (by decide +kernel), by decide, TX12, 125, rfl⟩
theorem cv_12_775 : kp_CV RX12 775 yX12_pledges cX12_pledges 4 none 2 12 := ⟨⟨kp_mem 2511 (by decide +kernel) (by decide +kernel), kp_mem 221 (by decide +kernel) (by decide +kernel), by decide +kernel⟩, kp_mem 2508 (by decide +kernel) (by decide +kernel), kp_mem 2510 (by decide +kernel) (by decide +kernel), kp_mem 198 (by decide +kernel) (by decide +kernel), by decide, TX12, 125, rfl⟩
theorem cv_12_754 : kp_CV RX12 754 yX12_chooses cX12_chooses 3 none 2 12 := ⟨⟨kp_mem 2487 (by decide +kernel) (by decide +kernel), kp_mem 221 (by decide +kernel) (by decide +kernel), by decide +kernel⟩, kp_mem 2484 (by decide +kernel) (by decide +kernel), kp_mem 2486 (by decide +kernel) (by decide +kernel), kp_mem 192 (by decide +kernel) (by decide +kernel), by decide, TX12, 125, rfl⟩
theorem cv_12_758 : kp_CV RX12 758 yX12_ensures cX12_ensures 2 none 1 12 := ⟨⟨kp_mem 2491 (by decide +kernel) (by decide +kernel), kp_mem 221 (by decide +kernel) (by decide +kernel), by decide +kernel⟩, kp_mem 2488 (by decide +kernel) (by decide +kernel), kp_mem 2490 (by decide +kernel) (by decide +kernel), kp_mem 193 (by decide +kernel) (by decide +kernel), by decide, TX12, 125, rfl⟩
theorem cv_12_739 : kp_CV RX12 739 yX12_moveGate cX12_moveGate 6 none 1 12 := ⟨⟨kp_mem 2459 (by decide +kernel) (by decide +kernel), kp_mem 221 (by decide +kernel) (by decide +kernel), by decide +kernel⟩, kp_mem 2456 (by decide +kernel) (by decide +kernel), kp_mem 2458 (by decide +kernel) (by decide +kernel), kp_mem 185 (by decide +kernel) (by decide +kernel), by decide, TX12, 125, rfl⟩
theorem cv_12_743 : kp_CV RX12 743 yX12_sluice cX12_sluice 8 none 0 12 := ⟨⟨kp_mem 2471 (by decide +kernel) (by decide +kernel), kp_mem 221 (by decide +kernel) (by decide +kernel), by decide +kernel⟩, kp_mem 2468 (by decide +kernel) (by decide +kernel), kp_mem 2470 (by decide +kernel) (by decide +kernel), kp_mem 188 (by decide +kernel) (by decide +kernel), by decide, TX12, 125, rfl⟩
theorem cv_12_745 : kp_CV RX12 745 yX12_sail cX12_sail 9 none 0 12 := ⟨⟨kp_mem 2475 (by decide +kernel) (by decide +kernel), kp_mem 221 (by decide +kernel) (by decide +kernel), by decide +kernel⟩, kp_mem 2472 (by decide +kernel) (by decide +kernel), kp_mem 2474 (by decide +kernel) (by decide +kernel), kp_mem 189 (by decide +kernel) (by decide +kernel), by decide, TX12, 125, rfl⟩
theorem cv_12_747 : kp_CV RX12 747 yX12_fails cX12_fails 2 none 1 12 := ⟨⟨kp_mem 2479 (by decide +kernel) (by decide +kernel), kp_mem 221 (by decide +kernel) (by decide +kernel), by decide +kernel⟩, kp_mem 2476 (by decide +kernel) (by decide +kernel), kp_mem 2478 (by decide +kernel) (by decide +kernel), kp_mem 190 (by decide +kernel) (by decide +kernel), by decide, TX12, 125, rfl⟩
theorem cv_12_761 : kp_CV RX12 761 yX12_beginsEach cX12_beginsEach 4 none 1 12 := ⟨⟨kp_mem 2495 (by decide +kernel) (by decide +kernel), kp_mem 221 (by decide +kernel) (by decide +kernel), by decide +kernel⟩, kp_mem 2492 (by decide +kernel) (by decide +kernel), kp_mem 2494 (by decide +kernel) (by decide +kernel), kp_mem 194 (by decide +kernel) (by decide +kernel), by decide, TX12, 125, rfl⟩
theorem cv_12_764 : kp_CV RX12 764 yX12_testsEach cX12_testsEach 4 none 1 12 := ⟨⟨kp_mem 2499 (by decide +kernel) (by decide +kernel), kp_mem 221 (by decide +kernel) (by decide +kernel), by decide +kernel⟩, kp_mem 2496 (by decide +kernel) (by decide +kernel), kp_mem 2498 (by decide +kernel) (by decide +kernel), kp_mem 195 (by decide +kernel) (by decide +kernel), by decide, TX12, 125, rfl⟩
theorem cv_12_767 : kp_CV RX12 767 yX12_takes cX12_takes 3 none 2 12 := ⟨⟨kp_mem 2503 (by decide +kernel) (by decide +kernel), kp_mem 221 (by decide +kernel) (by decide +kernel), by decide +kernel⟩, kp_mem 2500 (by decide +kernel) (by decide +kernel), kp_mem 2502 (by decide +kernel) (by decide +kernel), kp_mem 196 (by decide +kernel) (by decide +kernel), by decide, TX12, 125, rfl⟩
theorem cv_12_736 : kp_CV RX12 736 yX12_reckon cX12_reckon 4 none 1 12 := ⟨⟨kp_mem 2527 (by decide +kernel) (by decide +kernel), kp_mem 221 (by decide +kernel) (by decide +kernel), by decide +kernel⟩, kp_mem 2524 (by decide +kernel) (by decide +kernel), kp_mem 2526 (by decide +kernel) (by decide +kernel), kp_mem 202 (by decide +kernel) (by decide +kernel), by decide, TX12, 125, rfl⟩
theorem cv_12_724 : kp_CV RX12 724 yX12_jumpIf cX12_jumpIf 4 none 3 12 := ⟨⟨kp_mem 2515 (by decide +kernel) (by decide +kernel), kp_mem 221 (by decide +kernel) (by decide +kernel), by decide +kernel⟩, kp_mem 2512 (by decide +kernel) (by decide +kernel), kp_mem 2514 (by decide +kernel) (by decide +kernel), kp_mem 199 (by decide +kernel) (by decide +kernel), by decide, TX12, 125, rfl⟩
theorem cv_12_728 : kp_CV RX12 728 yX12_calls cX12_calls 4 none 2 12 := ⟨⟨kp_mem 2375 (by decide +kernel) (by decide +kernel), kp_mem 221 (by decide +kernel) (by decide +kernel), by decide +kernel⟩, kp_mem 2372 (by decide +kernel) (by decide +kernel), kp_mem 2374 (by decide +kernel) (by decide +kernel), kp_mem 164 (by decide +kernel) (by decide +kernel), by decide, TX12, 125, rfl⟩
theorem cv_12_730 : kp_CV RX12 730 yX12_answers cX12_answers 4 none 3 12 := ⟨⟨kp_mem 2519 (by decide +kernel) (by decide +kernel), kp_mem 221 (by decide +kernel) (by decide +kernel), by decide +kernel⟩, kp_mem 2516 (by decide +kernel) (by decide +kernel), kp_mem 2518 (by decide +kernel) (by decide +kernel), kp_mem 200 (by decide +kernel) (by decide +kernel), by decide, TX12, 125, rfl⟩
theorem cv_12_733 : kp_CV RX12 733 yX12_answersGate cX12_answersGate 3 none 0 12 := ⟨⟨kp_mem 2523 (by decide +kernel) (by decide +kernel), kp_mem 221 (by decide +kernel) (by decide +kernel), by decide +kernel⟩, kp_mem 2520 (by decide +kernel) (by decide +kernel), kp_mem 2522 (by decide +kernel) (by decide +kernel), kp_mem 201 (by decide +kernel) (by decide +kernel), by decide, TX12, 125, rfl⟩
theorem cv_12_721 : kp_CV RX12 721 yX12_stepOfStatement cX12_stepOfStatement 4 none 3 12 := ⟨⟨kp_mem 2451 (by decide +kernel) (by decide +kernel), kp_mem 221 (by decide +kernel) (by decide +kernel), by decide +kernel⟩, kp_mem 2448 (by decide +kernel) (by decide +kernel), kp_mem 2450 (by decide +kernel) (by decide +kernel), kp_mem 183 (by decide +kernel) (by decide +kernel), by decide, TX12, 125, rfl⟩
theorem fp_12_809 : kp_FP RX12 809 12 118 := ⟨RX12, TX12, 125, cl_12, by decide, kp_mem 1815 (by decide +kernel) (by decide +kernel), rfl⟩
theorem fp_12_242 : kp_FP RX12 242 12 117 := ⟨RX12, TX12, 125, cl_12, by decide, kp_mem 1814 (by decide +kernel) (by decide +kernel), rfl⟩
theorem fp_12_812 : kp_FP RX12 812 12 119 := ⟨RX12, TX12, 125, cl_12, by decide, kp_mem 1816 (by decide +kernel) (by decide +kernel), rfl⟩
theorem fp_12_815 : kp_FP RX12 815 12 120 := ⟨RX12, TX12, 125, cl_12, by decide, kp_mem 1817 (by decide +kernel) (by decide +kernel), rfl⟩
theorem fp_12_245 : kp_FP RX12 245 12 122 := ⟨RX12, TX12, 125, cl_12, by decide, kp_mem 1819 (by decide +kernel) (by decide +kernel), rfl⟩
theorem fp_12_818 : kp_FP RX12 818 12 121 := ⟨RX12, TX12, 125, cl_12, by decide, kp_mem 1818 (by decide +kernel) (by decide +kernel), rfl⟩
theorem fp_12_803 : kp_FP RX12 803 12 123 := ⟨RX12, TX12, 125, cl_12, by decide, kp_mem 1820 (by decide +kernel) (by decide +kernel), rfl⟩
theorem fp_12_793 : kp_FP RX12 793 12 124 := ⟨RX12, TX12, 125, cl_12, by decide, kp_mem 1821 (by decide +kernel) (by decide +kernel), rfl⟩
theorem cv_12_806 : kp_CV RX12 806 yX12_tellEnd cX12_tellEnd 2 none 0 12 := ⟨⟨kp_mem 2531 (by decide +kernel) (by decide +kernel), kp_mem 221 (by decide +kernel) (by decide +kernel), by decide +kernel⟩, kp_mem 2528 (by decide +kernel) (by decide +kernel), kp_mem 2530 (by decide +kernel) (by decide +kernel), kp_mem 203 (by decide +kernel) (by decide +kernel), by decide, TX12, 125, rfl⟩
theorem cv_12_800 : kp_CV RX12 800 yX12_step cX12_step 4 none 0 12 := ⟨⟨kp_mem 2447 (by decide +kernel) (by decide +kernel), kp_mem 221 (by decide +kernel) (by decide +kernel), by decide +kernel⟩, kp_mem 2444 (by decide +kernel) (by decide +kernel), kp_mem 2446 (by decide +kernel) (by decide +kernel), kp_mem 182 (by decide +kernel) (by decide +kernel), by decide, TX12, 125, rfl⟩
theorem kc_12_796 : Cond.constant RX12 796 200000 ∈ kp_tb := kp_mem 2363 (by decide +kernel) (by decide +kernel)
theorem cv_12_797 : kp_CV RX12 797 yX12_clear cX12_clear 1 none 0 12 := ⟨⟨kp_mem 2367 (by decide +kernel) (by decide +kernel), kp_mem 221 (by decide +kernel) (by decide +kernel), by decide +kernel⟩, kp_mem 2364 (by decide +kernel) (by decide +kernel), kp_mem 2366 (by decide +kernel) (by decide +kernel), kp_mem 162 (by decide +kernel) (by decide +kernel), by decide, TX12, 125, rfl⟩
theorem dX12_stepOfStatement_0 : decode cX12_stepOfStatement 0 = .ok (.iload_n 1, 1) := by decide +kernel
theorem dX12_stepOfStatement_1 : decode cX12_stepOfStatement 1 = .ok (.tableswitch 593 30 61 #[143, 156, 168, 176, 184, 191, 198, 209, 217, 237, 237, 264, 272, 294, 304, 435, 455, 463, 471, 478, 490, 524, 555, 564, 593, 317, 325, 341, 365, 396, 405, 416], 143) := by decide +kernel
theorem dX12_stepOfStatement_144 : decode cX12_stepOfStatement 144 = .ok (.aload_n 0, 1) := by decide +kernel
theorem dX12_stepOfStatement_145 : decode cX12_stepOfStatement 145 = .ok (.iload_n 2, 1) := by decide +kernel
theorem dX12_stepOfStatement_146 : decode cX12_stepOfStatement 146 = .ok (.putfield 639, 3) := by decide +kernel
theorem dX12_stepOfStatement_149 : decode cX12_stepOfStatement 149 = .ok (.aload_n 0, 1) := by decide +kernel
theorem dX12_stepOfStatement_150 : decode cX12_stepOfStatement 150 = .ok (.invokevirtual 693, 3) := by decide +kernel
theorem dX12_stepOfStatement_153 : decode cX12_stepOfStatement 153 = .ok (.pop, 1) := by decide +kernel
theorem dX12_stepOfStatement_154 : decode cX12_stepOfStatement 154 = .ok (.goto 446, 3) := by decide +kernel
theorem dX12_stepOfStatement_157 : decode cX12_stepOfStatement 157 = .ok (.aload_n 0, 1) := by decide +kernel
theorem dX12_stepOfStatement_158 : decode cX12_stepOfStatement 158 = .ok (.iconst 0, 1) := by decide +kernel
theorem dX12_stepOfStatement_159 : decode cX12_stepOfStatement 159 = .ok (.aload_n 0, 1) := by decide +kernel
theorem dX12_stepOfStatement_160 : decode cX12_stepOfStatement 160 = .ok (.invokevirtual 718, 3) := by decide +kernel
theorem dX12_stepOfStatement_163 : decode cX12_stepOfStatement 163 = .ok (.invokevirtual 637, 3) := by decide +kernel
theorem dX12_stepOfStatement_166 : decode cX12_stepOfStatement 166 = .ok (.goto 434, 3) := by decide +kernel
theorem dX12_stepOfStatement_169 : decode cX12_stepOfStatement 169 = .ok (.aload_n 0, 1) := by decide +kernel
theorem dX12_stepOfStatement_170 : decode cX12_stepOfStatement 170 = .ok (.iconst 1, 1) := by decide +kernel
theorem dX12_stepOfStatement_171 : decode cX12_stepOfStatement 171 = .ok (.invokevirtual 739, 3) := by decide +kernel
theorem dX12_stepOfStatement_174 : decode cX12_stepOfStatement 174 = .ok (.goto 426, 3) := by decide +kernel
theorem dX12_stepOfStatement_177 : decode cX12_stepOfStatement 177 = .ok (.aload_n 0, 1) := by decide +kernel
theorem dX12_stepOfStatement_178 : decode cX12_stepOfStatement 178 = .ok (.iconst 0, 1) := by decide +kernel
theorem dX12_stepOfStatement_179 : decode cX12_stepOfStatement 179 = .ok (.invokevirtual 739, 3) := by decide +kernel
theorem dX12_stepOfStatement_182 : decode cX12_stepOfStatement 182 = .ok (.goto 418, 3) := by decide +kernel
theorem dX12_stepOfStatement_185 : decode cX12_stepOfStatement 185 = .ok (.aload_n 0, 1) := by decide +kernel
theorem dX12_stepOfStatement_186 : decode cX12_stepOfStatement 186 = .ok (.invokevirtual 743, 3) := by decide +kernel
theorem dX12_stepOfStatement_189 : decode cX12_stepOfStatement 189 = .ok (.goto 411, 3) := by decide +kernel
theorem dX12_stepOfStatement_192 : decode cX12_stepOfStatement 192 = .ok (.aload_n 0, 1) := by decide +kernel
theorem dX12_stepOfStatement_193 : decode cX12_stepOfStatement 193 = .ok (.invokevirtual 745, 3) := by decide +kernel
theorem dX12_stepOfStatement_196 : decode cX12_stepOfStatement 196 = .ok (.goto 404, 3) := by decide +kernel
theorem dX12_stepOfStatement_199 : decode cX12_stepOfStatement 199 = .ok (.aload_n 0, 1) := by decide +kernel
theorem dX12_stepOfStatement_200 : decode cX12_stepOfStatement 200 = .ok (.aload_n 0, 1) := by decide +kernel
theorem dX12_stepOfStatement_201 : decode cX12_stepOfStatement 201 = .ok (.invokevirtual 718, 3) := by decide +kernel
theorem dX12_stepOfStatement_204 : decode cX12_stepOfStatement 204 = .ok (.invokevirtual 747, 3) := by decide +kernel
theorem dX12_stepOfStatement_207 : decode cX12_stepOfStatement 207 = .ok (.goto 393, 3) := by decide +kernel
theorem dX12_stepOfStatement_210 : decode cX12_stepOfStatement 210 = .ok (.aload_n 0, 1) := by decide +kernel
theorem dX12_stepOfStatement_211 : decode cX12_stepOfStatement 211 = .ok (.iconst 1, 1) := by decide +kernel
theorem dX12_stepOfStatement_212 : decode cX12_stepOfStatement 212 = .ok (.putfield 610, 3) := by decide +kernel
theorem dX12_stepOfStatement_215 : decode cX12_stepOfStatement 215 = .ok (.goto 385, 3) := by decide +kernel
theorem dX12_stepOfStatement_218 : decode cX12_stepOfStatement 218 = .ok (.aload_n 0, 1) := by decide +kernel
theorem dX12_stepOfStatement_219 : decode cX12_stepOfStatement 219 = .ok (.aload_n 0, 1) := by decide +kernel
theorem dX12_stepOfStatement_220 : decode cX12_stepOfStatement 220 = .ok (.invokevirtual 718, 3) := by decide +kernel
theorem dX12_stepOfStatement_223 : decode cX12_stepOfStatement 223 = .ok (.putfield 622, 3) := by decide +kernel
theorem dX12_stepOfStatement_226 : decode cX12_stepOfStatement 226 = .ok (.aload_n 0, 1) := by decide +kernel
theorem dX12_stepOfStatement_227 : decode cX12_stepOfStatement 227 = .ok (.iconst 3, 1) := by decide +kernel
theorem dX12_stepOfStatement_228 : decode cX12_stepOfStatement 228 = .ok (.putfield 616, 3) := by decide +kernel
theorem dX12_stepOfStatement_231 : decode cX12_stepOfStatement 231 = .ok (.aload_n 0, 1) := by decide +kernel
theorem dX12_stepOfStatement_232 : decode cX12_stepOfStatement 232 = .ok (.invokevirtual 645, 3) := by decide +kernel
theorem dX12_stepOfStatement_235 : decode cX12_stepOfStatement 235 = .ok (.goto 365, 3) := by decide +kernel
theorem dX12_stepOfStatement_238 : decode cX12_stepOfStatement 238 = .ok (.aload_n 0, 1) := by decide +kernel
theorem dX12_stepOfStatement_239 : decode cX12_stepOfStatement 239 = .ok (.iload_n 1, 1) := by decide +kernel
theorem dX12_stepOfStatement_240 : decode cX12_stepOfStatement 240 = .ok (.bipush 39, 2) := by decide +kernel
theorem dX12_stepOfStatement_242 : decode cX12_stepOfStatement 242 = .ok (.if_icmp .ne 7, 3) := by decide +kernel
theorem dX12_stepOfStatement_245 : decode cX12_stepOfStatement 245 = .ok (.iconst 1, 1) := by decide +kernel
theorem dX12_stepOfStatement_246 : decode cX12_stepOfStatement 246 = .ok (.goto 4, 3) := by decide +kernel
theorem dX12_stepOfStatement_249 : decode cX12_stepOfStatement 249 = .ok (.iconst 2, 1) := by decide +kernel
theorem dX12_stepOfStatement_250 : decode cX12_stepOfStatement 250 = .ok (.putfield 616, 3) := by decide +kernel
theorem dX12_stepOfStatement_253 : decode cX12_stepOfStatement 253 = .ok (.aload_n 0, 1) := by decide +kernel
theorem dX12_stepOfStatement_254 : decode cX12_stepOfStatement 254 = .ok (.iload_n 2, 1) := by decide +kernel
theorem dX12_stepOfStatement_255 : decode cX12_stepOfStatement 255 = .ok (.putfield 619, 3) := by decide +kernel
theorem dX12_stepOfStatement_258 : decode cX12_stepOfStatement 258 = .ok (.aload_n 0, 1) := by decide +kernel
theorem dX12_stepOfStatement_259 : decode cX12_stepOfStatement 259 = .ok (.invokevirtual 645, 3) := by decide +kernel
theorem dX12_stepOfStatement_262 : decode cX12_stepOfStatement 262 = .ok (.goto 338, 3) := by decide +kernel
theorem dX12_stepOfStatement_265 : decode cX12_stepOfStatement 265 = .ok (.aload_n 0, 1) := by decide +kernel
theorem dX12_stepOfStatement_266 : decode cX12_stepOfStatement 266 = .ok (.iload_n 2, 1) := by decide +kernel
theorem dX12_stepOfStatement_267 : decode cX12_stepOfStatement 267 = .ok (.putfield 648, 3) := by decide +kernel
theorem dX12_stepOfStatement_270 : decode cX12_stepOfStatement 270 = .ok (.goto 330, 3) := by decide +kernel
theorem dX12_stepOfStatement_273 : decode cX12_stepOfStatement 273 = .ok (.aload_n 0, 1) := by decide +kernel
theorem dX12_stepOfStatement_274 : decode cX12_stepOfStatement 274 = .ok (.aload_n 0, 1) := by decide +kernel
theorem dX12_stepOfStatement_275 : decode cX12_stepOfStatement 275 = .ok (.invokevirtual 718, 3) := by decide +kernel
theorem dX12_stepOfStatement_278 : decode cX12_stepOfStatement 278 = .ok (.ifCond .ne 7, 3) := by decide +kernel
theorem dX12_stepOfStatement_281 : decode cX12_stepOfStatement 281 = .ok (.iload_n 2, 1) := by decide +kernel
theorem dX12_stepOfStatement_282 : decode cX12_stepOfStatement 282 = .ok (.goto 7, 3) := by decide +kernel
theorem dX12_stepOfStatement_285 : decode cX12_stepOfStatement 285 = .ok (.aload_n 0, 1) := by decide +kernel
theorem dX12_stepOfStatement_286 : decode cX12_stepOfStatement 286 = .ok (.getfield 648, 3) := by decide +kernel
theorem dX12_stepOfStatement_289 : decode cX12_stepOfStatement 289 = .ok (.putfield 648, 3) := by decide +kernel
theorem dX12_stepOfStatement_292 : decode cX12_stepOfStatement 292 = .ok (.goto 308, 3) := by decide +kernel
theorem dX12_stepOfStatement_295 : decode cX12_stepOfStatement 295 = .ok (.aload_n 0, 1) := by decide +kernel
theorem dX12_stepOfStatement_296 : decode cX12_stepOfStatement 296 = .ok (.iconst 3, 1) := by decide +kernel
theorem dX12_stepOfStatement_297 : decode cX12_stepOfStatement 297 = .ok (.iconst 0, 1) := by decide +kernel
theorem dX12_stepOfStatement_298 : decode cX12_stepOfStatement 298 = .ok (.iload_n 2, 1) := by decide +kernel
theorem dX12_stepOfStatement_299 : decode cX12_stepOfStatement 299 = .ok (.invokevirtual 714, 3) := by decide +kernel
theorem dX12_stepOfStatement_302 : decode cX12_stepOfStatement 302 = .ok (.goto 298, 3) := by decide +kernel
theorem dX12_stepOfStatement_305 : decode cX12_stepOfStatement 305 = .ok (.aload_n 0, 1) := by decide +kernel
theorem dX12_stepOfStatement_306 : decode cX12_stepOfStatement 306 = .ok (.iload_n 2, 1) := by decide +kernel
theorem dX12_stepOfStatement_307 : decode cX12_stepOfStatement 307 = .ok (.putfield 639, 3) := by decide +kernel
theorem dX12_stepOfStatement_310 : decode cX12_stepOfStatement 310 = .ok (.aload_n 0, 1) := by decide +kernel
theorem dX12_stepOfStatement_311 : decode cX12_stepOfStatement 311 = .ok (.invokevirtual 693, 3) := by decide +kernel
theorem dX12_stepOfStatement_314 : decode cX12_stepOfStatement 314 = .ok (.pop, 1) := by decide +kernel
theorem dX12_stepOfStatement_315 : decode cX12_stepOfStatement 315 = .ok (.goto 285, 3) := by decide +kernel
theorem dX12_stepOfStatement_318 : decode cX12_stepOfStatement 318 = .ok (.aload_n 0, 1) := by decide +kernel
theorem dX12_stepOfStatement_319 : decode cX12_stepOfStatement 319 = .ok (.iload_n 2, 1) := by decide +kernel
theorem dX12_stepOfStatement_320 : decode cX12_stepOfStatement 320 = .ok (.putfield 639, 3) := by decide +kernel
theorem dX12_stepOfStatement_323 : decode cX12_stepOfStatement 323 = .ok (.goto 277, 3) := by decide +kernel
theorem dX12_stepOfStatement_326 : decode cX12_stepOfStatement 326 = .ok (.aload_n 0, 1) := by decide +kernel
theorem dX12_stepOfStatement_327 : decode cX12_stepOfStatement 327 = .ok (.invokevirtual 693, 3) := by decide +kernel
theorem dX12_stepOfStatement_330 : decode cX12_stepOfStatement 330 = .ok (.ifCond .eq 270, 3) := by decide +kernel
theorem dX12_stepOfStatement_333 : decode cX12_stepOfStatement 333 = .ok (.aload_n 0, 1) := by decide +kernel
theorem dX12_stepOfStatement_334 : decode cX12_stepOfStatement 334 = .ok (.iload_n 2, 1) := by decide +kernel
theorem dX12_stepOfStatement_335 : decode cX12_stepOfStatement 335 = .ok (.iconst 1, 1) := by decide +kernel
theorem dX12_stepOfStatement_336 : decode cX12_stepOfStatement 336 = .ok (.invokevirtual 750, 3) := by decide +kernel
theorem dX12_stepOfStatement_339 : decode cX12_stepOfStatement 339 = .ok (.goto 261, 3) := by decide +kernel
theorem dX12_stepOfStatement_342 : decode cX12_stepOfStatement 342 = .ok (.aload_n 0, 1) := by decide +kernel
theorem dX12_stepOfStatement_343 : decode cX12_stepOfStatement 343 = .ok (.invokevirtual 718, 3) := by decide +kernel
theorem dX12_stepOfStatement_346 : decode cX12_stepOfStatement 346 = .ok (.ifCond .ne 11, 3) := by decide +kernel
theorem dX12_stepOfStatement_349 : decode cX12_stepOfStatement 349 = .ok (.aload_n 0, 1) := by decide +kernel
theorem dX12_stepOfStatement_350 : decode cX12_stepOfStatement 350 = .ok (.iload_n 3, 1) := by decide +kernel
theorem dX12_stepOfStatement_351 : decode cX12_stepOfStatement 351 = .ok (.putfield 648, 3) := by decide +kernel
theorem dX12_stepOfStatement_354 : decode cX12_stepOfStatement 354 = .ok (.goto 246, 3) := by decide +kernel
theorem dX12_stepOfStatement_357 : decode cX12_stepOfStatement 357 = .ok (.aload_n 0, 1) := by decide +kernel
theorem dX12_stepOfStatement_358 : decode cX12_stepOfStatement 358 = .ok (.iload_n 2, 1) := by decide +kernel
theorem dX12_stepOfStatement_359 : decode cX12_stepOfStatement 359 = .ok (.iconst 0, 1) := by decide +kernel
theorem dX12_stepOfStatement_360 : decode cX12_stepOfStatement 360 = .ok (.invokevirtual 750, 3) := by decide +kernel
theorem dX12_stepOfStatement_363 : decode cX12_stepOfStatement 363 = .ok (.goto 237, 3) := by decide +kernel
theorem dX12_stepOfStatement_366 : decode cX12_stepOfStatement 366 = .ok (.aload_n 0, 1) := by decide +kernel
theorem dX12_stepOfStatement_367 : decode cX12_stepOfStatement 367 = .ok (.aload_n 0, 1) := by decide +kernel
theorem dX12_stepOfStatement_368 : decode cX12_stepOfStatement 368 = .ok (.invokevirtual 718, 3) := by decide +kernel
theorem dX12_stepOfStatement_371 : decode cX12_stepOfStatement 371 = .ok (.aload_n 0, 1) := by decide +kernel
theorem dX12_stepOfStatement_372 : decode cX12_stepOfStatement 372 = .ok (.getfield 239, 3) := by decide +kernel
theorem dX12_stepOfStatement_375 : decode cX12_stepOfStatement 375 = .ok (.aload_n 0, 1) := by decide +kernel
theorem dX12_stepOfStatement_376 : decode cX12_stepOfStatement 376 = .ok (.getfield 604, 3) := by decide +kernel
theorem dX12_stepOfStatement_379 : decode cX12_stepOfStatement 379 = .ok (.iconst 1, 1) := by decide +kernel
theorem dX12_stepOfStatement_380 : decode cX12_stepOfStatement 380 = .ok (.isub, 1) := by decide +kernel
theorem dX12_stepOfStatement_381 : decode cX12_stepOfStatement 381 = .ok (.iaload, 1) := by decide +kernel
theorem dX12_stepOfStatement_382 : decode cX12_stepOfStatement 382 = .ok (.if_icmp .ne 7, 3) := by decide +kernel
theorem dX12_stepOfStatement_385 : decode cX12_stepOfStatement 385 = .ok (.iconst 1, 1) := by decide +kernel
theorem dX12_stepOfStatement_386 : decode cX12_stepOfStatement 386 = .ok (.goto 4, 3) := by decide +kernel
theorem dX12_stepOfStatement_389 : decode cX12_stepOfStatement 389 = .ok (.iconst 0, 1) := by decide +kernel
theorem dX12_stepOfStatement_390 : decode cX12_stepOfStatement 390 = .ok (.iload_n 2, 1) := by decide +kernel
theorem dX12_stepOfStatement_391 : decode cX12_stepOfStatement 391 = .ok (.invokevirtual 754, 3) := by decide +kernel
theorem dX12_stepOfStatement_394 : decode cX12_stepOfStatement 394 = .ok (.goto 206, 3) := by decide +kernel
theorem dX12_stepOfStatement_397 : decode cX12_stepOfStatement 397 = .ok (.aload_n 0, 1) := by decide +kernel
theorem dX12_stepOfStatement_398 : decode cX12_stepOfStatement 398 = .ok (.iconst 1, 1) := by decide +kernel
theorem dX12_stepOfStatement_399 : decode cX12_stepOfStatement 399 = .ok (.iload_n 2, 1) := by decide +kernel
theorem dX12_stepOfStatement_400 : decode cX12_stepOfStatement 400 = .ok (.invokevirtual 754, 3) := by decide +kernel
theorem dX12_stepOfStatement_403 : decode cX12_stepOfStatement 403 = .ok (.goto 197, 3) := by decide +kernel
theorem dX12_stepOfStatement_406 : decode cX12_stepOfStatement 406 = .ok (.aload_n 0, 1) := by decide +kernel
theorem dX12_stepOfStatement_407 : decode cX12_stepOfStatement 407 = .ok (.iconst 5, 1) := by decide +kernel
theorem dX12_stepOfStatement_408 : decode cX12_stepOfStatement 408 = .ok (.bipush 8, 2) := by decide +kernel
theorem dX12_stepOfStatement_410 : decode cX12_stepOfStatement 410 = .ok (.iload_n 2, 1) := by decide +kernel
theorem dX12_stepOfStatement_411 : decode cX12_stepOfStatement 411 = .ok (.invokevirtual 714, 3) := by decide +kernel
theorem dX12_stepOfStatement_414 : decode cX12_stepOfStatement 414 = .ok (.goto 186, 3) := by decide +kernel
theorem dX12_stepOfStatement_417 : decode cX12_stepOfStatement 417 = .ok (.aload_n 0, 1) := by decide +kernel
theorem dX12_stepOfStatement_418 : decode cX12_stepOfStatement 418 = .ok (.aload_n 0, 1) := by decide +kernel
theorem dX12_stepOfStatement_419 : decode cX12_stepOfStatement 419 = .ok (.invokevirtual 718, 3) := by decide +kernel
theorem dX12_stepOfStatement_422 : decode cX12_stepOfStatement 422 = .ok (.ifCond .eq 7, 3) := by decide +kernel
theorem dX12_stepOfStatement_425 : decode cX12_stepOfStatement 425 = .ok (.iconst 1, 1) := by decide +kernel
theorem dX12_stepOfStatement_426 : decode cX12_stepOfStatement 426 = .ok (.goto 4, 3) := by decide +kernel
theorem dX12_stepOfStatement_429 : decode cX12_stepOfStatement 429 = .ok (.iconst 0, 1) := by decide +kernel
theorem dX12_stepOfStatement_430 : decode cX12_stepOfStatement 430 = .ok (.invokevirtual 758, 3) := by decide +kernel
theorem dX12_stepOfStatement_433 : decode cX12_stepOfStatement 433 = .ok (.goto 167, 3) := by decide +kernel
theorem dX12_stepOfStatement_436 : decode cX12_stepOfStatement 436 = .ok (.aload_n 0, 1) := by decide +kernel
theorem dX12_stepOfStatement_437 : decode cX12_stepOfStatement 437 = .ok (.iload_n 2, 1) := by decide +kernel
theorem dX12_stepOfStatement_438 : decode cX12_stepOfStatement 438 = .ok (.aload_n 0, 1) := by decide +kernel
theorem dX12_stepOfStatement_439 : decode cX12_stepOfStatement 439 = .ok (.invokevirtual 718, 3) := by decide +kernel
theorem dX12_stepOfStatement_442 : decode cX12_stepOfStatement 442 = .ok (.ifCond .eq 7, 3) := by decide +kernel
theorem dX12_stepOfStatement_445 : decode cX12_stepOfStatement 445 = .ok (.iconst 1, 1) := by decide +kernel
theorem dX12_stepOfStatement_446 : decode cX12_stepOfStatement 446 = .ok (.goto 4, 3) := by decide +kernel
theorem dX12_stepOfStatement_449 : decode cX12_stepOfStatement 449 = .ok (.iconst 0, 1) := by decide +kernel
theorem dX12_stepOfStatement_450 : decode cX12_stepOfStatement 450 = .ok (.invokevirtual 750, 3) := by decide +kernel
theorem dX12_stepOfStatement_453 : decode cX12_stepOfStatement 453 = .ok (.goto 147, 3) := by decide +kernel
theorem dX12_stepOfStatement_456 : decode cX12_stepOfStatement 456 = .ok (.aload_n 0, 1) := by decide +kernel
theorem dX12_stepOfStatement_457 : decode cX12_stepOfStatement 457 = .ok (.iload_n 2, 1) := by decide +kernel
theorem dX12_stepOfStatement_458 : decode cX12_stepOfStatement 458 = .ok (.invokevirtual 761, 3) := by decide +kernel
theorem dX12_stepOfStatement_461 : decode cX12_stepOfStatement 461 = .ok (.goto 139, 3) := by decide +kernel
theorem dX12_stepOfStatement_464 : decode cX12_stepOfStatement 464 = .ok (.aload_n 0, 1) := by decide +kernel
theorem dX12_stepOfStatement_465 : decode cX12_stepOfStatement 465 = .ok (.iload_n 2, 1) := by decide +kernel
theorem dX12_stepOfStatement_466 : decode cX12_stepOfStatement 466 = .ok (.invokevirtual 764, 3) := by decide +kernel
theorem dX12_stepOfStatement_469 : decode cX12_stepOfStatement 469 = .ok (.goto 131, 3) := by decide +kernel
theorem dX12_stepOfStatement_472 : decode cX12_stepOfStatement 472 = .ok (.aload_n 0, 1) := by decide +kernel
theorem dX12_stepOfStatement_473 : decode cX12_stepOfStatement 473 = .ok (.invokevirtual 645, 3) := by decide +kernel
theorem dX12_stepOfStatement_476 : decode cX12_stepOfStatement 476 = .ok (.goto 124, 3) := by decide +kernel
theorem dX12_stepOfStatement_479 : decode cX12_stepOfStatement 479 = .ok (.aload_n 0, 1) := by decide +kernel
theorem dX12_stepOfStatement_480 : decode cX12_stepOfStatement 480 = .ok (.aload_n 0, 1) := by decide +kernel
theorem dX12_stepOfStatement_481 : decode cX12_stepOfStatement 481 = .ok (.invokevirtual 718, 3) := by decide +kernel
theorem dX12_stepOfStatement_484 : decode cX12_stepOfStatement 484 = .ok (.iload_n 2, 1) := by decide +kernel
theorem dX12_stepOfStatement_485 : decode cX12_stepOfStatement 485 = .ok (.invokevirtual 767, 3) := by decide +kernel
theorem dX12_stepOfStatement_488 : decode cX12_stepOfStatement 488 = .ok (.goto 112, 3) := by decide +kernel
theorem dX12_stepOfStatement_491 : decode cX12_stepOfStatement 491 = .ok (.aload_n 0, 1) := by decide +kernel
theorem dX12_stepOfStatement_492 : decode cX12_stepOfStatement 492 = .ok (.iconst 4, 1) := by decide +kernel
theorem dX12_stepOfStatement_493 : decode cX12_stepOfStatement 493 = .ok (.iconst 3, 1) := by decide +kernel
theorem dX12_stepOfStatement_494 : decode cX12_stepOfStatement 494 = .ok (.iload_n 2, 1) := by decide +kernel
theorem dX12_stepOfStatement_495 : decode cX12_stepOfStatement 495 = .ok (.invokevirtual 714, 3) := by decide +kernel
theorem dX12_stepOfStatement_498 : decode cX12_stepOfStatement 498 = .ok (.aload_n 0, 1) := by decide +kernel
theorem dX12_stepOfStatement_499 : decode cX12_stepOfStatement 499 = .ok (.dup, 1) := by decide +kernel
theorem dX12_stepOfStatement_500 : decode cX12_stepOfStatement 500 = .ok (.getfield 770, 3) := by decide +kernel
theorem dX12_stepOfStatement_503 : decode cX12_stepOfStatement 503 = .ok (.aload_n 0, 1) := by decide +kernel
theorem dX12_stepOfStatement_504 : decode cX12_stepOfStatement 504 = .ok (.getfield 124, 3) := by decide +kernel
theorem dX12_stepOfStatement_507 : decode cX12_stepOfStatement 507 = .ok (.iload_n 2, 1) := by decide +kernel
theorem dX12_stepOfStatement_508 : decode cX12_stepOfStatement 508 = .ok (.iaload, 1) := by decide +kernel
theorem dX12_stepOfStatement_509 : decode cX12_stepOfStatement 509 = .ok (.iconst (-1), 1) := by decide +kernel
theorem dX12_stepOfStatement_510 : decode cX12_stepOfStatement 510 = .ok (.if_icmp .ne 7, 3) := by decide +kernel
theorem dX12_stepOfStatement_513 : decode cX12_stepOfStatement 513 = .ok (.iconst 0, 1) := by decide +kernel
theorem dX12_stepOfStatement_514 : decode cX12_stepOfStatement 514 = .ok (.goto 4, 3) := by decide +kernel
theorem dX12_stepOfStatement_517 : decode cX12_stepOfStatement 517 = .ok (.iconst 1, 1) := by decide +kernel
theorem dX12_stepOfStatement_518 : decode cX12_stepOfStatement 518 = .ok (.iadd, 1) := by decide +kernel
theorem dX12_stepOfStatement_519 : decode cX12_stepOfStatement 519 = .ok (.putfield 770, 3) := by decide +kernel
theorem dX12_stepOfStatement_522 : decode cX12_stepOfStatement 522 = .ok (.goto 78, 3) := by decide +kernel
theorem dX12_stepOfStatement_525 : decode cX12_stepOfStatement 525 = .ok (.aload_n 0, 1) := by decide +kernel
theorem dX12_stepOfStatement_526 : decode cX12_stepOfStatement 526 = .ok (.aload_n 0, 1) := by decide +kernel
theorem dX12_stepOfStatement_527 : decode cX12_stepOfStatement 527 = .ok (.invokevirtual 718, 3) := by decide +kernel
theorem dX12_stepOfStatement_530 : decode cX12_stepOfStatement 530 = .ok (.aload_n 0, 1) := by decide +kernel
theorem dX12_stepOfStatement_531 : decode cX12_stepOfStatement 531 = .ok (.getfield 206, 3) := by decide +kernel
theorem dX12_stepOfStatement_534 : decode cX12_stepOfStatement 534 = .ok (.aload_n 0, 1) := by decide +kernel
theorem dX12_stepOfStatement_535 : decode cX12_stepOfStatement 535 = .ok (.getfield 613, 3) := by decide +kernel
theorem dX12_stepOfStatement_538 : decode cX12_stepOfStatement 538 = .ok (.iconst 1, 1) := by decide +kernel
theorem dX12_stepOfStatement_539 : decode cX12_stepOfStatement 539 = .ok (.isub, 1) := by decide +kernel
theorem dX12_stepOfStatement_540 : decode cX12_stepOfStatement 540 = .ok (.iaload, 1) := by decide +kernel
theorem dX12_stepOfStatement_541 : decode cX12_stepOfStatement 541 = .ok (.if_icmp .ne 7, 3) := by decide +kernel
theorem dX12_stepOfStatement_544 : decode cX12_stepOfStatement 544 = .ok (.iconst 1, 1) := by decide +kernel
theorem dX12_stepOfStatement_545 : decode cX12_stepOfStatement 545 = .ok (.goto 4, 3) := by decide +kernel
theorem dX12_stepOfStatement_548 : decode cX12_stepOfStatement 548 = .ok (.iconst 0, 1) := by decide +kernel
theorem dX12_stepOfStatement_549 : decode cX12_stepOfStatement 549 = .ok (.iload_n 2, 1) := by decide +kernel
theorem dX12_stepOfStatement_550 : decode cX12_stepOfStatement 550 = .ok (.invokevirtual 773, 3) := by decide +kernel
theorem dX12_stepOfStatement_553 : decode cX12_stepOfStatement 553 = .ok (.goto 47, 3) := by decide +kernel
theorem dX12_stepOfStatement_556 : decode cX12_stepOfStatement 556 = .ok (.aload_n 0, 1) := by decide +kernel
theorem dX12_stepOfStatement_557 : decode cX12_stepOfStatement 557 = .ok (.iconst 1, 1) := by decide +kernel
theorem dX12_stepOfStatement_558 : decode cX12_stepOfStatement 558 = .ok (.iload_n 2, 1) := by decide +kernel
theorem dX12_stepOfStatement_559 : decode cX12_stepOfStatement 559 = .ok (.invokevirtual 773, 3) := by decide +kernel
theorem dX12_stepOfStatement_562 : decode cX12_stepOfStatement 562 = .ok (.goto 38, 3) := by decide +kernel
theorem dX12_stepOfStatement_565 : decode cX12_stepOfStatement 565 = .ok (.aload_n 0, 1) := by decide +kernel
theorem dX12_stepOfStatement_566 : decode cX12_stepOfStatement 566 = .ok (.aload_n 0, 1) := by decide +kernel
theorem dX12_stepOfStatement_567 : decode cX12_stepOfStatement 567 = .ok (.getfield 613, 3) := by decide +kernel
theorem dX12_stepOfStatement_570 : decode cX12_stepOfStatement 570 = .ok (.iconst 1, 1) := by decide +kernel
theorem dX12_stepOfStatement_571 : decode cX12_stepOfStatement 571 = .ok (.isub, 1) := by decide +kernel
theorem dX12_stepOfStatement_572 : decode cX12_stepOfStatement 572 = .ok (.invokevirtual 681, 3) := by decide +kernel
theorem dX12_stepOfStatement_575 : decode cX12_stepOfStatement 575 = .ok (.aload_n 0, 1) := by decide +kernel
theorem dX12_stepOfStatement_576 : decode cX12_stepOfStatement 576 = .ok (.getfield 179, 3) := by decide +kernel
theorem dX12_stepOfStatement_579 : decode cX12_stepOfStatement 579 = .ok (.aload_n 0, 1) := by decide +kernel
theorem dX12_stepOfStatement_580 : decode cX12_stepOfStatement 580 = .ok (.getfield 613, 3) := by decide +kernel
theorem dX12_stepOfStatement_583 : decode cX12_stepOfStatement 583 = .ok (.iconst 1, 1) := by decide +kernel
theorem dX12_stepOfStatement_584 : decode cX12_stepOfStatement 584 = .ok (.isub, 1) := by decide +kernel
theorem dX12_stepOfStatement_585 : decode cX12_stepOfStatement 585 = .ok (.iconst 5, 1) := by decide +kernel
theorem dX12_stepOfStatement_586 : decode cX12_stepOfStatement 586 = .ok (.iastore, 1) := by decide +kernel
theorem dX12_stepOfStatement_587 : decode cX12_stepOfStatement 587 = .ok (.aload_n 0, 1) := by decide +kernel
theorem dX12_stepOfStatement_588 : decode cX12_stepOfStatement 588 = .ok (.invokevirtual 645, 3) := by decide +kernel
theorem dX12_stepOfStatement_591 : decode cX12_stepOfStatement 591 = .ok (.goto 9, 3) := by decide +kernel
theorem dX12_stepOfStatement_594 : decode cX12_stepOfStatement 594 = .ok (.aload_n 0, 1) := by decide +kernel
theorem dX12_stepOfStatement_595 : decode cX12_stepOfStatement 595 = .ok (.iload_n 2, 1) := by decide +kernel
theorem dX12_stepOfStatement_596 : decode cX12_stepOfStatement 596 = .ok (.iload_n 3, 1) := by decide +kernel
theorem dX12_stepOfStatement_597 : decode cX12_stepOfStatement 597 = .ok (.invokevirtual 775, 3) := by decide +kernel
theorem dX12_stepOfStatement_600 : decode cX12_stepOfStatement 600 = .ok (.return_, 1) := by decide +kernel
def wX12_stepOfStatement_b600 (a0 : Nat) (x1 : Int32) (x2 : Int32) (x3 : Int32)  (Sn : kp_S) (post : kp_S → Prop) : Prop :=
  post Sn
def wX12_stepOfStatement_b250 (a0 : Nat) (x1 : Int32) (x2 : Int32) (x3 : Int32) (xt0 : Int32) (at1 : Nat)  (Sn : kp_S) (post : kp_S → Prop) : Prop :=
  ∀ T2001 : kp_S, T2001 = kp_sI Sn 2481 at1 xt0 →
  ∀ T2002 : kp_S, T2002 = kp_sI T2001 2482 a0 x2 →
  wX12_leaves a0 T2002 (fun T2003 =>
  wX12_stepOfStatement_b600 a0 x1 x2 x3   T2003 post)
def wX12_stepOfStatement_b238 (a0 : Nat) (x1 : Int32) (x2 : Int32) (x3 : Int32)  (Sn : kp_S) (post : kp_S → Prop) : Prop :=
  ((¬ x1 = 39 →
  wX12_stepOfStatement_b250 a0 x1 x2 x3 2 a0  Sn post) ∧ (x1 = 39 →
  wX12_stepOfStatement_b250 a0 x1 x2 x3 1 a0  Sn post))
def wX12_stepOfStatement_b289 (a0 : Nat) (x1 : Int32) (x2 : Int32) (x3 : Int32) (xt0 : Int32) (at1 : Nat)  (Sn : kp_S) (post : kp_S → Prop) : Prop :=
  ∀ T4001 : kp_S, T4001 = kp_sI Sn 2510 at1 xt0 →
  wX12_stepOfStatement_b600 a0 x1 x2 x3   T4001 post
def wX12_stepOfStatement_b450 (a0 : Nat) (x1 : Int32) (x2 : Int32) (x3 : Int32) (xt0 : Int32) (xt1 : Int32) (at2 : Nat)  (Sn : kp_S) (post : kp_S → Prop) : Prop :=
  wX12_rounds at2 xt1 xt0 Sn (fun T5001 =>
  wX12_stepOfStatement_b600 a0 x1 x2 x3   T5001 post)
def wX12_stepOfStatement_b518 (a0 : Nat) (x1 : Int32) (x2 : Int32) (x3 : Int32) (xt0 : Int32) (xt1 : Int32) (at2 : Nat)  (Sn : kp_S) (post : kp_S → Prop) : Prop :=
  ∀ T6001 : kp_S, T6001 = kp_sI Sn 2473 at2 (xt1 + xt0) →
  wX12_stepOfStatement_b600 a0 x1 x2 x3   T6001 post
def wX12_stepOfStatement_b549 (a0 : Nat) (x1 : Int32) (x2 : Int32) (x3 : Int32) (xt0 : Int32) (at1 : Nat)  (Sn : kp_S) (post : kp_S → Prop) : Prop :=
  wX12_mends at1 xt0 x2 Sn (fun T7001 =>
  wX12_stepOfStatement_b600 a0 x1 x2 x3   T7001 post)
def wX12_stepOfStatement_b594 (a0 : Nat) (x1 : Int32) (x2 : Int32) (x3 : Int32)  (Sn : kp_S) (post : kp_S → Prop) : Prop :=
  wX12_pledges a0 x2 x3 Sn (fun T8001 =>
  wX12_stepOfStatement_b600 a0 x1 x2 x3   T8001 post)
def wX12_stepOfStatement_b390 (a0 : Nat) (x1 : Int32) (x2 : Int32) (x3 : Int32) (xt0 : Int32) (at1 : Nat)  (Sn : kp_S) (post : kp_S → Prop) : Prop :=
  wX12_chooses at1 xt0 x2 Sn (fun T9001 =>
  wX12_stepOfStatement_b600 a0 x1 x2 x3   T9001 post)
def wX12_stepOfStatement_b430 (a0 : Nat) (x1 : Int32) (x2 : Int32) (x3 : Int32) (xt0 : Int32) (at1 : Nat)  (Sn : kp_S) (post : kp_S → Prop) : Prop :=
  wX12_ensures at1 xt0 Sn (fun T10001 =>
  wX12_stepOfStatement_b600 a0 x1 x2 x3   T10001 post)
def wX12_stepOfStatement (a0 : Nat) (x1 : Int32) (x2 : Int32) (x3 : Int32) (S : kp_S) (post : kp_S → Prop) : Prop :=
  ((x1 = 30 →
  ∀ T2 : kp_S, T2 = kp_sI S 2511 a0 x2 →
  wX12_burns a0 T2 (fun y4 T3 =>
  wX12_stepOfStatement_b600 a0 x1 x2 x3   T3 post)) ∧ (¬ x1 = 30 →
  ((x1 = 31 →
  wX12_pop a0 S (fun y7 T6 =>
  wX12_note a0 0 y7 T6 (fun T8 =>
  wX12_stepOfStatement_b600 a0 x1 x2 x3   T8 post))) ∧ (¬ x1 = 31 →
  ((x1 = 32 →
  wX12_moveGate a0 1 S (fun T10 =>
  wX12_stepOfStatement_b600 a0 x1 x2 x3   T10 post)) ∧ (¬ x1 = 32 →
  ((x1 = 33 →
  wX12_moveGate a0 0 S (fun T12 =>
  wX12_stepOfStatement_b600 a0 x1 x2 x3   T12 post)) ∧ (¬ x1 = 33 →
  ((x1 = 34 →
  wX12_sluice a0 S (fun T14 =>
  wX12_stepOfStatement_b600 a0 x1 x2 x3   T14 post)) ∧ (¬ x1 = 34 →
  ((x1 = 35 →
  wX12_sail a0 S (fun T16 =>
  wX12_stepOfStatement_b600 a0 x1 x2 x3   T16 post)) ∧ (¬ x1 = 35 →
  ((x1 = 36 →
  wX12_pop a0 S (fun y19 T18 =>
  wX12_fails a0 y19 T18 (fun T20 =>
  wX12_stepOfStatement_b600 a0 x1 x2 x3   T20 post))) ∧ (¬ x1 = 36 →
  ((x1 = 37 →
  ∀ T22 : kp_S, T22 = kp_sI S 2513 a0 1 →
  wX12_stepOfStatement_b600 a0 x1 x2 x3   T22 post) ∧ (¬ x1 = 37 →
  ((x1 = 38 →
  wX12_pop a0 S (fun y25 T24 =>
  ∀ T26 : kp_S, T26 = kp_sI T24 2483 a0 y25 →
  ∀ T27 : kp_S, T27 = kp_sI T26 2481 a0 3 →
  wX12_leaves a0 T27 (fun T28 =>
  wX12_stepOfStatement_b600 a0 x1 x2 x3   T28 post))) ∧ (¬ x1 = 38 →
  ((x1 = 39 →
  wX12_stepOfStatement_b238 a0 x1 x2 x3   S post) ∧ (¬ x1 = 39 →
  ((x1 = 40 →
  wX12_stepOfStatement_b238 a0 x1 x2 x3   S post) ∧ (¬ x1 = 40 →
  ((x1 = 41 →
  ∀ T32 : kp_S, T32 = kp_sI S 2510 a0 x2 →
  wX12_stepOfStatement_b600 a0 x1 x2 x3   T32 post) ∧ (¬ x1 = 41 →
  ((x1 = 42 →
  wX12_pop a0 S (fun y35 T34 =>
  ((¬ y35 = 0 →
  wX12_stepOfStatement_b289 a0 x1 x2 x3 (kp_I T34 2510 a0) a0  T34 post) ∧ (y35 = 0 →
  wX12_stepOfStatement_b289 a0 x1 x2 x3 x2 a0  T34 post)))) ∧ (¬ x1 = 42 →
  ((x1 = 43 →
  wX12_opens a0 3 0 x2 S (fun T38 =>
  wX12_stepOfStatement_b600 a0 x1 x2 x3   T38 post)) ∧ (¬ x1 = 43 →
  ((x1 = 44 →
  ∀ T40 : kp_S, T40 = kp_sI S 2511 a0 x2 →
  wX12_burns a0 T40 (fun y42 T41 =>
  wX12_stepOfStatement_b600 a0 x1 x2 x3   T41 post)) ∧ (¬ x1 = 44 →
  ((x1 = 45 →
  wX12_pop a0 S (fun y45 T44 =>
  ((y45 = 0 →
  wX12_stepOfStatement_b450 a0 x1 x2 x3 0 x2 a0  T44 post) ∧ (¬ y45 = 0 →
  wX12_stepOfStatement_b450 a0 x1 x2 x3 1 x2 a0  T44 post)))) ∧ (¬ x1 = 45 →
  ((x1 = 46 →
  wX12_beginsEach a0 x2 S (fun T48 =>
  wX12_stepOfStatement_b600 a0 x1 x2 x3   T48 post)) ∧ (¬ x1 = 46 →
  ((x1 = 47 →
  wX12_testsEach a0 x2 S (fun T50 =>
  wX12_stepOfStatement_b600 a0 x1 x2 x3   T50 post)) ∧ (¬ x1 = 47 →
  ((x1 = 48 →
  wX12_leaves a0 S (fun T52 =>
  wX12_stepOfStatement_b600 a0 x1 x2 x3   T52 post)) ∧ (¬ x1 = 48 →
  ((x1 = 49 →
  wX12_pop a0 S (fun y55 T54 =>
  wX12_takes a0 y55 x2 T54 (fun T56 =>
  wX12_stepOfStatement_b600 a0 x1 x2 x3   T56 post))) ∧ (¬ x1 = 49 →
  ((x1 = 50 →
  wX12_opens a0 4 3 x2 S (fun T58 =>
  ∃ b59 : Nat, kp_R T58 2452 a0 = some b59 ∧
  vp_in x2 (kp_N T58 b59) ∧
  ((¬ (kp_A T58 b59 x2.toNatClampNeg) = (-1) →
  wX12_stepOfStatement_b518 a0 x1 x2 x3 1 (kp_I T58 2473 a0) a0  T58 post) ∧ ((kp_A T58 b59 x2.toNatClampNeg) = (-1) →
  wX12_stepOfStatement_b518 a0 x1 x2 x3 0 (kp_I T58 2473 a0) a0  T58 post)))) ∧ (¬ x1 = 50 →
  ((x1 = 51 →
  wX12_pop a0 S (fun y63 T62 =>
  ∃ b64 : Nat, kp_R T62 2498 a0 = some b64 ∧
  vp_in ((kp_I T62 2487 a0) - 1) (kp_N T62 b64) ∧
  ((¬ y63 = (kp_A T62 b64 ((kp_I T62 2487 a0) - 1).toNatClampNeg) →
  wX12_stepOfStatement_b549 a0 x1 x2 x3 0 a0  T62 post) ∧ (y63 = (kp_A T62 b64 ((kp_I T62 2487 a0) - 1).toNatClampNeg) →
  wX12_stepOfStatement_b549 a0 x1 x2 x3 1 a0  T62 post)))) ∧ (¬ x1 = 51 →
  ((x1 = 52 →
  wX12_mends a0 1 x2 S (fun T67 =>
  wX12_stepOfStatement_b600 a0 x1 x2 x3   T67 post)) ∧ (¬ x1 = 52 →
  ((x1 = 53 →
  wX12_takeWay a0 ((kp_I S 2487 a0) - 1) S (fun T69 =>
  ∃ b70 : Nat, kp_R T69 2489 a0 = some b70 ∧
  vp_in ((kp_I T69 2487 a0) - 1) (kp_N T69 b70) ∧ ∀ T71 : kp_S, T71 = kp_sA T69 b70 (upd (kp_A T69 b70) (((kp_I T69 2487 a0) - 1).toNatClampNeg) 5) →
  wX12_leaves a0 T71 (fun T72 =>
  wX12_stepOfStatement_b600 a0 x1 x2 x3   T72 post))) ∧ (¬ x1 = 53 →
  ((x1 = 54 →
  wX12_stepOfStatement_b594 a0 x1 x2 x3   S post) ∧ (¬ x1 = 54 →
  ((x1 = 55 →
  ∀ T75 : kp_S, T75 = kp_sI S 2511 a0 x2 →
  wX12_stepOfStatement_b600 a0 x1 x2 x3   T75 post) ∧ (¬ x1 = 55 →
  ((x1 = 56 →
  wX12_burns a0 S (fun y78 T77 =>
  ((y78 = 0 →
  wX12_stepOfStatement_b600 a0 x1 x2 x3   T77 post) ∧ (¬ y78 = 0 →
  wX12_rounds a0 x2 1 T77 (fun T79 =>
  wX12_stepOfStatement_b600 a0 x1 x2 x3   T79 post))))) ∧ (¬ x1 = 56 →
  ((x1 = 57 →
  wX12_pop a0 S (fun y83 T82 =>
  ((¬ y83 = 0 →
  wX12_rounds a0 x2 0 T82 (fun T84 =>
  wX12_stepOfStatement_b600 a0 x1 x2 x3   T84 post)) ∧ (y83 = 0 →
  ∀ T85 : kp_S, T85 = kp_sI T82 2510 a0 x3 →
  wX12_stepOfStatement_b600 a0 x1 x2 x3   T85 post)))) ∧ (¬ x1 = 57 →
  ((x1 = 58 →
  wX12_pop a0 S (fun y89 T88 =>
  ∃ b90 : Nat, kp_R T88 2515 a0 = some b90 ∧
  vp_in ((kp_I T88 2516 a0) - 1) (kp_N T88 b90) ∧
  ((¬ y89 = (kp_A T88 b90 ((kp_I T88 2516 a0) - 1).toNatClampNeg) →
  wX12_stepOfStatement_b390 a0 x1 x2 x3 0 a0  T88 post) ∧ (y89 = (kp_A T88 b90 ((kp_I T88 2516 a0) - 1).toNatClampNeg) →
  wX12_stepOfStatement_b390 a0 x1 x2 x3 1 a0  T88 post)))) ∧ (¬ x1 = 58 →
  ((x1 = 59 →
  wX12_chooses a0 1 x2 S (fun T93 =>
  wX12_stepOfStatement_b600 a0 x1 x2 x3   T93 post)) ∧ (¬ x1 = 59 →
  ((x1 = 60 →
  wX12_opens a0 5 8 x2 S (fun T95 =>
  wX12_stepOfStatement_b600 a0 x1 x2 x3   T95 post)) ∧ (¬ x1 = 60 →
  ((x1 = 61 →
  wX12_pop a0 S (fun y98 T97 =>
  ((y98 = 0 →
  wX12_stepOfStatement_b430 a0 x1 x2 x3 0 a0  T97 post) ∧ (¬ y98 = 0 →
  wX12_stepOfStatement_b430 a0 x1 x2 x3 1 a0  T97 post)))) ∧ (¬ x1 = 61 →
  wX12_stepOfStatement_b594 a0 x1 x2 x3   S post))))))))))))))))))))))))))))))))))))))))))))))))))))))))))))))))
set_option maxHeartbeats 4000000 in
set_option maxRecDepth 100000 in
theorem c_X12_stepOfStatement (l : Launch) (D : va_G) (cy : Nat → ClassId) (ad : (Nat → Nat) × (Nat → Nat)) (S : kp_S) (a0 : Nat) (x1 : Int32) (x2 : Int32) (x3 : Int32) (post : kp_S → Prop) (hS : kp_ok S) (f_a0 : kp_is S a0 12) (hw : wX12_stepOfStatement a0 x1 x2 x3 S post) : kp_M l yX12_stepOfStatement cX12_stepOfStatement 4 none { frames := 7, cells := 0, slots := 0, locals := 158 } D cy ad S [.ref a0, .int x1, .int x2, .int x3] 0 0 (fun A => kp_Qv D cy A S post) := by
  refine kp_start (own := RX12) (by decide) rfl (Nat.le_of_ble_eq_true rfl) hS ?_
  intro p e s m below meth c A ls X hr hlocks hname h hl
  have hle : kp_le S S := kp_le.rf
  have hl : lv_has ls 4 [(0, .ref a0), (1, .int x1), (2, .int x2), (3, .int x3)] := hl
  have j600 : ∀  (Sn : kp_S) (H : Heap) (locs : List Loc) (ls : Array Slot), lv_has ls 4 [] → kp_H D cy A Sn s.heap H locs → kp_le S Sn → kp_is Sn a0 12 → wX12_stepOfStatement_b600 a0 x1 x2 x3   Sn post → W p l e { frames := 7, cells := 0, slots := 0, locals := 158 } s m ([.ref a0, .int x1, .int x2, .int x3] : List Value).toArray below meth c H locs 0 0 (MQ below (kp_Qv D cy A S post) ([.ref a0, .int x1, .int x2, .int x3] : List Value).toArray s 0 0 A) (F0 m 600 ls []) := by
    intro  Sn H locs ls hl h hle f_a0 hw
    unfold wX12_stepOfStatement_b600 at hw
    exact kp_retv X hr hlocks h hle hw dX12_stepOfStatement_600
  have j250 : ∀ (xt0 : Int32) (at1 : Nat) (Sn : kp_S) (H : Heap) (locs : List Loc) (ls : Array Slot), lv_has ls 4 [(0, .ref a0), (2, .int x2)] → kp_H D cy A Sn s.heap H locs → kp_le S Sn → kp_is Sn a0 12 → kp_is Sn at1 12 → wX12_stepOfStatement_b250 a0 x1 x2 x3 xt0 at1  Sn post → W p l e { frames := 7, cells := 0, slots := 0, locals := 158 } s m ([.ref a0, .int x1, .int x2, .int x3] : List Value).toArray below meth c H locs 0 0 (MQ below (kp_Qv D cy A S post) ([.ref a0, .int x1, .int x2, .int x3] : List Value).toArray s 0 0 A) (F0 m 250 ls [.int xt0, .ref at1]) := by
    intro xt0 at1 Sn H locs ls hl h hle f_a0 f_at1 hw
    unfold wX12_stepOfStatement_b250 at hw
    refine kp_putI X h f_at1 fp_12_616 rfl ⟨rfl, rfl⟩ dX12_stepOfStatement_250 (fun T2001 e_T2001 l_T2001 H locs h => ?_)
    have hw := hw T2001 e_T2001
    have f_a0 := l_T2001.is f_a0
    have f_at1 := l_T2001.is f_at1
    have hle := hle.tr l_T2001
    refine lv_aload_n X.1 X.2.1 dX12_stepOfStatement_253 rfl (lv_at hl 0 rfl) ?_
    refine lv_iload_n X.1 X.2.1 dX12_stepOfStatement_254 rfl (lv_at hl 1 rfl) ?_
    refine kp_putI X h f_a0 fp_12_619 rfl ⟨rfl, rfl⟩ dX12_stepOfStatement_255 (fun T2002 e_T2002 l_T2002 H locs h => ?_)
    have hw := hw T2002 e_T2002
    have f_a0 := l_T2002.is f_a0
    have f_at1 := l_T2002.is f_at1
    have hle := hle.tr l_T2002
    refine lv_aload_n X.1 X.2.1 dX12_stepOfStatement_258 rfl (lv_at hl 0 rfl) ?_
    refine kp_callv X h (kp_runV (rm := { frames := 4, cells := 0, slots := 0, locals := 86 }) (mc := 0) (ms := 0) (rest := []) (Qc := fun A => kp_Qv D cy A T2002 _) X h (c_X12_leaves l D cy ad T2002 a0 _ h.2.2.2 f_a0 hw) f_a0 cv_12_645 ⟨by decide, by decide, rfl, rfl, by decide, by decide⟩ rfl hl.1 rfl (Nat.le_of_ble_eq_true rfl) dX12_stepOfStatement_259) (fun T2003 hw l_T2003 H locs h => ?_)
    have f_a0 := l_T2003.is f_a0
    have f_at1 := l_T2003.is f_at1
    have hle := hle.tr l_T2003
    refine lv_goto (tgt := 600) X.1 X.2.1 dX12_stepOfStatement_262 (by decide) ?_
    exact j600  T2003 H locs ls (lv_sub hl [] rfl) h hle f_a0 hw
  have j238 : ∀  (Sn : kp_S) (H : Heap) (locs : List Loc) (ls : Array Slot), lv_has ls 4 [(0, .ref a0), (1, .int x1), (2, .int x2)] → kp_H D cy A Sn s.heap H locs → kp_le S Sn → kp_is Sn a0 12 → wX12_stepOfStatement_b238 a0 x1 x2 x3   Sn post → W p l e { frames := 7, cells := 0, slots := 0, locals := 158 } s m ([.ref a0, .int x1, .int x2, .int x3] : List Value).toArray below meth c H locs 0 0 (MQ below (kp_Qv D cy A S post) ([.ref a0, .int x1, .int x2, .int x3] : List Value).toArray s 0 0 A) (F0 m 238 ls []) := by
    intro  Sn H locs ls hl h hle f_a0 hw
    unfold wX12_stepOfStatement_b238 at hw
    refine lv_aload_n X.1 X.2.1 dX12_stepOfStatement_238 rfl (lv_at hl 0 rfl) ?_
    refine lv_iload_n X.1 X.2.1 dX12_stepOfStatement_239 rfl (lv_at hl 1 rfl) ?_
    refine lv_bipush (v := 39) X.1 X.2.1 dX12_stepOfStatement_240 (by decide) ?_
    refine lv_icmp_ne (tgt := 249) X.1 X.2.1 dX12_stepOfStatement_242 (by decide) (fun c3001 => ?_) (fun c3001 => ?_)
    · have hw := hw.1 c3001
      refine lv_iconst (v := 2) X.1 X.2.1 dX12_stepOfStatement_249 (by decide) ?_
      exact j250 2 a0 Sn H locs ls (lv_sub hl [0, 2] rfl) h hle f_a0 f_a0 hw
    · have hw := hw.2 c3001
      refine lv_iconst (v := 1) X.1 X.2.1 dX12_stepOfStatement_245 (by decide) ?_
      refine lv_goto (tgt := 250) X.1 X.2.1 dX12_stepOfStatement_246 (by decide) ?_
      exact j250 1 a0 Sn H locs ls (lv_sub hl [0, 2] rfl) h hle f_a0 f_a0 hw
  have j289 : ∀ (xt0 : Int32) (at1 : Nat) (Sn : kp_S) (H : Heap) (locs : List Loc) (ls : Array Slot), lv_has ls 4 [] → kp_H D cy A Sn s.heap H locs → kp_le S Sn → kp_is Sn at1 12 → kp_is Sn a0 12 → wX12_stepOfStatement_b289 a0 x1 x2 x3 xt0 at1  Sn post → W p l e { frames := 7, cells := 0, slots := 0, locals := 158 } s m ([.ref a0, .int x1, .int x2, .int x3] : List Value).toArray below meth c H locs 0 0 (MQ below (kp_Qv D cy A S post) ([.ref a0, .int x1, .int x2, .int x3] : List Value).toArray s 0 0 A) (F0 m 289 ls [.int xt0, .ref at1]) := by
    intro xt0 at1 Sn H locs ls hl h hle f_at1 f_a0 hw
    unfold wX12_stepOfStatement_b289 at hw
    refine kp_putI X h f_at1 fp_12_648 rfl ⟨rfl, rfl⟩ dX12_stepOfStatement_289 (fun T4001 e_T4001 l_T4001 H locs h => ?_)
    have hw := hw T4001 e_T4001
    have f_at1 := l_T4001.is f_at1
    have f_a0 := l_T4001.is f_a0
    have hle := hle.tr l_T4001
    refine lv_goto (tgt := 600) X.1 X.2.1 dX12_stepOfStatement_292 (by decide) ?_
    exact j600  T4001 H locs ls (lv_sub hl [] rfl) h hle f_a0 hw
  have j450 : ∀ (xt0 : Int32) (xt1 : Int32) (at2 : Nat) (Sn : kp_S) (H : Heap) (locs : List Loc) (ls : Array Slot), lv_has ls 4 [] → kp_H D cy A Sn s.heap H locs → kp_le S Sn → kp_is Sn at2 12 → kp_is Sn a0 12 → wX12_stepOfStatement_b450 a0 x1 x2 x3 xt0 xt1 at2  Sn post → W p l e { frames := 7, cells := 0, slots := 0, locals := 158 } s m ([.ref a0, .int x1, .int x2, .int x3] : List Value).toArray below meth c H locs 0 0 (MQ below (kp_Qv D cy A S post) ([.ref a0, .int x1, .int x2, .int x3] : List Value).toArray s 0 0 A) (F0 m 450 ls [.int xt0, .int xt1, .ref at2]) := by
    intro xt0 xt1 at2 Sn H locs ls hl h hle f_at2 f_a0 hw
    unfold wX12_stepOfStatement_b450 at hw
    refine kp_callv X h (kp_runV (rm := { frames := 1, cells := 0, slots := 0, locals := 22 }) (mc := 0) (ms := 0) (rest := []) (Qc := fun A => kp_Qv D cy A Sn _) X h (c_X12_rounds l D cy ad Sn at2 xt1 xt0 _ h.2.2.2 f_at2 hw) f_at2 cv_12_750 ⟨by decide, by decide, rfl, rfl, by decide, by decide⟩ rfl hl.1 rfl (Nat.le_of_ble_eq_true rfl) dX12_stepOfStatement_450) (fun T5001 hw l_T5001 H locs h => ?_)
    have f_at2 := l_T5001.is f_at2
    have f_a0 := l_T5001.is f_a0
    have hle := hle.tr l_T5001
    refine lv_goto (tgt := 600) X.1 X.2.1 dX12_stepOfStatement_453 (by decide) ?_
    exact j600  T5001 H locs ls (lv_sub hl [] rfl) h hle f_a0 hw
  have j518 : ∀ (xt0 : Int32) (xt1 : Int32) (at2 : Nat) (Sn : kp_S) (H : Heap) (locs : List Loc) (ls : Array Slot), lv_has ls 4 [] → kp_H D cy A Sn s.heap H locs → kp_le S Sn → kp_is Sn at2 12 → kp_is Sn a0 12 → wX12_stepOfStatement_b518 a0 x1 x2 x3 xt0 xt1 at2  Sn post → W p l e { frames := 7, cells := 0, slots := 0, locals := 158 } s m ([.ref a0, .int x1, .int x2, .int x3] : List Value).toArray below meth c H locs 0 0 (MQ below (kp_Qv D cy A S post) ([.ref a0, .int x1, .int x2, .int x3] : List Value).toArray s 0 0 A) (F0 m 518 ls [.int xt0, .int xt1, .ref at2]) := by
    intro xt0 xt1 at2 Sn H locs ls hl h hle f_at2 f_a0 hw
    unfold wX12_stepOfStatement_b518 at hw
    refine lv_iadd X.1 X.2.1 dX12_stepOfStatement_518 ?_
    refine kp_putI X h f_at2 fp_12_770 rfl ⟨rfl, rfl⟩ dX12_stepOfStatement_519 (fun T6001 e_T6001 l_T6001 H locs h => ?_)
    have hw := hw T6001 e_T6001
    have f_at2 := l_T6001.is f_at2
    have f_a0 := l_T6001.is f_a0
    have hle := hle.tr l_T6001
    refine lv_goto (tgt := 600) X.1 X.2.1 dX12_stepOfStatement_522 (by decide) ?_
    exact j600  T6001 H locs ls (lv_sub hl [] rfl) h hle f_a0 hw
  have j549 : ∀ (xt0 : Int32) (at1 : Nat) (Sn : kp_S) (H : Heap) (locs : List Loc) (ls : Array Slot), lv_has ls 4 [(2, .int x2)] → kp_H D cy A Sn s.heap H locs → kp_le S Sn → kp_is Sn at1 12 → kp_is Sn a0 12 → wX12_stepOfStatement_b549 a0 x1 x2 x3 xt0 at1  Sn post → W p l e { frames := 7, cells := 0, slots := 0, locals := 158 } s m ([.ref a0, .int x1, .int x2, .int x3] : List Value).toArray below meth c H locs 0 0 (MQ below (kp_Qv D cy A S post) ([.ref a0, .int x1, .int x2, .int x3] : List Value).toArray s 0 0 A) (F0 m 549 ls [.int xt0, .ref at1]) := by
    intro xt0 at1 Sn H locs ls hl h hle f_at1 f_a0 hw
    unfold wX12_stepOfStatement_b549 at hw
    refine lv_iload_n X.1 X.2.1 dX12_stepOfStatement_549 rfl (lv_at hl 0 rfl) ?_
    refine kp_callv X h (kp_runV (rm := { frames := 1, cells := 0, slots := 0, locals := 22 }) (mc := 0) (ms := 0) (rest := []) (Qc := fun A => kp_Qv D cy A Sn _) X h (c_X12_mends l D cy ad Sn at1 xt0 x2 _ h.2.2.2 f_at1 hw) f_at1 cv_12_773 ⟨by decide, by decide, rfl, rfl, by decide, by decide⟩ rfl hl.1 rfl (Nat.le_of_ble_eq_true rfl) dX12_stepOfStatement_550) (fun T7001 hw l_T7001 H locs h => ?_)
    have f_at1 := l_T7001.is f_at1
    have f_a0 := l_T7001.is f_a0
    have hle := hle.tr l_T7001
    refine lv_goto (tgt := 600) X.1 X.2.1 dX12_stepOfStatement_553 (by decide) ?_
    exact j600  T7001 H locs ls (lv_sub hl [] rfl) h hle f_a0 hw
  have j594 : ∀  (Sn : kp_S) (H : Heap) (locs : List Loc) (ls : Array Slot), lv_has ls 4 [(0, .ref a0), (2, .int x2), (3, .int x3)] → kp_H D cy A Sn s.heap H locs → kp_le S Sn → kp_is Sn a0 12 → wX12_stepOfStatement_b594 a0 x1 x2 x3   Sn post → W p l e { frames := 7, cells := 0, slots := 0, locals := 158 } s m ([.ref a0, .int x1, .int x2, .int x3] : List Value).toArray below meth c H locs 0 0 (MQ below (kp_Qv D cy A S post) ([.ref a0, .int x1, .int x2, .int x3] : List Value).toArray s 0 0 A) (F0 m 594 ls []) := by
    intro  Sn H locs ls hl h hle f_a0 hw
    unfold wX12_stepOfStatement_b594 at hw
    refine lv_aload_n X.1 X.2.1 dX12_stepOfStatement_594 rfl (lv_at hl 0 rfl) ?_
    refine lv_iload_n X.1 X.2.1 dX12_stepOfStatement_595 rfl (lv_at hl 1 rfl) ?_
    refine lv_iload_n X.1 X.2.1 dX12_stepOfStatement_596 rfl (lv_at hl 2 rfl) ?_
    refine kp_callv X h (kp_runV (rm := { frames := 6, cells := 0, slots := 0, locals := 130 }) (mc := 0) (ms := 0) (rest := []) (Qc := fun A => kp_Qv D cy A Sn _) X h (c_X12_pledges l D cy ad Sn a0 x2 x3 _ h.2.2.2 f_a0 hw) f_a0 cv_12_775 ⟨by decide, by decide, rfl, rfl, by decide, by decide⟩ rfl hl.1 rfl (Nat.le_of_ble_eq_true rfl) dX12_stepOfStatement_597) (fun T8001 hw l_T8001 H locs h => ?_)
    have f_a0 := l_T8001.is f_a0
    have hle := hle.tr l_T8001
    exact j600  T8001 H locs ls (lv_sub hl [] rfl) h hle f_a0 hw
  have j390 : ∀ (xt0 : Int32) (at1 : Nat) (Sn : kp_S) (H : Heap) (locs : List Loc) (ls : Array Slot), lv_has ls 4 [(2, .int x2)] → kp_H D cy A Sn s.heap H locs → kp_le S Sn → kp_is Sn at1 12 → kp_is Sn a0 12 → wX12_stepOfStatement_b390 a0 x1 x2 x3 xt0 at1  Sn post → W p l e { frames := 7, cells := 0, slots := 0, locals := 158 } s m ([.ref a0, .int x1, .int x2, .int x3] : List Value).toArray below meth c H locs 0 0 (MQ below (kp_Qv D cy A S post) ([.ref a0, .int x1, .int x2, .int x3] : List Value).toArray s 0 0 A) (F0 m 390 ls [.int xt0, .ref at1]) := by
    intro xt0 at1 Sn H locs ls hl h hle f_at1 f_a0 hw
    unfold wX12_stepOfStatement_b390 at hw
    refine lv_iload_n X.1 X.2.1 dX12_stepOfStatement_390 rfl (lv_at hl 0 rfl) ?_
    refine kp_callv X h (kp_runV (rm := { frames := 0, cells := 0, slots := 0, locals := 0 }) (mc := 0) (ms := 0) (rest := []) (Qc := fun A => kp_Qv D cy A Sn _) X h (c_X12_chooses l D cy ad Sn at1 xt0 x2 _ h.2.2.2 f_at1 hw) f_at1 cv_12_754 ⟨by decide, by decide, rfl, rfl, by decide, by decide⟩ rfl hl.1 rfl (Nat.le_of_ble_eq_true rfl) dX12_stepOfStatement_391) (fun T9001 hw l_T9001 H locs h => ?_)
    have f_at1 := l_T9001.is f_at1
    have f_a0 := l_T9001.is f_a0
    have hle := hle.tr l_T9001
    refine lv_goto (tgt := 600) X.1 X.2.1 dX12_stepOfStatement_394 (by decide) ?_
    exact j600  T9001 H locs ls (lv_sub hl [] rfl) h hle f_a0 hw
  have j430 : ∀ (xt0 : Int32) (at1 : Nat) (Sn : kp_S) (H : Heap) (locs : List Loc) (ls : Array Slot), lv_has ls 4 [] → kp_H D cy A Sn s.heap H locs → kp_le S Sn → kp_is Sn at1 12 → kp_is Sn a0 12 → wX12_stepOfStatement_b430 a0 x1 x2 x3 xt0 at1  Sn post → W p l e { frames := 7, cells := 0, slots := 0, locals := 158 } s m ([.ref a0, .int x1, .int x2, .int x3] : List Value).toArray below meth c H locs 0 0 (MQ below (kp_Qv D cy A S post) ([.ref a0, .int x1, .int x2, .int x3] : List Value).toArray s 0 0 A) (F0 m 430 ls [.int xt0, .ref at1]) := by
    intro xt0 at1 Sn H locs ls hl h hle f_at1 f_a0 hw
    unfold wX12_stepOfStatement_b430 at hw
    refine kp_callv X h (kp_runV (rm := { frames := 6, cells := 0, slots := 0, locals := 130 }) (mc := 0) (ms := 0) (rest := []) (Qc := fun A => kp_Qv D cy A Sn _) X h (c_X12_ensures l D cy ad Sn at1 xt0 _ h.2.2.2 f_at1 hw) f_at1 cv_12_758 ⟨by decide, by decide, rfl, rfl, by decide, by decide⟩ rfl hl.1 rfl (Nat.le_of_ble_eq_true rfl) dX12_stepOfStatement_430) (fun T10001 hw l_T10001 H locs h => ?_)
    have f_at1 := l_T10001.is f_at1
    have f_a0 := l_T10001.is f_a0
    have hle := hle.tr l_T10001
    refine lv_goto (tgt := 600) X.1 X.2.1 dX12_stepOfStatement_433 (by decide) ?_
    exact j600  T10001 H locs ls (lv_sub hl [] rfl) h hle f_a0 hw
  unfold wX12_stepOfStatement at hw
  have h : kp_H D cy A S s.heap s.heap [] := h
  revert h
  intro h
  refine lv_iload_n X.1 X.2.1 dX12_stepOfStatement_0 rfl (lv_at hl 1 rfl) ?_
  by_cases c1 : x1 = 30
  · have hw := hw.1 c1
    refine lv_tableIn (off := 143) (tgt := 144) X.1 X.2.1 dX12_stepOfStatement_1 (by rw [c1]; decide) (by rw [c1]; decide) (by rw [c1]; decide) (by decide) ?_
    refine lv_aload_n X.1 X.2.1 dX12_stepOfStatement_144 rfl (lv_at hl 0 rfl) ?_
    refine lv_iload_n X.1 X.2.1 dX12_stepOfStatement_145 rfl (lv_at hl 2 rfl) ?_
    refine kp_putI X h f_a0 fp_12_639 rfl ⟨rfl, rfl⟩ dX12_stepOfStatement_146 (fun T2 e_T2 l_T2 H locs h => ?_)
    have hw := hw T2 e_T2
    have f_a0 := l_T2.is f_a0
    have hle := hle.tr l_T2
    refine lv_aload_n X.1 X.2.1 dX12_stepOfStatement_149 rfl (lv_at hl 0 rfl) ?_
    refine kp_calli X h (kp_runV (rm := { frames := 0, cells := 0, slots := 0, locals := 0 }) (mc := 0) (ms := 0) (rest := []) (Qc := fun A => kp_Qi D cy A T2 _) X h (c_X12_burns l D cy ad T2 a0 _ h.2.2.2 f_a0 hw) f_a0 cv_12_693 ⟨by decide, by decide, rfl, rfl, by decide, by decide⟩ rfl hl.1 rfl (Nat.le_of_ble_eq_true rfl) dX12_stepOfStatement_150) (fun y4 T3 hw l_T3 H locs h => ?_)
    have f_a0 := l_T3.is f_a0
    have hle := hle.tr l_T3
    refine lv_pop X.1 X.2.1 dX12_stepOfStatement_153 rfl ?_
    refine lv_goto (tgt := 600) X.1 X.2.1 dX12_stepOfStatement_154 (by decide) ?_
    exact j600  T3 _ _ ls (lv_sub hl [] rfl) h hle f_a0 hw
  have hw := hw.2 c1
  by_cases c5 : x1 = 31
  · have hw := hw.1 c5
    refine lv_tableIn (off := 156) (tgt := 157) X.1 X.2.1 dX12_stepOfStatement_1 (by rw [c5]; decide) (by rw [c5]; decide) (by rw [c5]; decide) (by decide) ?_
    refine lv_aload_n X.1 X.2.1 dX12_stepOfStatement_157 rfl (lv_at hl 0 rfl) ?_
    refine lv_iconst (v := 0) X.1 X.2.1 dX12_stepOfStatement_158 (by decide) ?_
    refine lv_aload_n X.1 X.2.1 dX12_stepOfStatement_159 rfl (lv_at hl 0 rfl) ?_
    refine kp_calli X h (kp_runV (rm := { frames := 0, cells := 0, slots := 0, locals := 0 }) (mc := 0) (ms := 0) (rest := [.int 0, .ref a0]) (Qc := fun A => kp_Qi D cy A S _) X h (c_X12_pop l D cy ad S a0 _ h.2.2.2 f_a0 hw) f_a0 cv_12_718 ⟨by decide, by decide, rfl, rfl, by decide, by decide⟩ rfl hl.1 rfl (Nat.le_of_ble_eq_true rfl) dX12_stepOfStatement_160) (fun y7 T6 hw l_T6 H locs h => ?_)
    have f_a0 := l_T6.is f_a0
    have hle := hle.tr l_T6
    refine kp_callv X h (kp_runV (rm := { frames := 0, cells := 0, slots := 0, locals := 0 }) (mc := 0) (ms := 0) (rest := []) (Qc := fun A => kp_Qv D cy A T6 _) X h (c_X12_note l D cy ad T6 a0 0 y7 _ h.2.2.2 f_a0 hw) f_a0 cv_12_637 ⟨by decide, by decide, rfl, rfl, by decide, by decide⟩ rfl hl.1 rfl (Nat.le_of_ble_eq_true rfl) dX12_stepOfStatement_163) (fun T8 hw l_T8 H locs h => ?_)
    have f_a0 := l_T8.is f_a0
    have hle := hle.tr l_T8
    refine lv_goto (tgt := 600) X.1 X.2.1 dX12_stepOfStatement_166 (by decide) ?_
    exact j600  T8 _ _ ls (lv_sub hl [] rfl) h hle f_a0 hw
  have hw := hw.2 c5
  by_cases c9 : x1 = 32
  · have hw := hw.1 c9
    refine lv_tableIn (off := 168) (tgt := 169) X.1 X.2.1 dX12_stepOfStatement_1 (by rw [c9]; decide) (by rw [c9]; decide) (by rw [c9]; decide) (by decide) ?_
    refine lv_aload_n X.1 X.2.1 dX12_stepOfStatement_169 rfl (lv_at hl 0 rfl) ?_
    refine lv_iconst (v := 1) X.1 X.2.1 dX12_stepOfStatement_170 (by decide) ?_
    refine kp_callv X h (kp_runV (rm := { frames := 6, cells := 0, slots := 0, locals := 130 }) (mc := 0) (ms := 0) (rest := []) (Qc := fun A => kp_Qv D cy A S _) X h (c_X12_moveGate l D cy ad S a0 1 _ h.2.2.2 f_a0 hw) f_a0 cv_12_739 ⟨by decide, by decide, rfl, rfl, by decide, by decide⟩ rfl hl.1 rfl (Nat.le_of_ble_eq_true rfl) dX12_stepOfStatement_171) (fun T10 hw l_T10 H locs h => ?_)
    have f_a0 := l_T10.is f_a0
    have hle := hle.tr l_T10
    refine lv_goto (tgt := 600) X.1 X.2.1 dX12_stepOfStatement_174 (by decide) ?_
    exact j600  T10 _ _ ls (lv_sub hl [] rfl) h hle f_a0 hw
  have hw := hw.2 c9
  by_cases c11 : x1 = 33
  · have hw := hw.1 c11
    refine lv_tableIn (off := 176) (tgt := 177) X.1 X.2.1 dX12_stepOfStatement_1 (by rw [c11]; decide) (by rw [c11]; decide) (by rw [c11]; decide) (by decide) ?_
    refine lv_aload_n X.1 X.2.1 dX12_stepOfStatement_177 rfl (lv_at hl 0 rfl) ?_
    refine lv_iconst (v := 0) X.1 X.2.1 dX12_stepOfStatement_178 (by decide) ?_
    refine kp_callv X h (kp_runV (rm := { frames := 6, cells := 0, slots := 0, locals := 130 }) (mc := 0) (ms := 0) (rest := []) (Qc := fun A => kp_Qv D cy A S _) X h (c_X12_moveGate l D cy ad S a0 0 _ h.2.2.2 f_a0 hw) f_a0 cv_12_739 ⟨by decide, by decide, rfl, rfl, by decide, by decide⟩ rfl hl.1 rfl (Nat.le_of_ble_eq_true rfl) dX12_stepOfStatement_179) (fun T12 hw l_T12 H locs h => ?_)
    have f_a0 := l_T12.is f_a0
    have hle := hle.tr l_T12
    refine lv_goto (tgt := 600) X.1 X.2.1 dX12_stepOfStatement_182 (by decide) ?_
    exact j600  T12 _ _ ls (lv_sub hl [] rfl) h hle f_a0 hw
  have hw := hw.2 c11
  by_cases c13 : x1 = 34
  · have hw := hw.1 c13
    refine lv_tableIn (off := 184) (tgt := 185) X.1 X.2.1 dX12_stepOfStatement_1 (by rw [c13]; decide) (by rw [c13]; decide) (by rw [c13]; decide) (by decide) ?_
    refine lv_aload_n X.1 X.2.1 dX12_stepOfStatement_185 rfl (lv_at hl 0 rfl) ?_
    refine kp_callv X h (kp_runV (rm := { frames := 6, cells := 0, slots := 0, locals := 130 }) (mc := 0) (ms := 0) (rest := []) (Qc := fun A => kp_Qv D cy A S _) X h (c_X12_sluice l D cy ad S a0 _ h.2.2.2 f_a0 hw) f_a0 cv_12_743 ⟨by decide, by decide, rfl, rfl, by decide, by decide⟩ rfl hl.1 rfl (Nat.le_of_ble_eq_true rfl) dX12_stepOfStatement_186) (fun T14 hw l_T14 H locs h => ?_)
    have f_a0 := l_T14.is f_a0
    have hle := hle.tr l_T14
    refine lv_goto (tgt := 600) X.1 X.2.1 dX12_stepOfStatement_189 (by decide) ?_
    exact j600  T14 _ _ ls (lv_sub hl [] rfl) h hle f_a0 hw
  have hw := hw.2 c13
  by_cases c15 : x1 = 35
  · have hw := hw.1 c15
    refine lv_tableIn (off := 191) (tgt := 192) X.1 X.2.1 dX12_stepOfStatement_1 (by rw [c15]; decide) (by rw [c15]; decide) (by rw [c15]; decide) (by decide) ?_
    refine lv_aload_n X.1 X.2.1 dX12_stepOfStatement_192 rfl (lv_at hl 0 rfl) ?_
    refine kp_callv X h (kp_runV (rm := { frames := 6, cells := 0, slots := 0, locals := 130 }) (mc := 0) (ms := 0) (rest := []) (Qc := fun A => kp_Qv D cy A S _) X h (c_X12_sail l D cy ad S a0 _ h.2.2.2 f_a0 hw) f_a0 cv_12_745 ⟨by decide, by decide, rfl, rfl, by decide, by decide⟩ rfl hl.1 rfl (Nat.le_of_ble_eq_true rfl) dX12_stepOfStatement_193) (fun T16 hw l_T16 H locs h => ?_)
    have f_a0 := l_T16.is f_a0
    have hle := hle.tr l_T16
    refine lv_goto (tgt := 600) X.1 X.2.1 dX12_stepOfStatement_196 (by decide) ?_
    exact j600  T16 _ _ ls (lv_sub hl [] rfl) h hle f_a0 hw
  have hw := hw.2 c15
  by_cases c17 : x1 = 36
  · have hw := hw.1 c17
    refine lv_tableIn (off := 198) (tgt := 199) X.1 X.2.1 dX12_stepOfStatement_1 (by rw [c17]; decide) (by rw [c17]; decide) (by rw [c17]; decide) (by decide) ?_
    refine lv_aload_n X.1 X.2.1 dX12_stepOfStatement_199 rfl (lv_at hl 0 rfl) ?_
    refine lv_aload_n X.1 X.2.1 dX12_stepOfStatement_200 rfl (lv_at hl 0 rfl) ?_
    refine kp_calli X h (kp_runV (rm := { frames := 0, cells := 0, slots := 0, locals := 0 }) (mc := 0) (ms := 0) (rest := [.ref a0]) (Qc := fun A => kp_Qi D cy A S _) X h (c_X12_pop l D cy ad S a0 _ h.2.2.2 f_a0 hw) f_a0 cv_12_718 ⟨by decide, by decide, rfl, rfl, by decide, by decide⟩ rfl hl.1 rfl (Nat.le_of_ble_eq_true rfl) dX12_stepOfStatement_201) (fun y19 T18 hw l_T18 H locs h => ?_)
    have f_a0 := l_T18.is f_a0
    have hle := hle.tr l_T18
    refine kp_callv X h (kp_runV (rm := { frames := 6, cells := 0, slots := 0, locals := 130 }) (mc := 0) (ms := 0) (rest := []) (Qc := fun A => kp_Qv D cy A T18 _) X h (c_X12_fails l D cy ad T18 a0 y19 _ h.2.2.2 f_a0 hw) f_a0 cv_12_747 ⟨by decide, by decide, rfl, rfl, by decide, by decide⟩ rfl hl.1 rfl (Nat.le_of_ble_eq_true rfl) dX12_stepOfStatement_204) (fun T20 hw l_T20 H locs h => ?_)
    have f_a0 := l_T20.is f_a0
    have hle := hle.tr l_T20
    refine lv_goto (tgt := 600) X.1 X.2.1 dX12_stepOfStatement_207 (by decide) ?_
    exact j600  T20 _ _ ls (lv_sub hl [] rfl) h hle f_a0 hw
  have hw := hw.2 c17
  by_cases c21 : x1 = 37
  · have hw := hw.1 c21
    refine lv_tableIn (off := 209) (tgt := 210) X.1 X.2.1 dX12_stepOfStatement_1 (by rw [c21]; decide) (by rw [c21]; decide) (by rw [c21]; decide) (by decide) ?_
    refine lv_aload_n X.1 X.2.1 dX12_stepOfStatement_210 rfl (lv_at hl 0 rfl) ?_
    refine lv_iconst (v := 1) X.1 X.2.1 dX12_stepOfStatement_211 (by decide) ?_
    refine kp_putI X h f_a0 fp_12_610 rfl ⟨rfl, rfl⟩ dX12_stepOfStatement_212 (fun T22 e_T22 l_T22 H locs h => ?_)
    have hw := hw T22 e_T22
    have f_a0 := l_T22.is f_a0
    have hle := hle.tr l_T22
    refine lv_goto (tgt := 600) X.1 X.2.1 dX12_stepOfStatement_215 (by decide) ?_
    exact j600  T22 _ _ ls (lv_sub hl [] rfl) h hle f_a0 hw
  have hw := hw.2 c21
  by_cases c23 : x1 = 38
  · have hw := hw.1 c23
    refine lv_tableIn (off := 217) (tgt := 218) X.1 X.2.1 dX12_stepOfStatement_1 (by rw [c23]; decide) (by rw [c23]; decide) (by rw [c23]; decide) (by decide) ?_
    refine lv_aload_n X.1 X.2.1 dX12_stepOfStatement_218 rfl (lv_at hl 0 rfl) ?_
    refine lv_aload_n X.1 X.2.1 dX12_stepOfStatement_219 rfl (lv_at hl 0 rfl) ?_
    refine kp_calli X h (kp_runV (rm := { frames := 0, cells := 0, slots := 0, locals := 0 }) (mc := 0) (ms := 0) (rest := [.ref a0]) (Qc := fun A => kp_Qi D cy A S _) X h (c_X12_pop l D cy ad S a0 _ h.2.2.2 f_a0 hw) f_a0 cv_12_718 ⟨by decide, by decide, rfl, rfl, by decide, by decide⟩ rfl hl.1 rfl (Nat.le_of_ble_eq_true rfl) dX12_stepOfStatement_220) (fun y25 T24 hw l_T24 H locs h => ?_)
    have f_a0 := l_T24.is f_a0
    have hle := hle.tr l_T24
    refine kp_putI X h f_a0 fp_12_622 rfl ⟨rfl, rfl⟩ dX12_stepOfStatement_223 (fun T26 e_T26 l_T26 H locs h => ?_)
    have hw := hw T26 e_T26
    have f_a0 := l_T26.is f_a0
    have hle := hle.tr l_T26
    refine lv_aload_n X.1 X.2.1 dX12_stepOfStatement_226 rfl (lv_at hl 0 rfl) ?_
    refine lv_iconst (v := 3) X.1 X.2.1 dX12_stepOfStatement_227 (by decide) ?_
    refine kp_putI X h f_a0 fp_12_616 rfl ⟨rfl, rfl⟩ dX12_stepOfStatement_228 (fun T27 e_T27 l_T27 H locs h => ?_)
    have hw := hw T27 e_T27
    have f_a0 := l_T27.is f_a0
    have hle := hle.tr l_T27
    refine lv_aload_n X.1 X.2.1 dX12_stepOfStatement_231 rfl (lv_at hl 0 rfl) ?_
    refine kp_callv X h (kp_runV (rm := { frames := 4, cells := 0, slots := 0, locals := 86 }) (mc := 0) (ms := 0) (rest := []) (Qc := fun A => kp_Qv D cy A T27 _) X h (c_X12_leaves l D cy ad T27 a0 _ h.2.2.2 f_a0 hw) f_a0 cv_12_645 ⟨by decide, by decide, rfl, rfl, by decide, by decide⟩ rfl hl.1 rfl (Nat.le_of_ble_eq_true rfl) dX12_stepOfStatement_232) (fun T28 hw l_T28 H locs h => ?_)
    have f_a0 := l_T28.is f_a0
    have hle := hle.tr l_T28
    refine lv_goto (tgt := 600) X.1 X.2.1 dX12_stepOfStatement_235 (by decide) ?_
    exact j600  T28 _ _ ls (lv_sub hl [] rfl) h hle f_a0 hw
  have hw := hw.2 c23
  by_cases c29 : x1 = 39
  · have hw := hw.1 c29
    refine lv_tableIn (off := 237) (tgt := 238) X.1 X.2.1 dX12_stepOfStatement_1 (by rw [c29]; decide) (by rw [c29]; decide) (by rw [c29]; decide) (by decide) ?_
    exact j238  S _ _ ls (lv_sub hl [0, 1, 2] rfl) h hle f_a0 hw
  have hw := hw.2 c29
  by_cases c30 : x1 = 40
  · have hw := hw.1 c30
    refine lv_tableIn (off := 237) (tgt := 238) X.1 X.2.1 dX12_stepOfStatement_1 (by rw [c30]; decide) (by rw [c30]; decide) (by rw [c30]; decide) (by decide) ?_
    exact j238  S _ _ ls (lv_sub hl [0, 1, 2] rfl) h hle f_a0 hw
  have hw := hw.2 c30
  by_cases c31 : x1 = 41
  · have hw := hw.1 c31
    refine lv_tableIn (off := 264) (tgt := 265) X.1 X.2.1 dX12_stepOfStatement_1 (by rw [c31]; decide) (by rw [c31]; decide) (by rw [c31]; decide) (by decide) ?_
    refine lv_aload_n X.1 X.2.1 dX12_stepOfStatement_265 rfl (lv_at hl 0 rfl) ?_
    refine lv_iload_n X.1 X.2.1 dX12_stepOfStatement_266 rfl (lv_at hl 2 rfl) ?_
    refine kp_putI X h f_a0 fp_12_648 rfl ⟨rfl, rfl⟩ dX12_stepOfStatement_267 (fun T32 e_T32 l_T32 H locs h => ?_)
    have hw := hw T32 e_T32
    have f_a0 := l_T32.is f_a0
    have hle := hle.tr l_T32
    refine lv_goto (tgt := 600) X.1 X.2.1 dX12_stepOfStatement_270 (by decide) ?_
    exact j600  T32 _ _ ls (lv_sub hl [] rfl) h hle f_a0 hw
  have hw := hw.2 c31
  by_cases c33 : x1 = 42
  · have hw := hw.1 c33
    refine lv_tableIn (off := 272) (tgt := 273) X.1 X.2.1 dX12_stepOfStatement_1 (by rw [c33]; decide) (by rw [c33]; decide) (by rw [c33]; decide) (by decide) ?_
    refine lv_aload_n X.1 X.2.1 dX12_stepOfStatement_273 rfl (lv_at hl 0 rfl) ?_
    refine lv_aload_n X.1 X.2.1 dX12_stepOfStatement_274 rfl (lv_at hl 0 rfl) ?_
    refine kp_calli X h (kp_runV (rm := { frames := 0, cells := 0, slots := 0, locals := 0 }) (mc := 0) (ms := 0) (rest := [.ref a0]) (Qc := fun A => kp_Qi D cy A S _) X h (c_X12_pop l D cy ad S a0 _ h.2.2.2 f_a0 hw) f_a0 cv_12_718 ⟨by decide, by decide, rfl, rfl, by decide, by decide⟩ rfl hl.1 rfl (Nat.le_of_ble_eq_true rfl) dX12_stepOfStatement_275) (fun y35 T34 hw l_T34 H locs h => ?_)
    have f_a0 := l_T34.is f_a0
    have hle := hle.tr l_T34
    refine lv_if_ne (tgt := 285) X.1 X.2.1 dX12_stepOfStatement_278 (by decide) (fun c36 => ?_) (fun c36 => ?_)
    · have hw := hw.1 c36
      refine lv_aload_n X.1 X.2.1 dX12_stepOfStatement_285 rfl (lv_at hl 0 rfl) ?_
      refine kp_get X h f_a0 fp_12_648.l (v := .int (kp_I T34 2510 a0)) rfl dX12_stepOfStatement_286 ?_
      exact j289 (kp_I T34 2510 a0) a0 T34 _ _ ls (lv_sub hl [] rfl) h hle f_a0 f_a0 hw
    · have hw := hw.2 c36
      refine lv_iload_n X.1 X.2.1 dX12_stepOfStatement_281 rfl (lv_at hl 2 rfl) ?_
      refine lv_goto (tgt := 289) X.1 X.2.1 dX12_stepOfStatement_282 (by decide) ?_
      exact j289 x2 a0 T34 _ _ ls (lv_sub hl [] rfl) h hle f_a0 f_a0 hw
  have hw := hw.2 c33
  by_cases c37 : x1 = 43
  · have hw := hw.1 c37
    refine lv_tableIn (off := 294) (tgt := 295) X.1 X.2.1 dX12_stepOfStatement_1 (by rw [c37]; decide) (by rw [c37]; decide) (by rw [c37]; decide) (by decide) ?_
    refine lv_aload_n X.1 X.2.1 dX12_stepOfStatement_295 rfl (lv_at hl 0 rfl) ?_
    refine lv_iconst (v := 3) X.1 X.2.1 dX12_stepOfStatement_296 (by decide) ?_
    refine lv_iconst (v := 0) X.1 X.2.1 dX12_stepOfStatement_297 (by decide) ?_
    refine lv_iload_n X.1 X.2.1 dX12_stepOfStatement_298 rfl (lv_at hl 2 rfl) ?_
    refine kp_callv X h (kp_runV (rm := { frames := 0, cells := 0, slots := 0, locals := 0 }) (mc := 0) (ms := 0) (rest := []) (Qc := fun A => kp_Qv D cy A S _) X h (c_X12_opens l D cy ad S a0 3 0 x2 _ h.2.2.2 f_a0 hw) f_a0 cv_12_714 ⟨by decide, by decide, rfl, rfl, by decide, by decide⟩ rfl hl.1 rfl (Nat.le_of_ble_eq_true rfl) dX12_stepOfStatement_299) (fun T38 hw l_T38 H locs h => ?_)
    have f_a0 := l_T38.is f_a0
    have hle := hle.tr l_T38
    refine lv_goto (tgt := 600) X.1 X.2.1 dX12_stepOfStatement_302 (by decide) ?_
    exact j600  T38 _ _ ls (lv_sub hl [] rfl) h hle f_a0 hw
  have hw := hw.2 c37
  by_cases c39 : x1 = 44
  · have hw := hw.1 c39
    refine lv_tableIn (off := 304) (tgt := 305) X.1 X.2.1 dX12_stepOfStatement_1 (by rw [c39]; decide) (by rw [c39]; decide) (by rw [c39]; decide) (by decide) ?_
    refine lv_aload_n X.1 X.2.1 dX12_stepOfStatement_305 rfl (lv_at hl 0 rfl) ?_
    refine lv_iload_n X.1 X.2.1 dX12_stepOfStatement_306 rfl (lv_at hl 2 rfl) ?_
    refine kp_putI X h f_a0 fp_12_639 rfl ⟨rfl, rfl⟩ dX12_stepOfStatement_307 (fun T40 e_T40 l_T40 H locs h => ?_)
    have hw := hw T40 e_T40
    have f_a0 := l_T40.is f_a0
    have hle := hle.tr l_T40
    refine lv_aload_n X.1 X.2.1 dX12_stepOfStatement_310 rfl (lv_at hl 0 rfl) ?_
    refine kp_calli X h (kp_runV (rm := { frames := 0, cells := 0, slots := 0, locals := 0 }) (mc := 0) (ms := 0) (rest := []) (Qc := fun A => kp_Qi D cy A T40 _) X h (c_X12_burns l D cy ad T40 a0 _ h.2.2.2 f_a0 hw) f_a0 cv_12_693 ⟨by decide, by decide, rfl, rfl, by decide, by decide⟩ rfl hl.1 rfl (Nat.le_of_ble_eq_true rfl) dX12_stepOfStatement_311) (fun y42 T41 hw l_T41 H locs h => ?_)
    have f_a0 := l_T41.is f_a0
    have hle := hle.tr l_T41
    refine lv_pop X.1 X.2.1 dX12_stepOfStatement_314 rfl ?_
    refine lv_goto (tgt := 600) X.1 X.2.1 dX12_stepOfStatement_315 (by decide) ?_
    exact j600  T41 _ _ ls (lv_sub hl [] rfl) h hle f_a0 hw
  have hw := hw.2 c39
  by_cases c43 : x1 = 45
  · have hw := hw.1 c43
    refine lv_tableIn (off := 435) (tgt := 436) X.1 X.2.1 dX12_stepOfStatement_1 (by rw [c43]; decide) (by rw [c43]; decide) (by rw [c43]; decide) (by decide) ?_
    refine lv_aload_n X.1 X.2.1 dX12_stepOfStatement_436 rfl (lv_at hl 0 rfl) ?_
    refine lv_iload_n X.1 X.2.1 dX12_stepOfStatement_437 rfl (lv_at hl 2 rfl) ?_
    refine lv_aload_n X.1 X.2.1 dX12_stepOfStatement_438 rfl (lv_at hl 0 rfl) ?_
    refine kp_calli X h (kp_runV (rm := { frames := 0, cells := 0, slots := 0, locals := 0 }) (mc := 0) (ms := 0) (rest := [.int x2, .ref a0]) (Qc := fun A => kp_Qi D cy A S _) X h (c_X12_pop l D cy ad S a0 _ h.2.2.2 f_a0 hw) f_a0 cv_12_718 ⟨by decide, by decide, rfl, rfl, by decide, by decide⟩ rfl hl.1 rfl (Nat.le_of_ble_eq_true rfl) dX12_stepOfStatement_439) (fun y45 T44 hw l_T44 H locs h => ?_)
    have f_a0 := l_T44.is f_a0
    have hle := hle.tr l_T44
    refine lv_if_eq (tgt := 449) X.1 X.2.1 dX12_stepOfStatement_442 (by decide) (fun c46 => ?_) (fun c46 => ?_)
    · have hw := hw.1 c46
      refine lv_iconst (v := 0) X.1 X.2.1 dX12_stepOfStatement_449 (by decide) ?_
      exact j450 0 x2 a0 T44 _ _ ls (lv_sub hl [] rfl) h hle f_a0 f_a0 hw
    · have hw := hw.2 c46
      refine lv_iconst (v := 1) X.1 X.2.1 dX12_stepOfStatement_445 (by decide) ?_
      refine lv_goto (tgt := 450) X.1 X.2.1 dX12_stepOfStatement_446 (by decide) ?_
      exact j450 1 x2 a0 T44 _ _ ls (lv_sub hl [] rfl) h hle f_a0 f_a0 hw
  have hw := hw.2 c43
  by_cases c47 : x1 = 46
  · have hw := hw.1 c47
    refine lv_tableIn (off := 455) (tgt := 456) X.1 X.2.1 dX12_stepOfStatement_1 (by rw [c47]; decide) (by rw [c47]; decide) (by rw [c47]; decide) (by decide) ?_
    refine lv_aload_n X.1 X.2.1 dX12_stepOfStatement_456 rfl (lv_at hl 0 rfl) ?_
    refine lv_iload_n X.1 X.2.1 dX12_stepOfStatement_457 rfl (lv_at hl 2 rfl) ?_
    refine kp_callv X h (kp_runV (rm := { frames := 1, cells := 0, slots := 0, locals := 23 }) (mc := 0) (ms := 0) (rest := []) (Qc := fun A => kp_Qv D cy A S _) X h (c_X12_beginsEach l D cy ad S a0 x2 _ h.2.2.2 f_a0 hw) f_a0 cv_12_761 ⟨by decide, by decide, rfl, rfl, by decide, by decide⟩ rfl hl.1 rfl (Nat.le_of_ble_eq_true rfl) dX12_stepOfStatement_458) (fun T48 hw l_T48 H locs h => ?_)
    have f_a0 := l_T48.is f_a0
    have hle := hle.tr l_T48
    refine lv_goto (tgt := 600) X.1 X.2.1 dX12_stepOfStatement_461 (by decide) ?_
    exact j600  T48 _ _ ls (lv_sub hl [] rfl) h hle f_a0 hw
  have hw := hw.2 c47
  by_cases c49 : x1 = 47
  · have hw := hw.1 c49
    refine lv_tableIn (off := 463) (tgt := 464) X.1 X.2.1 dX12_stepOfStatement_1 (by rw [c49]; decide) (by rw [c49]; decide) (by rw [c49]; decide) (by decide) ?_
    refine lv_aload_n X.1 X.2.1 dX12_stepOfStatement_464 rfl (lv_at hl 0 rfl) ?_
    refine lv_iload_n X.1 X.2.1 dX12_stepOfStatement_465 rfl (lv_at hl 2 rfl) ?_
    refine kp_callv X h (kp_runV (rm := { frames := 2, cells := 0, slots := 0, locals := 45 }) (mc := 0) (ms := 0) (rest := []) (Qc := fun A => kp_Qv D cy A S _) X h (c_X12_testsEach l D cy ad S a0 x2 _ h.2.2.2 f_a0 hw) f_a0 cv_12_764 ⟨by decide, by decide, rfl, rfl, by decide, by decide⟩ rfl hl.1 rfl (Nat.le_of_ble_eq_true rfl) dX12_stepOfStatement_466) (fun T50 hw l_T50 H locs h => ?_)
    have f_a0 := l_T50.is f_a0
    have hle := hle.tr l_T50
    refine lv_goto (tgt := 600) X.1 X.2.1 dX12_stepOfStatement_469 (by decide) ?_
    exact j600  T50 _ _ ls (lv_sub hl [] rfl) h hle f_a0 hw
  have hw := hw.2 c49
  by_cases c51 : x1 = 48
  · have hw := hw.1 c51
    refine lv_tableIn (off := 471) (tgt := 472) X.1 X.2.1 dX12_stepOfStatement_1 (by rw [c51]; decide) (by rw [c51]; decide) (by rw [c51]; decide) (by decide) ?_
    refine lv_aload_n X.1 X.2.1 dX12_stepOfStatement_472 rfl (lv_at hl 0 rfl) ?_
    refine kp_callv X h (kp_runV (rm := { frames := 4, cells := 0, slots := 0, locals := 86 }) (mc := 0) (ms := 0) (rest := []) (Qc := fun A => kp_Qv D cy A S _) X h (c_X12_leaves l D cy ad S a0 _ h.2.2.2 f_a0 hw) f_a0 cv_12_645 ⟨by decide, by decide, rfl, rfl, by decide, by decide⟩ rfl hl.1 rfl (Nat.le_of_ble_eq_true rfl) dX12_stepOfStatement_473) (fun T52 hw l_T52 H locs h => ?_)
    have f_a0 := l_T52.is f_a0
    have hle := hle.tr l_T52
    refine lv_goto (tgt := 600) X.1 X.2.1 dX12_stepOfStatement_476 (by decide) ?_
    exact j600  T52 _ _ ls (lv_sub hl [] rfl) h hle f_a0 hw
  have hw := hw.2 c51
  by_cases c53 : x1 = 49
  · have hw := hw.1 c53
    refine lv_tableIn (off := 478) (tgt := 479) X.1 X.2.1 dX12_stepOfStatement_1 (by rw [c53]; decide) (by rw [c53]; decide) (by rw [c53]; decide) (by decide) ?_
    refine lv_aload_n X.1 X.2.1 dX12_stepOfStatement_479 rfl (lv_at hl 0 rfl) ?_
    refine lv_aload_n X.1 X.2.1 dX12_stepOfStatement_480 rfl (lv_at hl 0 rfl) ?_
    refine kp_calli X h (kp_runV (rm := { frames := 0, cells := 0, slots := 0, locals := 0 }) (mc := 0) (ms := 0) (rest := [.ref a0]) (Qc := fun A => kp_Qi D cy A S _) X h (c_X12_pop l D cy ad S a0 _ h.2.2.2 f_a0 hw) f_a0 cv_12_718 ⟨by decide, by decide, rfl, rfl, by decide, by decide⟩ rfl hl.1 rfl (Nat.le_of_ble_eq_true rfl) dX12_stepOfStatement_481) (fun y55 T54 hw l_T54 H locs h => ?_)
    have f_a0 := l_T54.is f_a0
    have hle := hle.tr l_T54
    refine lv_iload_n X.1 X.2.1 dX12_stepOfStatement_484 rfl (lv_at hl 2 rfl) ?_
    refine kp_callv X h (kp_runV (rm := { frames := 6, cells := 0, slots := 0, locals := 130 }) (mc := 0) (ms := 0) (rest := []) (Qc := fun A => kp_Qv D cy A T54 _) X h (c_X12_takes l D cy ad T54 a0 y55 x2 _ h.2.2.2 f_a0 hw) f_a0 cv_12_767 ⟨by decide, by decide, rfl, rfl, by decide, by decide⟩ rfl hl.1 rfl (Nat.le_of_ble_eq_true rfl) dX12_stepOfStatement_485) (fun T56 hw l_T56 H locs h => ?_)
    have f_a0 := l_T56.is f_a0
    have hle := hle.tr l_T56
    refine lv_goto (tgt := 600) X.1 X.2.1 dX12_stepOfStatement_488 (by decide) ?_
    exact j600  T56 _ _ ls (lv_sub hl [] rfl) h hle f_a0 hw
  have hw := hw.2 c53
  by_cases c57 : x1 = 50
  · have hw := hw.1 c57
    refine lv_tableIn (off := 490) (tgt := 491) X.1 X.2.1 dX12_stepOfStatement_1 (by rw [c57]; decide) (by rw [c57]; decide) (by rw [c57]; decide) (by decide) ?_
    refine lv_aload_n X.1 X.2.1 dX12_stepOfStatement_491 rfl (lv_at hl 0 rfl) ?_
    refine lv_iconst (v := 4) X.1 X.2.1 dX12_stepOfStatement_492 (by decide) ?_
    refine lv_iconst (v := 3) X.1 X.2.1 dX12_stepOfStatement_493 (by decide) ?_
    refine lv_iload_n X.1 X.2.1 dX12_stepOfStatement_494 rfl (lv_at hl 2 rfl) ?_
    refine kp_callv X h (kp_runV (rm := { frames := 0, cells := 0, slots := 0, locals := 0 }) (mc := 0) (ms := 0) (rest := []) (Qc := fun A => kp_Qv D cy A S _) X h (c_X12_opens l D cy ad S a0 4 3 x2 _ h.2.2.2 f_a0 hw) f_a0 cv_12_714 ⟨by decide, by decide, rfl, rfl, by decide, by decide⟩ rfl hl.1 rfl (Nat.le_of_ble_eq_true rfl) dX12_stepOfStatement_495) (fun T58 hw l_T58 H locs h => ?_)
    have f_a0 := l_T58.is f_a0
    have hle := hle.tr l_T58
    refine lv_aload_n X.1 X.2.1 dX12_stepOfStatement_498 rfl (lv_at hl 0 rfl) ?_
    refine lv_dup X.1 X.2.1 dX12_stepOfStatement_499 rfl ?_
    refine kp_get X h f_a0 fp_12_770.l (v := .int (kp_I T58 2473 a0)) rfl dX12_stepOfStatement_500 ?_
    refine lv_aload_n X.1 X.2.1 dX12_stepOfStatement_503 rfl (lv_at hl 0 rfl) ?_
    obtain ⟨b59, e_b59, hw⟩ := hw
    have f_b59 := h.2.2.2.rf (c := 12) (k := 52) f_a0 (by decide) (by decide) e_b59 (t := 14) rfl
    refine kp_get X h f_a0 ff_12_124.l (v := .ref b59) (congrArg va_rf e_b59) dX12_stepOfStatement_504 ?_
    refine lv_iload_n X.1 X.2.1 dX12_stepOfStatement_507 rfl (lv_at hl 2 rfl) ?_
    obtain ⟨hi, hw⟩ := hw
    refine kp_iald X h f_b59 hi dX12_stepOfStatement_508 ?_
    refine lv_iconst (v := (-1)) X.1 X.2.1 dX12_stepOfStatement_509 (by decide) ?_
    refine lv_icmp_ne (tgt := 517) X.1 X.2.1 dX12_stepOfStatement_510 (by decide) (fun c60 => ?_) (fun c60 => ?_)
    · have hw := hw.1 c60
      refine lv_iconst (v := 1) X.1 X.2.1 dX12_stepOfStatement_517 (by decide) ?_
      exact j518 1 (kp_I T58 2473 a0) a0 T58 _ _ ls (lv_sub hl [] rfl) h hle f_a0 f_a0 hw
    · have hw := hw.2 c60
      refine lv_iconst (v := 0) X.1 X.2.1 dX12_stepOfStatement_513 (by decide) ?_
      refine lv_goto (tgt := 518) X.1 X.2.1 dX12_stepOfStatement_514 (by decide) ?_
      exact j518 0 (kp_I T58 2473 a0) a0 T58 _ _ ls (lv_sub hl [] rfl) h hle f_a0 f_a0 hw
  have hw := hw.2 c57
  by_cases c61 : x1 = 51
  · have hw := hw.1 c61
    refine lv_tableIn (off := 524) (tgt := 525) X.1 X.2.1 dX12_stepOfStatement_1 (by rw [c61]; decide) (by rw [c61]; decide) (by rw [c61]; decide) (by decide) ?_
    refine lv_aload_n X.1 X.2.1 dX12_stepOfStatement_525 rfl (lv_at hl 0 rfl) ?_
    refine lv_aload_n X.1 X.2.1 dX12_stepOfStatement_526 rfl (lv_at hl 0 rfl) ?_
    refine kp_calli X h (kp_runV (rm := { frames := 0, cells := 0, slots := 0, locals := 0 }) (mc := 0) (ms := 0) (rest := [.ref a0]) (Qc := fun A => kp_Qi D cy A S _) X h (c_X12_pop l D cy ad S a0 _ h.2.2.2 f_a0 hw) f_a0 cv_12_718 ⟨by decide, by decide, rfl, rfl, by decide, by decide⟩ rfl hl.1 rfl (Nat.le_of_ble_eq_true rfl) dX12_stepOfStatement_527) (fun y63 T62 hw l_T62 H locs h => ?_)
    have f_a0 := l_T62.is f_a0
    have hle := hle.tr l_T62
    refine lv_aload_n X.1 X.2.1 dX12_stepOfStatement_530 rfl (lv_at hl 0 rfl) ?_
    obtain ⟨b64, e_b64, hw⟩ := hw
    have f_b64 := h.2.2.2.rf (c := 12) (k := 98) f_a0 (by decide) (by decide) e_b64 (t := 14) rfl
    refine kp_get X h f_a0 ff_12_206.l (v := .ref b64) (congrArg va_rf e_b64) dX12_stepOfStatement_531 ?_
    refine lv_aload_n X.1 X.2.1 dX12_stepOfStatement_534 rfl (lv_at hl 0 rfl) ?_
    refine kp_get X h f_a0 fp_12_613.l (v := .int (kp_I T62 2487 a0)) rfl dX12_stepOfStatement_535 ?_
    refine lv_iconst (v := 1) X.1 X.2.1 dX12_stepOfStatement_538 (by decide) ?_
    refine lv_isub X.1 X.2.1 dX12_stepOfStatement_539 ?_
    obtain ⟨hi, hw⟩ := hw
    refine kp_iald X h f_b64 hi dX12_stepOfStatement_540 ?_
    refine lv_icmp_ne (tgt := 548) X.1 X.2.1 dX12_stepOfStatement_541 (by decide) (fun c65 => ?_) (fun c65 => ?_)
    · have hw := hw.1 c65
      refine lv_iconst (v := 0) X.1 X.2.1 dX12_stepOfStatement_548 (by decide) ?_
      exact j549 0 a0 T62 _ _ ls (lv_sub hl [2] rfl) h hle f_a0 f_a0 hw
    · have hw := hw.2 c65
      refine lv_iconst (v := 1) X.1 X.2.1 dX12_stepOfStatement_544 (by decide) ?_
      refine lv_goto (tgt := 549) X.1 X.2.1 dX12_stepOfStatement_545 (by decide) ?_
      exact j549 1 a0 T62 _ _ ls (lv_sub hl [2] rfl) h hle f_a0 f_a0 hw
  have hw := hw.2 c61
  by_cases c66 : x1 = 52
  · have hw := hw.1 c66
    refine lv_tableIn (off := 555) (tgt := 556) X.1 X.2.1 dX12_stepOfStatement_1 (by rw [c66]; decide) (by rw [c66]; decide) (by rw [c66]; decide) (by decide) ?_
    refine lv_aload_n X.1 X.2.1 dX12_stepOfStatement_556 rfl (lv_at hl 0 rfl) ?_
    refine lv_iconst (v := 1) X.1 X.2.1 dX12_stepOfStatement_557 (by decide) ?_
    refine lv_iload_n X.1 X.2.1 dX12_stepOfStatement_558 rfl (lv_at hl 2 rfl) ?_
    refine kp_callv X h (kp_runV (rm := { frames := 1, cells := 0, slots := 0, locals := 22 }) (mc := 0) (ms := 0) (rest := []) (Qc := fun A => kp_Qv D cy A S _) X h (c_X12_mends l D cy ad S a0 1 x2 _ h.2.2.2 f_a0 hw) f_a0 cv_12_773 ⟨by decide, by decide, rfl, rfl, by decide, by decide⟩ rfl hl.1 rfl (Nat.le_of_ble_eq_true rfl) dX12_stepOfStatement_559) (fun T67 hw l_T67 H locs h => ?_)
    have f_a0 := l_T67.is f_a0
    have hle := hle.tr l_T67
    refine lv_goto (tgt := 600) X.1 X.2.1 dX12_stepOfStatement_562 (by decide) ?_
    exact j600  T67 _ _ ls (lv_sub hl [] rfl) h hle f_a0 hw
  have hw := hw.2 c66
  by_cases c68 : x1 = 53
  · have hw := hw.1 c68
    refine lv_tableIn (off := 564) (tgt := 565) X.1 X.2.1 dX12_stepOfStatement_1 (by rw [c68]; decide) (by rw [c68]; decide) (by rw [c68]; decide) (by decide) ?_
    refine lv_aload_n X.1 X.2.1 dX12_stepOfStatement_565 rfl (lv_at hl 0 rfl) ?_
    refine lv_aload_n X.1 X.2.1 dX12_stepOfStatement_566 rfl (lv_at hl 0 rfl) ?_
    refine kp_get X h f_a0 fp_12_613.l (v := .int (kp_I S 2487 a0)) rfl dX12_stepOfStatement_567 ?_
    refine lv_iconst (v := 1) X.1 X.2.1 dX12_stepOfStatement_570 (by decide) ?_
    refine lv_isub X.1 X.2.1 dX12_stepOfStatement_571 ?_
    refine kp_callv X h (kp_runV (rm := { frames := 0, cells := 0, slots := 0, locals := 0 }) (mc := 0) (ms := 0) (rest := []) (Qc := fun A => kp_Qv D cy A S _) X h (c_X12_takeWay l D cy ad S a0 ((kp_I S 2487 a0) - 1) _ h.2.2.2 f_a0 hw) f_a0 cv_12_681 ⟨by decide, by decide, rfl, rfl, by decide, by decide⟩ rfl hl.1 rfl (Nat.le_of_ble_eq_true rfl) dX12_stepOfStatement_572) (fun T69 hw l_T69 H locs h => ?_)
    have f_a0 := l_T69.is f_a0
    have hle := hle.tr l_T69
    refine lv_aload_n X.1 X.2.1 dX12_stepOfStatement_575 rfl (lv_at hl 0 rfl) ?_
    obtain ⟨b70, e_b70, hw⟩ := hw
    have f_b70 := h.2.2.2.rf (c := 12) (k := 89) f_a0 (by decide) (by decide) e_b70 (t := 14) rfl
    refine kp_get X h f_a0 ff_12_179.l (v := .ref b70) (congrArg va_rf e_b70) dX12_stepOfStatement_576 ?_
    refine lv_aload_n X.1 X.2.1 dX12_stepOfStatement_579 rfl (lv_at hl 0 rfl) ?_
    refine kp_get X h f_a0 fp_12_613.l (v := .int (kp_I T69 2487 a0)) rfl dX12_stepOfStatement_580 ?_
    refine lv_iconst (v := 1) X.1 X.2.1 dX12_stepOfStatement_583 (by decide) ?_
    refine lv_isub X.1 X.2.1 dX12_stepOfStatement_584 ?_
    refine lv_iconst (v := 5) X.1 X.2.1 dX12_stepOfStatement_585 (by decide) ?_
    obtain ⟨hi, hw⟩ := hw
    refine kp_iast X h f_b70 hi dX12_stepOfStatement_586 (fun T71 e_T71 l_T71 H locs h => ?_)
    have hw := hw T71 e_T71
    have f_a0 := l_T71.is f_a0
    have f_b70 := l_T71.is f_b70
    have hle := hle.tr l_T71
    have e_b70 : kp_R T71 2489 a0 = some b70 := by rw [e_T71]; exact e_b70
    refine lv_aload_n X.1 X.2.1 dX12_stepOfStatement_587 rfl (lv_at hl 0 rfl) ?_
    refine kp_callv X h (kp_runV (rm := { frames := 4, cells := 0, slots := 0, locals := 86 }) (mc := 0) (ms := 0) (rest := []) (Qc := fun A => kp_Qv D cy A T71 _) X h (c_X12_leaves l D cy ad T71 a0 _ h.2.2.2 f_a0 hw) f_a0 cv_12_645 ⟨by decide, by decide, rfl, rfl, by decide, by decide⟩ rfl hl.1 rfl (Nat.le_of_ble_eq_true rfl) dX12_stepOfStatement_588) (fun T72 hw l_T72 H locs h => ?_)
    have f_a0 := l_T72.is f_a0
    have f_b70 := l_T72.is f_b70
    have hle := hle.tr l_T72
    refine lv_goto (tgt := 600) X.1 X.2.1 dX12_stepOfStatement_591 (by decide) ?_
    exact j600  T72 _ _ ls (lv_sub hl [] rfl) h hle f_a0 hw
  have hw := hw.2 c68
  by_cases c73 : x1 = 54
  · have hw := hw.1 c73
    refine lv_tableIn (off := 593) (tgt := 594) X.1 X.2.1 dX12_stepOfStatement_1 (by rw [c73]; decide) (by rw [c73]; decide) (by rw [c73]; decide) (by decide) ?_
    exact j594  S _ _ ls (lv_sub hl [0, 2, 3] rfl) h hle f_a0 hw
  have hw := hw.2 c73
  by_cases c74 : x1 = 55
  · have hw := hw.1 c74
    refine lv_tableIn (off := 317) (tgt := 318) X.1 X.2.1 dX12_stepOfStatement_1 (by rw [c74]; decide) (by rw [c74]; decide) (by rw [c74]; decide) (by decide) ?_
    refine lv_aload_n X.1 X.2.1 dX12_stepOfStatement_318 rfl (lv_at hl 0 rfl) ?_
    refine lv_iload_n X.1 X.2.1 dX12_stepOfStatement_319 rfl (lv_at hl 2 rfl) ?_
    refine kp_putI X h f_a0 fp_12_639 rfl ⟨rfl, rfl⟩ dX12_stepOfStatement_320 (fun T75 e_T75 l_T75 H locs h => ?_)
    have hw := hw T75 e_T75
    have f_a0 := l_T75.is f_a0
    have hle := hle.tr l_T75
    refine lv_goto (tgt := 600) X.1 X.2.1 dX12_stepOfStatement_323 (by decide) ?_
    exact j600  T75 _ _ ls (lv_sub hl [] rfl) h hle f_a0 hw
  have hw := hw.2 c74
  by_cases c76 : x1 = 56
  · have hw := hw.1 c76
    refine lv_tableIn (off := 325) (tgt := 326) X.1 X.2.1 dX12_stepOfStatement_1 (by rw [c76]; decide) (by rw [c76]; decide) (by rw [c76]; decide) (by decide) ?_
    refine lv_aload_n X.1 X.2.1 dX12_stepOfStatement_326 rfl (lv_at hl 0 rfl) ?_
    refine kp_calli X h (kp_runV (rm := { frames := 0, cells := 0, slots := 0, locals := 0 }) (mc := 0) (ms := 0) (rest := []) (Qc := fun A => kp_Qi D cy A S _) X h (c_X12_burns l D cy ad S a0 _ h.2.2.2 f_a0 hw) f_a0 cv_12_693 ⟨by decide, by decide, rfl, rfl, by decide, by decide⟩ rfl hl.1 rfl (Nat.le_of_ble_eq_true rfl) dX12_stepOfStatement_327) (fun y78 T77 hw l_T77 H locs h => ?_)
    have f_a0 := l_T77.is f_a0
    have hle := hle.tr l_T77
    refine lv_if_eq (tgt := 600) X.1 X.2.1 dX12_stepOfStatement_330 (by decide) (fun c80 => ?_) (fun c80 => ?_)
    · have hw := hw.1 c80
      exact j600  T77 _ _ ls (lv_sub hl [] rfl) h hle f_a0 hw
    · have hw := hw.2 c80
      refine lv_aload_n X.1 X.2.1 dX12_stepOfStatement_333 rfl (lv_at hl 0 rfl) ?_
      refine lv_iload_n X.1 X.2.1 dX12_stepOfStatement_334 rfl (lv_at hl 2 rfl) ?_
      refine lv_iconst (v := 1) X.1 X.2.1 dX12_stepOfStatement_335 (by decide) ?_
      refine kp_callv X h (kp_runV (rm := { frames := 1, cells := 0, slots := 0, locals := 22 }) (mc := 0) (ms := 0) (rest := []) (Qc := fun A => kp_Qv D cy A T77 _) X h (c_X12_rounds l D cy ad T77 a0 x2 1 _ h.2.2.2 f_a0 hw) f_a0 cv_12_750 ⟨by decide, by decide, rfl, rfl, by decide, by decide⟩ rfl hl.1 rfl (Nat.le_of_ble_eq_true rfl) dX12_stepOfStatement_336) (fun T79 hw l_T79 H locs h => ?_)
      have f_a0 := l_T79.is f_a0
      have hle := hle.tr l_T79
      refine lv_goto (tgt := 600) X.1 X.2.1 dX12_stepOfStatement_339 (by decide) ?_
      exact j600  T79 _ _ ls (lv_sub hl [] rfl) h hle f_a0 hw
  have hw := hw.2 c76
  by_cases c81 : x1 = 57
  · have hw := hw.1 c81
    refine lv_tableIn (off := 341) (tgt := 342) X.1 X.2.1 dX12_stepOfStatement_1 (by rw [c81]; decide) (by rw [c81]; decide) (by rw [c81]; decide) (by decide) ?_
    refine lv_aload_n X.1 X.2.1 dX12_stepOfStatement_342 rfl (lv_at hl 0 rfl) ?_
    refine kp_calli X h (kp_runV (rm := { frames := 0, cells := 0, slots := 0, locals := 0 }) (mc := 0) (ms := 0) (rest := []) (Qc := fun A => kp_Qi D cy A S _) X h (c_X12_pop l D cy ad S a0 _ h.2.2.2 f_a0 hw) f_a0 cv_12_718 ⟨by decide, by decide, rfl, rfl, by decide, by decide⟩ rfl hl.1 rfl (Nat.le_of_ble_eq_true rfl) dX12_stepOfStatement_343) (fun y83 T82 hw l_T82 H locs h => ?_)
    have f_a0 := l_T82.is f_a0
    have hle := hle.tr l_T82
    refine lv_if_ne (tgt := 357) X.1 X.2.1 dX12_stepOfStatement_346 (by decide) (fun c86 => ?_) (fun c86 => ?_)
    · have hw := hw.1 c86
      refine lv_aload_n X.1 X.2.1 dX12_stepOfStatement_357 rfl (lv_at hl 0 rfl) ?_
      refine lv_iload_n X.1 X.2.1 dX12_stepOfStatement_358 rfl (lv_at hl 2 rfl) ?_
      refine lv_iconst (v := 0) X.1 X.2.1 dX12_stepOfStatement_359 (by decide) ?_
      refine kp_callv X h (kp_runV (rm := { frames := 1, cells := 0, slots := 0, locals := 22 }) (mc := 0) (ms := 0) (rest := []) (Qc := fun A => kp_Qv D cy A T82 _) X h (c_X12_rounds l D cy ad T82 a0 x2 0 _ h.2.2.2 f_a0 hw) f_a0 cv_12_750 ⟨by decide, by decide, rfl, rfl, by decide, by decide⟩ rfl hl.1 rfl (Nat.le_of_ble_eq_true rfl) dX12_stepOfStatement_360) (fun T84 hw l_T84 H locs h => ?_)
      have f_a0 := l_T84.is f_a0
      have hle := hle.tr l_T84
      refine lv_goto (tgt := 600) X.1 X.2.1 dX12_stepOfStatement_363 (by decide) ?_
      exact j600  T84 _ _ ls (lv_sub hl [] rfl) h hle f_a0 hw
    · have hw := hw.2 c86
      refine lv_aload_n X.1 X.2.1 dX12_stepOfStatement_349 rfl (lv_at hl 0 rfl) ?_
      refine lv_iload_n X.1 X.2.1 dX12_stepOfStatement_350 rfl (lv_at hl 3 rfl) ?_
      refine kp_putI X h f_a0 fp_12_648 rfl ⟨rfl, rfl⟩ dX12_stepOfStatement_351 (fun T85 e_T85 l_T85 H locs h => ?_)
      have hw := hw T85 e_T85
      have f_a0 := l_T85.is f_a0
      have hle := hle.tr l_T85
      refine lv_goto (tgt := 600) X.1 X.2.1 dX12_stepOfStatement_354 (by decide) ?_
      exact j600  T85 _ _ ls (lv_sub hl [] rfl) h hle f_a0 hw
  have hw := hw.2 c81
  by_cases c87 : x1 = 58
  · have hw := hw.1 c87
    refine lv_tableIn (off := 365) (tgt := 366) X.1 X.2.1 dX12_stepOfStatement_1 (by rw [c87]; decide) (by rw [c87]; decide) (by rw [c87]; decide) (by decide) ?_
    refine lv_aload_n X.1 X.2.1 dX12_stepOfStatement_366 rfl (lv_at hl 0 rfl) ?_
    refine lv_aload_n X.1 X.2.1 dX12_stepOfStatement_367 rfl (lv_at hl 0 rfl) ?_
    refine kp_calli X h (kp_runV (rm := { frames := 0, cells := 0, slots := 0, locals := 0 }) (mc := 0) (ms := 0) (rest := [.ref a0]) (Qc := fun A => kp_Qi D cy A S _) X h (c_X12_pop l D cy ad S a0 _ h.2.2.2 f_a0 hw) f_a0 cv_12_718 ⟨by decide, by decide, rfl, rfl, by decide, by decide⟩ rfl hl.1 rfl (Nat.le_of_ble_eq_true rfl) dX12_stepOfStatement_368) (fun y89 T88 hw l_T88 H locs h => ?_)
    have f_a0 := l_T88.is f_a0
    have hle := hle.tr l_T88
    refine lv_aload_n X.1 X.2.1 dX12_stepOfStatement_371 rfl (lv_at hl 0 rfl) ?_
    obtain ⟨b90, e_b90, hw⟩ := hw
    have f_b90 := h.2.2.2.rf (c := 12) (k := 115) f_a0 (by decide) (by decide) e_b90 (t := 14) rfl
    refine kp_get X h f_a0 ff_12_239.l (v := .ref b90) (congrArg va_rf e_b90) dX12_stepOfStatement_372 ?_
    refine lv_aload_n X.1 X.2.1 dX12_stepOfStatement_375 rfl (lv_at hl 0 rfl) ?_
    refine kp_get X h f_a0 fp_12_604.l (v := .int (kp_I T88 2516 a0)) rfl dX12_stepOfStatement_376 ?_
    refine lv_iconst (v := 1) X.1 X.2.1 dX12_stepOfStatement_379 (by decide) ?_
    refine lv_isub X.1 X.2.1 dX12_stepOfStatement_380 ?_
    obtain ⟨hi, hw⟩ := hw
    refine kp_iald X h f_b90 hi dX12_stepOfStatement_381 ?_
    refine lv_icmp_ne (tgt := 389) X.1 X.2.1 dX12_stepOfStatement_382 (by decide) (fun c91 => ?_) (fun c91 => ?_)
    · have hw := hw.1 c91
      refine lv_iconst (v := 0) X.1 X.2.1 dX12_stepOfStatement_389 (by decide) ?_
      exact j390 0 a0 T88 _ _ ls (lv_sub hl [2] rfl) h hle f_a0 f_a0 hw
    · have hw := hw.2 c91
      refine lv_iconst (v := 1) X.1 X.2.1 dX12_stepOfStatement_385 (by decide) ?_
      refine lv_goto (tgt := 390) X.1 X.2.1 dX12_stepOfStatement_386 (by decide) ?_
      exact j390 1 a0 T88 _ _ ls (lv_sub hl [2] rfl) h hle f_a0 f_a0 hw
  have hw := hw.2 c87
  by_cases c92 : x1 = 59
  · have hw := hw.1 c92
    refine lv_tableIn (off := 396) (tgt := 397) X.1 X.2.1 dX12_stepOfStatement_1 (by rw [c92]; decide) (by rw [c92]; decide) (by rw [c92]; decide) (by decide) ?_
    refine lv_aload_n X.1 X.2.1 dX12_stepOfStatement_397 rfl (lv_at hl 0 rfl) ?_
    refine lv_iconst (v := 1) X.1 X.2.1 dX12_stepOfStatement_398 (by decide) ?_
    refine lv_iload_n X.1 X.2.1 dX12_stepOfStatement_399 rfl (lv_at hl 2 rfl) ?_
    refine kp_callv X h (kp_runV (rm := { frames := 0, cells := 0, slots := 0, locals := 0 }) (mc := 0) (ms := 0) (rest := []) (Qc := fun A => kp_Qv D cy A S _) X h (c_X12_chooses l D cy ad S a0 1 x2 _ h.2.2.2 f_a0 hw) f_a0 cv_12_754 ⟨by decide, by decide, rfl, rfl, by decide, by decide⟩ rfl hl.1 rfl (Nat.le_of_ble_eq_true rfl) dX12_stepOfStatement_400) (fun T93 hw l_T93 H locs h => ?_)
    have f_a0 := l_T93.is f_a0
    have hle := hle.tr l_T93
    refine lv_goto (tgt := 600) X.1 X.2.1 dX12_stepOfStatement_403 (by decide) ?_
    exact j600  T93 _ _ ls (lv_sub hl [] rfl) h hle f_a0 hw
  have hw := hw.2 c92
  by_cases c94 : x1 = 60
  · have hw := hw.1 c94
    refine lv_tableIn (off := 405) (tgt := 406) X.1 X.2.1 dX12_stepOfStatement_1 (by rw [c94]; decide) (by rw [c94]; decide) (by rw [c94]; decide) (by decide) ?_
    refine lv_aload_n X.1 X.2.1 dX12_stepOfStatement_406 rfl (lv_at hl 0 rfl) ?_
    refine lv_iconst (v := 5) X.1 X.2.1 dX12_stepOfStatement_407 (by decide) ?_
    refine lv_bipush (v := 8) X.1 X.2.1 dX12_stepOfStatement_408 (by decide) ?_
    refine lv_iload_n X.1 X.2.1 dX12_stepOfStatement_410 rfl (lv_at hl 2 rfl) ?_
    refine kp_callv X h (kp_runV (rm := { frames := 0, cells := 0, slots := 0, locals := 0 }) (mc := 0) (ms := 0) (rest := []) (Qc := fun A => kp_Qv D cy A S _) X h (c_X12_opens l D cy ad S a0 5 8 x2 _ h.2.2.2 f_a0 hw) f_a0 cv_12_714 ⟨by decide, by decide, rfl, rfl, by decide, by decide⟩ rfl hl.1 rfl (Nat.le_of_ble_eq_true rfl) dX12_stepOfStatement_411) (fun T95 hw l_T95 H locs h => ?_)
    have f_a0 := l_T95.is f_a0
    have hle := hle.tr l_T95
    refine lv_goto (tgt := 600) X.1 X.2.1 dX12_stepOfStatement_414 (by decide) ?_
    exact j600  T95 _ _ ls (lv_sub hl [] rfl) h hle f_a0 hw
  have hw := hw.2 c94
  by_cases c96 : x1 = 61
  · have hw := hw.1 c96
    refine lv_tableIn (off := 416) (tgt := 417) X.1 X.2.1 dX12_stepOfStatement_1 (by rw [c96]; decide) (by rw [c96]; decide) (by rw [c96]; decide) (by decide) ?_
    refine lv_aload_n X.1 X.2.1 dX12_stepOfStatement_417 rfl (lv_at hl 0 rfl) ?_
    refine lv_aload_n X.1 X.2.1 dX12_stepOfStatement_418 rfl (lv_at hl 0 rfl) ?_
    refine kp_calli X h (kp_runV (rm := { frames := 0, cells := 0, slots := 0, locals := 0 }) (mc := 0) (ms := 0) (rest := [.ref a0]) (Qc := fun A => kp_Qi D cy A S _) X h (c_X12_pop l D cy ad S a0 _ h.2.2.2 f_a0 hw) f_a0 cv_12_718 ⟨by decide, by decide, rfl, rfl, by decide, by decide⟩ rfl hl.1 rfl (Nat.le_of_ble_eq_true rfl) dX12_stepOfStatement_419) (fun y98 T97 hw l_T97 H locs h => ?_)
    have f_a0 := l_T97.is f_a0
    have hle := hle.tr l_T97
    refine lv_if_eq (tgt := 429) X.1 X.2.1 dX12_stepOfStatement_422 (by decide) (fun c99 => ?_) (fun c99 => ?_)
    · have hw := hw.1 c99
      refine lv_iconst (v := 0) X.1 X.2.1 dX12_stepOfStatement_429 (by decide) ?_
      exact j430 0 a0 T97 _ _ ls (lv_sub hl [] rfl) h hle f_a0 f_a0 hw
    · have hw := hw.2 c99
      refine lv_iconst (v := 1) X.1 X.2.1 dX12_stepOfStatement_425 (by decide) ?_
      refine lv_goto (tgt := 430) X.1 X.2.1 dX12_stepOfStatement_426 (by decide) ?_
      exact j430 1 a0 T97 _ _ ls (lv_sub hl [] rfl) h hle f_a0 f_a0 hw
  have hw := hw.2 c96
  have t_c1 := lv_neT (a := 30) c1 (by decide)
  have t_c5 := lv_neT (a := 31) c5 (by decide)
  have t_c9 := lv_neT (a := 32) c9 (by decide)
  have t_c11 := lv_neT (a := 33) c11 (by decide)
  have t_c13 := lv_neT (a := 34) c13 (by decide)
  have t_c15 := lv_neT (a := 35) c15 (by decide)
  have t_c17 := lv_neT (a := 36) c17 (by decide)
  have t_c21 := lv_neT (a := 37) c21 (by decide)
  have t_c23 := lv_neT (a := 38) c23 (by decide)
  have t_c29 := lv_neT (a := 39) c29 (by decide)
  have t_c30 := lv_neT (a := 40) c30 (by decide)
  have t_c31 := lv_neT (a := 41) c31 (by decide)
  have t_c33 := lv_neT (a := 42) c33 (by decide)
  have t_c37 := lv_neT (a := 43) c37 (by decide)
  have t_c39 := lv_neT (a := 44) c39 (by decide)
  have t_c43 := lv_neT (a := 45) c43 (by decide)
  have t_c47 := lv_neT (a := 46) c47 (by decide)
  have t_c49 := lv_neT (a := 47) c49 (by decide)
  have t_c51 := lv_neT (a := 48) c51 (by decide)
  have t_c53 := lv_neT (a := 49) c53 (by decide)
  have t_c57 := lv_neT (a := 50) c57 (by decide)
  have t_c61 := lv_neT (a := 51) c61 (by decide)
  have t_c66 := lv_neT (a := 52) c66 (by decide)
  have t_c68 := lv_neT (a := 53) c68 (by decide)
  have t_c73 := lv_neT (a := 54) c73 (by decide)
  have t_c74 := lv_neT (a := 55) c74 (by decide)
  have t_c76 := lv_neT (a := 56) c76 (by decide)
  have t_c81 := lv_neT (a := 57) c81 (by decide)
  have t_c87 := lv_neT (a := 58) c87 (by decide)
  have t_c92 := lv_neT (a := 59) c92 (by decide)
  have t_c94 := lv_neT (a := 60) c94 (by decide)
  have t_c96 := lv_neT (a := 61) c96 (by decide)
  refine lv_tableOut (tgt := 594) X.1 X.2.1 dX12_stepOfStatement_1 (by omega) (by decide) ?_
  exact j594  S _ _ ls (lv_sub hl [0, 2, 3] rfl) h hle f_a0 hw
theorem dX12_step_0 : decode cX12_step 0 = .ok (.aload_n 0, 1) := by decide +kernel
theorem dX12_step_1 : decode cX12_step 1 = .ok (.getfield 112, 3) := by decide +kernel
theorem dX12_step_4 : decode cX12_step 4 = .ok (.aload_n 0, 1) := by decide +kernel
theorem dX12_step_5 : decode cX12_step 5 = .ok (.getfield 648, 3) := by decide +kernel
theorem dX12_step_8 : decode cX12_step 8 = .ok (.iaload, 1) := by decide +kernel
theorem dX12_step_9 : decode cX12_step 9 = .ok (.istore_n 1, 1) := by decide +kernel
theorem dX12_step_10 : decode cX12_step 10 = .ok (.aload_n 0, 1) := by decide +kernel
theorem dX12_step_11 : decode cX12_step 11 = .ok (.getfield 115, 3) := by decide +kernel
theorem dX12_step_14 : decode cX12_step 14 = .ok (.aload_n 0, 1) := by decide +kernel
theorem dX12_step_15 : decode cX12_step 15 = .ok (.getfield 648, 3) := by decide +kernel
theorem dX12_step_18 : decode cX12_step 18 = .ok (.iaload, 1) := by decide +kernel
theorem dX12_step_19 : decode cX12_step 19 = .ok (.istore_n 2, 1) := by decide +kernel
theorem dX12_step_20 : decode cX12_step 20 = .ok (.aload_n 0, 1) := by decide +kernel
theorem dX12_step_21 : decode cX12_step 21 = .ok (.getfield 118, 3) := by decide +kernel
theorem dX12_step_24 : decode cX12_step 24 = .ok (.aload_n 0, 1) := by decide +kernel
theorem dX12_step_25 : decode cX12_step 25 = .ok (.getfield 648, 3) := by decide +kernel
theorem dX12_step_28 : decode cX12_step 28 = .ok (.iaload, 1) := by decide +kernel
theorem dX12_step_29 : decode cX12_step 29 = .ok (.istore_n 3, 1) := by decide +kernel
theorem dX12_step_30 : decode cX12_step 30 = .ok (.aload_n 0, 1) := by decide +kernel
theorem dX12_step_31 : decode cX12_step 31 = .ok (.dup, 1) := by decide +kernel
theorem dX12_step_32 : decode cX12_step 32 = .ok (.getfield 648, 3) := by decide +kernel
theorem dX12_step_35 : decode cX12_step 35 = .ok (.iconst 1, 1) := by decide +kernel
theorem dX12_step_36 : decode cX12_step 36 = .ok (.iadd, 1) := by decide +kernel
theorem dX12_step_37 : decode cX12_step 37 = .ok (.putfield 648, 3) := by decide +kernel
theorem dX12_step_40 : decode cX12_step 40 = .ok (.iload_n 1, 1) := by decide +kernel
theorem dX12_step_41 : decode cX12_step 41 = .ok (.bipush 30, 2) := by decide +kernel
theorem dX12_step_43 : decode cX12_step 43 = .ok (.if_icmp .lt 11, 3) := by decide +kernel
theorem dX12_step_46 : decode cX12_step 46 = .ok (.aload_n 0, 1) := by decide +kernel
theorem dX12_step_47 : decode cX12_step 47 = .ok (.iload_n 1, 1) := by decide +kernel
theorem dX12_step_48 : decode cX12_step 48 = .ok (.iload_n 2, 1) := by decide +kernel
theorem dX12_step_49 : decode cX12_step 49 = .ok (.iload_n 3, 1) := by decide +kernel
theorem dX12_step_50 : decode cX12_step 50 = .ok (.invokevirtual 721, 3) := by decide +kernel
theorem dX12_step_53 : decode cX12_step 53 = .ok (.return_, 1) := by decide +kernel
theorem dX12_step_54 : decode cX12_step 54 = .ok (.iload_n 1, 1) := by decide +kernel
theorem dX12_step_55 : decode cX12_step 55 = .ok (.tableswitch 376 1 26 #[117, 125, 146, 167, 180, 192, 376, 376, 376, 376, 376, 376, 376, 376, 376, 211, 232, 253, 272, 281, 295, 337, 309, 323, 344, 360], 117) := by decide +kernel
theorem dX12_step_172 : decode cX12_step 172 = .ok (.aload_n 0, 1) := by decide +kernel
theorem dX12_step_173 : decode cX12_step 173 = .ok (.iload_n 2, 1) := by decide +kernel
theorem dX12_step_174 : decode cX12_step 174 = .ok (.invokevirtual 708, 3) := by decide +kernel
theorem dX12_step_177 : decode cX12_step 177 = .ok (.goto 259, 3) := by decide +kernel
theorem dX12_step_180 : decode cX12_step 180 = .ok (.aload_n 0, 1) := by decide +kernel
theorem dX12_step_181 : decode cX12_step 181 = .ok (.aload_n 0, 1) := by decide +kernel
theorem dX12_step_182 : decode cX12_step 182 = .ok (.getfield 236, 3) := by decide +kernel
theorem dX12_step_185 : decode cX12_step 185 = .ok (.bipush 24, 2) := by decide +kernel
theorem dX12_step_187 : decode cX12_step 187 = .ok (.aload_n 0, 1) := by decide +kernel
theorem dX12_step_188 : decode cX12_step 188 = .ok (.getfield 699, 3) := by decide +kernel
theorem dX12_step_191 : decode cX12_step 191 = .ok (.imul, 1) := by decide +kernel
theorem dX12_step_192 : decode cX12_step 192 = .ok (.iload_n 2, 1) := by decide +kernel
theorem dX12_step_193 : decode cX12_step 193 = .ok (.iadd, 1) := by decide +kernel
theorem dX12_step_194 : decode cX12_step 194 = .ok (.iaload, 1) := by decide +kernel
theorem dX12_step_195 : decode cX12_step 195 = .ok (.invokevirtual 708, 3) := by decide +kernel
theorem dX12_step_198 : decode cX12_step 198 = .ok (.goto 238, 3) := by decide +kernel
theorem dX12_step_201 : decode cX12_step 201 = .ok (.aload_n 0, 1) := by decide +kernel
theorem dX12_step_202 : decode cX12_step 202 = .ok (.getfield 236, 3) := by decide +kernel
theorem dX12_step_205 : decode cX12_step 205 = .ok (.bipush 24, 2) := by decide +kernel
theorem dX12_step_207 : decode cX12_step 207 = .ok (.aload_n 0, 1) := by decide +kernel
theorem dX12_step_208 : decode cX12_step 208 = .ok (.getfield 699, 3) := by decide +kernel
theorem dX12_step_211 : decode cX12_step 211 = .ok (.imul, 1) := by decide +kernel
theorem dX12_step_212 : decode cX12_step 212 = .ok (.iload_n 2, 1) := by decide +kernel
theorem dX12_step_213 : decode cX12_step 213 = .ok (.iadd, 1) := by decide +kernel
theorem dX12_step_214 : decode cX12_step 214 = .ok (.aload_n 0, 1) := by decide +kernel
theorem dX12_step_215 : decode cX12_step 215 = .ok (.invokevirtual 718, 3) := by decide +kernel
theorem dX12_step_218 : decode cX12_step 218 = .ok (.iastore, 1) := by decide +kernel
theorem dX12_step_219 : decode cX12_step 219 = .ok (.goto 217, 3) := by decide +kernel
theorem dX12_step_222 : decode cX12_step 222 = .ok (.aload_n 0, 1) := by decide +kernel
theorem dX12_step_223 : decode cX12_step 223 = .ok (.dup, 1) := by decide +kernel
theorem dX12_step_224 : decode cX12_step 224 = .ok (.getfield 604, 3) := by decide +kernel
theorem dX12_step_227 : decode cX12_step 227 = .ok (.iconst 1, 1) := by decide +kernel
theorem dX12_step_228 : decode cX12_step 228 = .ok (.isub, 1) := by decide +kernel
theorem dX12_step_229 : decode cX12_step 229 = .ok (.putfield 604, 3) := by decide +kernel
theorem dX12_step_232 : decode cX12_step 232 = .ok (.goto 204, 3) := by decide +kernel
theorem dX12_step_235 : decode cX12_step 235 = .ok (.aload_n 0, 1) := by decide +kernel
theorem dX12_step_236 : decode cX12_step 236 = .ok (.aload_n 0, 1) := by decide +kernel
theorem dX12_step_237 : decode cX12_step 237 = .ok (.invokevirtual 718, 3) := by decide +kernel
theorem dX12_step_240 : decode cX12_step 240 = .ok (.ineg, 1) := by decide +kernel
theorem dX12_step_241 : decode cX12_step 241 = .ok (.invokevirtual 708, 3) := by decide +kernel
theorem dX12_step_244 : decode cX12_step 244 = .ok (.goto 192, 3) := by decide +kernel
theorem dX12_step_247 : decode cX12_step 247 = .ok (.aload_n 0, 1) := by decide +kernel
theorem dX12_step_248 : decode cX12_step 248 = .ok (.aload_n 0, 1) := by decide +kernel
theorem dX12_step_249 : decode cX12_step 249 = .ok (.invokevirtual 718, 3) := by decide +kernel
theorem dX12_step_252 : decode cX12_step 252 = .ok (.ifCond .ne 7, 3) := by decide +kernel
theorem dX12_step_255 : decode cX12_step 255 = .ok (.iconst 1, 1) := by decide +kernel
theorem dX12_step_256 : decode cX12_step 256 = .ok (.goto 4, 3) := by decide +kernel
theorem dX12_step_259 : decode cX12_step 259 = .ok (.iconst 0, 1) := by decide +kernel
theorem dX12_step_260 : decode cX12_step 260 = .ok (.invokevirtual 708, 3) := by decide +kernel
theorem dX12_step_263 : decode cX12_step 263 = .ok (.goto 173, 3) := by decide +kernel
theorem dX12_step_266 : decode cX12_step 266 = .ok (.aload_n 0, 1) := by decide +kernel
theorem dX12_step_267 : decode cX12_step 267 = .ok (.aload_n 0, 1) := by decide +kernel
theorem dX12_step_268 : decode cX12_step 268 = .ok (.invokevirtual 718, 3) := by decide +kernel
theorem dX12_step_271 : decode cX12_step 271 = .ok (.ifCond .eq 7, 3) := by decide +kernel
theorem dX12_step_274 : decode cX12_step 274 = .ok (.iconst 1, 1) := by decide +kernel
theorem dX12_step_275 : decode cX12_step 275 = .ok (.goto 4, 3) := by decide +kernel
theorem dX12_step_278 : decode cX12_step 278 = .ok (.iconst 0, 1) := by decide +kernel
theorem dX12_step_279 : decode cX12_step 279 = .ok (.iconst 1, 1) := by decide +kernel
theorem dX12_step_280 : decode cX12_step 280 = .ok (.iload_n 2, 1) := by decide +kernel
theorem dX12_step_281 : decode cX12_step 281 = .ok (.invokevirtual 724, 3) := by decide +kernel
theorem dX12_step_284 : decode cX12_step 284 = .ok (.goto 152, 3) := by decide +kernel
theorem dX12_step_287 : decode cX12_step 287 = .ok (.aload_n 0, 1) := by decide +kernel
theorem dX12_step_288 : decode cX12_step 288 = .ok (.aload_n 0, 1) := by decide +kernel
theorem dX12_step_289 : decode cX12_step 289 = .ok (.invokevirtual 718, 3) := by decide +kernel
theorem dX12_step_292 : decode cX12_step 292 = .ok (.ifCond .ne 7, 3) := by decide +kernel
theorem dX12_step_295 : decode cX12_step 295 = .ok (.iconst 1, 1) := by decide +kernel
theorem dX12_step_296 : decode cX12_step 296 = .ok (.goto 4, 3) := by decide +kernel
theorem dX12_step_299 : decode cX12_step 299 = .ok (.iconst 0, 1) := by decide +kernel
theorem dX12_step_300 : decode cX12_step 300 = .ok (.iconst 0, 1) := by decide +kernel
theorem dX12_step_301 : decode cX12_step 301 = .ok (.iload_n 2, 1) := by decide +kernel
theorem dX12_step_302 : decode cX12_step 302 = .ok (.invokevirtual 724, 3) := by decide +kernel
theorem dX12_step_305 : decode cX12_step 305 = .ok (.goto 131, 3) := by decide +kernel
theorem dX12_step_308 : decode cX12_step 308 = .ok (.aload_n 0, 1) := by decide +kernel
theorem dX12_step_309 : decode cX12_step 309 = .ok (.aload_n 0, 1) := by decide +kernel
theorem dX12_step_310 : decode cX12_step 310 = .ok (.invokevirtual 718, 3) := by decide +kernel
theorem dX12_step_313 : decode cX12_step 313 = .ok (.ifCond .eq 7, 3) := by decide +kernel
theorem dX12_step_316 : decode cX12_step 316 = .ok (.iconst 1, 1) := by decide +kernel
theorem dX12_step_317 : decode cX12_step 317 = .ok (.goto 4, 3) := by decide +kernel
theorem dX12_step_320 : decode cX12_step 320 = .ok (.iconst 0, 1) := by decide +kernel
theorem dX12_step_321 : decode cX12_step 321 = .ok (.invokevirtual 708, 3) := by decide +kernel
theorem dX12_step_324 : decode cX12_step 324 = .ok (.goto 112, 3) := by decide +kernel
theorem dX12_step_327 : decode cX12_step 327 = .ok (.aload_n 0, 1) := by decide +kernel
theorem dX12_step_328 : decode cX12_step 328 = .ok (.iload_n 2, 1) := by decide +kernel
theorem dX12_step_329 : decode cX12_step 329 = .ok (.iload_n 3, 1) := by decide +kernel
theorem dX12_step_330 : decode cX12_step 330 = .ok (.invokevirtual 728, 3) := by decide +kernel
theorem dX12_step_333 : decode cX12_step 333 = .ok (.goto 103, 3) := by decide +kernel
theorem dX12_step_336 : decode cX12_step 336 = .ok (.aload_n 0, 1) := by decide +kernel
theorem dX12_step_337 : decode cX12_step 337 = .ok (.aload_n 0, 1) := by decide +kernel
theorem dX12_step_338 : decode cX12_step 338 = .ok (.invokevirtual 718, 3) := by decide +kernel
theorem dX12_step_341 : decode cX12_step 341 = .ok (.bipush 6, 2) := by decide +kernel
theorem dX12_step_343 : decode cX12_step 343 = .ok (.iload_n 1, 1) := by decide +kernel
theorem dX12_step_344 : decode cX12_step 344 = .ok (.invokevirtual 730, 3) := by decide +kernel
theorem dX12_step_347 : decode cX12_step 347 = .ok (.goto 89, 3) := by decide +kernel
theorem dX12_step_350 : decode cX12_step 350 = .ok (.aload_n 0, 1) := by decide +kernel
theorem dX12_step_351 : decode cX12_step 351 = .ok (.aload_n 0, 1) := by decide +kernel
theorem dX12_step_352 : decode cX12_step 352 = .ok (.invokevirtual 718, 3) := by decide +kernel
theorem dX12_step_355 : decode cX12_step 355 = .ok (.bipush 7, 2) := by decide +kernel
theorem dX12_step_357 : decode cX12_step 357 = .ok (.iload_n 1, 1) := by decide +kernel
theorem dX12_step_358 : decode cX12_step 358 = .ok (.invokevirtual 730, 3) := by decide +kernel
theorem dX12_step_361 : decode cX12_step 361 = .ok (.goto 75, 3) := by decide +kernel
theorem dX12_step_364 : decode cX12_step 364 = .ok (.aload_n 0, 1) := by decide +kernel
theorem dX12_step_365 : decode cX12_step 365 = .ok (.aload_n 0, 1) := by decide +kernel
theorem dX12_step_366 : decode cX12_step 366 = .ok (.invokevirtual 718, 3) := by decide +kernel
theorem dX12_step_369 : decode cX12_step 369 = .ok (.bipush 8, 2) := by decide +kernel
theorem dX12_step_371 : decode cX12_step 371 = .ok (.iload_n 1, 1) := by decide +kernel
theorem dX12_step_372 : decode cX12_step 372 = .ok (.invokevirtual 730, 3) := by decide +kernel
theorem dX12_step_375 : decode cX12_step 375 = .ok (.goto 61, 3) := by decide +kernel
theorem dX12_step_378 : decode cX12_step 378 = .ok (.aload_n 0, 1) := by decide +kernel
theorem dX12_step_379 : decode cX12_step 379 = .ok (.aload_n 0, 1) := by decide +kernel
theorem dX12_step_380 : decode cX12_step 380 = .ok (.invokevirtual 718, 3) := by decide +kernel
theorem dX12_step_383 : decode cX12_step 383 = .ok (.bipush 6, 2) := by decide +kernel
theorem dX12_step_385 : decode cX12_step 385 = .ok (.iload_n 1, 1) := by decide +kernel
theorem dX12_step_386 : decode cX12_step 386 = .ok (.invokevirtual 730, 3) := by decide +kernel
theorem dX12_step_389 : decode cX12_step 389 = .ok (.goto 47, 3) := by decide +kernel
theorem dX12_step_392 : decode cX12_step 392 = .ok (.aload_n 0, 1) := by decide +kernel
theorem dX12_step_393 : decode cX12_step 393 = .ok (.invokevirtual 733, 3) := by decide +kernel
theorem dX12_step_396 : decode cX12_step 396 = .ok (.goto 40, 3) := by decide +kernel
theorem dX12_step_399 : decode cX12_step 399 = .ok (.aload_n 0, 1) := by decide +kernel
theorem dX12_step_400 : decode cX12_step 400 = .ok (.aload_n 0, 1) := by decide +kernel
theorem dX12_step_401 : decode cX12_step 401 = .ok (.getfield 221, 3) := by decide +kernel
theorem dX12_step_404 : decode cX12_step 404 = .ok (.aload_n 0, 1) := by decide +kernel
theorem dX12_step_405 : decode cX12_step 405 = .ok (.getfield 699, 3) := by decide +kernel
theorem dX12_step_408 : decode cX12_step 408 = .ok (.iaload, 1) := by decide +kernel
theorem dX12_step_409 : decode cX12_step 409 = .ok (.invokevirtual 708, 3) := by decide +kernel
theorem dX12_step_412 : decode cX12_step 412 = .ok (.goto 24, 3) := by decide +kernel
theorem dX12_step_415 : decode cX12_step 415 = .ok (.aload_n 0, 1) := by decide +kernel
theorem dX12_step_416 : decode cX12_step 416 = .ok (.aload_n 0, 1) := by decide +kernel
theorem dX12_step_417 : decode cX12_step 417 = .ok (.getfield 224, 3) := by decide +kernel
theorem dX12_step_420 : decode cX12_step 420 = .ok (.aload_n 0, 1) := by decide +kernel
theorem dX12_step_421 : decode cX12_step 421 = .ok (.getfield 699, 3) := by decide +kernel
theorem dX12_step_424 : decode cX12_step 424 = .ok (.iaload, 1) := by decide +kernel
theorem dX12_step_425 : decode cX12_step 425 = .ok (.invokevirtual 708, 3) := by decide +kernel
theorem dX12_step_428 : decode cX12_step 428 = .ok (.goto 8, 3) := by decide +kernel
theorem dX12_step_431 : decode cX12_step 431 = .ok (.aload_n 0, 1) := by decide +kernel
theorem dX12_step_432 : decode cX12_step 432 = .ok (.iload_n 1, 1) := by decide +kernel
theorem dX12_step_433 : decode cX12_step 433 = .ok (.invokevirtual 736, 3) := by decide +kernel
theorem dX12_step_436 : decode cX12_step 436 = .ok (.return_, 1) := by decide +kernel
def wX12_step_b436 (a0 : Nat)  (Sn : kp_S) (post : kp_S → Prop) : Prop :=
  post Sn
def wX12_step_b260 (a0 : Nat) (xt0 : Int32) (at1 : Nat)  (Sn : kp_S) (post : kp_S → Prop) : Prop :=
  wX12_push at1 xt0 Sn (fun T2001 =>
  wX12_step_b436 a0   T2001 post)
def wX12_step_b431 (a0 : Nat) (xn1 : Int32)  (Sn : kp_S) (post : kp_S → Prop) : Prop :=
  wX12_reckon a0 xn1 Sn (fun T3001 =>
  wX12_step_b436 a0   T3001 post)
def wX12_step_b279 (a0 : Nat) (xn2 : Int32) (xt0 : Int32) (at1 : Nat)  (Sn : kp_S) (post : kp_S → Prop) : Prop :=
  wX12_jumpIf at1 xt0 1 xn2 Sn (fun T4001 =>
  wX12_step_b436 a0   T4001 post)
def wX12_step_b300 (a0 : Nat) (xn2 : Int32) (xt0 : Int32) (at1 : Nat)  (Sn : kp_S) (post : kp_S → Prop) : Prop :=
  wX12_jumpIf at1 xt0 0 xn2 Sn (fun T5001 =>
  wX12_step_b436 a0   T5001 post)
def wX12_step_b321 (a0 : Nat) (xt0 : Int32) (at1 : Nat)  (Sn : kp_S) (post : kp_S → Prop) : Prop :=
  wX12_push at1 xt0 Sn (fun T6001 =>
  wX12_step_b436 a0   T6001 post)
def wX12_step (a0 : Nat) (S : kp_S) (post : kp_S → Prop) : Prop :=
  ∃ b1 : Nat, kp_R S 2448 a0 = some b1 ∧
  vp_in (kp_I S 2510 a0) (kp_N S b1) ∧
  ∀ y2 : Int32, y2 = (kp_A S b1 (kp_I S 2510 a0).toNatClampNeg) →
  ∃ b3 : Nat, kp_R S 2449 a0 = some b3 ∧
  vp_in (kp_I S 2510 a0) (kp_N S b3) ∧
  ∀ y4 : Int32, y4 = (kp_A S b3 (kp_I S 2510 a0).toNatClampNeg) →
  ∃ b5 : Nat, kp_R S 2450 a0 = some b5 ∧
  vp_in (kp_I S 2510 a0) (kp_N S b5) ∧
  ∀ y6 : Int32, y6 = (kp_A S b5 (kp_I S 2510 a0).toNatClampNeg) →
  ∀ T7 : kp_S, T7 = kp_sI S 2510 a0 ((kp_I S 2510 a0) + 1) →
  ((y2 < 30 →
  ((y2 = 1 →
  wX12_push a0 y4 T7 (fun T9 =>
  wX12_step_b436 a0   T9 post)) ∧ (¬ y2 = 1 →
  ((y2 = 2 →
  ∃ b11 : Nat, kp_R T7 2509 a0 = some b11 ∧
  vp_in ((24 * (kp_I T7 2501 a0)) + y4) (kp_N T7 b11) ∧
  wX12_push a0 (kp_A T7 b11 ((24 * (kp_I T7 2501 a0)) + y4).toNatClampNeg) T7 (fun T12 =>
  wX12_step_b436 a0   T12 post)) ∧ (¬ y2 = 2 →
  ((y2 = 3 →
  ∃ b14 : Nat, kp_R T7 2509 a0 = some b14 ∧
  wX12_pop a0 T7 (fun y16 T15 =>
  vp_in ((24 * (kp_I T7 2501 a0)) + y4) (kp_N T15 b14) ∧ ∀ T17 : kp_S, T17 = kp_sA T15 b14 (upd (kp_A T15 b14) (((24 * (kp_I T7 2501 a0)) + y4).toNatClampNeg) y16) →
  wX12_step_b436 a0   T17 post)) ∧ (¬ y2 = 3 →
  ((y2 = 4 →
  ∀ T19 : kp_S, T19 = kp_sI T7 2516 a0 ((kp_I T7 2516 a0) - 1) →
  wX12_step_b436 a0   T19 post) ∧ (¬ y2 = 4 →
  ((y2 = 5 →
  wX12_pop a0 T7 (fun y22 T21 =>
  wX12_push a0 (-y22) T21 (fun T23 =>
  wX12_step_b436 a0   T23 post))) ∧ (¬ y2 = 5 →
  ((y2 = 6 →
  wX12_pop a0 T7 (fun y26 T25 =>
  ((¬ y26 = 0 →
  wX12_step_b260 a0 0 a0  T25 post) ∧ (y26 = 0 →
  wX12_step_b260 a0 1 a0  T25 post)))) ∧ (¬ y2 = 6 →
  ((y2 = 7 →
  wX12_step_b431 a0 y2  T7 post) ∧ (¬ y2 = 7 →
  ((y2 = 8 →
  wX12_step_b431 a0 y2  T7 post) ∧ (¬ y2 = 8 →
  ((y2 = 9 →
  wX12_step_b431 a0 y2  T7 post) ∧ (¬ y2 = 9 →
  ((y2 = 10 →
  wX12_step_b431 a0 y2  T7 post) ∧ (¬ y2 = 10 →
  ((y2 = 11 →
  wX12_step_b431 a0 y2  T7 post) ∧ (¬ y2 = 11 →
  ((y2 = 12 →
  wX12_step_b431 a0 y2  T7 post) ∧ (¬ y2 = 12 →
  ((y2 = 13 →
  wX12_step_b431 a0 y2  T7 post) ∧ (¬ y2 = 13 →
  ((y2 = 14 →
  wX12_step_b431 a0 y2  T7 post) ∧ (¬ y2 = 14 →
  ((y2 = 15 →
  wX12_step_b431 a0 y2  T7 post) ∧ (¬ y2 = 15 →
  ((y2 = 16 →
  wX12_pop a0 T7 (fun y39 T38 =>
  ((y39 = 0 →
  wX12_step_b279 a0 y4 0 a0  T38 post) ∧ (¬ y39 = 0 →
  wX12_step_b279 a0 y4 1 a0  T38 post)))) ∧ (¬ y2 = 16 →
  ((y2 = 17 →
  wX12_pop a0 T7 (fun y43 T42 =>
  ((¬ y43 = 0 →
  wX12_step_b300 a0 y4 0 a0  T42 post) ∧ (y43 = 0 →
  wX12_step_b300 a0 y4 1 a0  T42 post)))) ∧ (¬ y2 = 17 →
  ((y2 = 18 →
  wX12_pop a0 T7 (fun y47 T46 =>
  ((y47 = 0 →
  wX12_step_b321 a0 0 a0  T46 post) ∧ (¬ y47 = 0 →
  wX12_step_b321 a0 1 a0  T46 post)))) ∧ (¬ y2 = 18 →
  ((y2 = 19 →
  wX12_calls a0 y4 y6 T7 (fun T50 =>
  wX12_step_b436 a0   T50 post)) ∧ (¬ y2 = 19 →
  ((y2 = 20 →
  wX12_pop a0 T7 (fun y53 T52 =>
  wX12_answers a0 y53 6 y2 T52 (fun T54 =>
  wX12_step_b436 a0   T54 post))) ∧ (¬ y2 = 20 →
  ((y2 = 21 →
  wX12_pop a0 T7 (fun y57 T56 =>
  wX12_answers a0 y57 7 y2 T56 (fun T58 =>
  wX12_step_b436 a0   T58 post))) ∧ (¬ y2 = 21 →
  ((y2 = 22 →
  wX12_answersGate a0 T7 (fun T60 =>
  wX12_step_b436 a0   T60 post)) ∧ (¬ y2 = 22 →
  ((y2 = 23 →
  wX12_pop a0 T7 (fun y63 T62 =>
  wX12_answers a0 y63 8 y2 T62 (fun T64 =>
  wX12_step_b436 a0   T64 post))) ∧ (¬ y2 = 23 →
  ((y2 = 24 →
  wX12_pop a0 T7 (fun y67 T66 =>
  wX12_answers a0 y67 6 y2 T66 (fun T68 =>
  wX12_step_b436 a0   T68 post))) ∧ (¬ y2 = 24 →
  ((y2 = 25 →
  ∃ b70 : Nat, kp_R T7 2504 a0 = some b70 ∧
  vp_in (kp_I T7 2501 a0) (kp_N T7 b70) ∧
  wX12_push a0 (kp_A T7 b70 (kp_I T7 2501 a0).toNatClampNeg) T7 (fun T71 =>
  wX12_step_b436 a0   T71 post)) ∧ (¬ y2 = 25 →
  ((y2 = 26 →
  ∃ b73 : Nat, kp_R T7 2505 a0 = some b73 ∧
  vp_in (kp_I T7 2501 a0) (kp_N T7 b73) ∧
  wX12_push a0 (kp_A T7 b73 (kp_I T7 2501 a0).toNatClampNeg) T7 (fun T74 =>
  wX12_step_b436 a0   T74 post)) ∧ (¬ y2 = 26 →
  wX12_step_b431 a0 y2  T7 post))))))))))))))))))))))))))))))))))))))))))))))))))))) ∧ (¬ y2 < 30 →
  wX12_stepOfStatement a0 y2 y4 y6 T7 (fun T75 =>
  post T75)))
set_option maxHeartbeats 4000000 in
set_option maxRecDepth 100000 in
theorem c_X12_step (l : Launch) (D : va_G) (cy : Nat → ClassId) (ad : (Nat → Nat) × (Nat → Nat)) (S : kp_S) (a0 : Nat) (post : kp_S → Prop) (hS : kp_ok S) (f_a0 : kp_is S a0 12) (hw : wX12_step a0 S post) : kp_M l yX12_step cX12_step 4 none { frames := 8, cells := 0, slots := 0, locals := 181 } D cy ad S [.ref a0] 0 0 (fun A => kp_Qv D cy A S post) := by
  refine kp_start (own := RX12) (by decide) rfl (Nat.le_of_ble_eq_true rfl) hS ?_
  intro p e s m below meth c A ls X hr hlocks hname h hl
  have hle : kp_le S S := kp_le.rf
  have hl : lv_has ls 4 [(0, .ref a0)] := hl
  have j436 : ∀  (Sn : kp_S) (H : Heap) (locs : List Loc) (ls : Array Slot), lv_has ls 4 [] → kp_H D cy A Sn s.heap H locs → kp_le S Sn → kp_is Sn a0 12 → wX12_step_b436 a0   Sn post → W p l e { frames := 8, cells := 0, slots := 0, locals := 181 } s m ([.ref a0] : List Value).toArray below meth c H locs 0 0 (MQ below (kp_Qv D cy A S post) ([.ref a0] : List Value).toArray s 0 0 A) (F0 m 436 ls []) := by
    intro  Sn H locs ls hl h hle f_a0 hw
    unfold wX12_step_b436 at hw
    exact kp_retv X hr hlocks h hle hw dX12_step_436
  have j260 : ∀ (xt0 : Int32) (at1 : Nat) (Sn : kp_S) (H : Heap) (locs : List Loc) (ls : Array Slot), lv_has ls 4 [] → kp_H D cy A Sn s.heap H locs → kp_le S Sn → kp_is Sn at1 12 → kp_is Sn a0 12 → wX12_step_b260 a0 xt0 at1  Sn post → W p l e { frames := 8, cells := 0, slots := 0, locals := 181 } s m ([.ref a0] : List Value).toArray below meth c H locs 0 0 (MQ below (kp_Qv D cy A S post) ([.ref a0] : List Value).toArray s 0 0 A) (F0 m 260 ls [.int xt0, .ref at1]) := by
    intro xt0 at1 Sn H locs ls hl h hle f_at1 f_a0 hw
    unfold wX12_step_b260 at hw
    refine kp_callv X h (kp_runV (rm := { frames := 0, cells := 0, slots := 0, locals := 0 }) (mc := 0) (ms := 0) (rest := []) (Qc := fun A => kp_Qv D cy A Sn _) X h (c_X12_push l D cy ad Sn at1 xt0 _ h.2.2.2 f_at1 hw) f_at1 cv_12_708 ⟨by decide, by decide, rfl, rfl, by decide, by decide⟩ rfl hl.1 rfl (Nat.le_of_ble_eq_true rfl) dX12_step_260) (fun T2001 hw l_T2001 H locs h => ?_)
    have f_at1 := l_T2001.is f_at1
    have f_a0 := l_T2001.is f_a0
    have hle := hle.tr l_T2001
    refine lv_goto (tgt := 436) X.1 X.2.1 dX12_step_263 (by decide) ?_
    exact j436  T2001 H locs ls (lv_sub hl [] rfl) h hle f_a0 hw
  have j431 : ∀ (xn1 : Int32) (Sn : kp_S) (H : Heap) (locs : List Loc) (ls : Array Slot), lv_has ls 4 [(0, .ref a0), (1, .int xn1)] → kp_H D cy A Sn s.heap H locs → kp_le S Sn → kp_is Sn a0 12 → wX12_step_b431 a0 xn1  Sn post → W p l e { frames := 8, cells := 0, slots := 0, locals := 181 } s m ([.ref a0] : List Value).toArray below meth c H locs 0 0 (MQ below (kp_Qv D cy A S post) ([.ref a0] : List Value).toArray s 0 0 A) (F0 m 431 ls []) := by
    intro xn1 Sn H locs ls hl h hle f_a0 hw
    unfold wX12_step_b431 at hw
    refine lv_aload_n X.1 X.2.1 dX12_step_431 rfl (lv_at hl 0 rfl) ?_
    refine lv_iload_n X.1 X.2.1 dX12_step_432 rfl (lv_at hl 1 rfl) ?_
    refine kp_callv X h (kp_runV (rm := { frames := 6, cells := 0, slots := 0, locals := 130 }) (mc := 0) (ms := 0) (rest := []) (Qc := fun A => kp_Qv D cy A Sn _) X h (c_X12_reckon l D cy ad Sn a0 xn1 _ h.2.2.2 f_a0 hw) f_a0 cv_12_736 ⟨by decide, by decide, rfl, rfl, by decide, by decide⟩ rfl hl.1 rfl (Nat.le_of_ble_eq_true rfl) dX12_step_433) (fun T3001 hw l_T3001 H locs h => ?_)
    have f_a0 := l_T3001.is f_a0
    have hle := hle.tr l_T3001
    exact j436  T3001 H locs ls (lv_sub hl [] rfl) h hle f_a0 hw
  have j279 : ∀ (xn2 : Int32) (xt0 : Int32) (at1 : Nat) (Sn : kp_S) (H : Heap) (locs : List Loc) (ls : Array Slot), lv_has ls 4 [(2, .int xn2)] → kp_H D cy A Sn s.heap H locs → kp_le S Sn → kp_is Sn at1 12 → kp_is Sn a0 12 → wX12_step_b279 a0 xn2 xt0 at1  Sn post → W p l e { frames := 8, cells := 0, slots := 0, locals := 181 } s m ([.ref a0] : List Value).toArray below meth c H locs 0 0 (MQ below (kp_Qv D cy A S post) ([.ref a0] : List Value).toArray s 0 0 A) (F0 m 279 ls [.int xt0, .ref at1]) := by
    intro xn2 xt0 at1 Sn H locs ls hl h hle f_at1 f_a0 hw
    unfold wX12_step_b279 at hw
    refine lv_iconst (v := 1) X.1 X.2.1 dX12_step_279 (by decide) ?_
    refine lv_iload_n X.1 X.2.1 dX12_step_280 rfl (lv_at hl 0 rfl) ?_
    refine kp_callv X h (kp_runV (rm := { frames := 1, cells := 0, slots := 0, locals := 21 }) (mc := 0) (ms := 0) (rest := []) (Qc := fun A => kp_Qv D cy A Sn _) X h (c_X12_jumpIf l D cy ad Sn at1 xt0 1 xn2 _ h.2.2.2 f_at1 hw) f_at1 cv_12_724 ⟨by decide, by decide, rfl, rfl, by decide, by decide⟩ rfl hl.1 rfl (Nat.le_of_ble_eq_true rfl) dX12_step_281) (fun T4001 hw l_T4001 H locs h => ?_)
    have f_at1 := l_T4001.is f_at1
    have f_a0 := l_T4001.is f_a0
    have hle := hle.tr l_T4001
    refine lv_goto (tgt := 436) X.1 X.2.1 dX12_step_284 (by decide) ?_
    exact j436  T4001 H locs ls (lv_sub hl [] rfl) h hle f_a0 hw
  have j300 : ∀ (xn2 : Int32) (xt0 : Int32) (at1 : Nat) (Sn : kp_S) (H : Heap) (locs : List Loc) (ls : Array Slot), lv_has ls 4 [(2, .int xn2)] → kp_H D cy A Sn s.heap H locs → kp_le S Sn → kp_is Sn at1 12 → kp_is Sn a0 12 → wX12_step_b300 a0 xn2 xt0 at1  Sn post → W p l e { frames := 8, cells := 0, slots := 0, locals := 181 } s m ([.ref a0] : List Value).toArray below meth c H locs 0 0 (MQ below (kp_Qv D cy A S post) ([.ref a0] : List Value).toArray s 0 0 A) (F0 m 300 ls [.int xt0, .ref at1]) := by
    intro xn2 xt0 at1 Sn H locs ls hl h hle f_at1 f_a0 hw
    unfold wX12_step_b300 at hw
    refine lv_iconst (v := 0) X.1 X.2.1 dX12_step_300 (by decide) ?_
    refine lv_iload_n X.1 X.2.1 dX12_step_301 rfl (lv_at hl 0 rfl) ?_
    refine kp_callv X h (kp_runV (rm := { frames := 1, cells := 0, slots := 0, locals := 21 }) (mc := 0) (ms := 0) (rest := []) (Qc := fun A => kp_Qv D cy A Sn _) X h (c_X12_jumpIf l D cy ad Sn at1 xt0 0 xn2 _ h.2.2.2 f_at1 hw) f_at1 cv_12_724 ⟨by decide, by decide, rfl, rfl, by decide, by decide⟩ rfl hl.1 rfl (Nat.le_of_ble_eq_true rfl) dX12_step_302) (fun T5001 hw l_T5001 H locs h => ?_)
    have f_at1 := l_T5001.is f_at1
    have f_a0 := l_T5001.is f_a0
    have hle := hle.tr l_T5001
    refine lv_goto (tgt := 436) X.1 X.2.1 dX12_step_305 (by decide) ?_
    exact j436  T5001 H locs ls (lv_sub hl [] rfl) h hle f_a0 hw
  have j321 : ∀ (xt0 : Int32) (at1 : Nat) (Sn : kp_S) (H : Heap) (locs : List Loc) (ls : Array Slot), lv_has ls 4 [] → kp_H D cy A Sn s.heap H locs → kp_le S Sn → kp_is Sn at1 12 → kp_is Sn a0 12 → wX12_step_b321 a0 xt0 at1  Sn post → W p l e { frames := 8, cells := 0, slots := 0, locals := 181 } s m ([.ref a0] : List Value).toArray below meth c H locs 0 0 (MQ below (kp_Qv D cy A S post) ([.ref a0] : List Value).toArray s 0 0 A) (F0 m 321 ls [.int xt0, .ref at1]) := by
    intro xt0 at1 Sn H locs ls hl h hle f_at1 f_a0 hw
    unfold wX12_step_b321 at hw
    refine kp_callv X h (kp_runV (rm := { frames := 0, cells := 0, slots := 0, locals := 0 }) (mc := 0) (ms := 0) (rest := []) (Qc := fun A => kp_Qv D cy A Sn _) X h (c_X12_push l D cy ad Sn at1 xt0 _ h.2.2.2 f_at1 hw) f_at1 cv_12_708 ⟨by decide, by decide, rfl, rfl, by decide, by decide⟩ rfl hl.1 rfl (Nat.le_of_ble_eq_true rfl) dX12_step_321) (fun T6001 hw l_T6001 H locs h => ?_)
    have f_at1 := l_T6001.is f_at1
    have f_a0 := l_T6001.is f_a0
    have hle := hle.tr l_T6001
    refine lv_goto (tgt := 436) X.1 X.2.1 dX12_step_324 (by decide) ?_
    exact j436  T6001 H locs ls (lv_sub hl [] rfl) h hle f_a0 hw
  unfold wX12_step at hw
  have h : kp_H D cy A S s.heap s.heap [] := h
  revert h
  intro h
  refine lv_aload_n X.1 X.2.1 dX12_step_0 rfl (lv_at hl 0 rfl) ?_
  obtain ⟨b1, e_b1, hw⟩ := hw
  have f_b1 := h.2.2.2.rf (c := 12) (k := 48) f_a0 (by decide) (by decide) e_b1 (t := 14) rfl
  refine kp_get X h f_a0 ff_12_112.l (v := .ref b1) (congrArg va_rf e_b1) dX12_step_1 ?_
  refine lv_aload_n X.1 X.2.1 dX12_step_4 rfl (lv_at hl 0 rfl) ?_
  refine kp_get X h f_a0 fp_12_648.l (v := .int (kp_I S 2510 a0)) rfl dX12_step_5 ?_
  obtain ⟨hi, hw⟩ := hw
  refine kp_iald X h f_b1 hi dX12_step_8 ?_
  refine lv_topi (fun y2 e_y2 => ?_)
  have hw := hw y2 e_y2
  refine lv_istore_n (lv' := [(1, .int y2), (0, .ref a0)]) X.1 X.2.1 dX12_step_9 rfl hl (by decide) rfl (fun ls hl => ?_)
  refine lv_aload_n X.1 X.2.1 dX12_step_10 rfl (lv_at hl 1 rfl) ?_
  obtain ⟨b3, e_b3, hw⟩ := hw
  have f_b3 := h.2.2.2.rf (c := 12) (k := 49) f_a0 (by decide) (by decide) e_b3 (t := 14) rfl
  refine kp_get X h f_a0 ff_12_115.l (v := .ref b3) (congrArg va_rf e_b3) dX12_step_11 ?_
  refine lv_aload_n X.1 X.2.1 dX12_step_14 rfl (lv_at hl 1 rfl) ?_
  refine kp_get X h f_a0 fp_12_648.l (v := .int (kp_I S 2510 a0)) rfl dX12_step_15 ?_
  obtain ⟨hi, hw⟩ := hw
  refine kp_iald X h f_b3 hi dX12_step_18 ?_
  refine lv_topi (fun y4 e_y4 => ?_)
  have hw := hw y4 e_y4
  refine lv_istore_n (lv' := [(2, .int y4), (1, .int y2), (0, .ref a0)]) X.1 X.2.1 dX12_step_19 rfl hl (by decide) rfl (fun ls hl => ?_)
  refine lv_aload_n X.1 X.2.1 dX12_step_20 rfl (lv_at hl 2 rfl) ?_
  obtain ⟨b5, e_b5, hw⟩ := hw
  have f_b5 := h.2.2.2.rf (c := 12) (k := 50) f_a0 (by decide) (by decide) e_b5 (t := 14) rfl
  refine kp_get X h f_a0 ff_12_118.l (v := .ref b5) (congrArg va_rf e_b5) dX12_step_21 ?_
  refine lv_aload_n X.1 X.2.1 dX12_step_24 rfl (lv_at hl 2 rfl) ?_
  refine kp_get X h f_a0 fp_12_648.l (v := .int (kp_I S 2510 a0)) rfl dX12_step_25 ?_
  obtain ⟨hi, hw⟩ := hw
  refine kp_iald X h f_b5 hi dX12_step_28 ?_
  refine lv_topi (fun y6 e_y6 => ?_)
  have hw := hw y6 e_y6
  refine lv_istore_n (lv' := [(3, .int y6), (2, .int y4), (1, .int y2), (0, .ref a0)]) X.1 X.2.1 dX12_step_29 rfl hl (by decide) rfl (fun ls hl => ?_)
  refine lv_aload_n X.1 X.2.1 dX12_step_30 rfl (lv_at hl 3 rfl) ?_
  refine lv_dup X.1 X.2.1 dX12_step_31 rfl ?_
  refine kp_get X h f_a0 fp_12_648.l (v := .int (kp_I S 2510 a0)) rfl dX12_step_32 ?_
  refine lv_iconst (v := 1) X.1 X.2.1 dX12_step_35 (by decide) ?_
  refine lv_iadd X.1 X.2.1 dX12_step_36 ?_
  refine kp_putI X h f_a0 fp_12_648 rfl ⟨rfl, rfl⟩ dX12_step_37 (fun T7 e_T7 l_T7 H locs h => ?_)
  have hw := hw T7 e_T7
  have f_a0 := l_T7.is f_a0
  have f_b1 := l_T7.is f_b1
  have f_b3 := l_T7.is f_b3
  have f_b5 := l_T7.is f_b5
  have hle := hle.tr l_T7
  have e_b1 : kp_R T7 2448 a0 = some b1 := by rw [e_T7]; exact e_b1
  have e_b3 : kp_R T7 2449 a0 = some b3 := by rw [e_T7]; exact e_b3
  have e_b5 : kp_R T7 2450 a0 = some b5 := by rw [e_T7]; exact e_b5
  refine lv_iload_n X.1 X.2.1 dX12_step_40 rfl (lv_at hl 2 rfl) ?_
  refine lv_bipush (v := 30) X.1 X.2.1 dX12_step_41 (by decide) ?_
  refine lv_icmp_lt (tgt := 54) X.1 X.2.1 dX12_step_43 (by decide) (fun c76 => ?_) (fun c76 => ?_)
  · have hw := hw.1 c76
    refine lv_iload_n X.1 X.2.1 dX12_step_54 rfl (lv_at hl 2 rfl) ?_
    by_cases c8 : y2 = 1
    · have hw := hw.1 c8
      refine lv_tableIn (off := 117) (tgt := 172) X.1 X.2.1 dX12_step_55 (by rw [c8]; decide) (by rw [c8]; decide) (by rw [c8]; decide) (by decide) ?_
      refine lv_aload_n X.1 X.2.1 dX12_step_172 rfl (lv_at hl 3 rfl) ?_
      refine lv_iload_n X.1 X.2.1 dX12_step_173 rfl (lv_at hl 1 rfl) ?_
      refine kp_callv X h (kp_runV (rm := { frames := 0, cells := 0, slots := 0, locals := 0 }) (mc := 0) (ms := 0) (rest := []) (Qc := fun A => kp_Qv D cy A T7 _) X h (c_X12_push l D cy ad T7 a0 y4 _ h.2.2.2 f_a0 hw) f_a0 cv_12_708 ⟨by decide, by decide, rfl, rfl, by decide, by decide⟩ rfl hl.1 rfl (Nat.le_of_ble_eq_true rfl) dX12_step_174) (fun T9 hw l_T9 H locs h => ?_)
      have f_a0 := l_T9.is f_a0
      have f_b1 := l_T9.is f_b1
      have f_b3 := l_T9.is f_b3
      have f_b5 := l_T9.is f_b5
      have hle := hle.tr l_T9
      refine lv_goto (tgt := 436) X.1 X.2.1 dX12_step_177 (by decide) ?_
      exact j436  T9 _ _ ls (lv_sub hl [] rfl) h hle f_a0 hw
    have hw := hw.2 c8
    by_cases c10 : y2 = 2
    · have hw := hw.1 c10
      refine lv_tableIn (off := 125) (tgt := 180) X.1 X.2.1 dX12_step_55 (by rw [c10]; decide) (by rw [c10]; decide) (by rw [c10]; decide) (by decide) ?_
      refine lv_aload_n X.1 X.2.1 dX12_step_180 rfl (lv_at hl 3 rfl) ?_
      refine lv_aload_n X.1 X.2.1 dX12_step_181 rfl (lv_at hl 3 rfl) ?_
      obtain ⟨b11, e_b11, hw⟩ := hw
      have f_b11 := h.2.2.2.rf (c := 12) (k := 109) f_a0 (by decide) (by decide) e_b11 (t := 14) rfl
      refine kp_get X h f_a0 ff_12_236.l (v := .ref b11) (congrArg va_rf e_b11) dX12_step_182 ?_
      refine lv_bipush (v := 24) X.1 X.2.1 dX12_step_185 (by decide) ?_
      refine lv_aload_n X.1 X.2.1 dX12_step_187 rfl (lv_at hl 3 rfl) ?_
      refine kp_get X h f_a0 fp_12_699.l (v := .int (kp_I T7 2501 a0)) rfl dX12_step_188 ?_
      refine lv_imul X.1 X.2.1 dX12_step_191 ?_
      refine lv_iload_n X.1 X.2.1 dX12_step_192 rfl (lv_at hl 1 rfl) ?_
      refine lv_iadd X.1 X.2.1 dX12_step_193 ?_
      obtain ⟨hi, hw⟩ := hw
      refine kp_iald X h f_b11 hi dX12_step_194 ?_
      refine kp_callv X h (kp_runV (rm := { frames := 0, cells := 0, slots := 0, locals := 0 }) (mc := 0) (ms := 0) (rest := []) (Qc := fun A => kp_Qv D cy A T7 _) X h (c_X12_push l D cy ad T7 a0 (kp_A T7 b11 ((24 * (kp_I T7 2501 a0)) + y4).toNatClampNeg) _ h.2.2.2 f_a0 hw) f_a0 cv_12_708 ⟨by decide, by decide, rfl, rfl, by decide, by decide⟩ rfl hl.1 rfl (Nat.le_of_ble_eq_true rfl) dX12_step_195) (fun T12 hw l_T12 H locs h => ?_)
      have f_a0 := l_T12.is f_a0
      have f_b1 := l_T12.is f_b1
      have f_b3 := l_T12.is f_b3
      have f_b5 := l_T12.is f_b5
      have f_b11 := l_T12.is f_b11
      have hle := hle.tr l_T12
      refine lv_goto (tgt := 436) X.1 X.2.1 dX12_step_198 (by decide) ?_
      exact j436  T12 _ _ ls (lv_sub hl [] rfl) h hle f_a0 hw
    have hw := hw.2 c10
    by_cases c13 : y2 = 3
    · have hw := hw.1 c13
      refine lv_tableIn (off := 146) (tgt := 201) X.1 X.2.1 dX12_step_55 (by rw [c13]; decide) (by rw [c13]; decide) (by rw [c13]; decide) (by decide) ?_
      refine lv_aload_n X.1 X.2.1 dX12_step_201 rfl (lv_at hl 3 rfl) ?_
      obtain ⟨b14, e_b14, hw⟩ := hw
      have f_b14 := h.2.2.2.rf (c := 12) (k := 109) f_a0 (by decide) (by decide) e_b14 (t := 14) rfl
      refine kp_get X h f_a0 ff_12_236.l (v := .ref b14) (congrArg va_rf e_b14) dX12_step_202 ?_
      refine lv_bipush (v := 24) X.1 X.2.1 dX12_step_205 (by decide) ?_
      refine lv_aload_n X.1 X.2.1 dX12_step_207 rfl (lv_at hl 3 rfl) ?_
      refine kp_get X h f_a0 fp_12_699.l (v := .int (kp_I T7 2501 a0)) rfl dX12_step_208 ?_
      refine lv_imul X.1 X.2.1 dX12_step_211 ?_
      refine lv_iload_n X.1 X.2.1 dX12_step_212 rfl (lv_at hl 1 rfl) ?_
      refine lv_iadd X.1 X.2.1 dX12_step_213 ?_
      refine lv_aload_n X.1 X.2.1 dX12_step_214 rfl (lv_at hl 3 rfl) ?_
      refine kp_calli X h (kp_runV (rm := { frames := 0, cells := 0, slots := 0, locals := 0 }) (mc := 0) (ms := 0) (rest := [.int ((24 * (kp_I T7 2501 a0)) + y4), .ref b14]) (Qc := fun A => kp_Qi D cy A T7 _) X h (c_X12_pop l D cy ad T7 a0 _ h.2.2.2 f_a0 hw) f_a0 cv_12_718 ⟨by decide, by decide, rfl, rfl, by decide, by decide⟩ rfl hl.1 rfl (Nat.le_of_ble_eq_true rfl) dX12_step_215) (fun y16 T15 hw l_T15 H locs h => ?_)
      have f_a0 := l_T15.is f_a0
      have f_b1 := l_T15.is f_b1
      have f_b3 := l_T15.is f_b3
      have f_b5 := l_T15.is f_b5
      have f_b14 := l_T15.is f_b14
      have hle := hle.tr l_T15
      obtain ⟨hi, hw⟩ := hw
      refine kp_iast X h f_b14 hi dX12_step_218 (fun T17 e_T17 l_T17 H locs h => ?_)
      have hw := hw T17 e_T17
      have f_a0 := l_T17.is f_a0
      have f_b1 := l_T17.is f_b1
      have f_b3 := l_T17.is f_b3
      have f_b5 := l_T17.is f_b5
      have f_b14 := l_T17.is f_b14
      have hle := hle.tr l_T17
      refine lv_goto (tgt := 436) X.1 X.2.1 dX12_step_219 (by decide) ?_
      exact j436  T17 _ _ ls (lv_sub hl [] rfl) h hle f_a0 hw
    have hw := hw.2 c13
    by_cases c18 : y2 = 4
    · have hw := hw.1 c18
      refine lv_tableIn (off := 167) (tgt := 222) X.1 X.2.1 dX12_step_55 (by rw [c18]; decide) (by rw [c18]; decide) (by rw [c18]; decide) (by decide) ?_
      refine lv_aload_n X.1 X.2.1 dX12_step_222 rfl (lv_at hl 3 rfl) ?_
      refine lv_dup X.1 X.2.1 dX12_step_223 rfl ?_
      refine kp_get X h f_a0 fp_12_604.l (v := .int (kp_I T7 2516 a0)) rfl dX12_step_224 ?_
      refine lv_iconst (v := 1) X.1 X.2.1 dX12_step_227 (by decide) ?_
      refine lv_isub X.1 X.2.1 dX12_step_228 ?_
      refine kp_putI X h f_a0 fp_12_604 rfl ⟨rfl, rfl⟩ dX12_step_229 (fun T19 e_T19 l_T19 H locs h => ?_)
      have hw := hw T19 e_T19
      have f_a0 := l_T19.is f_a0
      have f_b1 := l_T19.is f_b1
      have f_b3 := l_T19.is f_b3
      have f_b5 := l_T19.is f_b5
      have hle := hle.tr l_T19
      have e_b1 : kp_R T19 2448 a0 = some b1 := by rw [e_T19]; exact e_b1
      have e_b3 : kp_R T19 2449 a0 = some b3 := by rw [e_T19]; exact e_b3
      have e_b5 : kp_R T19 2450 a0 = some b5 := by rw [e_T19]; exact e_b5
      refine lv_goto (tgt := 436) X.1 X.2.1 dX12_step_232 (by decide) ?_
      exact j436  T19 _ _ ls (lv_sub hl [] rfl) h hle f_a0 hw
    have hw := hw.2 c18
    by_cases c20 : y2 = 5
    · have hw := hw.1 c20
      refine lv_tableIn (off := 180) (tgt := 235) X.1 X.2.1 dX12_step_55 (by rw [c20]; decide) (by rw [c20]; decide) (by rw [c20]; decide) (by decide) ?_
      refine lv_aload_n X.1 X.2.1 dX12_step_235 rfl (lv_at hl 3 rfl) ?_
      refine lv_aload_n X.1 X.2.1 dX12_step_236 rfl (lv_at hl 3 rfl) ?_
      refine kp_calli X h (kp_runV (rm := { frames := 0, cells := 0, slots := 0, locals := 0 }) (mc := 0) (ms := 0) (rest := [.ref a0]) (Qc := fun A => kp_Qi D cy A T7 _) X h (c_X12_pop l D cy ad T7 a0 _ h.2.2.2 f_a0 hw) f_a0 cv_12_718 ⟨by decide, by decide, rfl, rfl, by decide, by decide⟩ rfl hl.1 rfl (Nat.le_of_ble_eq_true rfl) dX12_step_237) (fun y22 T21 hw l_T21 H locs h => ?_)
      have f_a0 := l_T21.is f_a0
      have f_b1 := l_T21.is f_b1
      have f_b3 := l_T21.is f_b3
      have f_b5 := l_T21.is f_b5
      have hle := hle.tr l_T21
      refine lv_ineg X.1 X.2.1 dX12_step_240 ?_
      refine kp_callv X h (kp_runV (rm := { frames := 0, cells := 0, slots := 0, locals := 0 }) (mc := 0) (ms := 0) (rest := []) (Qc := fun A => kp_Qv D cy A T21 _) X h (c_X12_push l D cy ad T21 a0 (-y22) _ h.2.2.2 f_a0 hw) f_a0 cv_12_708 ⟨by decide, by decide, rfl, rfl, by decide, by decide⟩ rfl hl.1 rfl (Nat.le_of_ble_eq_true rfl) dX12_step_241) (fun T23 hw l_T23 H locs h => ?_)
      have f_a0 := l_T23.is f_a0
      have f_b1 := l_T23.is f_b1
      have f_b3 := l_T23.is f_b3
      have f_b5 := l_T23.is f_b5
      have hle := hle.tr l_T23
      refine lv_goto (tgt := 436) X.1 X.2.1 dX12_step_244 (by decide) ?_
      exact j436  T23 _ _ ls (lv_sub hl [] rfl) h hle f_a0 hw
    have hw := hw.2 c20
    by_cases c24 : y2 = 6
    · have hw := hw.1 c24
      refine lv_tableIn (off := 192) (tgt := 247) X.1 X.2.1 dX12_step_55 (by rw [c24]; decide) (by rw [c24]; decide) (by rw [c24]; decide) (by decide) ?_
      refine lv_aload_n X.1 X.2.1 dX12_step_247 rfl (lv_at hl 3 rfl) ?_
      refine lv_aload_n X.1 X.2.1 dX12_step_248 rfl (lv_at hl 3 rfl) ?_
      refine kp_calli X h (kp_runV (rm := { frames := 0, cells := 0, slots := 0, locals := 0 }) (mc := 0) (ms := 0) (rest := [.ref a0]) (Qc := fun A => kp_Qi D cy A T7 _) X h (c_X12_pop l D cy ad T7 a0 _ h.2.2.2 f_a0 hw) f_a0 cv_12_718 ⟨by decide, by decide, rfl, rfl, by decide, by decide⟩ rfl hl.1 rfl (Nat.le_of_ble_eq_true rfl) dX12_step_249) (fun y26 T25 hw l_T25 H locs h => ?_)
      have f_a0 := l_T25.is f_a0
      have f_b1 := l_T25.is f_b1
      have f_b3 := l_T25.is f_b3
      have f_b5 := l_T25.is f_b5
      have hle := hle.tr l_T25
      refine lv_if_ne (tgt := 259) X.1 X.2.1 dX12_step_252 (by decide) (fun c27 => ?_) (fun c27 => ?_)
      · have hw := hw.1 c27
        refine lv_iconst (v := 0) X.1 X.2.1 dX12_step_259 (by decide) ?_
        exact j260 0 a0 T25 _ _ ls (lv_sub hl [] rfl) h hle f_a0 f_a0 hw
      · have hw := hw.2 c27
        refine lv_iconst (v := 1) X.1 X.2.1 dX12_step_255 (by decide) ?_
        refine lv_goto (tgt := 260) X.1 X.2.1 dX12_step_256 (by decide) ?_
        exact j260 1 a0 T25 _ _ ls (lv_sub hl [] rfl) h hle f_a0 f_a0 hw
    have hw := hw.2 c24
    by_cases c28 : y2 = 7
    · have hw := hw.1 c28
      refine lv_tableIn (off := 376) (tgt := 431) X.1 X.2.1 dX12_step_55 (by rw [c28]; decide) (by rw [c28]; decide) (by rw [c28]; decide) (by decide) ?_
      exact j431 y2 T7 _ _ ls (lv_sub hl [3, 2] rfl) h hle f_a0 hw
    have hw := hw.2 c28
    by_cases c29 : y2 = 8
    · have hw := hw.1 c29
      refine lv_tableIn (off := 376) (tgt := 431) X.1 X.2.1 dX12_step_55 (by rw [c29]; decide) (by rw [c29]; decide) (by rw [c29]; decide) (by decide) ?_
      exact j431 y2 T7 _ _ ls (lv_sub hl [3, 2] rfl) h hle f_a0 hw
    have hw := hw.2 c29
    by_cases c30 : y2 = 9
    · have hw := hw.1 c30
      refine lv_tableIn (off := 376) (tgt := 431) X.1 X.2.1 dX12_step_55 (by rw [c30]; decide) (by rw [c30]; decide) (by rw [c30]; decide) (by decide) ?_
      exact j431 y2 T7 _ _ ls (lv_sub hl [3, 2] rfl) h hle f_a0 hw
    have hw := hw.2 c30
    by_cases c31 : y2 = 10
    · have hw := hw.1 c31
      refine lv_tableIn (off := 376) (tgt := 431) X.1 X.2.1 dX12_step_55 (by rw [c31]; decide) (by rw [c31]; decide) (by rw [c31]; decide) (by decide) ?_
      exact j431 y2 T7 _ _ ls (lv_sub hl [3, 2] rfl) h hle f_a0 hw
    have hw := hw.2 c31
    by_cases c32 : y2 = 11
    · have hw := hw.1 c32
      refine lv_tableIn (off := 376) (tgt := 431) X.1 X.2.1 dX12_step_55 (by rw [c32]; decide) (by rw [c32]; decide) (by rw [c32]; decide) (by decide) ?_
      exact j431 y2 T7 _ _ ls (lv_sub hl [3, 2] rfl) h hle f_a0 hw
    have hw := hw.2 c32
    by_cases c33 : y2 = 12
    · have hw := hw.1 c33
      refine lv_tableIn (off := 376) (tgt := 431) X.1 X.2.1 dX12_step_55 (by rw [c33]; decide) (by rw [c33]; decide) (by rw [c33]; decide) (by decide) ?_
      exact j431 y2 T7 _ _ ls (lv_sub hl [3, 2] rfl) h hle f_a0 hw
    have hw := hw.2 c33
    by_cases c34 : y2 = 13
    · have hw := hw.1 c34
      refine lv_tableIn (off := 376) (tgt := 431) X.1 X.2.1 dX12_step_55 (by rw [c34]; decide) (by rw [c34]; decide) (by rw [c34]; decide) (by decide) ?_
      exact j431 y2 T7 _ _ ls (lv_sub hl [3, 2] rfl) h hle f_a0 hw
    have hw := hw.2 c34
    by_cases c35 : y2 = 14
    · have hw := hw.1 c35
      refine lv_tableIn (off := 376) (tgt := 431) X.1 X.2.1 dX12_step_55 (by rw [c35]; decide) (by rw [c35]; decide) (by rw [c35]; decide) (by decide) ?_
      exact j431 y2 T7 _ _ ls (lv_sub hl [3, 2] rfl) h hle f_a0 hw
    have hw := hw.2 c35
    by_cases c36 : y2 = 15
    · have hw := hw.1 c36
      refine lv_tableIn (off := 376) (tgt := 431) X.1 X.2.1 dX12_step_55 (by rw [c36]; decide) (by rw [c36]; decide) (by rw [c36]; decide) (by decide) ?_
      exact j431 y2 T7 _ _ ls (lv_sub hl [3, 2] rfl) h hle f_a0 hw
    have hw := hw.2 c36
    by_cases c37 : y2 = 16
    · have hw := hw.1 c37
      refine lv_tableIn (off := 211) (tgt := 266) X.1 X.2.1 dX12_step_55 (by rw [c37]; decide) (by rw [c37]; decide) (by rw [c37]; decide) (by decide) ?_
      refine lv_aload_n X.1 X.2.1 dX12_step_266 rfl (lv_at hl 3 rfl) ?_
      refine lv_aload_n X.1 X.2.1 dX12_step_267 rfl (lv_at hl 3 rfl) ?_
      refine kp_calli X h (kp_runV (rm := { frames := 0, cells := 0, slots := 0, locals := 0 }) (mc := 0) (ms := 0) (rest := [.ref a0]) (Qc := fun A => kp_Qi D cy A T7 _) X h (c_X12_pop l D cy ad T7 a0 _ h.2.2.2 f_a0 hw) f_a0 cv_12_718 ⟨by decide, by decide, rfl, rfl, by decide, by decide⟩ rfl hl.1 rfl (Nat.le_of_ble_eq_true rfl) dX12_step_268) (fun y39 T38 hw l_T38 H locs h => ?_)
      have f_a0 := l_T38.is f_a0
      have f_b1 := l_T38.is f_b1
      have f_b3 := l_T38.is f_b3
      have f_b5 := l_T38.is f_b5
      have hle := hle.tr l_T38
      refine lv_if_eq (tgt := 278) X.1 X.2.1 dX12_step_271 (by decide) (fun c40 => ?_) (fun c40 => ?_)
      · have hw := hw.1 c40
        refine lv_iconst (v := 0) X.1 X.2.1 dX12_step_278 (by decide) ?_
        exact j279 y4 0 a0 T38 _ _ ls (lv_sub hl [1] rfl) h hle f_a0 f_a0 hw
      · have hw := hw.2 c40
        refine lv_iconst (v := 1) X.1 X.2.1 dX12_step_274 (by decide) ?_
        refine lv_goto (tgt := 279) X.1 X.2.1 dX12_step_275 (by decide) ?_
        exact j279 y4 1 a0 T38 _ _ ls (lv_sub hl [1] rfl) h hle f_a0 f_a0 hw
    have hw := hw.2 c37
    by_cases c41 : y2 = 17
    · have hw := hw.1 c41
      refine lv_tableIn (off := 232) (tgt := 287) X.1 X.2.1 dX12_step_55 (by rw [c41]; decide) (by rw [c41]; decide) (by rw [c41]; decide) (by decide) ?_
      refine lv_aload_n X.1 X.2.1 dX12_step_287 rfl (lv_at hl 3 rfl) ?_
      refine lv_aload_n X.1 X.2.1 dX12_step_288 rfl (lv_at hl 3 rfl) ?_
      refine kp_calli X h (kp_runV (rm := { frames := 0, cells := 0, slots := 0, locals := 0 }) (mc := 0) (ms := 0) (rest := [.ref a0]) (Qc := fun A => kp_Qi D cy A T7 _) X h (c_X12_pop l D cy ad T7 a0 _ h.2.2.2 f_a0 hw) f_a0 cv_12_718 ⟨by decide, by decide, rfl, rfl, by decide, by decide⟩ rfl hl.1 rfl (Nat.le_of_ble_eq_true rfl) dX12_step_289) (fun y43 T42 hw l_T42 H locs h => ?_)
      have f_a0 := l_T42.is f_a0
      have f_b1 := l_T42.is f_b1
      have f_b3 := l_T42.is f_b3
      have f_b5 := l_T42.is f_b5
      have hle := hle.tr l_T42
      refine lv_if_ne (tgt := 299) X.1 X.2.1 dX12_step_292 (by decide) (fun c44 => ?_) (fun c44 => ?_)
      · have hw := hw.1 c44
        refine lv_iconst (v := 0) X.1 X.2.1 dX12_step_299 (by decide) ?_
        exact j300 y4 0 a0 T42 _ _ ls (lv_sub hl [1] rfl) h hle f_a0 f_a0 hw
      · have hw := hw.2 c44
        refine lv_iconst (v := 1) X.1 X.2.1 dX12_step_295 (by decide) ?_
        refine lv_goto (tgt := 300) X.1 X.2.1 dX12_step_296 (by decide) ?_
        exact j300 y4 1 a0 T42 _ _ ls (lv_sub hl [1] rfl) h hle f_a0 f_a0 hw
    have hw := hw.2 c41
    by_cases c45 : y2 = 18
    · have hw := hw.1 c45
      refine lv_tableIn (off := 253) (tgt := 308) X.1 X.2.1 dX12_step_55 (by rw [c45]; decide) (by rw [c45]; decide) (by rw [c45]; decide) (by decide) ?_
      refine lv_aload_n X.1 X.2.1 dX12_step_308 rfl (lv_at hl 3 rfl) ?_
      refine lv_aload_n X.1 X.2.1 dX12_step_309 rfl (lv_at hl 3 rfl) ?_
      refine kp_calli X h (kp_runV (rm := { frames := 0, cells := 0, slots := 0, locals := 0 }) (mc := 0) (ms := 0) (rest := [.ref a0]) (Qc := fun A => kp_Qi D cy A T7 _) X h (c_X12_pop l D cy ad T7 a0 _ h.2.2.2 f_a0 hw) f_a0 cv_12_718 ⟨by decide, by decide, rfl, rfl, by decide, by decide⟩ rfl hl.1 rfl (Nat.le_of_ble_eq_true rfl) dX12_step_310) (fun y47 T46 hw l_T46 H locs h => ?_)
      have f_a0 := l_T46.is f_a0
      have f_b1 := l_T46.is f_b1
      have f_b3 := l_T46.is f_b3
      have f_b5 := l_T46.is f_b5
      have hle := hle.tr l_T46
      refine lv_if_eq (tgt := 320) X.1 X.2.1 dX12_step_313 (by decide) (fun c48 => ?_) (fun c48 => ?_)
      · have hw := hw.1 c48
        refine lv_iconst (v := 0) X.1 X.2.1 dX12_step_320 (by decide) ?_
        exact j321 0 a0 T46 _ _ ls (lv_sub hl [] rfl) h hle f_a0 f_a0 hw
      · have hw := hw.2 c48
        refine lv_iconst (v := 1) X.1 X.2.1 dX12_step_316 (by decide) ?_
        refine lv_goto (tgt := 321) X.1 X.2.1 dX12_step_317 (by decide) ?_
        exact j321 1 a0 T46 _ _ ls (lv_sub hl [] rfl) h hle f_a0 f_a0 hw
    have hw := hw.2 c45
    by_cases c49 : y2 = 19
    · have hw := hw.1 c49
      refine lv_tableIn (off := 272) (tgt := 327) X.1 X.2.1 dX12_step_55 (by rw [c49]; decide) (by rw [c49]; decide) (by rw [c49]; decide) (by decide) ?_
      refine lv_aload_n X.1 X.2.1 dX12_step_327 rfl (lv_at hl 3 rfl) ?_
      refine lv_iload_n X.1 X.2.1 dX12_step_328 rfl (lv_at hl 1 rfl) ?_
      refine lv_iload_n X.1 X.2.1 dX12_step_329 rfl (lv_at hl 0 rfl) ?_
      refine kp_callv X h (kp_runV (rm := { frames := 6, cells := 0, slots := 0, locals := 130 }) (mc := 0) (ms := 0) (rest := []) (Qc := fun A => kp_Qv D cy A T7 _) X h (c_X12_calls l D cy ad T7 a0 y4 y6 _ h.2.2.2 f_a0 hw) f_a0 cv_12_728 ⟨by decide, by decide, rfl, rfl, by decide, by decide⟩ rfl hl.1 rfl (Nat.le_of_ble_eq_true rfl) dX12_step_330) (fun T50 hw l_T50 H locs h => ?_)
      have f_a0 := l_T50.is f_a0
      have f_b1 := l_T50.is f_b1
      have f_b3 := l_T50.is f_b3
      have f_b5 := l_T50.is f_b5
      have hle := hle.tr l_T50
      refine lv_goto (tgt := 436) X.1 X.2.1 dX12_step_333 (by decide) ?_
      exact j436  T50 _ _ ls (lv_sub hl [] rfl) h hle f_a0 hw
    have hw := hw.2 c49
    by_cases c51 : y2 = 20
    · have hw := hw.1 c51
      refine lv_tableIn (off := 281) (tgt := 336) X.1 X.2.1 dX12_step_55 (by rw [c51]; decide) (by rw [c51]; decide) (by rw [c51]; decide) (by decide) ?_
      refine lv_aload_n X.1 X.2.1 dX12_step_336 rfl (lv_at hl 3 rfl) ?_
      refine lv_aload_n X.1 X.2.1 dX12_step_337 rfl (lv_at hl 3 rfl) ?_
      refine kp_calli X h (kp_runV (rm := { frames := 0, cells := 0, slots := 0, locals := 0 }) (mc := 0) (ms := 0) (rest := [.ref a0]) (Qc := fun A => kp_Qi D cy A T7 _) X h (c_X12_pop l D cy ad T7 a0 _ h.2.2.2 f_a0 hw) f_a0 cv_12_718 ⟨by decide, by decide, rfl, rfl, by decide, by decide⟩ rfl hl.1 rfl (Nat.le_of_ble_eq_true rfl) dX12_step_338) (fun y53 T52 hw l_T52 H locs h => ?_)
      have f_a0 := l_T52.is f_a0
      have f_b1 := l_T52.is f_b1
      have f_b3 := l_T52.is f_b3
      have f_b5 := l_T52.is f_b5
      have hle := hle.tr l_T52
      refine lv_bipush (v := 6) X.1 X.2.1 dX12_step_341 (by decide) ?_
      refine lv_iload_n X.1 X.2.1 dX12_step_343 rfl (lv_at hl 2 rfl) ?_
      refine kp_callv X h (kp_runV (rm := { frames := 6, cells := 0, slots := 0, locals := 130 }) (mc := 0) (ms := 0) (rest := []) (Qc := fun A => kp_Qv D cy A T52 _) X h (c_X12_answers l D cy ad T52 a0 y53 6 y2 _ h.2.2.2 f_a0 hw) f_a0 cv_12_730 ⟨by decide, by decide, rfl, rfl, by decide, by decide⟩ rfl hl.1 rfl (Nat.le_of_ble_eq_true rfl) dX12_step_344) (fun T54 hw l_T54 H locs h => ?_)
      have f_a0 := l_T54.is f_a0
      have f_b1 := l_T54.is f_b1
      have f_b3 := l_T54.is f_b3
      have f_b5 := l_T54.is f_b5
      have hle := hle.tr l_T54
      refine lv_goto (tgt := 436) X.1 X.2.1 dX12_step_347 (by decide) ?_
      exact j436  T54 _ _ ls (lv_sub hl [] rfl) h hle f_a0 hw
    have hw := hw.2 c51
    by_cases c55 : y2 = 21
    · have hw := hw.1 c55
      refine lv_tableIn (off := 295) (tgt := 350) X.1 X.2.1 dX12_step_55 (by rw [c55]; decide) (by rw [c55]; decide) (by rw [c55]; decide) (by decide) ?_
      refine lv_aload_n X.1 X.2.1 dX12_step_350 rfl (lv_at hl 3 rfl) ?_
      refine lv_aload_n X.1 X.2.1 dX12_step_351 rfl (lv_at hl 3 rfl) ?_
      refine kp_calli X h (kp_runV (rm := { frames := 0, cells := 0, slots := 0, locals := 0 }) (mc := 0) (ms := 0) (rest := [.ref a0]) (Qc := fun A => kp_Qi D cy A T7 _) X h (c_X12_pop l D cy ad T7 a0 _ h.2.2.2 f_a0 hw) f_a0 cv_12_718 ⟨by decide, by decide, rfl, rfl, by decide, by decide⟩ rfl hl.1 rfl (Nat.le_of_ble_eq_true rfl) dX12_step_352) (fun y57 T56 hw l_T56 H locs h => ?_)
      have f_a0 := l_T56.is f_a0
      have f_b1 := l_T56.is f_b1
      have f_b3 := l_T56.is f_b3
      have f_b5 := l_T56.is f_b5
      have hle := hle.tr l_T56
      refine lv_bipush (v := 7) X.1 X.2.1 dX12_step_355 (by decide) ?_
      refine lv_iload_n X.1 X.2.1 dX12_step_357 rfl (lv_at hl 2 rfl) ?_
      refine kp_callv X h (kp_runV (rm := { frames := 6, cells := 0, slots := 0, locals := 130 }) (mc := 0) (ms := 0) (rest := []) (Qc := fun A => kp_Qv D cy A T56 _) X h (c_X12_answers l D cy ad T56 a0 y57 7 y2 _ h.2.2.2 f_a0 hw) f_a0 cv_12_730 ⟨by decide, by decide, rfl, rfl, by decide, by decide⟩ rfl hl.1 rfl (Nat.le_of_ble_eq_true rfl) dX12_step_358) (fun T58 hw l_T58 H locs h => ?_)
      have f_a0 := l_T58.is f_a0
      have f_b1 := l_T58.is f_b1
      have f_b3 := l_T58.is f_b3
      have f_b5 := l_T58.is f_b5
      have hle := hle.tr l_T58
      refine lv_goto (tgt := 436) X.1 X.2.1 dX12_step_361 (by decide) ?_
      exact j436  T58 _ _ ls (lv_sub hl [] rfl) h hle f_a0 hw
    have hw := hw.2 c55
    by_cases c59 : y2 = 22
    · have hw := hw.1 c59
      refine lv_tableIn (off := 337) (tgt := 392) X.1 X.2.1 dX12_step_55 (by rw [c59]; decide) (by rw [c59]; decide) (by rw [c59]; decide) (by decide) ?_
      refine lv_aload_n X.1 X.2.1 dX12_step_392 rfl (lv_at hl 3 rfl) ?_
      refine kp_callv X h (kp_runV (rm := { frames := 6, cells := 0, slots := 0, locals := 130 }) (mc := 0) (ms := 0) (rest := []) (Qc := fun A => kp_Qv D cy A T7 _) X h (c_X12_answersGate l D cy ad T7 a0 _ h.2.2.2 f_a0 hw) f_a0 cv_12_733 ⟨by decide, by decide, rfl, rfl, by decide, by decide⟩ rfl hl.1 rfl (Nat.le_of_ble_eq_true rfl) dX12_step_393) (fun T60 hw l_T60 H locs h => ?_)
      have f_a0 := l_T60.is f_a0
      have f_b1 := l_T60.is f_b1
      have f_b3 := l_T60.is f_b3
      have f_b5 := l_T60.is f_b5
      have hle := hle.tr l_T60
      refine lv_goto (tgt := 436) X.1 X.2.1 dX12_step_396 (by decide) ?_
      exact j436  T60 _ _ ls (lv_sub hl [] rfl) h hle f_a0 hw
    have hw := hw.2 c59
    by_cases c61 : y2 = 23
    · have hw := hw.1 c61
      refine lv_tableIn (off := 309) (tgt := 364) X.1 X.2.1 dX12_step_55 (by rw [c61]; decide) (by rw [c61]; decide) (by rw [c61]; decide) (by decide) ?_
      refine lv_aload_n X.1 X.2.1 dX12_step_364 rfl (lv_at hl 3 rfl) ?_
      refine lv_aload_n X.1 X.2.1 dX12_step_365 rfl (lv_at hl 3 rfl) ?_
      refine kp_calli X h (kp_runV (rm := { frames := 0, cells := 0, slots := 0, locals := 0 }) (mc := 0) (ms := 0) (rest := [.ref a0]) (Qc := fun A => kp_Qi D cy A T7 _) X h (c_X12_pop l D cy ad T7 a0 _ h.2.2.2 f_a0 hw) f_a0 cv_12_718 ⟨by decide, by decide, rfl, rfl, by decide, by decide⟩ rfl hl.1 rfl (Nat.le_of_ble_eq_true rfl) dX12_step_366) (fun y63 T62 hw l_T62 H locs h => ?_)
      have f_a0 := l_T62.is f_a0
      have f_b1 := l_T62.is f_b1
      have f_b3 := l_T62.is f_b3
      have f_b5 := l_T62.is f_b5
      have hle := hle.tr l_T62
      refine lv_bipush (v := 8) X.1 X.2.1 dX12_step_369 (by decide) ?_
      refine lv_iload_n X.1 X.2.1 dX12_step_371 rfl (lv_at hl 2 rfl) ?_
      refine kp_callv X h (kp_runV (rm := { frames := 6, cells := 0, slots := 0, locals := 130 }) (mc := 0) (ms := 0) (rest := []) (Qc := fun A => kp_Qv D cy A T62 _) X h (c_X12_answers l D cy ad T62 a0 y63 8 y2 _ h.2.2.2 f_a0 hw) f_a0 cv_12_730 ⟨by decide, by decide, rfl, rfl, by decide, by decide⟩ rfl hl.1 rfl (Nat.le_of_ble_eq_true rfl) dX12_step_372) (fun T64 hw l_T64 H locs h => ?_)
      have f_a0 := l_T64.is f_a0
      have f_b1 := l_T64.is f_b1
      have f_b3 := l_T64.is f_b3
      have f_b5 := l_T64.is f_b5
      have hle := hle.tr l_T64
      refine lv_goto (tgt := 436) X.1 X.2.1 dX12_step_375 (by decide) ?_
      exact j436  T64 _ _ ls (lv_sub hl [] rfl) h hle f_a0 hw
    have hw := hw.2 c61
    by_cases c65 : y2 = 24
    · have hw := hw.1 c65
      refine lv_tableIn (off := 323) (tgt := 378) X.1 X.2.1 dX12_step_55 (by rw [c65]; decide) (by rw [c65]; decide) (by rw [c65]; decide) (by decide) ?_
      refine lv_aload_n X.1 X.2.1 dX12_step_378 rfl (lv_at hl 3 rfl) ?_
      refine lv_aload_n X.1 X.2.1 dX12_step_379 rfl (lv_at hl 3 rfl) ?_
      refine kp_calli X h (kp_runV (rm := { frames := 0, cells := 0, slots := 0, locals := 0 }) (mc := 0) (ms := 0) (rest := [.ref a0]) (Qc := fun A => kp_Qi D cy A T7 _) X h (c_X12_pop l D cy ad T7 a0 _ h.2.2.2 f_a0 hw) f_a0 cv_12_718 ⟨by decide, by decide, rfl, rfl, by decide, by decide⟩ rfl hl.1 rfl (Nat.le_of_ble_eq_true rfl) dX12_step_380) (fun y67 T66 hw l_T66 H locs h => ?_)
      have f_a0 := l_T66.is f_a0
      have f_b1 := l_T66.is f_b1
      have f_b3 := l_T66.is f_b3
      have f_b5 := l_T66.is f_b5
      have hle := hle.tr l_T66
      refine lv_bipush (v := 6) X.1 X.2.1 dX12_step_383 (by decide) ?_
      refine lv_iload_n X.1 X.2.1 dX12_step_385 rfl (lv_at hl 2 rfl) ?_
      refine kp_callv X h (kp_runV (rm := { frames := 6, cells := 0, slots := 0, locals := 130 }) (mc := 0) (ms := 0) (rest := []) (Qc := fun A => kp_Qv D cy A T66 _) X h (c_X12_answers l D cy ad T66 a0 y67 6 y2 _ h.2.2.2 f_a0 hw) f_a0 cv_12_730 ⟨by decide, by decide, rfl, rfl, by decide, by decide⟩ rfl hl.1 rfl (Nat.le_of_ble_eq_true rfl) dX12_step_386) (fun T68 hw l_T68 H locs h => ?_)
      have f_a0 := l_T68.is f_a0
      have f_b1 := l_T68.is f_b1
      have f_b3 := l_T68.is f_b3
      have f_b5 := l_T68.is f_b5
      have hle := hle.tr l_T68
      refine lv_goto (tgt := 436) X.1 X.2.1 dX12_step_389 (by decide) ?_
      exact j436  T68 _ _ ls (lv_sub hl [] rfl) h hle f_a0 hw
    have hw := hw.2 c65
    by_cases c69 : y2 = 25
    · have hw := hw.1 c69
      refine lv_tableIn (off := 344) (tgt := 399) X.1 X.2.1 dX12_step_55 (by rw [c69]; decide) (by rw [c69]; decide) (by rw [c69]; decide) (by decide) ?_
      refine lv_aload_n X.1 X.2.1 dX12_step_399 rfl (lv_at hl 3 rfl) ?_
      refine lv_aload_n X.1 X.2.1 dX12_step_400 rfl (lv_at hl 3 rfl) ?_
      obtain ⟨b70, e_b70, hw⟩ := hw
      have f_b70 := h.2.2.2.rf (c := 12) (k := 104) f_a0 (by decide) (by decide) e_b70 (t := 14) rfl
      refine kp_get X h f_a0 ff_12_221.l (v := .ref b70) (congrArg va_rf e_b70) dX12_step_401 ?_
      refine lv_aload_n X.1 X.2.1 dX12_step_404 rfl (lv_at hl 3 rfl) ?_
      refine kp_get X h f_a0 fp_12_699.l (v := .int (kp_I T7 2501 a0)) rfl dX12_step_405 ?_
      obtain ⟨hi, hw⟩ := hw
      refine kp_iald X h f_b70 hi dX12_step_408 ?_
      refine kp_callv X h (kp_runV (rm := { frames := 0, cells := 0, slots := 0, locals := 0 }) (mc := 0) (ms := 0) (rest := []) (Qc := fun A => kp_Qv D cy A T7 _) X h (c_X12_push l D cy ad T7 a0 (kp_A T7 b70 (kp_I T7 2501 a0).toNatClampNeg) _ h.2.2.2 f_a0 hw) f_a0 cv_12_708 ⟨by decide, by decide, rfl, rfl, by decide, by decide⟩ rfl hl.1 rfl (Nat.le_of_ble_eq_true rfl) dX12_step_409) (fun T71 hw l_T71 H locs h => ?_)
      have f_a0 := l_T71.is f_a0
      have f_b1 := l_T71.is f_b1
      have f_b3 := l_T71.is f_b3
      have f_b5 := l_T71.is f_b5
      have f_b70 := l_T71.is f_b70
      have hle := hle.tr l_T71
      refine lv_goto (tgt := 436) X.1 X.2.1 dX12_step_412 (by decide) ?_
      exact j436  T71 _ _ ls (lv_sub hl [] rfl) h hle f_a0 hw
    have hw := hw.2 c69
    by_cases c72 : y2 = 26
    · have hw := hw.1 c72
      refine lv_tableIn (off := 360) (tgt := 415) X.1 X.2.1 dX12_step_55 (by rw [c72]; decide) (by rw [c72]; decide) (by rw [c72]; decide) (by decide) ?_
      refine lv_aload_n X.1 X.2.1 dX12_step_415 rfl (lv_at hl 3 rfl) ?_
      refine lv_aload_n X.1 X.2.1 dX12_step_416 rfl (lv_at hl 3 rfl) ?_
      obtain ⟨b73, e_b73, hw⟩ := hw
      have f_b73 := h.2.2.2.rf (c := 12) (k := 105) f_a0 (by decide) (by decide) e_b73 (t := 14) rfl
      refine kp_get X h f_a0 ff_12_224.l (v := .ref b73) (congrArg va_rf e_b73) dX12_step_417 ?_
      refine lv_aload_n X.1 X.2.1 dX12_step_420 rfl (lv_at hl 3 rfl) ?_
      refine kp_get X h f_a0 fp_12_699.l (v := .int (kp_I T7 2501 a0)) rfl dX12_step_421 ?_
      obtain ⟨hi, hw⟩ := hw
      refine kp_iald X h f_b73 hi dX12_step_424 ?_
      refine kp_callv X h (kp_runV (rm := { frames := 0, cells := 0, slots := 0, locals := 0 }) (mc := 0) (ms := 0) (rest := []) (Qc := fun A => kp_Qv D cy A T7 _) X h (c_X12_push l D cy ad T7 a0 (kp_A T7 b73 (kp_I T7 2501 a0).toNatClampNeg) _ h.2.2.2 f_a0 hw) f_a0 cv_12_708 ⟨by decide, by decide, rfl, rfl, by decide, by decide⟩ rfl hl.1 rfl (Nat.le_of_ble_eq_true rfl) dX12_step_425) (fun T74 hw l_T74 H locs h => ?_)
      have f_a0 := l_T74.is f_a0
      have f_b1 := l_T74.is f_b1
      have f_b3 := l_T74.is f_b3
      have f_b5 := l_T74.is f_b5
      have f_b73 := l_T74.is f_b73
      have hle := hle.tr l_T74
      refine lv_goto (tgt := 436) X.1 X.2.1 dX12_step_428 (by decide) ?_
      exact j436  T74 _ _ ls (lv_sub hl [] rfl) h hle f_a0 hw
    have hw := hw.2 c72
    have t_c8 := lv_neT (a := 1) c8 (by decide)
    have t_c10 := lv_neT (a := 2) c10 (by decide)
    have t_c13 := lv_neT (a := 3) c13 (by decide)
    have t_c18 := lv_neT (a := 4) c18 (by decide)
    have t_c20 := lv_neT (a := 5) c20 (by decide)
    have t_c24 := lv_neT (a := 6) c24 (by decide)
    have t_c28 := lv_neT (a := 7) c28 (by decide)
    have t_c29 := lv_neT (a := 8) c29 (by decide)
    have t_c30 := lv_neT (a := 9) c30 (by decide)
    have t_c31 := lv_neT (a := 10) c31 (by decide)
    have t_c32 := lv_neT (a := 11) c32 (by decide)
    have t_c33 := lv_neT (a := 12) c33 (by decide)
    have t_c34 := lv_neT (a := 13) c34 (by decide)
    have t_c35 := lv_neT (a := 14) c35 (by decide)
    have t_c36 := lv_neT (a := 15) c36 (by decide)
    have t_c37 := lv_neT (a := 16) c37 (by decide)
    have t_c41 := lv_neT (a := 17) c41 (by decide)
    have t_c45 := lv_neT (a := 18) c45 (by decide)
    have t_c49 := lv_neT (a := 19) c49 (by decide)
    have t_c51 := lv_neT (a := 20) c51 (by decide)
    have t_c55 := lv_neT (a := 21) c55 (by decide)
    have t_c59 := lv_neT (a := 22) c59 (by decide)
    have t_c61 := lv_neT (a := 23) c61 (by decide)
    have t_c65 := lv_neT (a := 24) c65 (by decide)
    have t_c69 := lv_neT (a := 25) c69 (by decide)
    have t_c72 := lv_neT (a := 26) c72 (by decide)
    refine lv_tableOut (tgt := 431) X.1 X.2.1 dX12_step_55 (by omega) (by decide) ?_
    exact j431 y2 T7 _ _ ls (lv_sub hl [3, 2] rfl) h hle f_a0 hw
  · have hw := hw.2 c76
    refine lv_aload_n X.1 X.2.1 dX12_step_46 rfl (lv_at hl 3 rfl) ?_
    refine lv_iload_n X.1 X.2.1 dX12_step_47 rfl (lv_at hl 2 rfl) ?_
    refine lv_iload_n X.1 X.2.1 dX12_step_48 rfl (lv_at hl 1 rfl) ?_
    refine lv_iload_n X.1 X.2.1 dX12_step_49 rfl (lv_at hl 0 rfl) ?_
    refine kp_callv X h (kp_runV (rm := { frames := 7, cells := 0, slots := 0, locals := 158 }) (mc := 0) (ms := 0) (rest := []) (Qc := fun A => kp_Qv D cy A T7 _) X h (c_X12_stepOfStatement l D cy ad T7 a0 y2 y4 y6 _ h.2.2.2 f_a0 hw) f_a0 cv_12_721 ⟨by decide, by decide, rfl, rfl, by decide, by decide⟩ rfl hl.1 rfl (Nat.le_of_ble_eq_true rfl) dX12_step_50) (fun T75 hw l_T75 H locs h => ?_)
    have f_a0 := l_T75.is f_a0
    have f_b1 := l_T75.is f_b1
    have f_b3 := l_T75.is f_b3
    have f_b5 := l_T75.is f_b5
    have hle := hle.tr l_T75
    exact kp_retv X hr hlocks h hle hw dX12_step_53
theorem dX12_clear_0 : decode cX12_clear 0 = .ok (.aload_n 0, 1) := by decide +kernel
theorem dX12_clear_1 : decode cX12_clear 1 = .ok (.iconst 0, 1) := by decide +kernel
theorem dX12_clear_2 : decode cX12_clear 2 = .ok (.putfield 601, 3) := by decide +kernel
theorem dX12_clear_5 : decode cX12_clear 5 = .ok (.aload_n 0, 1) := by decide +kernel
theorem dX12_clear_6 : decode cX12_clear 6 = .ok (.iconst 0, 1) := by decide +kernel
theorem dX12_clear_7 : decode cX12_clear 7 = .ok (.putfield 778, 3) := by decide +kernel
theorem dX12_clear_10 : decode cX12_clear 10 = .ok (.aload_n 0, 1) := by decide +kernel
theorem dX12_clear_11 : decode cX12_clear 11 = .ok (.iconst 0, 1) := by decide +kernel
theorem dX12_clear_12 : decode cX12_clear 12 = .ok (.putfield 669, 3) := by decide +kernel
theorem dX12_clear_15 : decode cX12_clear 15 = .ok (.aload_n 0, 1) := by decide +kernel
theorem dX12_clear_16 : decode cX12_clear 16 = .ok (.iconst 0, 1) := by decide +kernel
theorem dX12_clear_17 : decode cX12_clear 17 = .ok (.putfield 770, 3) := by decide +kernel
theorem dX12_clear_20 : decode cX12_clear 20 = .ok (.aload_n 0, 1) := by decide +kernel
theorem dX12_clear_21 : decode cX12_clear 21 = .ok (.iconst 0, 1) := by decide +kernel
theorem dX12_clear_22 : decode cX12_clear 22 = .ok (.putfield 678, 3) := by decide +kernel
theorem dX12_clear_25 : decode cX12_clear 25 = .ok (.aload_n 0, 1) := by decide +kernel
theorem dX12_clear_26 : decode cX12_clear 26 = .ok (.iconst 0, 1) := by decide +kernel
theorem dX12_clear_27 : decode cX12_clear 27 = .ok (.putfield 784, 3) := by decide +kernel
theorem dX12_clear_30 : decode cX12_clear 30 = .ok (.aload_n 0, 1) := by decide +kernel
theorem dX12_clear_31 : decode cX12_clear 31 = .ok (.iconst 0, 1) := by decide +kernel
theorem dX12_clear_32 : decode cX12_clear 32 = .ok (.putfield 702, 3) := by decide +kernel
theorem dX12_clear_35 : decode cX12_clear 35 = .ok (.aload_n 0, 1) := by decide +kernel
theorem dX12_clear_36 : decode cX12_clear 36 = .ok (.iconst 0, 1) := by decide +kernel
theorem dX12_clear_37 : decode cX12_clear 37 = .ok (.putfield 642, 3) := by decide +kernel
theorem dX12_clear_40 : decode cX12_clear 40 = .ok (.aload_n 0, 1) := by decide +kernel
theorem dX12_clear_41 : decode cX12_clear 41 = .ok (.iconst 0, 1) := by decide +kernel
theorem dX12_clear_42 : decode cX12_clear 42 = .ok (.putfield 781, 3) := by decide +kernel
theorem dX12_clear_45 : decode cX12_clear 45 = .ok (.aload_n 0, 1) := by decide +kernel
theorem dX12_clear_46 : decode cX12_clear 46 = .ok (.iconst 0, 1) := by decide +kernel
theorem dX12_clear_47 : decode cX12_clear 47 = .ok (.putfield 634, 3) := by decide +kernel
theorem dX12_clear_50 : decode cX12_clear 50 = .ok (.aload_n 0, 1) := by decide +kernel
theorem dX12_clear_51 : decode cX12_clear 51 = .ok (.iconst 0, 1) := by decide +kernel
theorem dX12_clear_52 : decode cX12_clear 52 = .ok (.putfield 711, 3) := by decide +kernel
theorem dX12_clear_55 : decode cX12_clear 55 = .ok (.aload_n 0, 1) := by decide +kernel
theorem dX12_clear_56 : decode cX12_clear 56 = .ok (.iconst 0, 1) := by decide +kernel
theorem dX12_clear_57 : decode cX12_clear 57 = .ok (.putfield 616, 3) := by decide +kernel
theorem dX12_clear_60 : decode cX12_clear 60 = .ok (.aload_n 0, 1) := by decide +kernel
theorem dX12_clear_61 : decode cX12_clear 61 = .ok (.iconst 0, 1) := by decide +kernel
theorem dX12_clear_62 : decode cX12_clear 62 = .ok (.putfield 613, 3) := by decide +kernel
theorem dX12_clear_65 : decode cX12_clear 65 = .ok (.aload_n 0, 1) := by decide +kernel
theorem dX12_clear_66 : decode cX12_clear 66 = .ok (.iconst 0, 1) := by decide +kernel
theorem dX12_clear_67 : decode cX12_clear 67 = .ok (.putfield 699, 3) := by decide +kernel
theorem dX12_clear_70 : decode cX12_clear 70 = .ok (.aload_n 0, 1) := by decide +kernel
theorem dX12_clear_71 : decode cX12_clear 71 = .ok (.iconst 0, 1) := by decide +kernel
theorem dX12_clear_72 : decode cX12_clear 72 = .ok (.putfield 604, 3) := by decide +kernel
theorem dX12_clear_75 : decode cX12_clear 75 = .ok (.aload_n 0, 1) := by decide +kernel
theorem dX12_clear_76 : decode cX12_clear 76 = .ok (.iconst 0, 1) := by decide +kernel
theorem dX12_clear_77 : decode cX12_clear 77 = .ok (.putfield 648, 3) := by decide +kernel
theorem dX12_clear_80 : decode cX12_clear 80 = .ok (.aload_n 0, 1) := by decide +kernel
theorem dX12_clear_81 : decode cX12_clear 81 = .ok (.iconst 0, 1) := by decide +kernel
theorem dX12_clear_82 : decode cX12_clear 82 = .ok (.putfield 639, 3) := by decide +kernel
theorem dX12_clear_85 : decode cX12_clear 85 = .ok (.aload_n 0, 1) := by decide +kernel
theorem dX12_clear_86 : decode cX12_clear 86 = .ok (.iconst 0, 1) := by decide +kernel
theorem dX12_clear_87 : decode cX12_clear 87 = .ok (.putfield 610, 3) := by decide +kernel
theorem dX12_clear_90 : decode cX12_clear 90 = .ok (.aload_n 0, 1) := by decide +kernel
theorem dX12_clear_91 : decode cX12_clear 91 = .ok (.iconst 0, 1) := by decide +kernel
theorem dX12_clear_92 : decode cX12_clear 92 = .ok (.putfield 705, 3) := by decide +kernel
theorem dX12_clear_95 : decode cX12_clear 95 = .ok (.return_, 1) := by decide +kernel
def wX12_clear (a0 : Nat) (S : kp_S) (post : kp_S → Prop) : Prop :=
  ∀ T1 : kp_S, T1 = kp_sI S 2470 a0 0 →
  ∀ T2 : kp_S, T2 = kp_sI T1 2471 a0 0 →
  ∀ T3 : kp_S, T3 = kp_sI T2 2472 a0 0 →
  ∀ T4 : kp_S, T4 = kp_sI T3 2473 a0 0 →
  ∀ T5 : kp_S, T5 = kp_sI T4 2474 a0 0 →
  ∀ T6 : kp_S, T6 = kp_sI T5 2475 a0 0 →
  ∀ T7 : kp_S, T7 = kp_sI T6 2476 a0 0 →
  ∀ T8 : kp_S, T8 = kp_sI T7 2477 a0 0 →
  ∀ T9 : kp_S, T9 = kp_sI T8 2478 a0 0 →
  ∀ T10 : kp_S, T10 = kp_sI T9 2479 a0 0 →
  ∀ T11 : kp_S, T11 = kp_sI T10 2480 a0 0 →
  ∀ T12 : kp_S, T12 = kp_sI T11 2481 a0 0 →
  ∀ T13 : kp_S, T13 = kp_sI T12 2487 a0 0 →
  ∀ T14 : kp_S, T14 = kp_sI T13 2501 a0 0 →
  ∀ T15 : kp_S, T15 = kp_sI T14 2516 a0 0 →
  ∀ T16 : kp_S, T16 = kp_sI T15 2510 a0 0 →
  ∀ T17 : kp_S, T17 = kp_sI T16 2511 a0 0 →
  ∀ T18 : kp_S, T18 = kp_sI T17 2513 a0 0 →
  ∀ T19 : kp_S, T19 = kp_sI T18 2514 a0 0 →
  post T19
set_option maxHeartbeats 4000000 in
set_option maxRecDepth 100000 in
theorem c_X12_clear (l : Launch) (D : va_G) (cy : Nat → ClassId) (ad : (Nat → Nat) × (Nat → Nat)) (S : kp_S) (a0 : Nat) (post : kp_S → Prop) (hS : kp_ok S) (f_a0 : kp_is S a0 12) (hw : wX12_clear a0 S post) : kp_M l yX12_clear cX12_clear 1 none { frames := 0, cells := 0, slots := 0, locals := 0 } D cy ad S [.ref a0] 0 0 (fun A => kp_Qv D cy A S post) := by
  refine kp_start (own := RX12) (by decide) rfl (Nat.le_of_ble_eq_true rfl) hS ?_
  intro p e s m below meth c A ls X hr hlocks hname h hl
  have hle : kp_le S S := kp_le.rf
  have hl : lv_has ls 1 [(0, .ref a0)] := hl
  unfold wX12_clear at hw
  have h : kp_H D cy A S s.heap s.heap [] := h
  revert h
  intro h
  refine lv_aload_n X.1 X.2.1 dX12_clear_0 rfl (lv_at hl 0 rfl) ?_
  refine lv_iconst (v := 0) X.1 X.2.1 dX12_clear_1 (by decide) ?_
  refine kp_putI X h f_a0 fp_12_601 rfl ⟨rfl, rfl⟩ dX12_clear_2 (fun T1 e_T1 l_T1 H locs h => ?_)
  have hw := hw T1 e_T1
  have f_a0 := l_T1.is f_a0
  have hle := hle.tr l_T1
  refine lv_aload_n X.1 X.2.1 dX12_clear_5 rfl (lv_at hl 0 rfl) ?_
  refine lv_iconst (v := 0) X.1 X.2.1 dX12_clear_6 (by decide) ?_
  refine kp_putI X h f_a0 fp_12_778 rfl ⟨rfl, rfl⟩ dX12_clear_7 (fun T2 e_T2 l_T2 H locs h => ?_)
  have hw := hw T2 e_T2
  have f_a0 := l_T2.is f_a0
  have hle := hle.tr l_T2
  refine lv_aload_n X.1 X.2.1 dX12_clear_10 rfl (lv_at hl 0 rfl) ?_
  refine lv_iconst (v := 0) X.1 X.2.1 dX12_clear_11 (by decide) ?_
  refine kp_putI X h f_a0 fp_12_669 rfl ⟨rfl, rfl⟩ dX12_clear_12 (fun T3 e_T3 l_T3 H locs h => ?_)
  have hw := hw T3 e_T3
  have f_a0 := l_T3.is f_a0
  have hle := hle.tr l_T3
  refine lv_aload_n X.1 X.2.1 dX12_clear_15 rfl (lv_at hl 0 rfl) ?_
  refine lv_iconst (v := 0) X.1 X.2.1 dX12_clear_16 (by decide) ?_
  refine kp_putI X h f_a0 fp_12_770 rfl ⟨rfl, rfl⟩ dX12_clear_17 (fun T4 e_T4 l_T4 H locs h => ?_)
  have hw := hw T4 e_T4
  have f_a0 := l_T4.is f_a0
  have hle := hle.tr l_T4
  refine lv_aload_n X.1 X.2.1 dX12_clear_20 rfl (lv_at hl 0 rfl) ?_
  refine lv_iconst (v := 0) X.1 X.2.1 dX12_clear_21 (by decide) ?_
  refine kp_putI X h f_a0 fp_12_678 rfl ⟨rfl, rfl⟩ dX12_clear_22 (fun T5 e_T5 l_T5 H locs h => ?_)
  have hw := hw T5 e_T5
  have f_a0 := l_T5.is f_a0
  have hle := hle.tr l_T5
  refine lv_aload_n X.1 X.2.1 dX12_clear_25 rfl (lv_at hl 0 rfl) ?_
  refine lv_iconst (v := 0) X.1 X.2.1 dX12_clear_26 (by decide) ?_
  refine kp_putI X h f_a0 fp_12_784 rfl ⟨rfl, rfl⟩ dX12_clear_27 (fun T6 e_T6 l_T6 H locs h => ?_)
  have hw := hw T6 e_T6
  have f_a0 := l_T6.is f_a0
  have hle := hle.tr l_T6
  refine lv_aload_n X.1 X.2.1 dX12_clear_30 rfl (lv_at hl 0 rfl) ?_
  refine lv_iconst (v := 0) X.1 X.2.1 dX12_clear_31 (by decide) ?_
  refine kp_putI X h f_a0 fp_12_702 rfl ⟨rfl, rfl⟩ dX12_clear_32 (fun T7 e_T7 l_T7 H locs h => ?_)
  have hw := hw T7 e_T7
  have f_a0 := l_T7.is f_a0
  have hle := hle.tr l_T7
  refine lv_aload_n X.1 X.2.1 dX12_clear_35 rfl (lv_at hl 0 rfl) ?_
  refine lv_iconst (v := 0) X.1 X.2.1 dX12_clear_36 (by decide) ?_
  refine kp_putI X h f_a0 fp_12_642 rfl ⟨rfl, rfl⟩ dX12_clear_37 (fun T8 e_T8 l_T8 H locs h => ?_)
  have hw := hw T8 e_T8
  have f_a0 := l_T8.is f_a0
  have hle := hle.tr l_T8
  refine lv_aload_n X.1 X.2.1 dX12_clear_40 rfl (lv_at hl 0 rfl) ?_
  refine lv_iconst (v := 0) X.1 X.2.1 dX12_clear_41 (by decide) ?_
  refine kp_putI X h f_a0 fp_12_781 rfl ⟨rfl, rfl⟩ dX12_clear_42 (fun T9 e_T9 l_T9 H locs h => ?_)
  have hw := hw T9 e_T9
  have f_a0 := l_T9.is f_a0
  have hle := hle.tr l_T9
  refine lv_aload_n X.1 X.2.1 dX12_clear_45 rfl (lv_at hl 0 rfl) ?_
  refine lv_iconst (v := 0) X.1 X.2.1 dX12_clear_46 (by decide) ?_
  refine kp_putI X h f_a0 fp_12_634 rfl ⟨rfl, rfl⟩ dX12_clear_47 (fun T10 e_T10 l_T10 H locs h => ?_)
  have hw := hw T10 e_T10
  have f_a0 := l_T10.is f_a0
  have hle := hle.tr l_T10
  refine lv_aload_n X.1 X.2.1 dX12_clear_50 rfl (lv_at hl 0 rfl) ?_
  refine lv_iconst (v := 0) X.1 X.2.1 dX12_clear_51 (by decide) ?_
  refine kp_putI X h f_a0 fp_12_711 rfl ⟨rfl, rfl⟩ dX12_clear_52 (fun T11 e_T11 l_T11 H locs h => ?_)
  have hw := hw T11 e_T11
  have f_a0 := l_T11.is f_a0
  have hle := hle.tr l_T11
  refine lv_aload_n X.1 X.2.1 dX12_clear_55 rfl (lv_at hl 0 rfl) ?_
  refine lv_iconst (v := 0) X.1 X.2.1 dX12_clear_56 (by decide) ?_
  refine kp_putI X h f_a0 fp_12_616 rfl ⟨rfl, rfl⟩ dX12_clear_57 (fun T12 e_T12 l_T12 H locs h => ?_)
  have hw := hw T12 e_T12
  have f_a0 := l_T12.is f_a0
  have hle := hle.tr l_T12
  refine lv_aload_n X.1 X.2.1 dX12_clear_60 rfl (lv_at hl 0 rfl) ?_
  refine lv_iconst (v := 0) X.1 X.2.1 dX12_clear_61 (by decide) ?_
  refine kp_putI X h f_a0 fp_12_613 rfl ⟨rfl, rfl⟩ dX12_clear_62 (fun T13 e_T13 l_T13 H locs h => ?_)
  have hw := hw T13 e_T13
  have f_a0 := l_T13.is f_a0
  have hle := hle.tr l_T13
  refine lv_aload_n X.1 X.2.1 dX12_clear_65 rfl (lv_at hl 0 rfl) ?_
  refine lv_iconst (v := 0) X.1 X.2.1 dX12_clear_66 (by decide) ?_
  refine kp_putI X h f_a0 fp_12_699 rfl ⟨rfl, rfl⟩ dX12_clear_67 (fun T14 e_T14 l_T14 H locs h => ?_)
  have hw := hw T14 e_T14
  have f_a0 := l_T14.is f_a0
  have hle := hle.tr l_T14
  refine lv_aload_n X.1 X.2.1 dX12_clear_70 rfl (lv_at hl 0 rfl) ?_
  refine lv_iconst (v := 0) X.1 X.2.1 dX12_clear_71 (by decide) ?_
  refine kp_putI X h f_a0 fp_12_604 rfl ⟨rfl, rfl⟩ dX12_clear_72 (fun T15 e_T15 l_T15 H locs h => ?_)
  have hw := hw T15 e_T15
  have f_a0 := l_T15.is f_a0
  have hle := hle.tr l_T15
  refine lv_aload_n X.1 X.2.1 dX12_clear_75 rfl (lv_at hl 0 rfl) ?_
  refine lv_iconst (v := 0) X.1 X.2.1 dX12_clear_76 (by decide) ?_
  refine kp_putI X h f_a0 fp_12_648 rfl ⟨rfl, rfl⟩ dX12_clear_77 (fun T16 e_T16 l_T16 H locs h => ?_)
  have hw := hw T16 e_T16
  have f_a0 := l_T16.is f_a0
  have hle := hle.tr l_T16
  refine lv_aload_n X.1 X.2.1 dX12_clear_80 rfl (lv_at hl 0 rfl) ?_
  refine lv_iconst (v := 0) X.1 X.2.1 dX12_clear_81 (by decide) ?_
  refine kp_putI X h f_a0 fp_12_639 rfl ⟨rfl, rfl⟩ dX12_clear_82 (fun T17 e_T17 l_T17 H locs h => ?_)
  have hw := hw T17 e_T17
  have f_a0 := l_T17.is f_a0
  have hle := hle.tr l_T17
  refine lv_aload_n X.1 X.2.1 dX12_clear_85 rfl (lv_at hl 0 rfl) ?_
  refine lv_iconst (v := 0) X.1 X.2.1 dX12_clear_86 (by decide) ?_
  refine kp_putI X h f_a0 fp_12_610 rfl ⟨rfl, rfl⟩ dX12_clear_87 (fun T18 e_T18 l_T18 H locs h => ?_)
  have hw := hw T18 e_T18
  have f_a0 := l_T18.is f_a0
  have hle := hle.tr l_T18
  refine lv_aload_n X.1 X.2.1 dX12_clear_90 rfl (lv_at hl 0 rfl) ?_
  refine lv_iconst (v := 0) X.1 X.2.1 dX12_clear_91 (by decide) ?_
  refine kp_putI X h f_a0 fp_12_705 rfl ⟨by decide, by decide⟩ dX12_clear_92 (fun T19 e_T19 l_T19 H locs h => ?_)
  have hw := hw T19 e_T19
  have f_a0 := l_T19.is f_a0
  have hle := hle.tr l_T19
  exact kp_retv X hr hlocks h hle hw dX12_clear_95
theorem dX12_tellEnd_0 : decode cX12_tellEnd 0 = .ok (.aload_n 0, 1) := by decide +kernel
theorem dX12_tellEnd_1 : decode cX12_tellEnd 1 = .ok (.iconst 0, 1) := by decide +kernel
theorem dX12_tellEnd_2 : decode cX12_tellEnd 2 = .ok (.putfield 809, 3) := by decide +kernel
theorem dX12_tellEnd_5 : decode cX12_tellEnd 5 = .ok (.aload_n 0, 1) := by decide +kernel
theorem dX12_tellEnd_6 : decode cX12_tellEnd 6 = .ok (.iconst 0, 1) := by decide +kernel
theorem dX12_tellEnd_7 : decode cX12_tellEnd 7 = .ok (.putfield 812, 3) := by decide +kernel
theorem dX12_tellEnd_10 : decode cX12_tellEnd 10 = .ok (.aload_n 0, 1) := by decide +kernel
theorem dX12_tellEnd_11 : decode cX12_tellEnd 11 = .ok (.iconst 0, 1) := by decide +kernel
theorem dX12_tellEnd_12 : decode cX12_tellEnd 12 = .ok (.putfield 815, 3) := by decide +kernel
theorem dX12_tellEnd_15 : decode cX12_tellEnd 15 = .ok (.aload_n 0, 1) := by decide +kernel
theorem dX12_tellEnd_16 : decode cX12_tellEnd 16 = .ok (.iconst (-1), 1) := by decide +kernel
theorem dX12_tellEnd_17 : decode cX12_tellEnd 17 = .ok (.putfield 245, 3) := by decide +kernel
theorem dX12_tellEnd_20 : decode cX12_tellEnd 20 = .ok (.aload_n 0, 1) := by decide +kernel
theorem dX12_tellEnd_21 : decode cX12_tellEnd 21 = .ok (.aload_n 0, 1) := by decide +kernel
theorem dX12_tellEnd_22 : decode cX12_tellEnd 22 = .ok (.getfield 610, 3) := by decide +kernel
theorem dX12_tellEnd_25 : decode cX12_tellEnd 25 = .ok (.ifCond .le 7, 3) := by decide +kernel
theorem dX12_tellEnd_28 : decode cX12_tellEnd 28 = .ok (.iconst 0, 1) := by decide +kernel
theorem dX12_tellEnd_29 : decode cX12_tellEnd 29 = .ok (.goto 28, 3) := by decide +kernel
theorem dX12_tellEnd_32 : decode cX12_tellEnd 32 = .ok (.aload_n 0, 1) := by decide +kernel
theorem dX12_tellEnd_33 : decode cX12_tellEnd 33 = .ok (.getfield 616, 3) := by decide +kernel
theorem dX12_tellEnd_36 : decode cX12_tellEnd 36 = .ok (.iconst 4, 1) := by decide +kernel
theorem dX12_tellEnd_37 : decode cX12_tellEnd 37 = .ok (.if_icmp .ne 7, 3) := by decide +kernel
theorem dX12_tellEnd_40 : decode cX12_tellEnd 40 = .ok (.iconst 4, 1) := by decide +kernel
theorem dX12_tellEnd_41 : decode cX12_tellEnd 41 = .ok (.goto 16, 3) := by decide +kernel
theorem dX12_tellEnd_44 : decode cX12_tellEnd 44 = .ok (.aload_n 0, 1) := by decide +kernel
theorem dX12_tellEnd_45 : decode cX12_tellEnd 45 = .ok (.getfield 616, 3) := by decide +kernel
theorem dX12_tellEnd_48 : decode cX12_tellEnd 48 = .ok (.iconst 3, 1) := by decide +kernel
theorem dX12_tellEnd_49 : decode cX12_tellEnd 49 = .ok (.if_icmp .ne 7, 3) := by decide +kernel
theorem dX12_tellEnd_52 : decode cX12_tellEnd 52 = .ok (.iconst 2, 1) := by decide +kernel
theorem dX12_tellEnd_53 : decode cX12_tellEnd 53 = .ok (.goto 4, 3) := by decide +kernel
theorem dX12_tellEnd_56 : decode cX12_tellEnd 56 = .ok (.iconst 1, 1) := by decide +kernel
theorem dX12_tellEnd_57 : decode cX12_tellEnd 57 = .ok (.putfield 818, 3) := by decide +kernel
theorem dX12_tellEnd_60 : decode cX12_tellEnd 60 = .ok (.aload_n 0, 1) := by decide +kernel
theorem dX12_tellEnd_61 : decode cX12_tellEnd 61 = .ok (.getfield 610, 3) := by decide +kernel
theorem dX12_tellEnd_64 : decode cX12_tellEnd 64 = .ok (.ifCond .le 33, 3) := by decide +kernel
theorem dX12_tellEnd_67 : decode cX12_tellEnd 67 = .ok (.iconst 0, 1) := by decide +kernel
theorem dX12_tellEnd_68 : decode cX12_tellEnd 68 = .ok (.istore_n 1, 1) := by decide +kernel
theorem dX12_tellEnd_69 : decode cX12_tellEnd 69 = .ok (.iload_n 1, 1) := by decide +kernel
theorem dX12_tellEnd_70 : decode cX12_tellEnd 70 = .ok (.bipush 6, 2) := by decide +kernel
theorem dX12_tellEnd_72 : decode cX12_tellEnd 72 = .ok (.if_icmp .ge 16, 3) := by decide +kernel
theorem dX12_tellEnd_75 : decode cX12_tellEnd 75 = .ok (.aload_n 0, 1) := by decide +kernel
theorem dX12_tellEnd_76 : decode cX12_tellEnd 76 = .ok (.getfield 161, 3) := by decide +kernel
theorem dX12_tellEnd_79 : decode cX12_tellEnd 79 = .ok (.iload_n 1, 1) := by decide +kernel
theorem dX12_tellEnd_80 : decode cX12_tellEnd 80 = .ok (.iconst 0, 1) := by decide +kernel
theorem dX12_tellEnd_81 : decode cX12_tellEnd 81 = .ok (.iastore, 1) := by decide +kernel
theorem dX12_tellEnd_82 : decode cX12_tellEnd 82 = .ok (.iinc 1 1, 3) := by decide +kernel
theorem dX12_tellEnd_85 : decode cX12_tellEnd 85 = .ok (.goto (-16), 3) := by decide +kernel
theorem dX12_tellEnd_88 : decode cX12_tellEnd 88 = .ok (.aload_n 0, 1) := by decide +kernel
theorem dX12_tellEnd_89 : decode cX12_tellEnd 89 = .ok (.aload_n 0, 1) := by decide +kernel
theorem dX12_tellEnd_90 : decode cX12_tellEnd 90 = .ok (.getfield 610, 3) := by decide +kernel
theorem dX12_tellEnd_93 : decode cX12_tellEnd 93 = .ok (.putfield 242, 3) := by decide +kernel
theorem dX12_tellEnd_96 : decode cX12_tellEnd 96 = .ok (.return_, 1) := by decide +kernel
theorem dX12_tellEnd_97 : decode cX12_tellEnd 97 = .ok (.aload_n 0, 1) := by decide +kernel
theorem dX12_tellEnd_98 : decode cX12_tellEnd 98 = .ok (.aload_n 0, 1) := by decide +kernel
theorem dX12_tellEnd_99 : decode cX12_tellEnd 99 = .ok (.getfield 616, 3) := by decide +kernel
theorem dX12_tellEnd_102 : decode cX12_tellEnd 102 = .ok (.iconst 4, 1) := by decide +kernel
theorem dX12_tellEnd_103 : decode cX12_tellEnd 103 = .ok (.if_icmp .ne 7, 3) := by decide +kernel
theorem dX12_tellEnd_106 : decode cX12_tellEnd 106 = .ok (.iconst 3, 1) := by decide +kernel
theorem dX12_tellEnd_107 : decode cX12_tellEnd 107 = .ok (.goto 4, 3) := by decide +kernel
theorem dX12_tellEnd_110 : decode cX12_tellEnd 110 = .ok (.iconst 0, 1) := by decide +kernel
theorem dX12_tellEnd_111 : decode cX12_tellEnd 111 = .ok (.putfield 242, 3) := by decide +kernel
theorem dX12_tellEnd_114 : decode cX12_tellEnd 114 = .ok (.aload_n 0, 1) := by decide +kernel
theorem dX12_tellEnd_115 : decode cX12_tellEnd 115 = .ok (.getfield 616, 3) := by decide +kernel
theorem dX12_tellEnd_118 : decode cX12_tellEnd 118 = .ok (.iconst 4, 1) := by decide +kernel
theorem dX12_tellEnd_119 : decode cX12_tellEnd 119 = .ok (.if_icmp .ne 30, 3) := by decide +kernel
theorem dX12_tellEnd_122 : decode cX12_tellEnd 122 = .ok (.aload_n 0, 1) := by decide +kernel
theorem dX12_tellEnd_123 : decode cX12_tellEnd 123 = .ok (.aload_n 0, 1) := by decide +kernel
theorem dX12_tellEnd_124 : decode cX12_tellEnd 124 = .ok (.getfield 625, 3) := by decide +kernel
theorem dX12_tellEnd_127 : decode cX12_tellEnd 127 = .ok (.putfield 812, 3) := by decide +kernel
theorem dX12_tellEnd_130 : decode cX12_tellEnd 130 = .ok (.aload_n 0, 1) := by decide +kernel
theorem dX12_tellEnd_131 : decode cX12_tellEnd 131 = .ok (.aload_n 0, 1) := by decide +kernel
theorem dX12_tellEnd_132 : decode cX12_tellEnd 132 = .ok (.getfield 628, 3) := by decide +kernel
theorem dX12_tellEnd_135 : decode cX12_tellEnd 135 = .ok (.putfield 815, 3) := by decide +kernel
theorem dX12_tellEnd_138 : decode cX12_tellEnd 138 = .ok (.aload_n 0, 1) := by decide +kernel
theorem dX12_tellEnd_139 : decode cX12_tellEnd 139 = .ok (.aload_n 0, 1) := by decide +kernel
theorem dX12_tellEnd_140 : decode cX12_tellEnd 140 = .ok (.getfield 631, 3) := by decide +kernel
theorem dX12_tellEnd_143 : decode cX12_tellEnd 143 = .ok (.putfield 245, 3) := by decide +kernel
theorem dX12_tellEnd_146 : decode cX12_tellEnd 146 = .ok (.goto 23, 3) := by decide +kernel
theorem dX12_tellEnd_149 : decode cX12_tellEnd 149 = .ok (.aload_n 0, 1) := by decide +kernel
theorem dX12_tellEnd_150 : decode cX12_tellEnd 150 = .ok (.aload_n 0, 1) := by decide +kernel
theorem dX12_tellEnd_151 : decode cX12_tellEnd 151 = .ok (.getfield 616, 3) := by decide +kernel
theorem dX12_tellEnd_154 : decode cX12_tellEnd 154 = .ok (.iconst 3, 1) := by decide +kernel
theorem dX12_tellEnd_155 : decode cX12_tellEnd 155 = .ok (.if_icmp .ne 10, 3) := by decide +kernel
theorem dX12_tellEnd_158 : decode cX12_tellEnd 158 = .ok (.aload_n 0, 1) := by decide +kernel
theorem dX12_tellEnd_159 : decode cX12_tellEnd 159 = .ok (.getfield 622, 3) := by decide +kernel
theorem dX12_tellEnd_162 : decode cX12_tellEnd 162 = .ok (.goto 4, 3) := by decide +kernel
theorem dX12_tellEnd_165 : decode cX12_tellEnd 165 = .ok (.iconst 0, 1) := by decide +kernel
theorem dX12_tellEnd_166 : decode cX12_tellEnd 166 = .ok (.putfield 809, 3) := by decide +kernel
theorem dX12_tellEnd_169 : decode cX12_tellEnd 169 = .ok (.return_, 1) := by decide +kernel
def wX12_tellEnd_b169 (a0 : Nat)  (Sn : kp_S) (post : kp_S → Prop) : Prop :=
  post Sn
def wX12_tellEnd_b166 (a0 : Nat) (xt0 : Int32) (at1 : Nat)  (Sn : kp_S) (post : kp_S → Prop) : Prop :=
  ∀ T2001 : kp_S, T2001 = kp_sI Sn 2518 at1 xt0 →
  wX12_tellEnd_b169 a0   T2001 post
def wX12_tellEnd_b111 (a0 : Nat) (xt0 : Int32) (at1 : Nat)  (Sn : kp_S) (post : kp_S → Prop) : Prop :=
  ∀ T3001 : kp_S, T3001 = kp_sI Sn 2517 at1 xt0 →
  ((¬ (kp_I T3001 2481 a0) = 4 →
  ((¬ (kp_I T3001 2481 a0) = 3 →
  wX12_tellEnd_b166 a0 0 a0  T3001 post) ∧ ((kp_I T3001 2481 a0) = 3 →
  wX12_tellEnd_b166 a0 (kp_I T3001 2483 a0) a0  T3001 post))) ∧ ((kp_I T3001 2481 a0) = 4 →
  ∀ T3003 : kp_S, T3003 = kp_sI T3001 2519 a0 (kp_I T3001 2484 a0) →
  ∀ T3004 : kp_S, T3004 = kp_sI T3003 2520 a0 (kp_I T3003 2485 a0) →
  ∀ T3005 : kp_S, T3005 = kp_sI T3004 2522 a0 (kp_I T3004 2486 a0) →
  wX12_tellEnd_b169 a0   T3005 post))
def wX12_tellEnd_L69 (a0 : Nat)  (post : kp_S → Prop) : Nat → Int32 → kp_S → Prop
  | 0, _, _ => False
  | n + 1, xn1, Sn =>
  ((6 ≤ xn1 →
  ∀ T4001 : kp_S, T4001 = kp_sI Sn 2517 a0 (kp_I Sn 2513 a0) →
  post T4001) ∧ (¬ 6 ≤ xn1 →
  ∃ b4002 : Nat, kp_R Sn 2465 a0 = some b4002 ∧
  vp_in xn1 (kp_N Sn b4002) ∧ ∀ T4003 : kp_S, T4003 = kp_sA Sn b4002 (upd (kp_A Sn b4002) (xn1.toNatClampNeg) 0) →
  ∀ y4004 : Int32, y4004 = xn1 + 1 →
  wX12_tellEnd_L69 a0  post n y4004 T4003))
def wX12_tellEnd_b57 (a0 : Nat) (xt0 : Int32) (at1 : Nat)  (Sn : kp_S) (post : kp_S → Prop) : Prop :=
  ∀ T5001 : kp_S, T5001 = kp_sI Sn 2521 at1 xt0 →
  (((kp_I T5001 2513 a0) ≤ 0 →
  ((¬ (kp_I T5001 2481 a0) = 4 →
  wX12_tellEnd_b111 a0 0 a0  T5001 post) ∧ ((kp_I T5001 2481 a0) = 4 →
  wX12_tellEnd_b111 a0 3 a0  T5001 post))) ∧ (¬ (kp_I T5001 2513 a0) ≤ 0 →
  ∃ n0 : Nat, wX12_tellEnd_L69 a0  post n0 0 T5001))
def wX12_tellEnd (a0 : Nat) (S : kp_S) (post : kp_S → Prop) : Prop :=
  ∀ T1 : kp_S, T1 = kp_sI S 2518 a0 0 →
  ∀ T2 : kp_S, T2 = kp_sI T1 2519 a0 0 →
  ∀ T3 : kp_S, T3 = kp_sI T2 2520 a0 0 →
  ∀ T4 : kp_S, T4 = kp_sI T3 2522 a0 (-1) →
  (((kp_I T4 2513 a0) ≤ 0 →
  ((¬ (kp_I T4 2481 a0) = 4 →
  ((¬ (kp_I T4 2481 a0) = 3 →
  wX12_tellEnd_b57 a0 1 a0  T4 post) ∧ ((kp_I T4 2481 a0) = 3 →
  wX12_tellEnd_b57 a0 2 a0  T4 post))) ∧ ((kp_I T4 2481 a0) = 4 →
  wX12_tellEnd_b57 a0 4 a0  T4 post))) ∧ (¬ (kp_I T4 2513 a0) ≤ 0 →
  wX12_tellEnd_b57 a0 0 a0  T4 post))
set_option maxHeartbeats 4000000 in
set_option maxRecDepth 100000 in
theorem c_X12_tellEnd (l : Launch) (D : va_G) (cy : Nat → ClassId) (ad : (Nat → Nat) × (Nat → Nat)) (S : kp_S) (a0 : Nat) (post : kp_S → Prop) (hS : kp_ok S) (f_a0 : kp_is S a0 12) (hw : wX12_tellEnd a0 S post) : kp_M l yX12_tellEnd cX12_tellEnd 2 none { frames := 0, cells := 0, slots := 0, locals := 0 } D cy ad S [.ref a0] 0 0 (fun A => kp_Qv D cy A S post) := by
  refine kp_start (own := RX12) (by decide) rfl (Nat.le_of_ble_eq_true rfl) hS ?_
  intro p e s m below meth c A ls X hr hlocks hname h hl
  have hle : kp_le S S := kp_le.rf
  have hl : lv_has ls 2 [(0, .ref a0)] := hl
  have j169 : ∀  (Sn : kp_S) (H : Heap) (locs : List Loc) (ls : Array Slot), lv_has ls 2 [] → kp_H D cy A Sn s.heap H locs → kp_le S Sn → kp_is Sn a0 12 → wX12_tellEnd_b169 a0   Sn post → W p l e { frames := 0, cells := 0, slots := 0, locals := 0 } s m ([.ref a0] : List Value).toArray below meth c H locs 0 0 (MQ below (kp_Qv D cy A S post) ([.ref a0] : List Value).toArray s 0 0 A) (F0 m 169 ls []) := by
    intro  Sn H locs ls hl h hle f_a0 hw
    unfold wX12_tellEnd_b169 at hw
    exact kp_retv X hr hlocks h hle hw dX12_tellEnd_169
  have j166 : ∀ (xt0 : Int32) (at1 : Nat) (Sn : kp_S) (H : Heap) (locs : List Loc) (ls : Array Slot), lv_has ls 2 [] → kp_H D cy A Sn s.heap H locs → kp_le S Sn → kp_is Sn at1 12 → kp_is Sn a0 12 → wX12_tellEnd_b166 a0 xt0 at1  Sn post → W p l e { frames := 0, cells := 0, slots := 0, locals := 0 } s m ([.ref a0] : List Value).toArray below meth c H locs 0 0 (MQ below (kp_Qv D cy A S post) ([.ref a0] : List Value).toArray s 0 0 A) (F0 m 166 ls [.int xt0, .ref at1]) := by
    intro xt0 at1 Sn H locs ls hl h hle f_at1 f_a0 hw
    unfold wX12_tellEnd_b166 at hw
    refine kp_putI X h f_at1 fp_12_809 rfl ⟨rfl, rfl⟩ dX12_tellEnd_166 (fun T2001 e_T2001 l_T2001 H locs h => ?_)
    have hw := hw T2001 e_T2001
    have f_at1 := l_T2001.is f_at1
    have f_a0 := l_T2001.is f_a0
    have hle := hle.tr l_T2001
    exact j169  T2001 H locs ls (lv_sub hl [] rfl) h hle f_a0 hw
  have j111 : ∀ (xt0 : Int32) (at1 : Nat) (Sn : kp_S) (H : Heap) (locs : List Loc) (ls : Array Slot), lv_has ls 2 [(0, .ref a0)] → kp_H D cy A Sn s.heap H locs → kp_le S Sn → kp_is Sn a0 12 → kp_is Sn at1 12 → wX12_tellEnd_b111 a0 xt0 at1  Sn post → W p l e { frames := 0, cells := 0, slots := 0, locals := 0 } s m ([.ref a0] : List Value).toArray below meth c H locs 0 0 (MQ below (kp_Qv D cy A S post) ([.ref a0] : List Value).toArray s 0 0 A) (F0 m 111 ls [.int xt0, .ref at1]) := by
    intro xt0 at1 Sn H locs ls hl h hle f_a0 f_at1 hw
    unfold wX12_tellEnd_b111 at hw
    refine kp_putI X h f_at1 fp_12_242 rfl ⟨rfl, rfl⟩ dX12_tellEnd_111 (fun T3001 e_T3001 l_T3001 H locs h => ?_)
    have hw := hw T3001 e_T3001
    have f_a0 := l_T3001.is f_a0
    have f_at1 := l_T3001.is f_at1
    have hle := hle.tr l_T3001
    refine lv_aload_n X.1 X.2.1 dX12_tellEnd_114 rfl (lv_at hl 0 rfl) ?_
    refine kp_get X h f_a0 fp_12_616.l (v := .int (kp_I T3001 2481 a0)) rfl dX12_tellEnd_115 ?_
    refine lv_iconst (v := 4) X.1 X.2.1 dX12_tellEnd_118 (by decide) ?_
    refine lv_icmp_ne (tgt := 149) X.1 X.2.1 dX12_tellEnd_119 (by decide) (fun c3006 => ?_) (fun c3006 => ?_)
    · have hw := hw.1 c3006
      refine lv_aload_n X.1 X.2.1 dX12_tellEnd_149 rfl (lv_at hl 0 rfl) ?_
      refine lv_aload_n X.1 X.2.1 dX12_tellEnd_150 rfl (lv_at hl 0 rfl) ?_
      refine kp_get X h f_a0 fp_12_616.l (v := .int (kp_I T3001 2481 a0)) rfl dX12_tellEnd_151 ?_
      refine lv_iconst (v := 3) X.1 X.2.1 dX12_tellEnd_154 (by decide) ?_
      refine lv_icmp_ne (tgt := 165) X.1 X.2.1 dX12_tellEnd_155 (by decide) (fun c3002 => ?_) (fun c3002 => ?_)
      · have hw := hw.1 c3002
        refine lv_iconst (v := 0) X.1 X.2.1 dX12_tellEnd_165 (by decide) ?_
        exact j166 0 a0 T3001 H locs ls (lv_sub hl [] rfl) h hle f_a0 f_a0 hw
      · have hw := hw.2 c3002
        refine lv_aload_n X.1 X.2.1 dX12_tellEnd_158 rfl (lv_at hl 0 rfl) ?_
        refine kp_get X h f_a0 fp_12_622.l (v := .int (kp_I T3001 2483 a0)) rfl dX12_tellEnd_159 ?_
        refine lv_goto (tgt := 166) X.1 X.2.1 dX12_tellEnd_162 (by decide) ?_
        exact j166 (kp_I T3001 2483 a0) a0 T3001 H locs ls (lv_sub hl [] rfl) h hle f_a0 f_a0 hw
    · have hw := hw.2 c3006
      refine lv_aload_n X.1 X.2.1 dX12_tellEnd_122 rfl (lv_at hl 0 rfl) ?_
      refine lv_aload_n X.1 X.2.1 dX12_tellEnd_123 rfl (lv_at hl 0 rfl) ?_
      refine kp_get X h f_a0 fp_12_625.l (v := .int (kp_I T3001 2484 a0)) rfl dX12_tellEnd_124 ?_
      refine kp_putI X h f_a0 fp_12_812 rfl ⟨rfl, rfl⟩ dX12_tellEnd_127 (fun T3003 e_T3003 l_T3003 H locs h => ?_)
      have hw := hw T3003 e_T3003
      have f_a0 := l_T3003.is f_a0
      have f_at1 := l_T3003.is f_at1
      have hle := hle.tr l_T3003
      refine lv_aload_n X.1 X.2.1 dX12_tellEnd_130 rfl (lv_at hl 0 rfl) ?_
      refine lv_aload_n X.1 X.2.1 dX12_tellEnd_131 rfl (lv_at hl 0 rfl) ?_
      refine kp_get X h f_a0 fp_12_628.l (v := .int (kp_I T3003 2485 a0)) rfl dX12_tellEnd_132 ?_
      refine kp_putI X h f_a0 fp_12_815 rfl ⟨rfl, rfl⟩ dX12_tellEnd_135 (fun T3004 e_T3004 l_T3004 H locs h => ?_)
      have hw := hw T3004 e_T3004
      have f_a0 := l_T3004.is f_a0
      have f_at1 := l_T3004.is f_at1
      have hle := hle.tr l_T3004
      refine lv_aload_n X.1 X.2.1 dX12_tellEnd_138 rfl (lv_at hl 0 rfl) ?_
      refine lv_aload_n X.1 X.2.1 dX12_tellEnd_139 rfl (lv_at hl 0 rfl) ?_
      refine kp_get X h f_a0 fp_12_631.l (v := .int (kp_I T3004 2486 a0)) rfl dX12_tellEnd_140 ?_
      refine kp_putI X h f_a0 fp_12_245 rfl ⟨rfl, rfl⟩ dX12_tellEnd_143 (fun T3005 e_T3005 l_T3005 H locs h => ?_)
      have hw := hw T3005 e_T3005
      have f_a0 := l_T3005.is f_a0
      have f_at1 := l_T3005.is f_at1
      have hle := hle.tr l_T3005
      refine lv_goto (tgt := 169) X.1 X.2.1 dX12_tellEnd_146 (by decide) ?_
      exact j169  T3005 H locs ls (lv_sub hl [] rfl) h hle f_a0 hw
  have L69 : ∀ n69 : Nat, ∀ (xn1 : Int32) (Sn : kp_S) (H : Heap) (locs : List Loc) (ls : Array Slot), lv_has ls 2 [(0, .ref a0), (1, .int xn1)] → kp_H D cy A Sn s.heap H locs → kp_le S Sn → kp_is Sn a0 12 → wX12_tellEnd_L69 a0  post n69 xn1 Sn → W p l e { frames := 0, cells := 0, slots := 0, locals := 0 } s m ([.ref a0] : List Value).toArray below meth c H locs 0 0 (MQ below (kp_Qv D cy A S post) ([.ref a0] : List Value).toArray s 0 0 A) (F0 m 69 ls []) := by
    intro n69
    induction n69 with
    | zero => intro xn1 Sn H locs ls hl h hle f_a0 hw; exact hw.elim
    | succ n69 ih69 =>
      intro xn1 Sn H locs ls hl h hle f_a0 hw
      unfold wX12_tellEnd_L69 at hw
      refine lv_iload_n X.1 X.2.1 dX12_tellEnd_69 rfl (lv_at hl 1 rfl) ?_
      refine lv_bipush (v := 6) X.1 X.2.1 dX12_tellEnd_70 (by decide) ?_
      refine lv_icmp_ge (tgt := 88) X.1 X.2.1 dX12_tellEnd_72 (by decide) (fun c4005 => ?_) (fun c4005 => ?_)
      · have hw := hw.1 c4005
        refine lv_aload_n X.1 X.2.1 dX12_tellEnd_88 rfl (lv_at hl 0 rfl) ?_
        refine lv_aload_n X.1 X.2.1 dX12_tellEnd_89 rfl (lv_at hl 0 rfl) ?_
        refine kp_get X h f_a0 fp_12_610.l (v := .int (kp_I Sn 2513 a0)) rfl dX12_tellEnd_90 ?_
        refine kp_putI X h f_a0 fp_12_242 rfl ⟨rfl, rfl⟩ dX12_tellEnd_93 (fun T4001 e_T4001 l_T4001 H locs h => ?_)
        have hw := hw T4001 e_T4001
        have f_a0 := l_T4001.is f_a0
        have hle := hle.tr l_T4001
        exact kp_retv X hr hlocks h hle hw dX12_tellEnd_96
      · have hw := hw.2 c4005
        refine lv_aload_n X.1 X.2.1 dX12_tellEnd_75 rfl (lv_at hl 0 rfl) ?_
        obtain ⟨b4002, e_b4002, hw⟩ := hw
        have f_b4002 := h.2.2.2.rf (c := 12) (k := 65) f_a0 (by decide) (by decide) e_b4002 (t := 14) rfl
        refine kp_get X h f_a0 ff_12_161.l (v := .ref b4002) (congrArg va_rf e_b4002) dX12_tellEnd_76 ?_
        refine lv_iload_n X.1 X.2.1 dX12_tellEnd_79 rfl (lv_at hl 1 rfl) ?_
        refine lv_iconst (v := 0) X.1 X.2.1 dX12_tellEnd_80 (by decide) ?_
        obtain ⟨hi, hw⟩ := hw
        refine kp_iast X h f_b4002 hi dX12_tellEnd_81 (fun T4003 e_T4003 l_T4003 H locs h => ?_)
        have hw := hw T4003 e_T4003
        have f_a0 := l_T4003.is f_a0
        have f_b4002 := l_T4003.is f_b4002
        have hle := hle.tr l_T4003
        have e_b4002 : kp_R T4003 2465 a0 = some b4002 := by rw [e_T4003]; exact e_b4002
        obtain ⟨y4004, e_y4004⟩ : ∃ y : Int32, y = xn1 + 1 := ⟨_, rfl⟩
        have hw := hw y4004 e_y4004
        refine lv_iinc (v := y4004) (lv' := [(1, .int y4004), (0, .ref a0)]) X.1 X.2.1 dX12_tellEnd_82 hl (k := 1) rfl (by rw [e_y4004]; rfl) (by decide) rfl (fun ls hl => ?_)
        refine lv_goto (tgt := 69) X.1 X.2.1 dX12_tellEnd_85 (by decide) ?_
        exact ih69 y4004 T4003 H locs ls (lv_sub hl [1, 0] rfl) h hle f_a0 hw
  have j57 : ∀ (xt0 : Int32) (at1 : Nat) (Sn : kp_S) (H : Heap) (locs : List Loc) (ls : Array Slot), lv_has ls 2 [(0, .ref a0)] → kp_H D cy A Sn s.heap H locs → kp_le S Sn → kp_is Sn a0 12 → kp_is Sn at1 12 → wX12_tellEnd_b57 a0 xt0 at1  Sn post → W p l e { frames := 0, cells := 0, slots := 0, locals := 0 } s m ([.ref a0] : List Value).toArray below meth c H locs 0 0 (MQ below (kp_Qv D cy A S post) ([.ref a0] : List Value).toArray s 0 0 A) (F0 m 57 ls [.int xt0, .ref at1]) := by
    intro xt0 at1 Sn H locs ls hl h hle f_a0 f_at1 hw
    unfold wX12_tellEnd_b57 at hw
    refine kp_putI X h f_at1 fp_12_818 rfl ⟨rfl, rfl⟩ dX12_tellEnd_57 (fun T5001 e_T5001 l_T5001 H locs h => ?_)
    have hw := hw T5001 e_T5001
    have f_a0 := l_T5001.is f_a0
    have f_at1 := l_T5001.is f_at1
    have hle := hle.tr l_T5001
    refine lv_aload_n X.1 X.2.1 dX12_tellEnd_60 rfl (lv_at hl 0 rfl) ?_
    refine kp_get X h f_a0 fp_12_610.l (v := .int (kp_I T5001 2513 a0)) rfl dX12_tellEnd_61 ?_
    refine lv_if_le (tgt := 97) X.1 X.2.1 dX12_tellEnd_64 (by decide) (fun c5003 => ?_) (fun c5003 => ?_)
    · have hw := hw.1 c5003
      refine lv_aload_n X.1 X.2.1 dX12_tellEnd_97 rfl (lv_at hl 0 rfl) ?_
      refine lv_aload_n X.1 X.2.1 dX12_tellEnd_98 rfl (lv_at hl 0 rfl) ?_
      refine kp_get X h f_a0 fp_12_616.l (v := .int (kp_I T5001 2481 a0)) rfl dX12_tellEnd_99 ?_
      refine lv_iconst (v := 4) X.1 X.2.1 dX12_tellEnd_102 (by decide) ?_
      refine lv_icmp_ne (tgt := 110) X.1 X.2.1 dX12_tellEnd_103 (by decide) (fun c5002 => ?_) (fun c5002 => ?_)
      · have hw := hw.1 c5002
        refine lv_iconst (v := 0) X.1 X.2.1 dX12_tellEnd_110 (by decide) ?_
        exact j111 0 a0 T5001 H locs ls (lv_sub hl [0] rfl) h hle f_a0 f_a0 hw
      · have hw := hw.2 c5002
        refine lv_iconst (v := 3) X.1 X.2.1 dX12_tellEnd_106 (by decide) ?_
        refine lv_goto (tgt := 111) X.1 X.2.1 dX12_tellEnd_107 (by decide) ?_
        exact j111 3 a0 T5001 H locs ls (lv_sub hl [0] rfl) h hle f_a0 f_a0 hw
    · have hw := hw.2 c5003
      refine lv_iconst (v := 0) X.1 X.2.1 dX12_tellEnd_67 (by decide) ?_
      refine lv_istore_n (lv' := [(1, .int 0), (0, .ref a0)]) X.1 X.2.1 dX12_tellEnd_68 rfl hl (by decide) rfl (fun ls hl => ?_)
      obtain ⟨n0, hw⟩ := hw
      exact L69 n0 0 T5001 H locs ls (lv_sub hl [1, 0] rfl) h hle f_a0 hw
  unfold wX12_tellEnd at hw
  have h : kp_H D cy A S s.heap s.heap [] := h
  revert h
  intro h
  refine lv_aload_n X.1 X.2.1 dX12_tellEnd_0 rfl (lv_at hl 0 rfl) ?_
  refine lv_iconst (v := 0) X.1 X.2.1 dX12_tellEnd_1 (by decide) ?_
  refine kp_putI X h f_a0 fp_12_809 rfl ⟨rfl, rfl⟩ dX12_tellEnd_2 (fun T1 e_T1 l_T1 H locs h => ?_)
  have hw := hw T1 e_T1
  have f_a0 := l_T1.is f_a0
  have hle := hle.tr l_T1
  refine lv_aload_n X.1 X.2.1 dX12_tellEnd_5 rfl (lv_at hl 0 rfl) ?_
  refine lv_iconst (v := 0) X.1 X.2.1 dX12_tellEnd_6 (by decide) ?_
  refine kp_putI X h f_a0 fp_12_812 rfl ⟨rfl, rfl⟩ dX12_tellEnd_7 (fun T2 e_T2 l_T2 H locs h => ?_)
  have hw := hw T2 e_T2
  have f_a0 := l_T2.is f_a0
  have hle := hle.tr l_T2
  refine lv_aload_n X.1 X.2.1 dX12_tellEnd_10 rfl (lv_at hl 0 rfl) ?_
  refine lv_iconst (v := 0) X.1 X.2.1 dX12_tellEnd_11 (by decide) ?_
  refine kp_putI X h f_a0 fp_12_815 rfl ⟨rfl, rfl⟩ dX12_tellEnd_12 (fun T3 e_T3 l_T3 H locs h => ?_)
  have hw := hw T3 e_T3
  have f_a0 := l_T3.is f_a0
  have hle := hle.tr l_T3
  refine lv_aload_n X.1 X.2.1 dX12_tellEnd_15 rfl (lv_at hl 0 rfl) ?_
  refine lv_iconst (v := (-1)) X.1 X.2.1 dX12_tellEnd_16 (by decide) ?_
  refine kp_putI X h f_a0 fp_12_245 rfl ⟨rfl, rfl⟩ dX12_tellEnd_17 (fun T4 e_T4 l_T4 H locs h => ?_)
  have hw := hw T4 e_T4
  have f_a0 := l_T4.is f_a0
  have hle := hle.tr l_T4
  refine lv_aload_n X.1 X.2.1 dX12_tellEnd_20 rfl (lv_at hl 0 rfl) ?_
  refine lv_aload_n X.1 X.2.1 dX12_tellEnd_21 rfl (lv_at hl 0 rfl) ?_
  refine kp_get X h f_a0 fp_12_610.l (v := .int (kp_I T4 2513 a0)) rfl dX12_tellEnd_22 ?_
  refine lv_if_le (tgt := 32) X.1 X.2.1 dX12_tellEnd_25 (by decide) (fun c7 => ?_) (fun c7 => ?_)
  · have hw := hw.1 c7
    refine lv_aload_n X.1 X.2.1 dX12_tellEnd_32 rfl (lv_at hl 0 rfl) ?_
    refine kp_get X h f_a0 fp_12_616.l (v := .int (kp_I T4 2481 a0)) rfl dX12_tellEnd_33 ?_
    refine lv_iconst (v := 4) X.1 X.2.1 dX12_tellEnd_36 (by decide) ?_
    refine lv_icmp_ne (tgt := 44) X.1 X.2.1 dX12_tellEnd_37 (by decide) (fun c6 => ?_) (fun c6 => ?_)
    · have hw := hw.1 c6
      refine lv_aload_n X.1 X.2.1 dX12_tellEnd_44 rfl (lv_at hl 0 rfl) ?_
      refine kp_get X h f_a0 fp_12_616.l (v := .int (kp_I T4 2481 a0)) rfl dX12_tellEnd_45 ?_
      refine lv_iconst (v := 3) X.1 X.2.1 dX12_tellEnd_48 (by decide) ?_
      refine lv_icmp_ne (tgt := 56) X.1 X.2.1 dX12_tellEnd_49 (by decide) (fun c5 => ?_) (fun c5 => ?_)
      · have hw := hw.1 c5
        refine lv_iconst (v := 1) X.1 X.2.1 dX12_tellEnd_56 (by decide) ?_
        exact j57 1 a0 T4 _ _ ls (lv_sub hl [0] rfl) h hle f_a0 f_a0 hw
      · have hw := hw.2 c5
        refine lv_iconst (v := 2) X.1 X.2.1 dX12_tellEnd_52 (by decide) ?_
        refine lv_goto (tgt := 57) X.1 X.2.1 dX12_tellEnd_53 (by decide) ?_
        exact j57 2 a0 T4 _ _ ls (lv_sub hl [0] rfl) h hle f_a0 f_a0 hw
    · have hw := hw.2 c6
      refine lv_iconst (v := 4) X.1 X.2.1 dX12_tellEnd_40 (by decide) ?_
      refine lv_goto (tgt := 57) X.1 X.2.1 dX12_tellEnd_41 (by decide) ?_
      exact j57 4 a0 T4 _ _ ls (lv_sub hl [0] rfl) h hle f_a0 f_a0 hw
  · have hw := hw.2 c7
    refine lv_iconst (v := 0) X.1 X.2.1 dX12_tellEnd_28 (by decide) ?_
    refine lv_goto (tgt := 57) X.1 X.2.1 dX12_tellEnd_29 (by decide) ?_
    exact j57 0 a0 T4 _ _ ls (lv_sub hl [0] rfl) h hle f_a0 f_a0 hw
theorem dX12_run_0 : decode cX12_run 0 = .ok (.aload_n 0, 1) := by decide +kernel
theorem dX12_run_1 : decode cX12_run 1 = .ok (.iconst 0, 1) := by decide +kernel
theorem dX12_run_2 : decode cX12_run 2 = .ok (.putfield 1, 3) := by decide +kernel
theorem dX12_run_5 : decode cX12_run 5 = .ok (.aload_n 0, 1) := by decide +kernel
theorem dX12_run_6 : decode cX12_run 6 = .ok (.getfield 583, 3) := by decide +kernel
theorem dX12_run_9 : decode cX12_run 9 = .ok (.ifCond .eq 13, 3) := by decide +kernel
theorem dX12_run_12 : decode cX12_run 12 = .ok (.aload_n 0, 1) := by decide +kernel
theorem dX12_run_13 : decode cX12_run 13 = .ok (.getfield 793, 3) := by decide +kernel
theorem dX12_run_16 : decode cX12_run 16 = .ok (.ldc_w 796, 3) := by decide +kernel
theorem dX12_run_19 : decode cX12_run 19 = .ok (.if_icmp .lt 10, 3) := by decide +kernel
theorem dX12_run_22 : decode cX12_run 22 = .ok (.aload_n 0, 1) := by decide +kernel
theorem dX12_run_23 : decode cX12_run 23 = .ok (.iconst 1, 1) := by decide +kernel
theorem dX12_run_24 : decode cX12_run 24 = .ok (.putfield 1, 3) := by decide +kernel
theorem dX12_run_27 : decode cX12_run 27 = .ok (.iconst 0, 1) := by decide +kernel
theorem dX12_run_28 : decode cX12_run 28 = .ok (.ireturn, 1) := by decide +kernel
theorem dX12_run_29 : decode cX12_run 29 = .ok (.iload_n 1, 1) := by decide +kernel
theorem dX12_run_30 : decode cX12_run 30 = .ok (.ifCond .lt 24, 3) := by decide +kernel
theorem dX12_run_33 : decode cX12_run 33 = .ok (.iload_n 1, 1) := by decide +kernel
theorem dX12_run_34 : decode cX12_run 34 = .ok (.aload_n 0, 1) := by decide +kernel
theorem dX12_run_35 : decode cX12_run 35 = .ok (.getfield 586, 3) := by decide +kernel
theorem dX12_run_38 : decode cX12_run 38 = .ok (.if_icmp .ge 16, 3) := by decide +kernel
theorem dX12_run_41 : decode cX12_run 41 = .ok (.iload 4, 2) := by decide +kernel
theorem dX12_run_43 : decode cX12_run 43 = .ok (.ifCond .lt 11, 3) := by decide +kernel
theorem dX12_run_46 : decode cX12_run 46 = .ok (.iload 4, 2) := by decide +kernel
theorem dX12_run_48 : decode cX12_run 48 = .ok (.sipush 20000, 3) := by decide +kernel
theorem dX12_run_51 : decode cX12_run 51 = .ok (.if_icmp .le 10, 3) := by decide +kernel
theorem dX12_run_54 : decode cX12_run 54 = .ok (.aload_n 0, 1) := by decide +kernel
theorem dX12_run_55 : decode cX12_run 55 = .ok (.iconst 2, 1) := by decide +kernel
theorem dX12_run_56 : decode cX12_run 56 = .ok (.putfield 1, 3) := by decide +kernel
theorem dX12_run_59 : decode cX12_run 59 = .ok (.iconst 0, 1) := by decide +kernel
theorem dX12_run_60 : decode cX12_run 60 = .ok (.ireturn, 1) := by decide +kernel
theorem dX12_run_61 : decode cX12_run 61 = .ok (.aload_n 0, 1) := by decide +kernel
theorem dX12_run_62 : decode cX12_run 62 = .ok (.invokevirtual 797, 3) := by decide +kernel
theorem dX12_run_65 : decode cX12_run 65 = .ok (.aload_n 0, 1) := by decide +kernel
theorem dX12_run_66 : decode cX12_run 66 = .ok (.iload 4, 2) := by decide +kernel
theorem dX12_run_68 : decode cX12_run 68 = .ok (.putfield 607, 3) := by decide +kernel
theorem dX12_run_71 : decode cX12_run 71 = .ok (.aload_n 0, 1) := by decide +kernel
theorem dX12_run_72 : decode cX12_run 72 = .ok (.getfield 142, 3) := by decide +kernel
theorem dX12_run_75 : decode cX12_run 75 = .ok (.iload_n 1, 1) := by decide +kernel
theorem dX12_run_76 : decode cX12_run 76 = .ok (.iaload, 1) := by decide +kernel
theorem dX12_run_77 : decode cX12_run 77 = .ok (.istore 5, 2) := by decide +kernel
theorem dX12_run_79 : decode cX12_run 79 = .ok (.iconst 0, 1) := by decide +kernel
theorem dX12_run_80 : decode cX12_run 80 = .ok (.istore 6, 2) := by decide +kernel
theorem dX12_run_82 : decode cX12_run 82 = .ok (.iload 6, 2) := by decide +kernel
theorem dX12_run_84 : decode cX12_run 84 = .ok (.iload 5, 2) := by decide +kernel
theorem dX12_run_86 : decode cX12_run 86 = .ok (.if_icmp .ge 33, 3) := by decide +kernel
theorem dX12_run_89 : decode cX12_run 89 = .ok (.aload_n 0, 1) := by decide +kernel
theorem dX12_run_90 : decode cX12_run 90 = .ok (.iload 6, 2) := by decide +kernel
theorem dX12_run_92 : decode cX12_run 92 = .ok (.ifCond .ne 7, 3) := by decide +kernel
theorem dX12_run_95 : decode cX12_run 95 = .ok (.iload_n 2, 1) := by decide +kernel
theorem dX12_run_96 : decode cX12_run 96 = .ok (.goto 14, 3) := by decide +kernel
theorem dX12_run_99 : decode cX12_run 99 = .ok (.iload 6, 2) := by decide +kernel
theorem dX12_run_101 : decode cX12_run 101 = .ok (.iconst 1, 1) := by decide +kernel
theorem dX12_run_102 : decode cX12_run 102 = .ok (.if_icmp .ne 7, 3) := by decide +kernel
theorem dX12_run_105 : decode cX12_run 105 = .ok (.iload_n 3, 1) := by decide +kernel
theorem dX12_run_106 : decode cX12_run 106 = .ok (.goto 4, 3) := by decide +kernel
theorem dX12_run_109 : decode cX12_run 109 = .ok (.iconst 0, 1) := by decide +kernel
theorem dX12_run_110 : decode cX12_run 110 = .ok (.invokevirtual 708, 3) := by decide +kernel
theorem dX12_run_113 : decode cX12_run 113 = .ok (.iinc 6 1, 3) := by decide +kernel
theorem dX12_run_116 : decode cX12_run 116 = .ok (.goto (-34), 3) := by decide +kernel
theorem dX12_run_119 : decode cX12_run 119 = .ok (.aload_n 0, 1) := by decide +kernel
theorem dX12_run_120 : decode cX12_run 120 = .ok (.iload_n 1, 1) := by decide +kernel
theorem dX12_run_121 : decode cX12_run 121 = .ok (.iload 5, 2) := by decide +kernel
theorem dX12_run_123 : decode cX12_run 123 = .ok (.invokevirtual 728, 3) := by decide +kernel
theorem dX12_run_126 : decode cX12_run 126 = .ok (.aload_n 0, 1) := by decide +kernel
theorem dX12_run_127 : decode cX12_run 127 = .ok (.getfield 610, 3) := by decide +kernel
theorem dX12_run_130 : decode cX12_run 130 = .ok (.ifCond .ne 17, 3) := by decide +kernel
theorem dX12_run_133 : decode cX12_run 133 = .ok (.aload_n 0, 1) := by decide +kernel
theorem dX12_run_134 : decode cX12_run 134 = .ok (.getfield 705, 3) := by decide +kernel
theorem dX12_run_137 : decode cX12_run 137 = .ok (.ifCond .ne 10, 3) := by decide +kernel
theorem dX12_run_140 : decode cX12_run 140 = .ok (.aload_n 0, 1) := by decide +kernel
theorem dX12_run_141 : decode cX12_run 141 = .ok (.invokevirtual 800, 3) := by decide +kernel
theorem dX12_run_144 : decode cX12_run 144 = .ok (.goto (-18), 3) := by decide +kernel
theorem dX12_run_147 : decode cX12_run 147 = .ok (.aload_n 0, 1) := by decide +kernel
theorem dX12_run_148 : decode cX12_run 148 = .ok (.aload_n 0, 1) := by decide +kernel
theorem dX12_run_149 : decode cX12_run 149 = .ok (.getfield 607, 3) := by decide +kernel
theorem dX12_run_152 : decode cX12_run 152 = .ok (.putfield 803, 3) := by decide +kernel
theorem dX12_run_155 : decode cX12_run 155 = .ok (.aload_n 0, 1) := by decide +kernel
theorem dX12_run_156 : decode cX12_run 156 = .ok (.dup, 1) := by decide +kernel
theorem dX12_run_157 : decode cX12_run 157 = .ok (.getfield 793, 3) := by decide +kernel
theorem dX12_run_160 : decode cX12_run 160 = .ok (.iload 4, 2) := by decide +kernel
theorem dX12_run_162 : decode cX12_run 162 = .ok (.aload_n 0, 1) := by decide +kernel
theorem dX12_run_163 : decode cX12_run 163 = .ok (.getfield 607, 3) := by decide +kernel
theorem dX12_run_166 : decode cX12_run 166 = .ok (.isub, 1) := by decide +kernel
theorem dX12_run_167 : decode cX12_run 167 = .ok (.iadd, 1) := by decide +kernel
theorem dX12_run_168 : decode cX12_run 168 = .ok (.putfield 793, 3) := by decide +kernel
theorem dX12_run_171 : decode cX12_run 171 = .ok (.aload_n 0, 1) := by decide +kernel
theorem dX12_run_172 : decode cX12_run 172 = .ok (.invokevirtual 806, 3) := by decide +kernel
theorem dX12_run_175 : decode cX12_run 175 = .ok (.aload_n 0, 1) := by decide +kernel
theorem dX12_run_176 : decode cX12_run 176 = .ok (.getfield 242, 3) := by decide +kernel
theorem dX12_run_179 : decode cX12_run 179 = .ok (.ireturn, 1) := by decide +kernel
def wX12_run_b22 (a0 : Nat) (x1 : Int32) (x2 : Int32) (x3 : Int32) (x4 : Int32)  (Sn : kp_S) (post : Int32 → kp_S → Prop) : Prop :=
  ∀ T1001 : kp_S, T1001 = kp_sI Sn 2400 a0 1 →
  post 0 T1001
def wX12_run_b54 (a0 : Nat) (x1 : Int32) (x2 : Int32) (x3 : Int32) (x4 : Int32)  (Sn : kp_S) (post : Int32 → kp_S → Prop) : Prop :=
  ∀ T2001 : kp_S, T2001 = kp_sI Sn 2400 a0 2 →
  post 0 T2001
def wX12_run_b147 (a0 : Nat) (x1 : Int32) (x2 : Int32) (x3 : Int32) (x4 : Int32)  (Sn : kp_S) (post : Int32 → kp_S → Prop) : Prop :=
  ∀ T3001 : kp_S, T3001 = kp_sI Sn 2523 a0 (kp_I Sn 2512 a0) →
  ∀ T3002 : kp_S, T3002 = kp_sI T3001 2524 a0 ((kp_I T3001 2524 a0) + (x4 - (kp_I T3001 2512 a0))) →
  wX12_tellEnd a0 T3002 (fun T3003 =>
  post (kp_I T3003 2517 a0) T3003)
def wX12_run_L126 (a0 : Nat) (x1 : Int32) (x2 : Int32) (x3 : Int32) (x4 : Int32)  (post : Int32 → kp_S → Prop) : Nat → kp_S → Prop
  | 0, _ => False
  | n + 1, Sn =>
  ((¬ (kp_I Sn 2513 a0) = 0 →
  wX12_run_b147 a0 x1 x2 x3 x4   Sn post) ∧ ((kp_I Sn 2513 a0) = 0 →
  ((¬ (kp_I Sn 2514 a0) = 0 →
  wX12_run_b147 a0 x1 x2 x3 x4   Sn post) ∧ ((kp_I Sn 2514 a0) = 0 →
  wX12_step a0 Sn (fun T4001 =>
  wX12_run_L126 a0 x1 x2 x3 x4  post n  T4001)))))
def wX12_run_b110 (a0 : Nat) (x1 : Int32) (x2 : Int32) (x3 : Int32) (x4 : Int32) (xn5 : Int32) (xn6 : Int32) (xt0 : Int32) (at1 : Nat) (K82 : Int32 → Int32 → kp_S → Prop) (Sn : kp_S) (post : Int32 → kp_S → Prop) : Prop :=
  wX12_push at1 xt0 Sn (fun T5001 =>
  ∀ y5002 : Int32, y5002 = xn6 + 1 →
  K82 xn5 y5002 T5001)
def wX12_run_L82 (a0 : Nat) (x1 : Int32) (x2 : Int32) (x3 : Int32) (x4 : Int32)  (post : Int32 → kp_S → Prop) : Nat → Int32 → Int32 → kp_S → Prop
  | 0, _, _, _ => False
  | n + 1, xn5, xn6, Sn =>
  ((xn5 ≤ xn6 →
  wX12_calls a0 x1 xn5 Sn (fun T6001 =>
  ∃ n0 : Nat, wX12_run_L126 a0 x1 x2 x3 x4  post n0  T6001)) ∧ (¬ xn5 ≤ xn6 →
  ((¬ xn6 = 0 →
  ((¬ xn6 = 1 →
  wX12_run_b110 a0 x1 x2 x3 x4 xn5 xn6 0 a0 (fun xn5_ xn6_ S_ => wX12_run_L82 a0 x1 x2 x3 x4  post n xn5_ xn6_ S_) Sn post) ∧ (xn6 = 1 →
  wX12_run_b110 a0 x1 x2 x3 x4 xn5 xn6 x3 a0 (fun xn5_ xn6_ S_ => wX12_run_L82 a0 x1 x2 x3 x4  post n xn5_ xn6_ S_) Sn post))) ∧ (xn6 = 0 →
  wX12_run_b110 a0 x1 x2 x3 x4 xn5 xn6 x2 a0 (fun xn5_ xn6_ S_ => wX12_run_L82 a0 x1 x2 x3 x4  post n xn5_ xn6_ S_) Sn post))))
def wX12_run (a0 : Nat) (x1 : Int32) (x2 : Int32) (x3 : Int32) (x4 : Int32) (S : kp_S) (post : Int32 → kp_S → Prop) : Prop :=
  ∀ T1 : kp_S, T1 = kp_sI S 2400 a0 0 →
  (((kp_I T1 2447 a0) = 0 →
  wX12_run_b22 a0 x1 x2 x3 x4   T1 post) ∧ (¬ (kp_I T1 2447 a0) = 0 →
  (((kp_I T1 2524 a0) < 200000 →
  ((x1 < 0 →
  wX12_run_b54 a0 x1 x2 x3 x4   T1 post) ∧ (¬ x1 < 0 →
  (((kp_I T1 2462 a0) ≤ x1 →
  wX12_run_b54 a0 x1 x2 x3 x4   T1 post) ∧ (¬ (kp_I T1 2462 a0) ≤ x1 →
  ((x4 < 0 →
  wX12_run_b54 a0 x1 x2 x3 x4   T1 post) ∧ (¬ x4 < 0 →
  ((x4 ≤ 20000 →
  wX12_clear a0 T1 (fun T2 =>
  ∀ T3 : kp_S, T3 = kp_sI T2 2512 a0 x4 →
  ∃ b4 : Nat, kp_R T3 2458 a0 = some b4 ∧
  vp_in x1 (kp_N T3 b4) ∧
  ∀ y5 : Int32, y5 = (kp_A T3 b4 x1.toNatClampNeg) →
  ∃ n0 : Nat, wX12_run_L82 a0 x1 x2 x3 x4  post n0 y5 0 T3)) ∧ (¬ x4 ≤ 20000 →
  wX12_run_b54 a0 x1 x2 x3 x4   T1 post))))))))) ∧ (¬ (kp_I T1 2524 a0) < 200000 →
  wX12_run_b22 a0 x1 x2 x3 x4   T1 post))))
set_option maxHeartbeats 4000000 in
set_option maxRecDepth 100000 in
theorem c_X12_run (l : Launch) (D : va_G) (cy : Nat → ClassId) (ad : (Nat → Nat) × (Nat → Nat)) (S : kp_S) (a0 : Nat) (x1 : Int32) (x2 : Int32) (x3 : Int32) (x4 : Int32) (post : Int32 → kp_S → Prop) (hS : kp_ok S) (f_a0 : kp_is S a0 12) (hw : wX12_run a0 x1 x2 x3 x4 S post) : kp_M l yX12_run cX12_run 7 (some .int) { frames := 9, cells := 0, slots := 0, locals := 204 } D cy ad S [.ref a0, .int x1, .int x2, .int x3, .int x4] 0 0 (fun A => kp_Qi D cy A S post) := by
  refine kp_start (own := RX12) (by decide) rfl (Nat.le_of_ble_eq_true rfl) hS ?_
  intro p e s m below meth c A ls X hr hlocks hname h hl
  have hle : kp_le S S := kp_le.rf
  have hl : lv_has ls 7 [(0, .ref a0), (1, .int x1), (2, .int x2), (3, .int x3), (4, .int x4)] := hl
  have j22 : ∀  (Sn : kp_S) (H : Heap) (locs : List Loc) (ls : Array Slot), lv_has ls 7 [(0, .ref a0)] → kp_H D cy A Sn s.heap H locs → kp_le S Sn → kp_is Sn a0 12 → wX12_run_b22 a0 x1 x2 x3 x4   Sn post → W p l e { frames := 9, cells := 0, slots := 0, locals := 204 } s m ([.ref a0, .int x1, .int x2, .int x3, .int x4] : List Value).toArray below meth c H locs 0 0 (MQ below (kp_Qi D cy A S post) ([.ref a0, .int x1, .int x2, .int x3, .int x4] : List Value).toArray s 0 0 A) (F0 m 22 ls []) := by
    intro  Sn H locs ls hl h hle f_a0 hw
    unfold wX12_run_b22 at hw
    refine lv_aload_n X.1 X.2.1 dX12_run_22 rfl (lv_at hl 0 rfl) ?_
    refine lv_iconst (v := 1) X.1 X.2.1 dX12_run_23 (by decide) ?_
    refine kp_putI X h f_a0 fp_12_1 rfl ⟨rfl, rfl⟩ dX12_run_24 (fun T1001 e_T1001 l_T1001 H locs h => ?_)
    have hw := hw T1001 e_T1001
    have f_a0 := l_T1001.is f_a0
    have hle := hle.tr l_T1001
    refine lv_iconst (v := 0) X.1 X.2.1 dX12_run_27 (by decide) ?_
    exact kp_reti X hr hlocks h hle rfl hw dX12_run_28
  have j54 : ∀  (Sn : kp_S) (H : Heap) (locs : List Loc) (ls : Array Slot), lv_has ls 7 [(0, .ref a0)] → kp_H D cy A Sn s.heap H locs → kp_le S Sn → kp_is Sn a0 12 → wX12_run_b54 a0 x1 x2 x3 x4   Sn post → W p l e { frames := 9, cells := 0, slots := 0, locals := 204 } s m ([.ref a0, .int x1, .int x2, .int x3, .int x4] : List Value).toArray below meth c H locs 0 0 (MQ below (kp_Qi D cy A S post) ([.ref a0, .int x1, .int x2, .int x3, .int x4] : List Value).toArray s 0 0 A) (F0 m 54 ls []) := by
    intro  Sn H locs ls hl h hle f_a0 hw
    unfold wX12_run_b54 at hw
    refine lv_aload_n X.1 X.2.1 dX12_run_54 rfl (lv_at hl 0 rfl) ?_
    refine lv_iconst (v := 2) X.1 X.2.1 dX12_run_55 (by decide) ?_
    refine kp_putI X h f_a0 fp_12_1 rfl ⟨rfl, rfl⟩ dX12_run_56 (fun T2001 e_T2001 l_T2001 H locs h => ?_)
    have hw := hw T2001 e_T2001
    have f_a0 := l_T2001.is f_a0
    have hle := hle.tr l_T2001
    refine lv_iconst (v := 0) X.1 X.2.1 dX12_run_59 (by decide) ?_
    exact kp_reti X hr hlocks h hle rfl hw dX12_run_60
  have j147 : ∀  (Sn : kp_S) (H : Heap) (locs : List Loc) (ls : Array Slot), lv_has ls 7 [(0, .ref a0), (4, .int x4)] → kp_H D cy A Sn s.heap H locs → kp_le S Sn → kp_is Sn a0 12 → wX12_run_b147 a0 x1 x2 x3 x4   Sn post → W p l e { frames := 9, cells := 0, slots := 0, locals := 204 } s m ([.ref a0, .int x1, .int x2, .int x3, .int x4] : List Value).toArray below meth c H locs 0 0 (MQ below (kp_Qi D cy A S post) ([.ref a0, .int x1, .int x2, .int x3, .int x4] : List Value).toArray s 0 0 A) (F0 m 147 ls []) := by
    intro  Sn H locs ls hl h hle f_a0 hw
    unfold wX12_run_b147 at hw
    refine lv_aload_n X.1 X.2.1 dX12_run_147 rfl (lv_at hl 0 rfl) ?_
    refine lv_aload_n X.1 X.2.1 dX12_run_148 rfl (lv_at hl 0 rfl) ?_
    refine kp_get X h f_a0 fp_12_607.l (v := .int (kp_I Sn 2512 a0)) rfl dX12_run_149 ?_
    refine kp_putI X h f_a0 fp_12_803 rfl ⟨rfl, rfl⟩ dX12_run_152 (fun T3001 e_T3001 l_T3001 H locs h => ?_)
    have hw := hw T3001 e_T3001
    have f_a0 := l_T3001.is f_a0
    have hle := hle.tr l_T3001
    refine lv_aload_n X.1 X.2.1 dX12_run_155 rfl (lv_at hl 0 rfl) ?_
    refine lv_dup X.1 X.2.1 dX12_run_156 rfl ?_
    refine kp_get X h f_a0 fp_12_793.l (v := .int (kp_I T3001 2524 a0)) rfl dX12_run_157 ?_
    refine lv_iload X.1 X.2.1 dX12_run_160 (lv_at hl 1 rfl) ?_
    refine lv_aload_n X.1 X.2.1 dX12_run_162 rfl (lv_at hl 0 rfl) ?_
    refine kp_get X h f_a0 fp_12_607.l (v := .int (kp_I T3001 2512 a0)) rfl dX12_run_163 ?_
    refine lv_isub X.1 X.2.1 dX12_run_166 ?_
    refine lv_iadd X.1 X.2.1 dX12_run_167 ?_
    refine kp_putI X h f_a0 fp_12_793 rfl ⟨rfl, rfl⟩ dX12_run_168 (fun T3002 e_T3002 l_T3002 H locs h => ?_)
    have hw := hw T3002 e_T3002
    have f_a0 := l_T3002.is f_a0
    have hle := hle.tr l_T3002
    refine lv_aload_n X.1 X.2.1 dX12_run_171 rfl (lv_at hl 0 rfl) ?_
    refine kp_callv X h (kp_runV (rm := { frames := 0, cells := 0, slots := 0, locals := 0 }) (mc := 0) (ms := 0) (rest := []) (Qc := fun A => kp_Qv D cy A T3002 _) X h (c_X12_tellEnd l D cy ad T3002 a0 _ h.2.2.2 f_a0 hw) f_a0 cv_12_806 ⟨by decide, by decide, rfl, rfl, by decide, by decide⟩ rfl hl.1 rfl (Nat.le_of_ble_eq_true rfl) dX12_run_172) (fun T3003 hw l_T3003 H locs h => ?_)
    have f_a0 := l_T3003.is f_a0
    have hle := hle.tr l_T3003
    refine lv_aload_n X.1 X.2.1 dX12_run_175 rfl (lv_at hl 0 rfl) ?_
    refine kp_get X h f_a0 fp_12_242.l (v := .int (kp_I T3003 2517 a0)) rfl dX12_run_176 ?_
    exact kp_reti X hr hlocks h hle rfl hw dX12_run_179
  have L126 : ∀ n126 : Nat, ∀  (Sn : kp_S) (H : Heap) (locs : List Loc) (ls : Array Slot), lv_has ls 7 [(0, .ref a0), (4, .int x4)] → kp_H D cy A Sn s.heap H locs → kp_le S Sn → kp_is Sn a0 12 → wX12_run_L126 a0 x1 x2 x3 x4  post n126  Sn → W p l e { frames := 9, cells := 0, slots := 0, locals := 204 } s m ([.ref a0, .int x1, .int x2, .int x3, .int x4] : List Value).toArray below meth c H locs 0 0 (MQ below (kp_Qi D cy A S post) ([.ref a0, .int x1, .int x2, .int x3, .int x4] : List Value).toArray s 0 0 A) (F0 m 126 ls []) := by
    intro n126
    induction n126 with
    | zero => intro  Sn H locs ls hl h hle f_a0 hw; exact hw.elim
    | succ n126 ih126 =>
      intro  Sn H locs ls hl h hle f_a0 hw
      unfold wX12_run_L126 at hw
      refine lv_aload_n X.1 X.2.1 dX12_run_126 rfl (lv_at hl 0 rfl) ?_
      refine kp_get X h f_a0 fp_12_610.l (v := .int (kp_I Sn 2513 a0)) rfl dX12_run_127 ?_
      refine lv_if_ne (tgt := 147) X.1 X.2.1 dX12_run_130 (by decide) (fun c4003 => ?_) (fun c4003 => ?_)
      · have hw := hw.1 c4003
        exact j147  Sn H locs ls (lv_sub hl [0, 1] rfl) h hle f_a0 hw
      · have hw := hw.2 c4003
        refine lv_aload_n X.1 X.2.1 dX12_run_133 rfl (lv_at hl 0 rfl) ?_
        refine kp_get X h f_a0 fp_12_705.l (v := .int (kp_I Sn 2514 a0)) rfl dX12_run_134 ?_
        refine lv_if_ne (tgt := 147) X.1 X.2.1 dX12_run_137 (by decide) (fun c4002 => ?_) (fun c4002 => ?_)
        · have hw := hw.1 c4002
          exact j147  Sn H locs ls (lv_sub hl [0, 1] rfl) h hle f_a0 hw
        · have hw := hw.2 c4002
          refine lv_aload_n X.1 X.2.1 dX12_run_140 rfl (lv_at hl 0 rfl) ?_
          refine kp_callv X h (kp_runV (rm := { frames := 8, cells := 0, slots := 0, locals := 181 }) (mc := 0) (ms := 0) (rest := []) (Qc := fun A => kp_Qv D cy A Sn _) X h (c_X12_step l D cy ad Sn a0 _ h.2.2.2 f_a0 hw) f_a0 cv_12_800 ⟨by decide, by decide, rfl, rfl, by decide, by decide⟩ rfl hl.1 rfl (Nat.le_of_ble_eq_true rfl) dX12_run_141) (fun T4001 hw l_T4001 H locs h => ?_)
          have f_a0 := l_T4001.is f_a0
          have hle := hle.tr l_T4001
          refine lv_goto (tgt := 126) X.1 X.2.1 dX12_run_144 (by decide) ?_
          exact ih126  T4001 H locs ls (lv_sub hl [0, 1] rfl) h hle f_a0 hw
  have L82 : ∀ n82 : Nat, ∀ (xn5 : Int32) (xn6 : Int32) (Sn : kp_S) (H : Heap) (locs : List Loc) (ls : Array Slot), lv_has ls 7 [(0, .ref a0), (1, .int x1), (2, .int x2), (3, .int x3), (4, .int x4), (5, .int xn5), (6, .int xn6)] → kp_H D cy A Sn s.heap H locs → kp_le S Sn → kp_is Sn a0 12 → wX12_run_L82 a0 x1 x2 x3 x4  post n82 xn5 xn6 Sn → W p l e { frames := 9, cells := 0, slots := 0, locals := 204 } s m ([.ref a0, .int x1, .int x2, .int x3, .int x4] : List Value).toArray below meth c H locs 0 0 (MQ below (kp_Qi D cy A S post) ([.ref a0, .int x1, .int x2, .int x3, .int x4] : List Value).toArray s 0 0 A) (F0 m 82 ls []) := by
    intro n82
    induction n82 with
    | zero => intro xn5 xn6 Sn H locs ls hl h hle f_a0 hw; exact hw.elim
    | succ n82 ih82 =>
      have j110 : ∀ (xn5 : Int32) (xn6 : Int32) (xt0 : Int32) (at1 : Nat) (Sn : kp_S) (H : Heap) (locs : List Loc) (ls : Array Slot), lv_has ls 7 [(0, .ref a0), (1, .int x1), (2, .int x2), (3, .int x3), (4, .int x4), (5, .int xn5), (6, .int xn6)] → kp_H D cy A Sn s.heap H locs → kp_le S Sn → kp_is Sn a0 12 → kp_is Sn at1 12 → wX12_run_b110 a0 x1 x2 x3 x4 xn5 xn6 xt0 at1 (fun xn5_ xn6_ S_ => wX12_run_L82 a0 x1 x2 x3 x4  post n82 xn5_ xn6_ S_) Sn post → W p l e { frames := 9, cells := 0, slots := 0, locals := 204 } s m ([.ref a0, .int x1, .int x2, .int x3, .int x4] : List Value).toArray below meth c H locs 0 0 (MQ below (kp_Qi D cy A S post) ([.ref a0, .int x1, .int x2, .int x3, .int x4] : List Value).toArray s 0 0 A) (F0 m 110 ls [.int xt0, .ref at1]) := by
        intro xn5 xn6 xt0 at1 Sn H locs ls hl h hle f_a0 f_at1 hw
        unfold wX12_run_b110 at hw
        refine kp_callv X h (kp_runV (rm := { frames := 0, cells := 0, slots := 0, locals := 0 }) (mc := 0) (ms := 0) (rest := []) (Qc := fun A => kp_Qv D cy A Sn _) X h (c_X12_push l D cy ad Sn at1 xt0 _ h.2.2.2 f_at1 hw) f_at1 cv_12_708 ⟨by decide, by decide, rfl, rfl, by decide, by decide⟩ rfl hl.1 rfl (Nat.le_of_ble_eq_true rfl) dX12_run_110) (fun T5001 hw l_T5001 H locs h => ?_)
        have f_a0 := l_T5001.is f_a0
        have f_at1 := l_T5001.is f_at1
        have hle := hle.tr l_T5001
        obtain ⟨y5002, e_y5002⟩ : ∃ y : Int32, y = xn6 + 1 := ⟨_, rfl⟩
        have hw := hw y5002 e_y5002
        refine lv_iinc (v := y5002) (lv' := [(6, .int y5002), (0, .ref a0), (1, .int x1), (2, .int x2), (3, .int x3), (4, .int x4), (5, .int xn5)]) X.1 X.2.1 dX12_run_113 hl (k := 6) rfl (by rw [e_y5002]; rfl) (by decide) rfl (fun ls hl => ?_)
        refine lv_goto (tgt := 82) X.1 X.2.1 dX12_run_116 (by decide) ?_
        exact ih82 xn5 y5002 T5001 H locs ls (lv_sub hl [1, 2, 3, 4, 5, 6, 0] rfl) h hle f_a0 hw
      intro xn5 xn6 Sn H locs ls hl h hle f_a0 hw
      unfold wX12_run_L82 at hw
      refine lv_iload X.1 X.2.1 dX12_run_82 (lv_at hl 6 rfl) ?_
      refine lv_iload X.1 X.2.1 dX12_run_84 (lv_at hl 5 rfl) ?_
      refine lv_icmp_ge (tgt := 119) X.1 X.2.1 dX12_run_86 (by decide) (fun c6004 => ?_) (fun c6004 => ?_)
      · have hw := hw.1 c6004
        refine lv_aload_n X.1 X.2.1 dX12_run_119 rfl (lv_at hl 0 rfl) ?_
        refine lv_iload_n X.1 X.2.1 dX12_run_120 rfl (lv_at hl 1 rfl) ?_
        refine lv_iload X.1 X.2.1 dX12_run_121 (lv_at hl 5 rfl) ?_
        refine kp_callv X h (kp_runV (rm := { frames := 6, cells := 0, slots := 0, locals := 130 }) (mc := 0) (ms := 0) (rest := []) (Qc := fun A => kp_Qv D cy A Sn _) X h (c_X12_calls l D cy ad Sn a0 x1 xn5 _ h.2.2.2 f_a0 hw) f_a0 cv_12_728 ⟨by decide, by decide, rfl, rfl, by decide, by decide⟩ rfl hl.1 rfl (Nat.le_of_ble_eq_true rfl) dX12_run_123) (fun T6001 hw l_T6001 H locs h => ?_)
        have f_a0 := l_T6001.is f_a0
        have hle := hle.tr l_T6001
        obtain ⟨n0, hw⟩ := hw
        exact L126 n0  T6001 H locs ls (lv_sub hl [0, 4] rfl) h hle f_a0 hw
      · have hw := hw.2 c6004
        refine lv_aload_n X.1 X.2.1 dX12_run_89 rfl (lv_at hl 0 rfl) ?_
        refine lv_iload X.1 X.2.1 dX12_run_90 (lv_at hl 6 rfl) ?_
        refine lv_if_ne (tgt := 99) X.1 X.2.1 dX12_run_92 (by decide) (fun c6003 => ?_) (fun c6003 => ?_)
        · have hw := hw.1 c6003
          refine lv_iload X.1 X.2.1 dX12_run_99 (lv_at hl 6 rfl) ?_
          refine lv_iconst (v := 1) X.1 X.2.1 dX12_run_101 (by decide) ?_
          refine lv_icmp_ne (tgt := 109) X.1 X.2.1 dX12_run_102 (by decide) (fun c6002 => ?_) (fun c6002 => ?_)
          · have hw := hw.1 c6002
            refine lv_iconst (v := 0) X.1 X.2.1 dX12_run_109 (by decide) ?_
            exact j110 xn5 xn6 0 a0 Sn H locs ls (lv_sub hl [0, 1, 2, 3, 4, 5, 6] rfl) h hle f_a0 f_a0 hw
          · have hw := hw.2 c6002
            refine lv_iload_n X.1 X.2.1 dX12_run_105 rfl (lv_at hl 3 rfl) ?_
            refine lv_goto (tgt := 110) X.1 X.2.1 dX12_run_106 (by decide) ?_
            exact j110 xn5 xn6 x3 a0 Sn H locs ls (lv_sub hl [0, 1, 2, 3, 4, 5, 6] rfl) h hle f_a0 f_a0 hw
        · have hw := hw.2 c6003
          refine lv_iload_n X.1 X.2.1 dX12_run_95 rfl (lv_at hl 2 rfl) ?_
          refine lv_goto (tgt := 110) X.1 X.2.1 dX12_run_96 (by decide) ?_
          exact j110 xn5 xn6 x2 a0 Sn H locs ls (lv_sub hl [0, 1, 2, 3, 4, 5, 6] rfl) h hle f_a0 f_a0 hw
  unfold wX12_run at hw
  have h : kp_H D cy A S s.heap s.heap [] := h
  revert h
  intro h
  refine lv_aload_n X.1 X.2.1 dX12_run_0 rfl (lv_at hl 0 rfl) ?_
  refine lv_iconst (v := 0) X.1 X.2.1 dX12_run_1 (by decide) ?_
  refine kp_putI X h f_a0 fp_12_1 rfl ⟨rfl, rfl⟩ dX12_run_2 (fun T1 e_T1 l_T1 H locs h => ?_)
  have hw := hw T1 e_T1
  have f_a0 := l_T1.is f_a0
  have hle := hle.tr l_T1
  refine lv_aload_n X.1 X.2.1 dX12_run_5 rfl (lv_at hl 0 rfl) ?_
  refine kp_get X h f_a0 fp_12_583.l (v := .int (kp_I T1 2447 a0)) rfl dX12_run_6 ?_
  refine lv_if_eq (tgt := 22) X.1 X.2.1 dX12_run_9 (by decide) (fun c11 => ?_) (fun c11 => ?_)
  · have hw := hw.1 c11
    exact j22  T1 _ _ ls (lv_sub hl [0] rfl) h hle f_a0 hw
  · have hw := hw.2 c11
    refine lv_aload_n X.1 X.2.1 dX12_run_12 rfl (lv_at hl 0 rfl) ?_
    refine kp_get X h f_a0 fp_12_793.l (v := .int (kp_I T1 2524 a0)) rfl dX12_run_13 ?_
    refine lv_ldcw (v := 200000) X.1 X.2.1 X.2.2.2.1 (X.2.2.2.2.1 _ kc_12_796) dX12_run_16 ?_
    refine lv_icmp_lt (tgt := 29) X.1 X.2.1 dX12_run_19 (by decide) (fun c10 => ?_) (fun c10 => ?_)
    · have hw := hw.1 c10
      refine lv_iload_n X.1 X.2.1 dX12_run_29 rfl (lv_at hl 1 rfl) ?_
      refine lv_if_lt (tgt := 54) X.1 X.2.1 dX12_run_30 (by decide) (fun c9 => ?_) (fun c9 => ?_)
      · have hw := hw.1 c9
        exact j54  T1 _ _ ls (lv_sub hl [0] rfl) h hle f_a0 hw
      · have hw := hw.2 c9
        refine lv_iload_n X.1 X.2.1 dX12_run_33 rfl (lv_at hl 1 rfl) ?_
        refine lv_aload_n X.1 X.2.1 dX12_run_34 rfl (lv_at hl 0 rfl) ?_
        refine kp_get X h f_a0 fp_12_586.l (v := .int (kp_I T1 2462 a0)) rfl dX12_run_35 ?_
        refine lv_icmp_ge (tgt := 54) X.1 X.2.1 dX12_run_38 (by decide) (fun c8 => ?_) (fun c8 => ?_)
        · have hw := hw.1 c8
          exact j54  T1 _ _ ls (lv_sub hl [0] rfl) h hle f_a0 hw
        · have hw := hw.2 c8
          refine lv_iload X.1 X.2.1 dX12_run_41 (lv_at hl 4 rfl) ?_
          refine lv_if_lt (tgt := 54) X.1 X.2.1 dX12_run_43 (by decide) (fun c7 => ?_) (fun c7 => ?_)
          · have hw := hw.1 c7
            exact j54  T1 _ _ ls (lv_sub hl [0] rfl) h hle f_a0 hw
          · have hw := hw.2 c7
            refine lv_iload X.1 X.2.1 dX12_run_46 (lv_at hl 4 rfl) ?_
            refine lv_sipush (v := 20000) X.1 X.2.1 dX12_run_48 (by decide) ?_
            refine lv_icmp_le (tgt := 61) X.1 X.2.1 dX12_run_51 (by decide) (fun c6 => ?_) (fun c6 => ?_)
            · have hw := hw.1 c6
              refine lv_aload_n X.1 X.2.1 dX12_run_61 rfl (lv_at hl 0 rfl) ?_
              refine kp_callv X h (kp_runV (rm := { frames := 0, cells := 0, slots := 0, locals := 0 }) (mc := 0) (ms := 0) (rest := []) (Qc := fun A => kp_Qv D cy A T1 _) X h (c_X12_clear l D cy ad T1 a0 _ h.2.2.2 f_a0 hw) f_a0 cv_12_797 ⟨by decide, by decide, rfl, rfl, by decide, by decide⟩ rfl hl.1 rfl (Nat.le_of_ble_eq_true rfl) dX12_run_62) (fun T2 hw l_T2 H locs h => ?_)
              have f_a0 := l_T2.is f_a0
              have hle := hle.tr l_T2
              refine lv_aload_n X.1 X.2.1 dX12_run_65 rfl (lv_at hl 0 rfl) ?_
              refine lv_iload X.1 X.2.1 dX12_run_66 (lv_at hl 4 rfl) ?_
              refine kp_putI X h f_a0 fp_12_607 rfl ⟨rfl, rfl⟩ dX12_run_68 (fun T3 e_T3 l_T3 H locs h => ?_)
              have hw := hw T3 e_T3
              have f_a0 := l_T3.is f_a0
              have hle := hle.tr l_T3
              refine lv_aload_n X.1 X.2.1 dX12_run_71 rfl (lv_at hl 0 rfl) ?_
              obtain ⟨b4, e_b4, hw⟩ := hw
              have f_b4 := h.2.2.2.rf (c := 12) (k := 58) f_a0 (by decide) (by decide) e_b4 (t := 14) rfl
              refine kp_get X h f_a0 ff_12_142.l (v := .ref b4) (congrArg va_rf e_b4) dX12_run_72 ?_
              refine lv_iload_n X.1 X.2.1 dX12_run_75 rfl (lv_at hl 1 rfl) ?_
              obtain ⟨hi, hw⟩ := hw
              refine kp_iald X h f_b4 hi dX12_run_76 ?_
              refine lv_topi (fun y5 e_y5 => ?_)
              have hw := hw y5 e_y5
              refine lv_istore (lv' := [(5, .int y5), (0, .ref a0), (1, .int x1), (2, .int x2), (3, .int x3), (4, .int x4)]) X.1 X.2.1 dX12_run_77 hl (by decide) rfl (fun ls hl => ?_)
              refine lv_iconst (v := 0) X.1 X.2.1 dX12_run_79 (by decide) ?_
              refine lv_istore (lv' := [(6, .int 0), (5, .int y5), (0, .ref a0), (1, .int x1), (2, .int x2), (3, .int x3), (4, .int x4)]) X.1 X.2.1 dX12_run_80 hl (by decide) rfl (fun ls hl => ?_)
              obtain ⟨n0, hw⟩ := hw
              exact L82 n0 y5 0 T3 _ _ ls (lv_sub hl [2, 3, 4, 5, 6, 1, 0] rfl) h hle f_a0 hw
            · have hw := hw.2 c6
              exact j54  T1 _ _ ls (lv_sub hl [0] rfl) h hle f_a0 hw
    · have hw := hw.2 c10
      exact j22  T1 _ _ ls (lv_sub hl [0] rfl) h hle f_a0 hw
theorem dX12_told_0 : decode cX12_told 0 = .ok (.aload_n 0, 1) := by decide +kernel
theorem dX12_told_1 : decode cX12_told 1 = .ok (.iconst 0, 1) := by decide +kernel
theorem dX12_told_2 : decode cX12_told 2 = .ok (.putfield 1, 3) := by decide +kernel
theorem dX12_told_5 : decode cX12_told 5 = .ok (.iload_n 1, 1) := by decide +kernel
theorem dX12_told_6 : decode cX12_told 6 = .ok (.tableswitch 185 0 18 #[90, 95, 100, 105, 110, 115, 120, 125, 130, 135, 140, 145, 150, 155, 160, 165, 170, 175, 180], 90) := by decide +kernel
theorem dX12_told_96 : decode cX12_told 96 = .ok (.aload_n 0, 1) := by decide +kernel
theorem dX12_told_97 : decode cX12_told 97 = .ok (.getfield 242, 3) := by decide +kernel
theorem dX12_told_100 : decode cX12_told 100 = .ok (.ireturn, 1) := by decide +kernel
theorem dX12_told_101 : decode cX12_told 101 = .ok (.aload_n 0, 1) := by decide +kernel
theorem dX12_told_102 : decode cX12_told 102 = .ok (.getfield 809, 3) := by decide +kernel
theorem dX12_told_105 : decode cX12_told 105 = .ok (.ireturn, 1) := by decide +kernel
theorem dX12_told_106 : decode cX12_told 106 = .ok (.aload_n 0, 1) := by decide +kernel
theorem dX12_told_107 : decode cX12_told 107 = .ok (.getfield 812, 3) := by decide +kernel
theorem dX12_told_110 : decode cX12_told 110 = .ok (.ireturn, 1) := by decide +kernel
theorem dX12_told_111 : decode cX12_told 111 = .ok (.aload_n 0, 1) := by decide +kernel
theorem dX12_told_112 : decode cX12_told 112 = .ok (.getfield 815, 3) := by decide +kernel
theorem dX12_told_115 : decode cX12_told 115 = .ok (.ireturn, 1) := by decide +kernel
theorem dX12_told_116 : decode cX12_told 116 = .ok (.aload_n 0, 1) := by decide +kernel
theorem dX12_told_117 : decode cX12_told 117 = .ok (.getfield 245, 3) := by decide +kernel
theorem dX12_told_120 : decode cX12_told 120 = .ok (.ireturn, 1) := by decide +kernel
theorem dX12_told_121 : decode cX12_told 121 = .ok (.aload_n 0, 1) := by decide +kernel
theorem dX12_told_122 : decode cX12_told 122 = .ok (.getfield 803, 3) := by decide +kernel
theorem dX12_told_125 : decode cX12_told 125 = .ok (.ireturn, 1) := by decide +kernel
theorem dX12_told_126 : decode cX12_told 126 = .ok (.aload_n 0, 1) := by decide +kernel
theorem dX12_told_127 : decode cX12_told 127 = .ok (.getfield 778, 3) := by decide +kernel
theorem dX12_told_130 : decode cX12_told 130 = .ok (.ireturn, 1) := by decide +kernel
theorem dX12_told_131 : decode cX12_told 131 = .ok (.aload_n 0, 1) := by decide +kernel
theorem dX12_told_132 : decode cX12_told 132 = .ok (.getfield 669, 3) := by decide +kernel
theorem dX12_told_135 : decode cX12_told 135 = .ok (.ireturn, 1) := by decide +kernel
theorem dX12_told_136 : decode cX12_told 136 = .ok (.aload_n 0, 1) := by decide +kernel
theorem dX12_told_137 : decode cX12_told 137 = .ok (.getfield 770, 3) := by decide +kernel
theorem dX12_told_140 : decode cX12_told 140 = .ok (.ireturn, 1) := by decide +kernel
theorem dX12_told_141 : decode cX12_told 141 = .ok (.aload_n 0, 1) := by decide +kernel
theorem dX12_told_142 : decode cX12_told 142 = .ok (.getfield 678, 3) := by decide +kernel
theorem dX12_told_145 : decode cX12_told 145 = .ok (.ireturn, 1) := by decide +kernel
theorem dX12_told_146 : decode cX12_told 146 = .ok (.aload_n 0, 1) := by decide +kernel
theorem dX12_told_147 : decode cX12_told 147 = .ok (.getfield 784, 3) := by decide +kernel
theorem dX12_told_150 : decode cX12_told 150 = .ok (.ireturn, 1) := by decide +kernel
theorem dX12_told_151 : decode cX12_told 151 = .ok (.aload_n 0, 1) := by decide +kernel
theorem dX12_told_152 : decode cX12_told 152 = .ok (.getfield 702, 3) := by decide +kernel
theorem dX12_told_155 : decode cX12_told 155 = .ok (.ireturn, 1) := by decide +kernel
theorem dX12_told_156 : decode cX12_told 156 = .ok (.aload_n 0, 1) := by decide +kernel
theorem dX12_told_157 : decode cX12_told 157 = .ok (.getfield 642, 3) := by decide +kernel
theorem dX12_told_160 : decode cX12_told 160 = .ok (.ireturn, 1) := by decide +kernel
theorem dX12_told_161 : decode cX12_told 161 = .ok (.aload_n 0, 1) := by decide +kernel
theorem dX12_told_162 : decode cX12_told 162 = .ok (.getfield 781, 3) := by decide +kernel
theorem dX12_told_165 : decode cX12_told 165 = .ok (.ireturn, 1) := by decide +kernel
theorem dX12_told_166 : decode cX12_told 166 = .ok (.aload_n 0, 1) := by decide +kernel
theorem dX12_told_167 : decode cX12_told 167 = .ok (.getfield 634, 3) := by decide +kernel
theorem dX12_told_170 : decode cX12_told 170 = .ok (.ireturn, 1) := by decide +kernel
theorem dX12_told_171 : decode cX12_told 171 = .ok (.aload_n 0, 1) := by decide +kernel
theorem dX12_told_172 : decode cX12_told 172 = .ok (.getfield 711, 3) := by decide +kernel
theorem dX12_told_175 : decode cX12_told 175 = .ok (.ireturn, 1) := by decide +kernel
theorem dX12_told_176 : decode cX12_told 176 = .ok (.aload_n 0, 1) := by decide +kernel
theorem dX12_told_177 : decode cX12_told 177 = .ok (.getfield 601, 3) := by decide +kernel
theorem dX12_told_180 : decode cX12_told 180 = .ok (.ireturn, 1) := by decide +kernel
theorem dX12_told_181 : decode cX12_told 181 = .ok (.aload_n 0, 1) := by decide +kernel
theorem dX12_told_182 : decode cX12_told 182 = .ok (.getfield 793, 3) := by decide +kernel
theorem dX12_told_185 : decode cX12_told 185 = .ok (.ireturn, 1) := by decide +kernel
theorem dX12_told_186 : decode cX12_told 186 = .ok (.aload_n 0, 1) := by decide +kernel
theorem dX12_told_187 : decode cX12_told 187 = .ok (.getfield 818, 3) := by decide +kernel
theorem dX12_told_190 : decode cX12_told 190 = .ok (.ireturn, 1) := by decide +kernel
theorem dX12_told_191 : decode cX12_told 191 = .ok (.iconst (-1), 1) := by decide +kernel
theorem dX12_told_192 : decode cX12_told 192 = .ok (.ireturn, 1) := by decide +kernel
def wX12_told (a0 : Nat) (x1 : Int32) (S : kp_S) (post : Int32 → kp_S → Prop) : Prop :=
  ∀ T1 : kp_S, T1 = kp_sI S 2400 a0 0 →
  ((x1 = 0 →
  post (kp_I T1 2517 a0) T1) ∧ (¬ x1 = 0 →
  ((x1 = 1 →
  post (kp_I T1 2518 a0) T1) ∧ (¬ x1 = 1 →
  ((x1 = 2 →
  post (kp_I T1 2519 a0) T1) ∧ (¬ x1 = 2 →
  ((x1 = 3 →
  post (kp_I T1 2520 a0) T1) ∧ (¬ x1 = 3 →
  ((x1 = 4 →
  post (kp_I T1 2522 a0) T1) ∧ (¬ x1 = 4 →
  ((x1 = 5 →
  post (kp_I T1 2523 a0) T1) ∧ (¬ x1 = 5 →
  ((x1 = 6 →
  post (kp_I T1 2471 a0) T1) ∧ (¬ x1 = 6 →
  ((x1 = 7 →
  post (kp_I T1 2472 a0) T1) ∧ (¬ x1 = 7 →
  ((x1 = 8 →
  post (kp_I T1 2473 a0) T1) ∧ (¬ x1 = 8 →
  ((x1 = 9 →
  post (kp_I T1 2474 a0) T1) ∧ (¬ x1 = 9 →
  ((x1 = 10 →
  post (kp_I T1 2475 a0) T1) ∧ (¬ x1 = 10 →
  ((x1 = 11 →
  post (kp_I T1 2476 a0) T1) ∧ (¬ x1 = 11 →
  ((x1 = 12 →
  post (kp_I T1 2477 a0) T1) ∧ (¬ x1 = 12 →
  ((x1 = 13 →
  post (kp_I T1 2478 a0) T1) ∧ (¬ x1 = 13 →
  ((x1 = 14 →
  post (kp_I T1 2479 a0) T1) ∧ (¬ x1 = 14 →
  ((x1 = 15 →
  post (kp_I T1 2480 a0) T1) ∧ (¬ x1 = 15 →
  ((x1 = 16 →
  post (kp_I T1 2470 a0) T1) ∧ (¬ x1 = 16 →
  ((x1 = 17 →
  post (kp_I T1 2524 a0) T1) ∧ (¬ x1 = 17 →
  ((x1 = 18 →
  post (kp_I T1 2521 a0) T1) ∧ (¬ x1 = 18 →
  post (-1) T1))))))))))))))))))))))))))))))))))))))
set_option maxHeartbeats 4000000 in
set_option maxRecDepth 100000 in
theorem c_X12_told (l : Launch) (D : va_G) (cy : Nat → ClassId) (ad : (Nat → Nat) × (Nat → Nat)) (S : kp_S) (a0 : Nat) (x1 : Int32) (post : Int32 → kp_S → Prop) (hS : kp_ok S) (f_a0 : kp_is S a0 12) (hw : wX12_told a0 x1 S post) : kp_M l yX12_told cX12_told 2 (some .int) { frames := 0, cells := 0, slots := 0, locals := 0 } D cy ad S [.ref a0, .int x1] 0 0 (fun A => kp_Qi D cy A S post) := by
  refine kp_start (own := RX12) (by decide) rfl (Nat.le_of_ble_eq_true rfl) hS ?_
  intro p e s m below meth c A ls X hr hlocks hname h hl
  have hle : kp_le S S := kp_le.rf
  have hl : lv_has ls 2 [(0, .ref a0), (1, .int x1)] := hl
  unfold wX12_told at hw
  have h : kp_H D cy A S s.heap s.heap [] := h
  revert h
  intro h
  refine lv_aload_n X.1 X.2.1 dX12_told_0 rfl (lv_at hl 0 rfl) ?_
  refine lv_iconst (v := 0) X.1 X.2.1 dX12_told_1 (by decide) ?_
  refine kp_putI X h f_a0 fp_12_1 rfl ⟨rfl, rfl⟩ dX12_told_2 (fun T1 e_T1 l_T1 H locs h => ?_)
  have hw := hw T1 e_T1
  have f_a0 := l_T1.is f_a0
  have hle := hle.tr l_T1
  refine lv_iload_n X.1 X.2.1 dX12_told_5 rfl (lv_at hl 1 rfl) ?_
  by_cases c2 : x1 = 0
  · have hw := hw.1 c2
    refine lv_tableIn (off := 90) (tgt := 96) X.1 X.2.1 dX12_told_6 (by rw [c2]; decide) (by rw [c2]; decide) (by rw [c2]; decide) (by decide) ?_
    refine lv_aload_n X.1 X.2.1 dX12_told_96 rfl (lv_at hl 0 rfl) ?_
    refine kp_get X h f_a0 fp_12_242.l (v := .int (kp_I T1 2517 a0)) rfl dX12_told_97 ?_
    exact kp_reti X hr hlocks h hle rfl hw dX12_told_100
  have hw := hw.2 c2
  by_cases c3 : x1 = 1
  · have hw := hw.1 c3
    refine lv_tableIn (off := 95) (tgt := 101) X.1 X.2.1 dX12_told_6 (by rw [c3]; decide) (by rw [c3]; decide) (by rw [c3]; decide) (by decide) ?_
    refine lv_aload_n X.1 X.2.1 dX12_told_101 rfl (lv_at hl 0 rfl) ?_
    refine kp_get X h f_a0 fp_12_809.l (v := .int (kp_I T1 2518 a0)) rfl dX12_told_102 ?_
    exact kp_reti X hr hlocks h hle rfl hw dX12_told_105
  have hw := hw.2 c3
  by_cases c4 : x1 = 2
  · have hw := hw.1 c4
    refine lv_tableIn (off := 100) (tgt := 106) X.1 X.2.1 dX12_told_6 (by rw [c4]; decide) (by rw [c4]; decide) (by rw [c4]; decide) (by decide) ?_
    refine lv_aload_n X.1 X.2.1 dX12_told_106 rfl (lv_at hl 0 rfl) ?_
    refine kp_get X h f_a0 fp_12_812.l (v := .int (kp_I T1 2519 a0)) rfl dX12_told_107 ?_
    exact kp_reti X hr hlocks h hle rfl hw dX12_told_110
  have hw := hw.2 c4
  by_cases c5 : x1 = 3
  · have hw := hw.1 c5
    refine lv_tableIn (off := 105) (tgt := 111) X.1 X.2.1 dX12_told_6 (by rw [c5]; decide) (by rw [c5]; decide) (by rw [c5]; decide) (by decide) ?_
    refine lv_aload_n X.1 X.2.1 dX12_told_111 rfl (lv_at hl 0 rfl) ?_
    refine kp_get X h f_a0 fp_12_815.l (v := .int (kp_I T1 2520 a0)) rfl dX12_told_112 ?_
    exact kp_reti X hr hlocks h hle rfl hw dX12_told_115
  have hw := hw.2 c5
  by_cases c6 : x1 = 4
  · have hw := hw.1 c6
    refine lv_tableIn (off := 110) (tgt := 116) X.1 X.2.1 dX12_told_6 (by rw [c6]; decide) (by rw [c6]; decide) (by rw [c6]; decide) (by decide) ?_
    refine lv_aload_n X.1 X.2.1 dX12_told_116 rfl (lv_at hl 0 rfl) ?_
    refine kp_get X h f_a0 fp_12_245.l (v := .int (kp_I T1 2522 a0)) rfl dX12_told_117 ?_
    exact kp_reti X hr hlocks h hle rfl hw dX12_told_120
  have hw := hw.2 c6
  by_cases c7 : x1 = 5
  · have hw := hw.1 c7
    refine lv_tableIn (off := 115) (tgt := 121) X.1 X.2.1 dX12_told_6 (by rw [c7]; decide) (by rw [c7]; decide) (by rw [c7]; decide) (by decide) ?_
    refine lv_aload_n X.1 X.2.1 dX12_told_121 rfl (lv_at hl 0 rfl) ?_
    refine kp_get X h f_a0 fp_12_803.l (v := .int (kp_I T1 2523 a0)) rfl dX12_told_122 ?_
    exact kp_reti X hr hlocks h hle rfl hw dX12_told_125
  have hw := hw.2 c7
  by_cases c8 : x1 = 6
  · have hw := hw.1 c8
    refine lv_tableIn (off := 120) (tgt := 126) X.1 X.2.1 dX12_told_6 (by rw [c8]; decide) (by rw [c8]; decide) (by rw [c8]; decide) (by decide) ?_
    refine lv_aload_n X.1 X.2.1 dX12_told_126 rfl (lv_at hl 0 rfl) ?_
    refine kp_get X h f_a0 fp_12_778.l (v := .int (kp_I T1 2471 a0)) rfl dX12_told_127 ?_
    exact kp_reti X hr hlocks h hle rfl hw dX12_told_130
  have hw := hw.2 c8
  by_cases c9 : x1 = 7
  · have hw := hw.1 c9
    refine lv_tableIn (off := 125) (tgt := 131) X.1 X.2.1 dX12_told_6 (by rw [c9]; decide) (by rw [c9]; decide) (by rw [c9]; decide) (by decide) ?_
    refine lv_aload_n X.1 X.2.1 dX12_told_131 rfl (lv_at hl 0 rfl) ?_
    refine kp_get X h f_a0 fp_12_669.l (v := .int (kp_I T1 2472 a0)) rfl dX12_told_132 ?_
    exact kp_reti X hr hlocks h hle rfl hw dX12_told_135
  have hw := hw.2 c9
  by_cases c10 : x1 = 8
  · have hw := hw.1 c10
    refine lv_tableIn (off := 130) (tgt := 136) X.1 X.2.1 dX12_told_6 (by rw [c10]; decide) (by rw [c10]; decide) (by rw [c10]; decide) (by decide) ?_
    refine lv_aload_n X.1 X.2.1 dX12_told_136 rfl (lv_at hl 0 rfl) ?_
    refine kp_get X h f_a0 fp_12_770.l (v := .int (kp_I T1 2473 a0)) rfl dX12_told_137 ?_
    exact kp_reti X hr hlocks h hle rfl hw dX12_told_140
  have hw := hw.2 c10
  by_cases c11 : x1 = 9
  · have hw := hw.1 c11
    refine lv_tableIn (off := 135) (tgt := 141) X.1 X.2.1 dX12_told_6 (by rw [c11]; decide) (by rw [c11]; decide) (by rw [c11]; decide) (by decide) ?_
    refine lv_aload_n X.1 X.2.1 dX12_told_141 rfl (lv_at hl 0 rfl) ?_
    refine kp_get X h f_a0 fp_12_678.l (v := .int (kp_I T1 2474 a0)) rfl dX12_told_142 ?_
    exact kp_reti X hr hlocks h hle rfl hw dX12_told_145
  have hw := hw.2 c11
  by_cases c12 : x1 = 10
  · have hw := hw.1 c12
    refine lv_tableIn (off := 140) (tgt := 146) X.1 X.2.1 dX12_told_6 (by rw [c12]; decide) (by rw [c12]; decide) (by rw [c12]; decide) (by decide) ?_
    refine lv_aload_n X.1 X.2.1 dX12_told_146 rfl (lv_at hl 0 rfl) ?_
    refine kp_get X h f_a0 fp_12_784.l (v := .int (kp_I T1 2475 a0)) rfl dX12_told_147 ?_
    exact kp_reti X hr hlocks h hle rfl hw dX12_told_150
  have hw := hw.2 c12
  by_cases c13 : x1 = 11
  · have hw := hw.1 c13
    refine lv_tableIn (off := 145) (tgt := 151) X.1 X.2.1 dX12_told_6 (by rw [c13]; decide) (by rw [c13]; decide) (by rw [c13]; decide) (by decide) ?_
    refine lv_aload_n X.1 X.2.1 dX12_told_151 rfl (lv_at hl 0 rfl) ?_
    refine kp_get X h f_a0 fp_12_702.l (v := .int (kp_I T1 2476 a0)) rfl dX12_told_152 ?_
    exact kp_reti X hr hlocks h hle rfl hw dX12_told_155
  have hw := hw.2 c13
  by_cases c14 : x1 = 12
  · have hw := hw.1 c14
    refine lv_tableIn (off := 150) (tgt := 156) X.1 X.2.1 dX12_told_6 (by rw [c14]; decide) (by rw [c14]; decide) (by rw [c14]; decide) (by decide) ?_
    refine lv_aload_n X.1 X.2.1 dX12_told_156 rfl (lv_at hl 0 rfl) ?_
    refine kp_get X h f_a0 fp_12_642.l (v := .int (kp_I T1 2477 a0)) rfl dX12_told_157 ?_
    exact kp_reti X hr hlocks h hle rfl hw dX12_told_160
  have hw := hw.2 c14
  by_cases c15 : x1 = 13
  · have hw := hw.1 c15
    refine lv_tableIn (off := 155) (tgt := 161) X.1 X.2.1 dX12_told_6 (by rw [c15]; decide) (by rw [c15]; decide) (by rw [c15]; decide) (by decide) ?_
    refine lv_aload_n X.1 X.2.1 dX12_told_161 rfl (lv_at hl 0 rfl) ?_
    refine kp_get X h f_a0 fp_12_781.l (v := .int (kp_I T1 2478 a0)) rfl dX12_told_162 ?_
    exact kp_reti X hr hlocks h hle rfl hw dX12_told_165
  have hw := hw.2 c15
  by_cases c16 : x1 = 14
  · have hw := hw.1 c16
    refine lv_tableIn (off := 160) (tgt := 166) X.1 X.2.1 dX12_told_6 (by rw [c16]; decide) (by rw [c16]; decide) (by rw [c16]; decide) (by decide) ?_
    refine lv_aload_n X.1 X.2.1 dX12_told_166 rfl (lv_at hl 0 rfl) ?_
    refine kp_get X h f_a0 fp_12_634.l (v := .int (kp_I T1 2479 a0)) rfl dX12_told_167 ?_
    exact kp_reti X hr hlocks h hle rfl hw dX12_told_170
  have hw := hw.2 c16
  by_cases c17 : x1 = 15
  · have hw := hw.1 c17
    refine lv_tableIn (off := 165) (tgt := 171) X.1 X.2.1 dX12_told_6 (by rw [c17]; decide) (by rw [c17]; decide) (by rw [c17]; decide) (by decide) ?_
    refine lv_aload_n X.1 X.2.1 dX12_told_171 rfl (lv_at hl 0 rfl) ?_
    refine kp_get X h f_a0 fp_12_711.l (v := .int (kp_I T1 2480 a0)) rfl dX12_told_172 ?_
    exact kp_reti X hr hlocks h hle rfl hw dX12_told_175
  have hw := hw.2 c17
  by_cases c18 : x1 = 16
  · have hw := hw.1 c18
    refine lv_tableIn (off := 170) (tgt := 176) X.1 X.2.1 dX12_told_6 (by rw [c18]; decide) (by rw [c18]; decide) (by rw [c18]; decide) (by decide) ?_
    refine lv_aload_n X.1 X.2.1 dX12_told_176 rfl (lv_at hl 0 rfl) ?_
    refine kp_get X h f_a0 fp_12_601.l (v := .int (kp_I T1 2470 a0)) rfl dX12_told_177 ?_
    exact kp_reti X hr hlocks h hle rfl hw dX12_told_180
  have hw := hw.2 c18
  by_cases c19 : x1 = 17
  · have hw := hw.1 c19
    refine lv_tableIn (off := 175) (tgt := 181) X.1 X.2.1 dX12_told_6 (by rw [c19]; decide) (by rw [c19]; decide) (by rw [c19]; decide) (by decide) ?_
    refine lv_aload_n X.1 X.2.1 dX12_told_181 rfl (lv_at hl 0 rfl) ?_
    refine kp_get X h f_a0 fp_12_793.l (v := .int (kp_I T1 2524 a0)) rfl dX12_told_182 ?_
    exact kp_reti X hr hlocks h hle rfl hw dX12_told_185
  have hw := hw.2 c19
  by_cases c20 : x1 = 18
  · have hw := hw.1 c20
    refine lv_tableIn (off := 180) (tgt := 186) X.1 X.2.1 dX12_told_6 (by rw [c20]; decide) (by rw [c20]; decide) (by rw [c20]; decide) (by decide) ?_
    refine lv_aload_n X.1 X.2.1 dX12_told_186 rfl (lv_at hl 0 rfl) ?_
    refine kp_get X h f_a0 fp_12_818.l (v := .int (kp_I T1 2521 a0)) rfl dX12_told_187 ?_
    exact kp_reti X hr hlocks h hle rfl hw dX12_told_190
  have hw := hw.2 c20
  have t_c2 := lv_neT (a := 0) c2 (by decide)
  have t_c3 := lv_neT (a := 1) c3 (by decide)
  have t_c4 := lv_neT (a := 2) c4 (by decide)
  have t_c5 := lv_neT (a := 3) c5 (by decide)
  have t_c6 := lv_neT (a := 4) c6 (by decide)
  have t_c7 := lv_neT (a := 5) c7 (by decide)
  have t_c8 := lv_neT (a := 6) c8 (by decide)
  have t_c9 := lv_neT (a := 7) c9 (by decide)
  have t_c10 := lv_neT (a := 8) c10 (by decide)
  have t_c11 := lv_neT (a := 9) c11 (by decide)
  have t_c12 := lv_neT (a := 10) c12 (by decide)
  have t_c13 := lv_neT (a := 11) c13 (by decide)
  have t_c14 := lv_neT (a := 12) c14 (by decide)
  have t_c15 := lv_neT (a := 13) c15 (by decide)
  have t_c16 := lv_neT (a := 14) c16 (by decide)
  have t_c17 := lv_neT (a := 15) c17 (by decide)
  have t_c18 := lv_neT (a := 16) c18 (by decide)
  have t_c19 := lv_neT (a := 17) c19 (by decide)
  have t_c20 := lv_neT (a := 18) c20 (by decide)
  refine lv_tableOut (tgt := 191) X.1 X.2.1 dX12_told_6 (by omega) (by decide) ?_
  refine lv_iconst (v := (-1)) X.1 X.2.1 dX12_told_191 (by decide) ?_
  exact kp_reti X hr hlocks h hle rfl hw dX12_told_192
theorem dX12_log_0 : decode cX12_log 0 = .ok (.aload_n 0, 1) := by decide +kernel
theorem dX12_log_1 : decode cX12_log 1 = .ok (.iconst 0, 1) := by decide +kernel
theorem dX12_log_2 : decode cX12_log 2 = .ok (.putfield 1, 3) := by decide +kernel
theorem dX12_log_5 : decode cX12_log 5 = .ok (.iload_n 1, 1) := by decide +kernel
theorem dX12_log_6 : decode cX12_log 6 = .ok (.iconst 0, 1) := by decide +kernel
theorem dX12_log_7 : decode cX12_log 7 = .ok (.aload_n 0, 1) := by decide +kernel
theorem dX12_log_8 : decode cX12_log 8 = .ok (.getfield 601, 3) := by decide +kernel
theorem dX12_log_11 : decode cX12_log 11 = .ok (.iconst 1, 1) := by decide +kernel
theorem dX12_log_12 : decode cX12_log 12 = .ok (.isub, 1) := by decide +kernel
theorem dX12_log_13 : decode cX12_log 13 = .ok (.invokestatic 589, 3) := by decide +kernel
theorem dX12_log_16 : decode cX12_log 16 = .ok (.ifCond .eq 10, 3) := by decide +kernel
theorem dX12_log_19 : decode cX12_log 19 = .ok (.iload_n 1, 1) := by decide +kernel
theorem dX12_log_20 : decode cX12_log 20 = .ok (.sipush 300, 3) := by decide +kernel
theorem dX12_log_23 : decode cX12_log 23 = .ok (.if_icmp .lt 5, 3) := by decide +kernel
theorem dX12_log_26 : decode cX12_log 26 = .ok (.iconst (-1), 1) := by decide +kernel
theorem dX12_log_27 : decode cX12_log 27 = .ok (.ireturn, 1) := by decide +kernel
theorem dX12_log_28 : decode cX12_log 28 = .ok (.iload_n 2, 1) := by decide +kernel
theorem dX12_log_29 : decode cX12_log 29 = .ok (.ifCond .ne 12, 3) := by decide +kernel
theorem dX12_log_32 : decode cX12_log 32 = .ok (.aload_n 0, 1) := by decide +kernel
theorem dX12_log_33 : decode cX12_log 33 = .ok (.getfield 170, 3) := by decide +kernel
theorem dX12_log_36 : decode cX12_log 36 = .ok (.iload_n 1, 1) := by decide +kernel
theorem dX12_log_37 : decode cX12_log 37 = .ok (.iaload, 1) := by decide +kernel
theorem dX12_log_38 : decode cX12_log 38 = .ok (.goto 18, 3) := by decide +kernel
theorem dX12_log_41 : decode cX12_log 41 = .ok (.iload_n 2, 1) := by decide +kernel
theorem dX12_log_42 : decode cX12_log 42 = .ok (.iconst 1, 1) := by decide +kernel
theorem dX12_log_43 : decode cX12_log 43 = .ok (.if_icmp .ne 12, 3) := by decide +kernel
theorem dX12_log_46 : decode cX12_log 46 = .ok (.aload_n 0, 1) := by decide +kernel
theorem dX12_log_47 : decode cX12_log 47 = .ok (.getfield 173, 3) := by decide +kernel
theorem dX12_log_50 : decode cX12_log 50 = .ok (.iload_n 1, 1) := by decide +kernel
theorem dX12_log_51 : decode cX12_log 51 = .ok (.iaload, 1) := by decide +kernel
theorem dX12_log_52 : decode cX12_log 52 = .ok (.goto 4, 3) := by decide +kernel
theorem dX12_log_55 : decode cX12_log 55 = .ok (.iconst (-1), 1) := by decide +kernel
theorem dX12_log_56 : decode cX12_log 56 = .ok (.ireturn, 1) := by decide +kernel
def wX12_log_b26 (a0 : Nat) (x1 : Int32) (x2 : Int32)  (Sn : kp_S) (post : Int32 → kp_S → Prop) : Prop :=
  post (-1) Sn
def wX12_log_b56 (a0 : Nat) (x1 : Int32) (x2 : Int32) (xt0 : Int32)  (Sn : kp_S) (post : Int32 → kp_S → Prop) : Prop :=
  post xt0 Sn
def wX12_log (a0 : Nat) (x1 : Int32) (x2 : Int32) (S : kp_S) (post : Int32 → kp_S → Prop) : Prop :=
  ∀ T1 : kp_S, T1 = kp_sI S 2400 a0 0 →
  wX12_in x1 0 ((kp_I T1 2470 a0) - 1) T1 (fun y3 T2 =>
  ((y3 = 0 →
  wX12_log_b26 a0 x1 x2   T2 post) ∧ (¬ y3 = 0 →
  ((x1 < 300 →
  ((¬ x2 = 0 →
  ((¬ x2 = 1 →
  wX12_log_b56 a0 x1 x2 (-1)  T2 post) ∧ (x2 = 1 →
  ∃ b4 : Nat, kp_R T2 2469 a0 = some b4 ∧
  vp_in x1 (kp_N T2 b4) ∧
  wX12_log_b56 a0 x1 x2 (kp_A T2 b4 x1.toNatClampNeg)  T2 post))) ∧ (x2 = 0 →
  ∃ b6 : Nat, kp_R T2 2468 a0 = some b6 ∧
  vp_in x1 (kp_N T2 b6) ∧
  wX12_log_b56 a0 x1 x2 (kp_A T2 b6 x1.toNatClampNeg)  T2 post))) ∧ (¬ x1 < 300 →
  wX12_log_b26 a0 x1 x2   T2 post)))))
set_option maxHeartbeats 4000000 in
set_option maxRecDepth 100000 in
theorem c_X12_log (l : Launch) (D : va_G) (cy : Nat → ClassId) (ad : (Nat → Nat) × (Nat → Nat)) (S : kp_S) (a0 : Nat) (x1 : Int32) (x2 : Int32) (post : Int32 → kp_S → Prop) (hS : kp_ok S) (f_a0 : kp_is S a0 12) (hw : wX12_log a0 x1 x2 S post) : kp_M l yX12_log cX12_log 3 (some .int) { frames := 1, cells := 0, slots := 0, locals := 22 } D cy ad S [.ref a0, .int x1, .int x2] 0 0 (fun A => kp_Qi D cy A S post) := by
  refine kp_start (own := RX12) (by decide) rfl (Nat.le_of_ble_eq_true rfl) hS ?_
  intro p e s m below meth c A ls X hr hlocks hname h hl
  have hle : kp_le S S := kp_le.rf
  have hl : lv_has ls 3 [(0, .ref a0), (1, .int x1), (2, .int x2)] := hl
  have j26 : ∀  (Sn : kp_S) (H : Heap) (locs : List Loc) (ls : Array Slot), lv_has ls 3 [] → kp_H D cy A Sn s.heap H locs → kp_le S Sn → kp_is Sn a0 12 → wX12_log_b26 a0 x1 x2   Sn post → W p l e { frames := 1, cells := 0, slots := 0, locals := 22 } s m ([.ref a0, .int x1, .int x2] : List Value).toArray below meth c H locs 0 0 (MQ below (kp_Qi D cy A S post) ([.ref a0, .int x1, .int x2] : List Value).toArray s 0 0 A) (F0 m 26 ls []) := by
    intro  Sn H locs ls hl h hle f_a0 hw
    unfold wX12_log_b26 at hw
    refine lv_iconst (v := (-1)) X.1 X.2.1 dX12_log_26 (by decide) ?_
    exact kp_reti X hr hlocks h hle rfl hw dX12_log_27
  have j56 : ∀ (xt0 : Int32) (Sn : kp_S) (H : Heap) (locs : List Loc) (ls : Array Slot), lv_has ls 3 [] → kp_H D cy A Sn s.heap H locs → kp_le S Sn → kp_is Sn a0 12 → wX12_log_b56 a0 x1 x2 xt0  Sn post → W p l e { frames := 1, cells := 0, slots := 0, locals := 22 } s m ([.ref a0, .int x1, .int x2] : List Value).toArray below meth c H locs 0 0 (MQ below (kp_Qi D cy A S post) ([.ref a0, .int x1, .int x2] : List Value).toArray s 0 0 A) (F0 m 56 ls [.int xt0]) := by
    intro xt0 Sn H locs ls hl h hle f_a0 hw
    unfold wX12_log_b56 at hw
    exact kp_reti X hr hlocks h hle rfl hw dX12_log_56
  unfold wX12_log at hw
  have h : kp_H D cy A S s.heap s.heap [] := h
  revert h
  intro h
  refine lv_aload_n X.1 X.2.1 dX12_log_0 rfl (lv_at hl 0 rfl) ?_
  refine lv_iconst (v := 0) X.1 X.2.1 dX12_log_1 (by decide) ?_
  refine kp_putI X h f_a0 fp_12_1 rfl ⟨rfl, rfl⟩ dX12_log_2 (fun T1 e_T1 l_T1 H locs h => ?_)
  have hw := hw T1 e_T1
  have f_a0 := l_T1.is f_a0
  have hle := hle.tr l_T1
  refine lv_iload_n X.1 X.2.1 dX12_log_5 rfl (lv_at hl 1 rfl) ?_
  refine lv_iconst (v := 0) X.1 X.2.1 dX12_log_6 (by decide) ?_
  refine lv_aload_n X.1 X.2.1 dX12_log_7 rfl (lv_at hl 0 rfl) ?_
  refine kp_get X h f_a0 fp_12_601.l (v := .int (kp_I T1 2470 a0)) rfl dX12_log_8 ?_
  refine lv_iconst (v := 1) X.1 X.2.1 dX12_log_11 (by decide) ?_
  refine lv_isub X.1 X.2.1 dX12_log_12 ?_
  refine kp_calli X h (kp_runS (rm := { frames := 0, cells := 0, slots := 0, locals := 0 }) (mc := 0) (ms := 0) (rest := []) (Qc := fun A => kp_Qi D cy A T1 _) X h (c_X12_in l D cy ad T1 x1 0 ((kp_I T1 2470 a0) - 1) _ h.2.2.2  hw) cs_12_589 ⟨by decide, by decide, rfl, rfl, by decide, by decide⟩ rfl hl.1 rfl (Nat.le_of_ble_eq_true rfl) dX12_log_13) (fun y3 T2 hw l_T2 H locs h => ?_)
  have f_a0 := l_T2.is f_a0
  have hle := hle.tr l_T2
  refine lv_if_eq (tgt := 26) X.1 X.2.1 dX12_log_16 (by decide) (fun c9 => ?_) (fun c9 => ?_)
  · have hw := hw.1 c9
    exact j26  T2 _ _ ls (lv_sub hl [] rfl) h hle f_a0 hw
  · have hw := hw.2 c9
    refine lv_iload_n X.1 X.2.1 dX12_log_19 rfl (lv_at hl 1 rfl) ?_
    refine lv_sipush (v := 300) X.1 X.2.1 dX12_log_20 (by decide) ?_
    refine lv_icmp_lt (tgt := 28) X.1 X.2.1 dX12_log_23 (by decide) (fun c8 => ?_) (fun c8 => ?_)
    · have hw := hw.1 c8
      refine lv_iload_n X.1 X.2.1 dX12_log_28 rfl (lv_at hl 2 rfl) ?_
      refine lv_if_ne (tgt := 41) X.1 X.2.1 dX12_log_29 (by decide) (fun c7 => ?_) (fun c7 => ?_)
      · have hw := hw.1 c7
        refine lv_iload_n X.1 X.2.1 dX12_log_41 rfl (lv_at hl 2 rfl) ?_
        refine lv_iconst (v := 1) X.1 X.2.1 dX12_log_42 (by decide) ?_
        refine lv_icmp_ne (tgt := 55) X.1 X.2.1 dX12_log_43 (by decide) (fun c5 => ?_) (fun c5 => ?_)
        · have hw := hw.1 c5
          refine lv_iconst (v := (-1)) X.1 X.2.1 dX12_log_55 (by decide) ?_
          exact j56 (-1) T2 _ _ ls (lv_sub hl [] rfl) h hle f_a0 hw
        · have hw := hw.2 c5
          refine lv_aload_n X.1 X.2.1 dX12_log_46 rfl (lv_at hl 0 rfl) ?_
          obtain ⟨b4, e_b4, hw⟩ := hw
          have f_b4 := h.2.2.2.rf (c := 12) (k := 69) f_a0 (by decide) (by decide) e_b4 (t := 14) rfl
          refine kp_get X h f_a0 ff_12_173.l (v := .ref b4) (congrArg va_rf e_b4) dX12_log_47 ?_
          refine lv_iload_n X.1 X.2.1 dX12_log_50 rfl (lv_at hl 1 rfl) ?_
          obtain ⟨hi, hw⟩ := hw
          refine kp_iald X h f_b4 hi dX12_log_51 ?_
          refine lv_goto (tgt := 56) X.1 X.2.1 dX12_log_52 (by decide) ?_
          exact j56 (kp_A T2 b4 x1.toNatClampNeg) T2 _ _ ls (lv_sub hl [] rfl) h hle f_a0 hw
      · have hw := hw.2 c7
        refine lv_aload_n X.1 X.2.1 dX12_log_32 rfl (lv_at hl 0 rfl) ?_
        obtain ⟨b6, e_b6, hw⟩ := hw
        have f_b6 := h.2.2.2.rf (c := 12) (k := 68) f_a0 (by decide) (by decide) e_b6 (t := 14) rfl
        refine kp_get X h f_a0 ff_12_170.l (v := .ref b6) (congrArg va_rf e_b6) dX12_log_33 ?_
        refine lv_iload_n X.1 X.2.1 dX12_log_36 rfl (lv_at hl 1 rfl) ?_
        obtain ⟨hi, hw⟩ := hw
        refine kp_iald X h f_b6 hi dX12_log_37 ?_
        refine lv_goto (tgt := 56) X.1 X.2.1 dX12_log_38 (by decide) ?_
        exact j56 (kp_A T2 b6 x1.toNatClampNeg) T2 _ _ ls (lv_sub hl [] rfl) h hle f_a0 hw
    · have hw := hw.2 c8
      exact j26  T2 _ _ ls (lv_sub hl [] rfl) h hle f_a0 hw
