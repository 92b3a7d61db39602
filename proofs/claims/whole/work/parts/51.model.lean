theorem ff_12_176 : kp_FF RX12 176 12 88 := ⟨RX12, TX12, 125, cl_12, by decide, kp_mem 1780 (by decide +kernel) (by decide +kernel), rfl, rfl⟩
theorem fp_12_613 : kp_FP RX12 613 12 87 := ⟨RX12, TX12, 125, cl_12, by decide, kp_mem 1779 (by decide +kernel) (by decide +kernel), rfl⟩
theorem ff_12_179 : kp_FF RX12 179 12 89 := ⟨RX12, TX12, 125, cl_12, by decide, kp_mem 1781 (by decide +kernel) (by decide +kernel), rfl, rfl⟩
theorem ff_12_182 : kp_FF RX12 182 12 90 := ⟨RX12, TX12, 125, cl_12, by decide, kp_mem 1782 (by decide +kernel) (by decide +kernel), rfl, rfl⟩
theorem ff_12_185 : kp_FF RX12 185 12 91 := ⟨RX12, TX12, 125, cl_12, by decide, kp_mem 1783 (by decide +kernel) (by decide +kernel), rfl, rfl⟩
theorem ff_12_188 : kp_FF RX12 188 12 92 := ⟨RX12, TX12, 125, cl_12, by decide, kp_mem 1784 (by decide +kernel) (by decide +kernel), rfl, rfl⟩
theorem ff_12_197 : kp_FF RX12 197 12 95 := ⟨RX12, TX12, 125, cl_12, by decide, kp_mem 1787 (by decide +kernel) (by decide +kernel), rfl, rfl⟩
theorem fp_12_616 : kp_FP RX12 616 12 81 := ⟨RX12, TX12, 125, cl_12, by decide, kp_mem 1773 (by decide +kernel) (by decide +kernel), rfl⟩
theorem ff_12_200 : kp_FF RX12 200 12 96 := ⟨RX12, TX12, 125, cl_12, by decide, kp_mem 1788 (by decide +kernel) (by decide +kernel), rfl, rfl⟩
theorem fp_12_619 : kp_FP RX12 619 12 82 := ⟨RX12, TX12, 125, cl_12, by decide, kp_mem 1774 (by decide +kernel) (by decide +kernel), rfl⟩
theorem ff_12_203 : kp_FF RX12 203 12 97 := ⟨RX12, TX12, 125, cl_12, by decide, kp_mem 1789 (by decide +kernel) (by decide +kernel), rfl, rfl⟩
theorem fp_12_622 : kp_FP RX12 622 12 83 := ⟨RX12, TX12, 125, cl_12, by decide, kp_mem 1775 (by decide +kernel) (by decide +kernel), rfl⟩
theorem ff_12_206 : kp_FF RX12 206 12 98 := ⟨RX12, TX12, 125, cl_12, by decide, kp_mem 1790 (by decide +kernel) (by decide +kernel), rfl, rfl⟩
theorem fp_12_625 : kp_FP RX12 625 12 84 := ⟨RX12, TX12, 125, cl_12, by decide, kp_mem 1776 (by decide +kernel) (by decide +kernel), rfl⟩
theorem ff_12_209 : kp_FF RX12 209 12 99 := ⟨RX12, TX12, 125, cl_12, by decide, kp_mem 1791 (by decide +kernel) (by decide +kernel), rfl, rfl⟩
theorem fp_12_628 : kp_FP RX12 628 12 85 := ⟨RX12, TX12, 125, cl_12, by decide, kp_mem 1777 (by decide +kernel) (by decide +kernel), rfl⟩
theorem ff_12_212 : kp_FF RX12 212 12 100 := ⟨RX12, TX12, 125, cl_12, by decide, kp_mem 1792 (by decide +kernel) (by decide +kernel), rfl, rfl⟩
theorem fp_12_631 : kp_FP RX12 631 12 86 := ⟨RX12, TX12, 125, cl_12, by decide, kp_mem 1778 (by decide +kernel) (by decide +kernel), rfl⟩
theorem fp_12_634 : kp_FP RX12 634 12 79 := ⟨RX12, TX12, 125, cl_12, by decide, kp_mem 1771 (by decide +kernel) (by decide +kernel), rfl⟩
theorem cv_12_637 : kp_CV RX12 637 yX12_note cX12_note 3 none 2 12 := ⟨⟨kp_mem 2382 (by decide +kernel) (by decide +kernel), kp_mem 220 (by decide +kernel) (by decide +kernel), by decide +kernel⟩, kp_mem 2379 (by decide +kernel) (by decide +kernel), kp_mem 2381 (by decide +kernel) (by decide +kernel), kp_mem 166 (by decide +kernel) (by decide +kernel), by decide, TX12, 125, rfl⟩
theorem fp_12_648 : kp_FP RX12 648 12 110 := ⟨RX12, TX12, 125, cl_12, by decide, kp_mem 1802 (by decide +kernel) (by decide +kernel), rfl⟩
theorem cv_12_666 : kp_CV RX12 666 yX12_goes cX12_goes 3 none 2 12 := ⟨⟨kp_mem 2398 (by decide +kernel) (by decide +kernel), kp_mem 220 (by decide +kernel) (by decide +kernel), by decide +kernel⟩, kp_mem 2395 (by decide +kernel) (by decide +kernel), kp_mem 2397 (by decide +kernel) (by decide +kernel), kp_mem 170 (by decide +kernel) (by decide +kernel), by decide, TX12, 125, rfl⟩
theorem ff_12_191 : kp_FF RX12 191 12 93 := ⟨RX12, TX12, 125, cl_12, by decide, kp_mem 1785 (by decide +kernel) (by decide +kernel), rfl, rfl⟩
theorem cv_12_672 : kp_CV RX12 672 yX12_closes cX12_closes 3 (some .boolean) 2 12 := ⟨⟨kp_mem 2394 (by decide +kernel) (by decide +kernel), kp_mem 220 (by decide +kernel) (by decide +kernel), by decide +kernel⟩, kp_mem 2391 (by decide +kernel) (by decide +kernel), kp_mem 2393 (by decide +kernel) (by decide +kernel), kp_mem 169 (by decide +kernel) (by decide +kernel), by decide, TX12, 125, rfl⟩
theorem fp_12_669 : kp_FP RX12 669 12 72 := ⟨RX12, TX12, 125, cl_12, by decide, kp_mem 1764 (by decide +kernel) (by decide +kernel), rfl⟩
theorem fp_12_678 : kp_FP RX12 678 12 74 := ⟨RX12, TX12, 125, cl_12, by decide, kp_mem 1766 (by decide +kernel) (by decide +kernel), rfl⟩
theorem cv_12_675 : kp_CV RX12 675 yX12_keepWay cX12_keepWay 2 none 1 12 := ⟨⟨kp_mem 2410 (by decide +kernel) (by decide +kernel), kp_mem 220 (by decide +kernel) (by decide +kernel), by decide +kernel⟩, kp_mem 2407 (by decide +kernel) (by decide +kernel), kp_mem 2409 (by decide +kernel) (by decide +kernel), kp_mem 173 (by decide +kernel) (by decide +kernel), by decide, TX12, 125, rfl⟩
theorem cv_12_684 : kp_CV RX12 684 yX12_loses cX12_loses 2 none 1 12 := ⟨⟨kp_mem 2422 (by decide +kernel) (by decide +kernel), kp_mem 220 (by decide +kernel) (by decide +kernel), by decide +kernel⟩, kp_mem 2419 (by decide +kernel) (by decide +kernel), kp_mem 2421 (by decide +kernel) (by decide +kernel), kp_mem 176 (by decide +kernel) (by decide +kernel), by decide, TX12, 125, rfl⟩
theorem cv_12_681 : kp_CV RX12 681 yX12_takeWay cX12_takeWay 2 none 1 12 := ⟨⟨kp_mem 2418 (by decide +kernel) (by decide +kernel), kp_mem 220 (by decide +kernel) (by decide +kernel), by decide +kernel⟩, kp_mem 2415 (by decide +kernel) (by decide +kernel), kp_mem 2417 (by decide +kernel) (by decide +kernel), kp_mem 175 (by decide +kernel) (by decide +kernel), by decide, TX12, 125, rfl⟩
theorem cv_12_690 : kp_CV RX12 690 yX12_endsAlways cX12_endsAlways 2 none 1 12 := ⟨⟨kp_mem 2414 (by decide +kernel) (by decide +kernel), kp_mem 220 (by decide +kernel) (by decide +kernel), by decide +kernel⟩, kp_mem 2411 (by decide +kernel) (by decide +kernel), kp_mem 2413 (by decide +kernel) (by decide +kernel), kp_mem 174 (by decide +kernel) (by decide +kernel), by decide, TX12, 125, rfl⟩
theorem cv_12_687 : kp_CV RX12 687 yX12_beginsAlways cX12_beginsAlways 3 none 1 12 := ⟨⟨kp_mem 2406 (by decide +kernel) (by decide +kernel), kp_mem 220 (by decide +kernel) (by decide +kernel), by decide +kernel⟩, kp_mem 2403 (by decide +kernel) (by decide +kernel), kp_mem 2405 (by decide +kernel) (by decide +kernel), kp_mem 172 (by decide +kernel) (by decide +kernel), by decide, TX12, 125, rfl⟩
theorem fp_12_639 : kp_FP RX12 639 12 111 := ⟨RX12, TX12, 125, cl_12, by decide, kp_mem 1803 (by decide +kernel) (by decide +kernel), rfl⟩
theorem cv_12_693 : kp_CV RX12 693 yX12_burns cX12_burns 1 (some .boolean) 0 12 := ⟨⟨kp_mem 2374 (by decide +kernel) (by decide +kernel), kp_mem 220 (by decide +kernel) (by decide +kernel), by decide +kernel⟩, kp_mem 2371 (by decide +kernel) (by decide +kernel), kp_mem 2373 (by decide +kernel) (by decide +kernel), kp_mem 164 (by decide +kernel) (by decide +kernel), by decide, TX12, 125, rfl⟩
theorem cv_12_708 : kp_CV RX12 708 yX12_push cX12_push 2 none 1 12 := ⟨⟨kp_mem 2366 (by decide +kernel) (by decide +kernel), kp_mem 220 (by decide +kernel) (by decide +kernel), by decide +kernel⟩, kp_mem 2363 (by decide +kernel) (by decide +kernel), kp_mem 2365 (by decide +kernel) (by decide +kernel), kp_mem 162 (by decide +kernel) (by decide +kernel), by decide, TX12, 125, rfl⟩
theorem fp_12_705 : kp_FP RX12 705 12 114 := ⟨RX12, TX12, 125, cl_12, by decide, kp_mem 1806 (by decide +kernel) (by decide +kernel), rfl⟩
theorem ff_12_230 : kp_FF RX12 230 12 107 := ⟨RX12, TX12, 125, cl_12, by decide, kp_mem 1799 (by decide +kernel) (by decide +kernel), rfl, rfl⟩
theorem ff_12_227 : kp_FF RX12 227 12 106 := ⟨RX12, TX12, 125, cl_12, by decide, kp_mem 1798 (by decide +kernel) (by decide +kernel), rfl, rfl⟩
theorem fp_12_699 : kp_FP RX12 699 12 101 := ⟨RX12, TX12, 125, cl_12, by decide, kp_mem 1793 (by decide +kernel) (by decide +kernel), rfl⟩
theorem ff_12_218 : kp_FF RX12 218 12 103 := ⟨RX12, TX12, 125, cl_12, by decide, kp_mem 1795 (by decide +kernel) (by decide +kernel), rfl, rfl⟩
theorem ff_12_215 : kp_FF RX12 215 12 102 := ⟨RX12, TX12, 125, cl_12, by decide, kp_mem 1794 (by decide +kernel) (by decide +kernel), rfl, rfl⟩
theorem fp_12_702 : kp_FP RX12 702 12 76 := ⟨RX12, TX12, 125, cl_12, by decide, kp_mem 1768 (by decide +kernel) (by decide +kernel), rfl⟩
theorem ff_12_233 : kp_FF RX12 233 12 108 := ⟨RX12, TX12, 125, cl_12, by decide, kp_mem 1800 (by decide +kernel) (by decide +kernel), rfl, rfl⟩
theorem cv_12_651 : kp_CV RX12 651 yX12_leavesHold cX12_leavesHold 3 (some .boolean) 1 12 := ⟨⟨kp_mem 2390 (by decide +kernel) (by decide +kernel), kp_mem 220 (by decide +kernel) (by decide +kernel), by decide +kernel⟩, kp_mem 2387 (by decide +kernel) (by decide +kernel), kp_mem 2389 (by decide +kernel) (by decide +kernel), kp_mem 168 (by decide +kernel) (by decide +kernel), by decide, TX12, 125, rfl⟩
theorem cv_12_654 : kp_CV RX12 654 yX12_leavesLoop cX12_leavesLoop 3 (some .boolean) 1 12 := ⟨⟨kp_mem 2402 (by decide +kernel) (by decide +kernel), kp_mem 220 (by decide +kernel) (by decide +kernel), by decide +kernel⟩, kp_mem 2399 (by decide +kernel) (by decide +kernel), kp_mem 2401 (by decide +kernel) (by decide +kernel), kp_mem 171 (by decide +kernel) (by decide +kernel), by decide, TX12, 125, rfl⟩
theorem cv_12_657 : kp_CV RX12 657 yX12_leavesTrial cX12_leavesTrial 3 (some .boolean) 1 12 := ⟨⟨kp_mem 2426 (by decide +kernel) (by decide +kernel), kp_mem 220 (by decide +kernel) (by decide +kernel), by decide +kernel⟩, kp_mem 2423 (by decide +kernel) (by decide +kernel), kp_mem 2425 (by decide +kernel) (by decide +kernel), kp_mem 177 (by decide +kernel) (by decide +kernel), by decide, TX12, 125, rfl⟩
theorem cv_12_660 : kp_CV RX12 660 yX12_leavesEnsure cX12_leavesEnsure 3 (some .boolean) 1 12 := ⟨⟨kp_mem 2430 (by decide +kernel) (by decide +kernel), kp_mem 220 (by decide +kernel) (by decide +kernel), by decide +kernel⟩, kp_mem 2427 (by decide +kernel) (by decide +kernel), kp_mem 2429 (by decide +kernel) (by decide +kernel), kp_mem 178 (by decide +kernel) (by decide +kernel), by decide, TX12, 125, rfl⟩
theorem cv_12_663 : kp_CV RX12 663 yX12_leavesCall cX12_leavesCall 4 (some .boolean) 1 12 := ⟨⟨kp_mem 2434 (by decide +kernel) (by decide +kernel), kp_mem 220 (by decide +kernel) (by decide +kernel), by decide +kernel⟩, kp_mem 2431 (by decide +kernel) (by decide +kernel), kp_mem 2433 (by decide +kernel) (by decide +kernel), kp_mem 179 (by decide +kernel) (by decide +kernel), by decide, TX12, 125, rfl⟩
theorem fp_12_642 : kp_FP RX12 642 12 77 := ⟨RX12, TX12, 125, cl_12, by decide, kp_mem 1769 (by decide +kernel) (by decide +kernel), rfl⟩
theorem cv_12_645 : kp_CV RX12 645 yX12_leaves cX12_leaves 3 none 0 12 := ⟨⟨kp_mem 2386 (by decide +kernel) (by decide +kernel), kp_mem 220 (by decide +kernel) (by decide +kernel), by decide +kernel⟩, kp_mem 2383 (by decide +kernel) (by decide +kernel), kp_mem 2385 (by decide +kernel) (by decide +kernel), kp_mem 167 (by decide +kernel) (by decide +kernel), by decide, TX12, 125, rfl⟩
theorem cv_12_696 : kp_CV RX12 696 yX12_trouble cX12_trouble 3 none 1 12 := ⟨⟨kp_mem 2378 (by decide +kernel) (by decide +kernel), kp_mem 220 (by decide +kernel) (by decide +kernel), by decide +kernel⟩, kp_mem 2375 (by decide +kernel) (by decide +kernel), kp_mem 2377 (by decide +kernel) (by decide +kernel), kp_mem 165 (by decide +kernel) (by decide +kernel), by decide, TX12, 125, rfl⟩
theorem cv_12_714 : kp_CV RX12 714 yX12_opens cX12_opens 4 none 3 12 := ⟨⟨kp_mem 2438 (by decide +kernel) (by decide +kernel), kp_mem 220 (by decide +kernel) (by decide +kernel), by decide +kernel⟩, kp_mem 2435 (by decide +kernel) (by decide +kernel), kp_mem 2437 (by decide +kernel) (by decide +kernel), kp_mem 180 (by decide +kernel) (by decide +kernel), by decide, TX12, 125, rfl⟩
theorem ff_12_221 : kp_FF RX12 221 12 104 := ⟨RX12, TX12, 125, cl_12, by decide, kp_mem 1796 (by decide +kernel) (by decide +kernel), rfl, rfl⟩
theorem ff_12_224 : kp_FF RX12 224 12 105 := ⟨RX12, TX12, 125, cl_12, by decide, kp_mem 1797 (by decide +kernel) (by decide +kernel), rfl, rfl⟩
theorem ff_12_236 : kp_FF RX12 236 12 109 := ⟨RX12, TX12, 125, cl_12, by decide, kp_mem 1801 (by decide +kernel) (by decide +kernel), rfl, rfl⟩
theorem fp_12_711 : kp_FP RX12 711 12 80 := ⟨RX12, TX12, 125, cl_12, by decide, kp_mem 1772 (by decide +kernel) (by decide +kernel), rfl⟩
theorem cv_12_718 : kp_CV RX12 718 yX12_pop cX12_pop 1 (some .int) 0 12 := ⟨⟨kp_mem 2450 (by decide +kernel) (by decide +kernel), kp_mem 220 (by decide +kernel) (by decide +kernel), by decide +kernel⟩, kp_mem 2447 (by decide +kernel) (by decide +kernel), kp_mem 2449 (by decide +kernel) (by decide +kernel), kp_mem 183 (by decide +kernel) (by decide +kernel), by decide, TX12, 125, rfl⟩
theorem fp_12_770 : kp_FP RX12 770 12 73 := ⟨RX12, TX12, 125, cl_12, by decide, kp_mem 1765 (by decide +kernel) (by decide +kernel), rfl⟩
theorem ff_12_194 : kp_FF RX12 194 12 94 := ⟨RX12, TX12, 125, cl_12, by decide, kp_mem 1786 (by decide +kernel) (by decide +kernel), rfl, rfl⟩
theorem cv_12_750 : kp_CV RX12 750 yX12_rounds cX12_rounds 4 none 2 12 := ⟨⟨kp_mem 2478 (by decide +kernel) (by decide +kernel), kp_mem 220 (by decide +kernel) (by decide +kernel), by decide +kernel⟩, kp_mem 2475 (by decide +kernel) (by decide +kernel), kp_mem 2477 (by decide +kernel) (by decide +kernel), kp_mem 190 (by decide +kernel) (by decide +kernel), by decide, TX12, 125, rfl⟩
theorem fp_12_778 : kp_FP RX12 778 12 71 := ⟨RX12, TX12, 125, cl_12, by decide, kp_mem 1763 (by decide +kernel) (by decide +kernel), rfl⟩
theorem fp_12_781 : kp_FP RX12 781 12 78 := ⟨RX12, TX12, 125, cl_12, by decide, kp_mem 1770 (by decide +kernel) (by decide +kernel), rfl⟩
theorem fp_12_784 : kp_FP RX12 784 12 75 := ⟨RX12, TX12, 125, cl_12, by decide, kp_mem 1767 (by decide +kernel) (by decide +kernel), rfl⟩
theorem cv_12_790 : kp_CV RX12 790 yX12_levelBeside cX12_levelBeside 3 (some .int) 2 12 := ⟨⟨kp_mem 2462 (by decide +kernel) (by decide +kernel), kp_mem 220 (by decide +kernel) (by decide +kernel), by decide +kernel⟩, kp_mem 2459 (by decide +kernel) (by decide +kernel), kp_mem 2461 (by decide +kernel) (by decide +kernel), kp_mem 186 (by decide +kernel) (by decide +kernel), by decide, TX12, 125, rfl⟩
theorem cv_12_787 : kp_CV RX12 787 yX12_wrongSide cX12_wrongSide 3 (some .int) 2 12 := ⟨⟨kp_mem 2458 (by decide +kernel) (by decide +kernel), kp_mem 220 (by decide +kernel) (by decide +kernel), by decide +kernel⟩, kp_mem 2455 (by decide +kernel) (by decide +kernel), kp_mem 2457 (by decide +kernel) (by decide +kernel), kp_mem 185 (by decide +kernel) (by decide +kernel), by decide, TX12, 125, rfl⟩
theorem dX12_opens_0 : decode cX12_opens 0 = .ok (.aload_n 0, 1) := by decide +kernel
theorem dX12_opens_1 : decode cX12_opens 1 = .ok (.getfield 176, 3) := by decide +kernel
theorem dX12_opens_4 : decode cX12_opens 4 = .ok (.aload_n 0, 1) := by decide +kernel
theorem dX12_opens_5 : decode cX12_opens 5 = .ok (.getfield 613, 3) := by decide +kernel
theorem dX12_opens_8 : decode cX12_opens 8 = .ok (.iload_n 1, 1) := by decide +kernel
theorem dX12_opens_9 : decode cX12_opens 9 = .ok (.iastore, 1) := by decide +kernel
theorem dX12_opens_10 : decode cX12_opens 10 = .ok (.aload_n 0, 1) := by decide +kernel
theorem dX12_opens_11 : decode cX12_opens 11 = .ok (.getfield 179, 3) := by decide +kernel
theorem dX12_opens_14 : decode cX12_opens 14 = .ok (.aload_n 0, 1) := by decide +kernel
theorem dX12_opens_15 : decode cX12_opens 15 = .ok (.getfield 613, 3) := by decide +kernel
theorem dX12_opens_18 : decode cX12_opens 18 = .ok (.iload_n 2, 1) := by decide +kernel
theorem dX12_opens_19 : decode cX12_opens 19 = .ok (.iastore, 1) := by decide +kernel
theorem dX12_opens_20 : decode cX12_opens 20 = .ok (.aload_n 0, 1) := by decide +kernel
theorem dX12_opens_21 : decode cX12_opens 21 = .ok (.getfield 182, 3) := by decide +kernel
theorem dX12_opens_24 : decode cX12_opens 24 = .ok (.aload_n 0, 1) := by decide +kernel
theorem dX12_opens_25 : decode cX12_opens 25 = .ok (.getfield 613, 3) := by decide +kernel
theorem dX12_opens_28 : decode cX12_opens 28 = .ok (.iload_n 3, 1) := by decide +kernel
theorem dX12_opens_29 : decode cX12_opens 29 = .ok (.iastore, 1) := by decide +kernel
theorem dX12_opens_30 : decode cX12_opens 30 = .ok (.aload_n 0, 1) := by decide +kernel
theorem dX12_opens_31 : decode cX12_opens 31 = .ok (.getfield 185, 3) := by decide +kernel
theorem dX12_opens_34 : decode cX12_opens 34 = .ok (.aload_n 0, 1) := by decide +kernel
theorem dX12_opens_35 : decode cX12_opens 35 = .ok (.getfield 613, 3) := by decide +kernel
theorem dX12_opens_38 : decode cX12_opens 38 = .ok (.iconst 0, 1) := by decide +kernel
theorem dX12_opens_39 : decode cX12_opens 39 = .ok (.iastore, 1) := by decide +kernel
theorem dX12_opens_40 : decode cX12_opens 40 = .ok (.aload_n 0, 1) := by decide +kernel
theorem dX12_opens_41 : decode cX12_opens 41 = .ok (.getfield 188, 3) := by decide +kernel
theorem dX12_opens_44 : decode cX12_opens 44 = .ok (.aload_n 0, 1) := by decide +kernel
theorem dX12_opens_45 : decode cX12_opens 45 = .ok (.getfield 613, 3) := by decide +kernel
theorem dX12_opens_48 : decode cX12_opens 48 = .ok (.aload_n 0, 1) := by decide +kernel
theorem dX12_opens_49 : decode cX12_opens 49 = .ok (.getfield 604, 3) := by decide +kernel
theorem dX12_opens_52 : decode cX12_opens 52 = .ok (.iastore, 1) := by decide +kernel
theorem dX12_opens_53 : decode cX12_opens 53 = .ok (.aload_n 0, 1) := by decide +kernel
theorem dX12_opens_54 : decode cX12_opens 54 = .ok (.dup, 1) := by decide +kernel
theorem dX12_opens_55 : decode cX12_opens 55 = .ok (.getfield 613, 3) := by decide +kernel
theorem dX12_opens_58 : decode cX12_opens 58 = .ok (.iconst 1, 1) := by decide +kernel
theorem dX12_opens_59 : decode cX12_opens 59 = .ok (.iadd, 1) := by decide +kernel
theorem dX12_opens_60 : decode cX12_opens 60 = .ok (.putfield 613, 3) := by decide +kernel
theorem dX12_opens_63 : decode cX12_opens 63 = .ok (.return_, 1) := by decide +kernel
def wX12_opens (a0 : Nat) (x1 : Int32) (x2 : Int32) (x3 : Int32) (S : kp_S) (post : kp_S → Prop) : Prop :=
  ∃ b1 : Nat, kp_R S 2488 a0 = some b1 ∧
  vp_in (kp_I S 2487 a0) (kp_N S b1) ∧ ∀ T2 : kp_S, T2 = kp_sA S b1 (upd (kp_A S b1) ((kp_I S 2487 a0).toNatClampNeg) x1) →
  ∃ b3 : Nat, kp_R T2 2489 a0 = some b3 ∧
  vp_in (kp_I T2 2487 a0) (kp_N T2 b3) ∧ ∀ T4 : kp_S, T4 = kp_sA T2 b3 (upd (kp_A T2 b3) ((kp_I T2 2487 a0).toNatClampNeg) x2) →
  ∃ b5 : Nat, kp_R T4 2490 a0 = some b5 ∧
  vp_in (kp_I T4 2487 a0) (kp_N T4 b5) ∧ ∀ T6 : kp_S, T6 = kp_sA T4 b5 (upd (kp_A T4 b5) ((kp_I T4 2487 a0).toNatClampNeg) x3) →
  ∃ b7 : Nat, kp_R T6 2491 a0 = some b7 ∧
  vp_in (kp_I T6 2487 a0) (kp_N T6 b7) ∧ ∀ T8 : kp_S, T8 = kp_sA T6 b7 (upd (kp_A T6 b7) ((kp_I T6 2487 a0).toNatClampNeg) 0) →
  ∃ b9 : Nat, kp_R T8 2492 a0 = some b9 ∧
  vp_in (kp_I T8 2487 a0) (kp_N T8 b9) ∧ ∀ T10 : kp_S, T10 = kp_sA T8 b9 (upd (kp_A T8 b9) ((kp_I T8 2487 a0).toNatClampNeg) (kp_I T8 2516 a0)) →
  ∀ T11 : kp_S, T11 = kp_sI T10 2487 a0 ((kp_I T10 2487 a0) + 1) →
  post T11
set_option maxHeartbeats 4000000 in
set_option maxRecDepth 100000 in
theorem c_X12_opens (l : Launch) (D : va_G) (cy : Nat → ClassId) (ad : (Nat → Nat) × (Nat → Nat)) (S : kp_S) (a0 : Nat) (x1 : Int32) (x2 : Int32) (x3 : Int32) (post : kp_S → Prop) (hS : kp_ok S) (f_a0 : kp_is S a0 12) (hw : wX12_opens a0 x1 x2 x3 S post) : kp_M l yX12_opens cX12_opens 4 none { frames := 0, cells := 0, slots := 0, locals := 0 } D cy ad S [.ref a0, .int x1, .int x2, .int x3] 0 0 (fun A => kp_Qv D cy A S post) := by
  refine kp_start (own := RX12) (by decide) rfl (Nat.le_of_ble_eq_true rfl) hS ?_
  intro p e s m below meth c A ls X hr hlocks hname h hl
  have hle : kp_le S S := kp_le.rf
  have hl : lv_has ls 4 [(0, .ref a0), (1, .int x1), (2, .int x2), (3, .int x3)] := hl
  unfold wX12_opens at hw
  have h : kp_H D cy A S s.heap s.heap [] := h
  revert h
  intro h
  refine lv_aload_n X.1 X.2.1 dX12_opens_0 rfl (lv_at hl 0 rfl) ?_
  obtain ⟨b1, e_b1, hw⟩ := hw
  have f_b1 := h.2.2.2.rf (c := 12) (k := 88) f_a0 (by decide) (by decide) e_b1 (t := 14) rfl
  refine kp_get X h f_a0 ff_12_176.l (v := .ref b1) (congrArg va_rf e_b1) dX12_opens_1 ?_
  refine lv_aload_n X.1 X.2.1 dX12_opens_4 rfl (lv_at hl 0 rfl) ?_
  refine kp_get X h f_a0 fp_12_613.l (v := .int (kp_I S 2487 a0)) rfl dX12_opens_5 ?_
  refine lv_iload_n X.1 X.2.1 dX12_opens_8 rfl (lv_at hl 1 rfl) ?_
  obtain ⟨hi, hw⟩ := hw
  refine kp_iast X h f_b1 hi dX12_opens_9 (fun T2 e_T2 l_T2 H locs h => ?_)
  have hw := hw T2 e_T2
  have f_a0 := l_T2.is f_a0
  have f_b1 := l_T2.is f_b1
  have hle := hle.tr l_T2
  have e_b1 : kp_R T2 2488 a0 = some b1 := by rw [e_T2]; exact e_b1
  refine lv_aload_n X.1 X.2.1 dX12_opens_10 rfl (lv_at hl 0 rfl) ?_
  obtain ⟨b3, e_b3, hw⟩ := hw
  have f_b3 := h.2.2.2.rf (c := 12) (k := 89) f_a0 (by decide) (by decide) e_b3 (t := 14) rfl
  refine kp_get X h f_a0 ff_12_179.l (v := .ref b3) (congrArg va_rf e_b3) dX12_opens_11 ?_
  refine lv_aload_n X.1 X.2.1 dX12_opens_14 rfl (lv_at hl 0 rfl) ?_
  refine kp_get X h f_a0 fp_12_613.l (v := .int (kp_I T2 2487 a0)) rfl dX12_opens_15 ?_
  refine lv_iload_n X.1 X.2.1 dX12_opens_18 rfl (lv_at hl 2 rfl) ?_
  obtain ⟨hi, hw⟩ := hw
  refine kp_iast X h f_b3 hi dX12_opens_19 (fun T4 e_T4 l_T4 H locs h => ?_)
  have hw := hw T4 e_T4
  have f_a0 := l_T4.is f_a0
  have f_b1 := l_T4.is f_b1
  have f_b3 := l_T4.is f_b3
  have hle := hle.tr l_T4
  have e_b1 : kp_R T4 2488 a0 = some b1 := by rw [e_T4]; exact e_b1
  have e_b3 : kp_R T4 2489 a0 = some b3 := by rw [e_T4]; exact e_b3
  refine lv_aload_n X.1 X.2.1 dX12_opens_20 rfl (lv_at hl 0 rfl) ?_
  obtain ⟨b5, e_b5, hw⟩ := hw
  have f_b5 := h.2.2.2.rf (c := 12) (k := 90) f_a0 (by decide) (by decide) e_b5 (t := 14) rfl
  refine kp_get X h f_a0 ff_12_182.l (v := .ref b5) (congrArg va_rf e_b5) dX12_opens_21 ?_
  refine lv_aload_n X.1 X.2.1 dX12_opens_24 rfl (lv_at hl 0 rfl) ?_
  refine kp_get X h f_a0 fp_12_613.l (v := .int (kp_I T4 2487 a0)) rfl dX12_opens_25 ?_
  refine lv_iload_n X.1 X.2.1 dX12_opens_28 rfl (lv_at hl 3 rfl) ?_
  obtain ⟨hi, hw⟩ := hw
  refine kp_iast X h f_b5 hi dX12_opens_29 (fun T6 e_T6 l_T6 H locs h => ?_)
  have hw := hw T6 e_T6
  have f_a0 := l_T6.is f_a0
  have f_b1 := l_T6.is f_b1
  have f_b3 := l_T6.is f_b3
  have f_b5 := l_T6.is f_b5
  have hle := hle.tr l_T6
  have e_b1 : kp_R T6 2488 a0 = some b1 := by rw [e_T6]; exact e_b1
  have e_b3 : kp_R T6 2489 a0 = some b3 := by rw [e_T6]; exact e_b3
  have e_b5 : kp_R T6 2490 a0 = some b5 := by rw [e_T6]; exact e_b5
  refine lv_aload_n X.1 X.2.1 dX12_opens_30 rfl (lv_at hl 0 rfl) ?_
  obtain ⟨b7, e_b7, hw⟩ := hw
  have f_b7 := h.2.2.2.rf (c := 12) (k := 91) f_a0 (by decide) (by decide) e_b7 (t := 14) rfl
  refine kp_get X h f_a0 ff_12_185.l (v := .ref b7) (congrArg va_rf e_b7) dX12_opens_31 ?_
  refine lv_aload_n X.1 X.2.1 dX12_opens_34 rfl (lv_at hl 0 rfl) ?_
  refine kp_get X h f_a0 fp_12_613.l (v := .int (kp_I T6 2487 a0)) rfl dX12_opens_35 ?_
  refine lv_iconst (v := 0) X.1 X.2.1 dX12_opens_38 (by decide) ?_
  obtain ⟨hi, hw⟩ := hw
  refine kp_iast X h f_b7 hi dX12_opens_39 (fun T8 e_T8 l_T8 H locs h => ?_)
  have hw := hw T8 e_T8
  have f_a0 := l_T8.is f_a0
  have f_b1 := l_T8.is f_b1
  have f_b3 := l_T8.is f_b3
  have f_b5 := l_T8.is f_b5
  have f_b7 := l_T8.is f_b7
  have hle := hle.tr l_T8
  have e_b1 : kp_R T8 2488 a0 = some b1 := by rw [e_T8]; exact e_b1
  have e_b3 : kp_R T8 2489 a0 = some b3 := by rw [e_T8]; exact e_b3
  have e_b5 : kp_R T8 2490 a0 = some b5 := by rw [e_T8]; exact e_b5
  have e_b7 : kp_R T8 2491 a0 = some b7 := by rw [e_T8]; exact e_b7
  refine lv_aload_n X.1 X.2.1 dX12_opens_40 rfl (lv_at hl 0 rfl) ?_
  obtain ⟨b9, e_b9, hw⟩ := hw
  have f_b9 := h.2.2.2.rf (c := 12) (k := 92) f_a0 (by decide) (by decide) e_b9 (t := 14) rfl
  refine kp_get X h f_a0 ff_12_188.l (v := .ref b9) (congrArg va_rf e_b9) dX12_opens_41 ?_
  refine lv_aload_n X.1 X.2.1 dX12_opens_44 rfl (lv_at hl 0 rfl) ?_
  refine kp_get X h f_a0 fp_12_613.l (v := .int (kp_I T8 2487 a0)) rfl dX12_opens_45 ?_
  refine lv_aload_n X.1 X.2.1 dX12_opens_48 rfl (lv_at hl 0 rfl) ?_
  refine kp_get X h f_a0 fp_12_604.l (v := .int (kp_I T8 2516 a0)) rfl dX12_opens_49 ?_
  obtain ⟨hi, hw⟩ := hw
  refine kp_iast X h f_b9 hi dX12_opens_52 (fun T10 e_T10 l_T10 H locs h => ?_)
  have hw := hw T10 e_T10
  have f_a0 := l_T10.is f_a0
  have f_b1 := l_T10.is f_b1
  have f_b3 := l_T10.is f_b3
  have f_b5 := l_T10.is f_b5
  have f_b7 := l_T10.is f_b7
  have f_b9 := l_T10.is f_b9
  have hle := hle.tr l_T10
  have e_b1 : kp_R T10 2488 a0 = some b1 := by rw [e_T10]; exact e_b1
  have e_b3 : kp_R T10 2489 a0 = some b3 := by rw [e_T10]; exact e_b3
  have e_b5 : kp_R T10 2490 a0 = some b5 := by rw [e_T10]; exact e_b5
  have e_b7 : kp_R T10 2491 a0 = some b7 := by rw [e_T10]; exact e_b7
  have e_b9 : kp_R T10 2492 a0 = some b9 := by rw [e_T10]; exact e_b9
  refine lv_aload_n X.1 X.2.1 dX12_opens_53 rfl (lv_at hl 0 rfl) ?_
  refine lv_dup X.1 X.2.1 dX12_opens_54 rfl ?_
  refine kp_get X h f_a0 fp_12_613.l (v := .int (kp_I T10 2487 a0)) rfl dX12_opens_55 ?_
  refine lv_iconst (v := 1) X.1 X.2.1 dX12_opens_58 (by decide) ?_
  refine lv_iadd X.1 X.2.1 dX12_opens_59 ?_
  refine kp_putI X h f_a0 fp_12_613 rfl ⟨rfl, rfl⟩ dX12_opens_60 (fun T11 e_T11 l_T11 H locs h => ?_)
  have hw := hw T11 e_T11
  have f_a0 := l_T11.is f_a0
  have f_b1 := l_T11.is f_b1
  have f_b3 := l_T11.is f_b3
  have f_b5 := l_T11.is f_b5
  have f_b7 := l_T11.is f_b7
  have f_b9 := l_T11.is f_b9
  have hle := hle.tr l_T11
  have e_b1 : kp_R T11 2488 a0 = some b1 := by rw [e_T11]; exact e_b1
  have e_b3 : kp_R T11 2489 a0 = some b3 := by rw [e_T11]; exact e_b3
  have e_b5 : kp_R T11 2490 a0 = some b5 := by rw [e_T11]; exact e_b5
  have e_b7 : kp_R T11 2491 a0 = some b7 := by rw [e_T11]; exact e_b7
  have e_b9 : kp_R T11 2492 a0 = some b9 := by rw [e_T11]; exact e_b9
  exact kp_retv X hr hlocks h hle hw dX12_opens_63
theorem dX12_keepWay_0 : decode cX12_keepWay 0 = .ok (.aload_n 0, 1) := by decide +kernel
theorem dX12_keepWay_1 : decode cX12_keepWay 1 = .ok (.getfield 197, 3) := by decide +kernel
theorem dX12_keepWay_4 : decode cX12_keepWay 4 = .ok (.iload_n 1, 1) := by decide +kernel
theorem dX12_keepWay_5 : decode cX12_keepWay 5 = .ok (.aload_n 0, 1) := by decide +kernel
theorem dX12_keepWay_6 : decode cX12_keepWay 6 = .ok (.getfield 616, 3) := by decide +kernel
theorem dX12_keepWay_9 : decode cX12_keepWay 9 = .ok (.iastore, 1) := by decide +kernel
theorem dX12_keepWay_10 : decode cX12_keepWay 10 = .ok (.aload_n 0, 1) := by decide +kernel
theorem dX12_keepWay_11 : decode cX12_keepWay 11 = .ok (.getfield 200, 3) := by decide +kernel
theorem dX12_keepWay_14 : decode cX12_keepWay 14 = .ok (.iload_n 1, 1) := by decide +kernel
theorem dX12_keepWay_15 : decode cX12_keepWay 15 = .ok (.aload_n 0, 1) := by decide +kernel
theorem dX12_keepWay_16 : decode cX12_keepWay 16 = .ok (.getfield 619, 3) := by decide +kernel
theorem dX12_keepWay_19 : decode cX12_keepWay 19 = .ok (.iastore, 1) := by decide +kernel
theorem dX12_keepWay_20 : decode cX12_keepWay 20 = .ok (.aload_n 0, 1) := by decide +kernel
theorem dX12_keepWay_21 : decode cX12_keepWay 21 = .ok (.getfield 203, 3) := by decide +kernel
theorem dX12_keepWay_24 : decode cX12_keepWay 24 = .ok (.iload_n 1, 1) := by decide +kernel
theorem dX12_keepWay_25 : decode cX12_keepWay 25 = .ok (.aload_n 0, 1) := by decide +kernel
theorem dX12_keepWay_26 : decode cX12_keepWay 26 = .ok (.getfield 622, 3) := by decide +kernel
theorem dX12_keepWay_29 : decode cX12_keepWay 29 = .ok (.iastore, 1) := by decide +kernel
theorem dX12_keepWay_30 : decode cX12_keepWay 30 = .ok (.aload_n 0, 1) := by decide +kernel
theorem dX12_keepWay_31 : decode cX12_keepWay 31 = .ok (.getfield 206, 3) := by decide +kernel
theorem dX12_keepWay_34 : decode cX12_keepWay 34 = .ok (.iload_n 1, 1) := by decide +kernel
theorem dX12_keepWay_35 : decode cX12_keepWay 35 = .ok (.aload_n 0, 1) := by decide +kernel
theorem dX12_keepWay_36 : decode cX12_keepWay 36 = .ok (.getfield 625, 3) := by decide +kernel
theorem dX12_keepWay_39 : decode cX12_keepWay 39 = .ok (.iastore, 1) := by decide +kernel
theorem dX12_keepWay_40 : decode cX12_keepWay 40 = .ok (.aload_n 0, 1) := by decide +kernel
theorem dX12_keepWay_41 : decode cX12_keepWay 41 = .ok (.getfield 209, 3) := by decide +kernel
theorem dX12_keepWay_44 : decode cX12_keepWay 44 = .ok (.iload_n 1, 1) := by decide +kernel
theorem dX12_keepWay_45 : decode cX12_keepWay 45 = .ok (.aload_n 0, 1) := by decide +kernel
theorem dX12_keepWay_46 : decode cX12_keepWay 46 = .ok (.getfield 628, 3) := by decide +kernel
theorem dX12_keepWay_49 : decode cX12_keepWay 49 = .ok (.iastore, 1) := by decide +kernel
theorem dX12_keepWay_50 : decode cX12_keepWay 50 = .ok (.aload_n 0, 1) := by decide +kernel
theorem dX12_keepWay_51 : decode cX12_keepWay 51 = .ok (.getfield 212, 3) := by decide +kernel
theorem dX12_keepWay_54 : decode cX12_keepWay 54 = .ok (.iload_n 1, 1) := by decide +kernel
theorem dX12_keepWay_55 : decode cX12_keepWay 55 = .ok (.aload_n 0, 1) := by decide +kernel
theorem dX12_keepWay_56 : decode cX12_keepWay 56 = .ok (.getfield 631, 3) := by decide +kernel
theorem dX12_keepWay_59 : decode cX12_keepWay 59 = .ok (.iastore, 1) := by decide +kernel
theorem dX12_keepWay_60 : decode cX12_keepWay 60 = .ok (.return_, 1) := by decide +kernel
def wX12_keepWay (a0 : Nat) (x1 : Int32) (S : kp_S) (post : kp_S → Prop) : Prop :=
  ∃ b1 : Nat, kp_R S 2495 a0 = some b1 ∧
  vp_in x1 (kp_N S b1) ∧ ∀ T2 : kp_S, T2 = kp_sA S b1 (upd (kp_A S b1) (x1.toNatClampNeg) (kp_I S 2481 a0)) →
  ∃ b3 : Nat, kp_R T2 2496 a0 = some b3 ∧
  vp_in x1 (kp_N T2 b3) ∧ ∀ T4 : kp_S, T4 = kp_sA T2 b3 (upd (kp_A T2 b3) (x1.toNatClampNeg) (kp_I T2 2482 a0)) →
  ∃ b5 : Nat, kp_R T4 2497 a0 = some b5 ∧
  vp_in x1 (kp_N T4 b5) ∧ ∀ T6 : kp_S, T6 = kp_sA T4 b5 (upd (kp_A T4 b5) (x1.toNatClampNeg) (kp_I T4 2483 a0)) →
  ∃ b7 : Nat, kp_R T6 2498 a0 = some b7 ∧
  vp_in x1 (kp_N T6 b7) ∧ ∀ T8 : kp_S, T8 = kp_sA T6 b7 (upd (kp_A T6 b7) (x1.toNatClampNeg) (kp_I T6 2484 a0)) →
  ∃ b9 : Nat, kp_R T8 2499 a0 = some b9 ∧
  vp_in x1 (kp_N T8 b9) ∧ ∀ T10 : kp_S, T10 = kp_sA T8 b9 (upd (kp_A T8 b9) (x1.toNatClampNeg) (kp_I T8 2485 a0)) →
  ∃ b11 : Nat, kp_R T10 2500 a0 = some b11 ∧
  vp_in x1 (kp_N T10 b11) ∧ ∀ T12 : kp_S, T12 = kp_sA T10 b11 (upd (kp_A T10 b11) (x1.toNatClampNeg) (kp_I T10 2486 a0)) →
  post T12
set_option maxHeartbeats 4000000 in
set_option maxRecDepth 100000 in
theorem c_X12_keepWay (l : Launch) (D : va_G) (cy : Nat → ClassId) (ad : (Nat → Nat) × (Nat → Nat)) (S : kp_S) (a0 : Nat) (x1 : Int32) (post : kp_S → Prop) (hS : kp_ok S) (f_a0 : kp_is S a0 12) (hw : wX12_keepWay a0 x1 S post) : kp_M l yX12_keepWay cX12_keepWay 2 none { frames := 0, cells := 0, slots := 0, locals := 0 } D cy ad S [.ref a0, .int x1] 0 0 (fun A => kp_Qv D cy A S post) := by
  refine kp_start (own := RX12) (by decide) rfl (Nat.le_of_ble_eq_true rfl) hS ?_
  intro p e s m below meth c A ls X hr hlocks hname h hl
  have hle : kp_le S S := kp_le.rf
  have hl : lv_has ls 2 [(0, .ref a0), (1, .int x1)] := hl
  unfold wX12_keepWay at hw
  have h : kp_H D cy A S s.heap s.heap [] := h
  revert h
  intro h
  refine lv_aload_n X.1 X.2.1 dX12_keepWay_0 rfl (lv_at hl 0 rfl) ?_
  obtain ⟨b1, e_b1, hw⟩ := hw
  have f_b1 := h.2.2.2.rf (c := 12) (k := 95) f_a0 (by decide) (by decide) e_b1 (t := 14) rfl
  refine kp_get X h f_a0 ff_12_197.l (v := .ref b1) (congrArg va_rf e_b1) dX12_keepWay_1 ?_
  refine lv_iload_n X.1 X.2.1 dX12_keepWay_4 rfl (lv_at hl 1 rfl) ?_
  refine lv_aload_n X.1 X.2.1 dX12_keepWay_5 rfl (lv_at hl 0 rfl) ?_
  refine kp_get X h f_a0 fp_12_616.l (v := .int (kp_I S 2481 a0)) rfl dX12_keepWay_6 ?_
  obtain ⟨hi, hw⟩ := hw
  refine kp_iast X h f_b1 hi dX12_keepWay_9 (fun T2 e_T2 l_T2 H locs h => ?_)
  have hw := hw T2 e_T2
  have f_a0 := l_T2.is f_a0
  have f_b1 := l_T2.is f_b1
  have hle := hle.tr l_T2
  have e_b1 : kp_R T2 2495 a0 = some b1 := by rw [e_T2]; exact e_b1
  refine lv_aload_n X.1 X.2.1 dX12_keepWay_10 rfl (lv_at hl 0 rfl) ?_
  obtain ⟨b3, e_b3, hw⟩ := hw
  have f_b3 := h.2.2.2.rf (c := 12) (k := 96) f_a0 (by decide) (by decide) e_b3 (t := 14) rfl
  refine kp_get X h f_a0 ff_12_200.l (v := .ref b3) (congrArg va_rf e_b3) dX12_keepWay_11 ?_
  refine lv_iload_n X.1 X.2.1 dX12_keepWay_14 rfl (lv_at hl 1 rfl) ?_
  refine lv_aload_n X.1 X.2.1 dX12_keepWay_15 rfl (lv_at hl 0 rfl) ?_
  refine kp_get X h f_a0 fp_12_619.l (v := .int (kp_I T2 2482 a0)) rfl dX12_keepWay_16 ?_
  obtain ⟨hi, hw⟩ := hw
  refine kp_iast X h f_b3 hi dX12_keepWay_19 (fun T4 e_T4 l_T4 H locs h => ?_)
  have hw := hw T4 e_T4
  have f_a0 := l_T4.is f_a0
  have f_b1 := l_T4.is f_b1
  have f_b3 := l_T4.is f_b3
  have hle := hle.tr l_T4
  have e_b1 : kp_R T4 2495 a0 = some b1 := by rw [e_T4]; exact e_b1
  have e_b3 : kp_R T4 2496 a0 = some b3 := by rw [e_T4]; exact e_b3
  refine lv_aload_n X.1 X.2.1 dX12_keepWay_20 rfl (lv_at hl 0 rfl) ?_
  obtain ⟨b5, e_b5, hw⟩ := hw
  have f_b5 := h.2.2.2.rf (c := 12) (k := 97) f_a0 (by decide) (by decide) e_b5 (t := 14) rfl
  refine kp_get X h f_a0 ff_12_203.l (v := .ref b5) (congrArg va_rf e_b5) dX12_keepWay_21 ?_
  refine lv_iload_n X.1 X.2.1 dX12_keepWay_24 rfl (lv_at hl 1 rfl) ?_
  refine lv_aload_n X.1 X.2.1 dX12_keepWay_25 rfl (lv_at hl 0 rfl) ?_
  refine kp_get X h f_a0 fp_12_622.l (v := .int (kp_I T4 2483 a0)) rfl dX12_keepWay_26 ?_
  obtain ⟨hi, hw⟩ := hw
  refine kp_iast X h f_b5 hi dX12_keepWay_29 (fun T6 e_T6 l_T6 H locs h => ?_)
  have hw := hw T6 e_T6
  have f_a0 := l_T6.is f_a0
  have f_b1 := l_T6.is f_b1
  have f_b3 := l_T6.is f_b3
  have f_b5 := l_T6.is f_b5
  have hle := hle.tr l_T6
  have e_b1 : kp_R T6 2495 a0 = some b1 := by rw [e_T6]; exact e_b1
  have e_b3 : kp_R T6 2496 a0 = some b3 := by rw [e_T6]; exact e_b3
  have e_b5 : kp_R T6 2497 a0 = some b5 := by rw [e_T6]; exact e_b5
  refine lv_aload_n X.1 X.2.1 dX12_keepWay_30 rfl (lv_at hl 0 rfl) ?_
  obtain ⟨b7, e_b7, hw⟩ := hw
  have f_b7 := h.2.2.2.rf (c := 12) (k := 98) f_a0 (by decide) (by decide) e_b7 (t := 14) rfl
  refine kp_get X h f_a0 ff_12_206.l (v := .ref b7) (congrArg va_rf e_b7) dX12_keepWay_31 ?_
  refine lv_iload_n X.1 X.2.1 dX12_keepWay_34 rfl (lv_at hl 1 rfl) ?_
  refine lv_aload_n X.1 X.2.1 dX12_keepWay_35 rfl (lv_at hl 0 rfl) ?_
  refine kp_get X h f_a0 fp_12_625.l (v := .int (kp_I T6 2484 a0)) rfl dX12_keepWay_36 ?_
  obtain ⟨hi, hw⟩ := hw
  refine kp_iast X h f_b7 hi dX12_keepWay_39 (fun T8 e_T8 l_T8 H locs h => ?_)
  have hw := hw T8 e_T8
  have f_a0 := l_T8.is f_a0
  have f_b1 := l_T8.is f_b1
  have f_b3 := l_T8.is f_b3
  have f_b5 := l_T8.is f_b5
  have f_b7 := l_T8.is f_b7
  have hle := hle.tr l_T8
  have e_b1 : kp_R T8 2495 a0 = some b1 := by rw [e_T8]; exact e_b1
  have e_b3 : kp_R T8 2496 a0 = some b3 := by rw [e_T8]; exact e_b3
  have e_b5 : kp_R T8 2497 a0 = some b5 := by rw [e_T8]; exact e_b5
  have e_b7 : kp_R T8 2498 a0 = some b7 := by rw [e_T8]; exact e_b7
  refine lv_aload_n X.1 X.2.1 dX12_keepWay_40 rfl (lv_at hl 0 rfl) ?_
  obtain ⟨b9, e_b9, hw⟩ := hw
  have f_b9 := h.2.2.2.rf (c := 12) (k := 99) f_a0 (by decide) (by decide) e_b9 (t := 14) rfl
  refine kp_get X h f_a0 ff_12_209.l (v := .ref b9) (congrArg va_rf e_b9) dX12_keepWay_41 ?_
  refine lv_iload_n X.1 X.2.1 dX12_keepWay_44 rfl (lv_at hl 1 rfl) ?_
  refine lv_aload_n X.1 X.2.1 dX12_keepWay_45 rfl (lv_at hl 0 rfl) ?_
  refine kp_get X h f_a0 fp_12_628.l (v := .int (kp_I T8 2485 a0)) rfl dX12_keepWay_46 ?_
  obtain ⟨hi, hw⟩ := hw
  refine kp_iast X h f_b9 hi dX12_keepWay_49 (fun T10 e_T10 l_T10 H locs h => ?_)
  have hw := hw T10 e_T10
  have f_a0 := l_T10.is f_a0
  have f_b1 := l_T10.is f_b1
  have f_b3 := l_T10.is f_b3
  have f_b5 := l_T10.is f_b5
  have f_b7 := l_T10.is f_b7
  have f_b9 := l_T10.is f_b9
  have hle := hle.tr l_T10
  have e_b1 : kp_R T10 2495 a0 = some b1 := by rw [e_T10]; exact e_b1
  have e_b3 : kp_R T10 2496 a0 = some b3 := by rw [e_T10]; exact e_b3
  have e_b5 : kp_R T10 2497 a0 = some b5 := by rw [e_T10]; exact e_b5
  have e_b7 : kp_R T10 2498 a0 = some b7 := by rw [e_T10]; exact e_b7
  have e_b9 : kp_R T10 2499 a0 = some b9 := by rw [e_T10]; exact e_b9
  refine lv_aload_n X.1 X.2.1 dX12_keepWay_50 rfl (lv_at hl 0 rfl) ?_
  obtain ⟨b11, e_b11, hw⟩ := hw
  have f_b11 := h.2.2.2.rf (c := 12) (k := 100) f_a0 (by decide) (by decide) e_b11 (t := 14) rfl
  refine kp_get X h f_a0 ff_12_212.l (v := .ref b11) (congrArg va_rf e_b11) dX12_keepWay_51 ?_
  refine lv_iload_n X.1 X.2.1 dX12_keepWay_54 rfl (lv_at hl 1 rfl) ?_
  refine lv_aload_n X.1 X.2.1 dX12_keepWay_55 rfl (lv_at hl 0 rfl) ?_
  refine kp_get X h f_a0 fp_12_631.l (v := .int (kp_I T10 2486 a0)) rfl dX12_keepWay_56 ?_
  obtain ⟨hi, hw⟩ := hw
  refine kp_iast X h f_b11 hi dX12_keepWay_59 (fun T12 e_T12 l_T12 H locs h => ?_)
  have hw := hw T12 e_T12
  have f_a0 := l_T12.is f_a0
  have f_b1 := l_T12.is f_b1
  have f_b3 := l_T12.is f_b3
  have f_b5 := l_T12.is f_b5
  have f_b7 := l_T12.is f_b7
  have f_b9 := l_T12.is f_b9
  have f_b11 := l_T12.is f_b11
  have hle := hle.tr l_T12
  have e_b1 : kp_R T12 2495 a0 = some b1 := by rw [e_T12]; exact e_b1
  have e_b3 : kp_R T12 2496 a0 = some b3 := by rw [e_T12]; exact e_b3
  have e_b5 : kp_R T12 2497 a0 = some b5 := by rw [e_T12]; exact e_b5
  have e_b7 : kp_R T12 2498 a0 = some b7 := by rw [e_T12]; exact e_b7
  have e_b9 : kp_R T12 2499 a0 = some b9 := by rw [e_T12]; exact e_b9
  have e_b11 : kp_R T12 2500 a0 = some b11 := by rw [e_T12]; exact e_b11
  exact kp_retv X hr hlocks h hle hw dX12_keepWay_60
theorem dX12_takeWay_0 : decode cX12_takeWay 0 = .ok (.aload_n 0, 1) := by decide +kernel
theorem dX12_takeWay_1 : decode cX12_takeWay 1 = .ok (.aload_n 0, 1) := by decide +kernel
theorem dX12_takeWay_2 : decode cX12_takeWay 2 = .ok (.getfield 197, 3) := by decide +kernel
theorem dX12_takeWay_5 : decode cX12_takeWay 5 = .ok (.iload_n 1, 1) := by decide +kernel
theorem dX12_takeWay_6 : decode cX12_takeWay 6 = .ok (.iaload, 1) := by decide +kernel
theorem dX12_takeWay_7 : decode cX12_takeWay 7 = .ok (.putfield 616, 3) := by decide +kernel
theorem dX12_takeWay_10 : decode cX12_takeWay 10 = .ok (.aload_n 0, 1) := by decide +kernel
theorem dX12_takeWay_11 : decode cX12_takeWay 11 = .ok (.aload_n 0, 1) := by decide +kernel
theorem dX12_takeWay_12 : decode cX12_takeWay 12 = .ok (.getfield 200, 3) := by decide +kernel
theorem dX12_takeWay_15 : decode cX12_takeWay 15 = .ok (.iload_n 1, 1) := by decide +kernel
theorem dX12_takeWay_16 : decode cX12_takeWay 16 = .ok (.iaload, 1) := by decide +kernel
theorem dX12_takeWay_17 : decode cX12_takeWay 17 = .ok (.putfield 619, 3) := by decide +kernel
theorem dX12_takeWay_20 : decode cX12_takeWay 20 = .ok (.aload_n 0, 1) := by decide +kernel
theorem dX12_takeWay_21 : decode cX12_takeWay 21 = .ok (.aload_n 0, 1) := by decide +kernel
theorem dX12_takeWay_22 : decode cX12_takeWay 22 = .ok (.getfield 203, 3) := by decide +kernel
theorem dX12_takeWay_25 : decode cX12_takeWay 25 = .ok (.iload_n 1, 1) := by decide +kernel
theorem dX12_takeWay_26 : decode cX12_takeWay 26 = .ok (.iaload, 1) := by decide +kernel
theorem dX12_takeWay_27 : decode cX12_takeWay 27 = .ok (.putfield 622, 3) := by decide +kernel
theorem dX12_takeWay_30 : decode cX12_takeWay 30 = .ok (.aload_n 0, 1) := by decide +kernel
theorem dX12_takeWay_31 : decode cX12_takeWay 31 = .ok (.aload_n 0, 1) := by decide +kernel
theorem dX12_takeWay_32 : decode cX12_takeWay 32 = .ok (.getfield 206, 3) := by decide +kernel
theorem dX12_takeWay_35 : decode cX12_takeWay 35 = .ok (.iload_n 1, 1) := by decide +kernel
theorem dX12_takeWay_36 : decode cX12_takeWay 36 = .ok (.iaload, 1) := by decide +kernel
theorem dX12_takeWay_37 : decode cX12_takeWay 37 = .ok (.putfield 625, 3) := by decide +kernel
theorem dX12_takeWay_40 : decode cX12_takeWay 40 = .ok (.aload_n 0, 1) := by decide +kernel
theorem dX12_takeWay_41 : decode cX12_takeWay 41 = .ok (.aload_n 0, 1) := by decide +kernel
theorem dX12_takeWay_42 : decode cX12_takeWay 42 = .ok (.getfield 209, 3) := by decide +kernel
theorem dX12_takeWay_45 : decode cX12_takeWay 45 = .ok (.iload_n 1, 1) := by decide +kernel
theorem dX12_takeWay_46 : decode cX12_takeWay 46 = .ok (.iaload, 1) := by decide +kernel
theorem dX12_takeWay_47 : decode cX12_takeWay 47 = .ok (.putfield 628, 3) := by decide +kernel
theorem dX12_takeWay_50 : decode cX12_takeWay 50 = .ok (.aload_n 0, 1) := by decide +kernel
theorem dX12_takeWay_51 : decode cX12_takeWay 51 = .ok (.aload_n 0, 1) := by decide +kernel
theorem dX12_takeWay_52 : decode cX12_takeWay 52 = .ok (.getfield 212, 3) := by decide +kernel
theorem dX12_takeWay_55 : decode cX12_takeWay 55 = .ok (.iload_n 1, 1) := by decide +kernel
theorem dX12_takeWay_56 : decode cX12_takeWay 56 = .ok (.iaload, 1) := by decide +kernel
theorem dX12_takeWay_57 : decode cX12_takeWay 57 = .ok (.putfield 631, 3) := by decide +kernel
theorem dX12_takeWay_60 : decode cX12_takeWay 60 = .ok (.return_, 1) := by decide +kernel
def wX12_takeWay (a0 : Nat) (x1 : Int32) (S : kp_S) (post : kp_S → Prop) : Prop :=
  ∃ b1 : Nat, kp_R S 2495 a0 = some b1 ∧
  vp_in x1 (kp_N S b1) ∧
  ∀ T2 : kp_S, T2 = kp_sI S 2481 a0 (kp_A S b1 x1.toNatClampNeg) →
  ∃ b3 : Nat, kp_R T2 2496 a0 = some b3 ∧
  vp_in x1 (kp_N T2 b3) ∧
  ∀ T4 : kp_S, T4 = kp_sI T2 2482 a0 (kp_A T2 b3 x1.toNatClampNeg) →
  ∃ b5 : Nat, kp_R T4 2497 a0 = some b5 ∧
  vp_in x1 (kp_N T4 b5) ∧
  ∀ T6 : kp_S, T6 = kp_sI T4 2483 a0 (kp_A T4 b5 x1.toNatClampNeg) →
  ∃ b7 : Nat, kp_R T6 2498 a0 = some b7 ∧
  vp_in x1 (kp_N T6 b7) ∧
  ∀ T8 : kp_S, T8 = kp_sI T6 2484 a0 (kp_A T6 b7 x1.toNatClampNeg) →
  ∃ b9 : Nat, kp_R T8 2499 a0 = some b9 ∧
  vp_in x1 (kp_N T8 b9) ∧
  ∀ T10 : kp_S, T10 = kp_sI T8 2485 a0 (kp_A T8 b9 x1.toNatClampNeg) →
  ∃ b11 : Nat, kp_R T10 2500 a0 = some b11 ∧
  vp_in x1 (kp_N T10 b11) ∧
  ∀ T12 : kp_S, T12 = kp_sI T10 2486 a0 (kp_A T10 b11 x1.toNatClampNeg) →
  post T12
set_option maxHeartbeats 4000000 in
set_option maxRecDepth 100000 in
theorem c_X12_takeWay (l : Launch) (D : va_G) (cy : Nat → ClassId) (ad : (Nat → Nat) × (Nat → Nat)) (S : kp_S) (a0 : Nat) (x1 : Int32) (post : kp_S → Prop) (hS : kp_ok S) (f_a0 : kp_is S a0 12) (hw : wX12_takeWay a0 x1 S post) : kp_M l yX12_takeWay cX12_takeWay 2 none { frames := 0, cells := 0, slots := 0, locals := 0 } D cy ad S [.ref a0, .int x1] 0 0 (fun A => kp_Qv D cy A S post) := by
  refine kp_start (own := RX12) (by decide) rfl (Nat.le_of_ble_eq_true rfl) hS ?_
  intro p e s m below meth c A ls X hr hlocks hname h hl
  have hle : kp_le S S := kp_le.rf
  have hl : lv_has ls 2 [(0, .ref a0), (1, .int x1)] := hl
  unfold wX12_takeWay at hw
  have h : kp_H D cy A S s.heap s.heap [] := h
  revert h
  intro h
  refine lv_aload_n X.1 X.2.1 dX12_takeWay_0 rfl (lv_at hl 0 rfl) ?_
  refine lv_aload_n X.1 X.2.1 dX12_takeWay_1 rfl (lv_at hl 0 rfl) ?_
  obtain ⟨b1, e_b1, hw⟩ := hw
  have f_b1 := h.2.2.2.rf (c := 12) (k := 95) f_a0 (by decide) (by decide) e_b1 (t := 14) rfl
  refine kp_get X h f_a0 ff_12_197.l (v := .ref b1) (congrArg va_rf e_b1) dX12_takeWay_2 ?_
  refine lv_iload_n X.1 X.2.1 dX12_takeWay_5 rfl (lv_at hl 1 rfl) ?_
  obtain ⟨hi, hw⟩ := hw
  refine kp_iald X h f_b1 hi dX12_takeWay_6 ?_
  refine kp_putI X h f_a0 fp_12_616 rfl ⟨rfl, rfl⟩ dX12_takeWay_7 (fun T2 e_T2 l_T2 H locs h => ?_)
  have hw := hw T2 e_T2
  have f_a0 := l_T2.is f_a0
  have f_b1 := l_T2.is f_b1
  have hle := hle.tr l_T2
  have e_b1 : kp_R T2 2495 a0 = some b1 := by rw [e_T2]; exact e_b1
  refine lv_aload_n X.1 X.2.1 dX12_takeWay_10 rfl (lv_at hl 0 rfl) ?_
  refine lv_aload_n X.1 X.2.1 dX12_takeWay_11 rfl (lv_at hl 0 rfl) ?_
  obtain ⟨b3, e_b3, hw⟩ := hw
  have f_b3 := h.2.2.2.rf (c := 12) (k := 96) f_a0 (by decide) (by decide) e_b3 (t := 14) rfl
  refine kp_get X h f_a0 ff_12_200.l (v := .ref b3) (congrArg va_rf e_b3) dX12_takeWay_12 ?_
  refine lv_iload_n X.1 X.2.1 dX12_takeWay_15 rfl (lv_at hl 1 rfl) ?_
  obtain ⟨hi, hw⟩ := hw
  refine kp_iald X h f_b3 hi dX12_takeWay_16 ?_
  refine kp_putI X h f_a0 fp_12_619 rfl ⟨rfl, rfl⟩ dX12_takeWay_17 (fun T4 e_T4 l_T4 H locs h => ?_)
  have hw := hw T4 e_T4
  have f_a0 := l_T4.is f_a0
  have f_b1 := l_T4.is f_b1
  have f_b3 := l_T4.is f_b3
  have hle := hle.tr l_T4
  have e_b1 : kp_R T4 2495 a0 = some b1 := by rw [e_T4]; exact e_b1
  have e_b3 : kp_R T4 2496 a0 = some b3 := by rw [e_T4]; exact e_b3
  refine lv_aload_n X.1 X.2.1 dX12_takeWay_20 rfl (lv_at hl 0 rfl) ?_
  refine lv_aload_n X.1 X.2.1 dX12_takeWay_21 rfl (lv_at hl 0 rfl) ?_
  obtain ⟨b5, e_b5, hw⟩ := hw
  have f_b5 := h.2.2.2.rf (c := 12) (k := 97) f_a0 (by decide) (by decide) e_b5 (t := 14) rfl
  refine kp_get X h f_a0 ff_12_203.l (v := .ref b5) (congrArg va_rf e_b5) dX12_takeWay_22 ?_
  refine lv_iload_n X.1 X.2.1 dX12_takeWay_25 rfl (lv_at hl 1 rfl) ?_
  obtain ⟨hi, hw⟩ := hw
  refine kp_iald X h f_b5 hi dX12_takeWay_26 ?_
  refine kp_putI X h f_a0 fp_12_622 rfl ⟨rfl, rfl⟩ dX12_takeWay_27 (fun T6 e_T6 l_T6 H locs h => ?_)
  have hw := hw T6 e_T6
  have f_a0 := l_T6.is f_a0
  have f_b1 := l_T6.is f_b1
  have f_b3 := l_T6.is f_b3
  have f_b5 := l_T6.is f_b5
  have hle := hle.tr l_T6
  have e_b1 : kp_R T6 2495 a0 = some b1 := by rw [e_T6]; exact e_b1
  have e_b3 : kp_R T6 2496 a0 = some b3 := by rw [e_T6]; exact e_b3
  have e_b5 : kp_R T6 2497 a0 = some b5 := by rw [e_T6]; exact e_b5
  refine lv_aload_n X.1 X.2.1 dX12_takeWay_30 rfl (lv_at hl 0 rfl) ?_
  refine lv_aload_n X.1 X.2.1 dX12_takeWay_31 rfl (lv_at hl 0 rfl) ?_
  obtain ⟨b7, e_b7, hw⟩ := hw
  have f_b7 := h.2.2.2.rf (c := 12) (k := 98) f_a0 (by decide) (by decide) e_b7 (t := 14) rfl
  refine kp_get X h f_a0 ff_12_206.l (v := .ref b7) (congrArg va_rf e_b7) dX12_takeWay_32 ?_
  refine lv_iload_n X.1 X.2.1 dX12_takeWay_35 rfl (lv_at hl 1 rfl) ?_
  obtain ⟨hi, hw⟩ := hw
  refine kp_iald X h f_b7 hi dX12_takeWay_36 ?_
  refine kp_putI X h f_a0 fp_12_625 rfl ⟨rfl, rfl⟩ dX12_takeWay_37 (fun T8 e_T8 l_T8 H locs h => ?_)
  have hw := hw T8 e_T8
  have f_a0 := l_T8.is f_a0
  have f_b1 := l_T8.is f_b1
  have f_b3 := l_T8.is f_b3
  have f_b5 := l_T8.is f_b5
  have f_b7 := l_T8.is f_b7
  have hle := hle.tr l_T8
  have e_b1 : kp_R T8 2495 a0 = some b1 := by rw [e_T8]; exact e_b1
  have e_b3 : kp_R T8 2496 a0 = some b3 := by rw [e_T8]; exact e_b3
  have e_b5 : kp_R T8 2497 a0 = some b5 := by rw [e_T8]; exact e_b5
  have e_b7 : kp_R T8 2498 a0 = some b7 := by rw [e_T8]; exact e_b7
  refine lv_aload_n X.1 X.2.1 dX12_takeWay_40 rfl (lv_at hl 0 rfl) ?_
  refine lv_aload_n X.1 X.2.1 dX12_takeWay_41 rfl (lv_at hl 0 rfl) ?_
  obtain ⟨b9, e_b9, hw⟩ := hw
  have f_b9 := h.2.2.2.rf (c := 12) (k := 99) f_a0 (by decide) (by decide) e_b9 (t := 14) rfl
  refine kp_get X h f_a0 ff_12_209.l (v := .ref b9) (congrArg va_rf e_b9) dX12_takeWay_42 ?_
  refine lv_iload_n X.1 X.2.1 dX12_takeWay_45 rfl (lv_at hl 1 rfl) ?_
  obtain ⟨hi, hw⟩ := hw
  refine kp_iald X h f_b9 hi dX12_takeWay_46 ?_
  refine kp_putI X h f_a0 fp_12_628 rfl ⟨rfl, rfl⟩ dX12_takeWay_47 (fun T10 e_T10 l_T10 H locs h => ?_)
  have hw := hw T10 e_T10
  have f_a0 := l_T10.is f_a0
  have f_b1 := l_T10.is f_b1
  have f_b3 := l_T10.is f_b3
  have f_b5 := l_T10.is f_b5
  have f_b7 := l_T10.is f_b7
  have f_b9 := l_T10.is f_b9
  have hle := hle.tr l_T10
  have e_b1 : kp_R T10 2495 a0 = some b1 := by rw [e_T10]; exact e_b1
  have e_b3 : kp_R T10 2496 a0 = some b3 := by rw [e_T10]; exact e_b3
  have e_b5 : kp_R T10 2497 a0 = some b5 := by rw [e_T10]; exact e_b5
  have e_b7 : kp_R T10 2498 a0 = some b7 := by rw [e_T10]; exact e_b7
  have e_b9 : kp_R T10 2499 a0 = some b9 := by rw [e_T10]; exact e_b9
  refine lv_aload_n X.1 X.2.1 dX12_takeWay_50 rfl (lv_at hl 0 rfl) ?_
  refine lv_aload_n X.1 X.2.1 dX12_takeWay_51 rfl (lv_at hl 0 rfl) ?_
  obtain ⟨b11, e_b11, hw⟩ := hw
  have f_b11 := h.2.2.2.rf (c := 12) (k := 100) f_a0 (by decide) (by decide) e_b11 (t := 14) rfl
  refine kp_get X h f_a0 ff_12_212.l (v := .ref b11) (congrArg va_rf e_b11) dX12_takeWay_52 ?_
  refine lv_iload_n X.1 X.2.1 dX12_takeWay_55 rfl (lv_at hl 1 rfl) ?_
  obtain ⟨hi, hw⟩ := hw
  refine kp_iald X h f_b11 hi dX12_takeWay_56 ?_
  refine kp_putI X h f_a0 fp_12_631 rfl ⟨rfl, rfl⟩ dX12_takeWay_57 (fun T12 e_T12 l_T12 H locs h => ?_)
  have hw := hw T12 e_T12
  have f_a0 := l_T12.is f_a0
  have f_b1 := l_T12.is f_b1
  have f_b3 := l_T12.is f_b3
  have f_b5 := l_T12.is f_b5
  have f_b7 := l_T12.is f_b7
  have f_b9 := l_T12.is f_b9
  have f_b11 := l_T12.is f_b11
  have hle := hle.tr l_T12
  have e_b1 : kp_R T12 2495 a0 = some b1 := by rw [e_T12]; exact e_b1
  have e_b3 : kp_R T12 2496 a0 = some b3 := by rw [e_T12]; exact e_b3
  have e_b5 : kp_R T12 2497 a0 = some b5 := by rw [e_T12]; exact e_b5
  have e_b7 : kp_R T12 2498 a0 = some b7 := by rw [e_T12]; exact e_b7
  have e_b9 : kp_R T12 2499 a0 = some b9 := by rw [e_T12]; exact e_b9
  have e_b11 : kp_R T12 2500 a0 = some b11 := by rw [e_T12]; exact e_b11
  exact kp_retv X hr hlocks h hle hw dX12_takeWay_60
theorem dX12_loses_0 : decode cX12_loses 0 = .ok (.aload_n 0, 1) := by decide +kernel
theorem dX12_loses_1 : decode cX12_loses 1 = .ok (.getfield 197, 3) := by decide +kernel
theorem dX12_loses_4 : decode cX12_loses 4 = .ok (.iload_n 1, 1) := by decide +kernel
theorem dX12_loses_5 : decode cX12_loses 5 = .ok (.iaload, 1) := by decide +kernel
theorem dX12_loses_6 : decode cX12_loses 6 = .ok (.iconst 4, 1) := by decide +kernel
theorem dX12_loses_7 : decode cX12_loses 7 = .ok (.if_icmp .ne 25, 3) := by decide +kernel
theorem dX12_loses_10 : decode cX12_loses 10 = .ok (.aload_n 0, 1) := by decide +kernel
theorem dX12_loses_11 : decode cX12_loses 11 = .ok (.dup, 1) := by decide +kernel
theorem dX12_loses_12 : decode cX12_loses 12 = .ok (.getfield 634, 3) := by decide +kernel
theorem dX12_loses_15 : decode cX12_loses 15 = .ok (.iconst 1, 1) := by decide +kernel
theorem dX12_loses_16 : decode cX12_loses 16 = .ok (.iadd, 1) := by decide +kernel
theorem dX12_loses_17 : decode cX12_loses 17 = .ok (.putfield 634, 3) := by decide +kernel
theorem dX12_loses_20 : decode cX12_loses 20 = .ok (.aload_n 0, 1) := by decide +kernel
theorem dX12_loses_21 : decode cX12_loses 21 = .ok (.bipush 9, 2) := by decide +kernel
theorem dX12_loses_23 : decode cX12_loses 23 = .ok (.aload_n 0, 1) := by decide +kernel
theorem dX12_loses_24 : decode cX12_loses 24 = .ok (.getfield 206, 3) := by decide +kernel
theorem dX12_loses_27 : decode cX12_loses 27 = .ok (.iload_n 1, 1) := by decide +kernel
theorem dX12_loses_28 : decode cX12_loses 28 = .ok (.iaload, 1) := by decide +kernel
theorem dX12_loses_29 : decode cX12_loses 29 = .ok (.invokevirtual 637, 3) := by decide +kernel
theorem dX12_loses_32 : decode cX12_loses 32 = .ok (.return_, 1) := by decide +kernel
def wX12_loses_b32 (a0 : Nat) (x1 : Int32)  (Sn : kp_S) (post : kp_S → Prop) : Prop :=
  post Sn
def wX12_loses (a0 : Nat) (x1 : Int32) (S : kp_S) (post : kp_S → Prop) : Prop :=
  ∃ b1 : Nat, kp_R S 2495 a0 = some b1 ∧
  vp_in x1 (kp_N S b1) ∧
  ((¬ (kp_A S b1 x1.toNatClampNeg) = 4 →
  wX12_loses_b32 a0 x1   S post) ∧ ((kp_A S b1 x1.toNatClampNeg) = 4 →
  ∀ T2 : kp_S, T2 = kp_sI S 2479 a0 ((kp_I S 2479 a0) + 1) →
  ∃ b3 : Nat, kp_R T2 2498 a0 = some b3 ∧
  vp_in x1 (kp_N T2 b3) ∧
  wX12_note a0 9 (kp_A T2 b3 x1.toNatClampNeg) T2 (fun T4 =>
  wX12_loses_b32 a0 x1   T4 post)))
set_option maxHeartbeats 4000000 in
set_option maxRecDepth 100000 in
theorem c_X12_loses (l : Launch) (D : va_G) (cy : Nat → ClassId) (ad : (Nat → Nat) × (Nat → Nat)) (S : kp_S) (a0 : Nat) (x1 : Int32) (post : kp_S → Prop) (hS : kp_ok S) (f_a0 : kp_is S a0 12) (hw : wX12_loses a0 x1 S post) : kp_M l yX12_loses cX12_loses 2 none { frames := 1, cells := 0, slots := 0, locals := 22 } D cy ad S [.ref a0, .int x1] 0 0 (fun A => kp_Qv D cy A S post) := by
  refine kp_start (own := RX12) (by decide) rfl (Nat.le_of_ble_eq_true rfl) hS ?_
  intro p e s m below meth c A ls X hr hlocks hname h hl
  have hle : kp_le S S := kp_le.rf
  have hl : lv_has ls 2 [(0, .ref a0), (1, .int x1)] := hl
  have j32 : ∀  (Sn : kp_S) (H : Heap) (locs : List Loc) (ls : Array Slot), lv_has ls 2 [] → kp_H D cy A Sn s.heap H locs → kp_le S Sn → kp_is Sn a0 12 → wX12_loses_b32 a0 x1   Sn post → W p l e { frames := 1, cells := 0, slots := 0, locals := 22 } s m ([.ref a0, .int x1] : List Value).toArray below meth c H locs 0 0 (MQ below (kp_Qv D cy A S post) ([.ref a0, .int x1] : List Value).toArray s 0 0 A) (F0 m 32 ls []) := by
    intro  Sn H locs ls hl h hle f_a0 hw
    unfold wX12_loses_b32 at hw
    exact kp_retv X hr hlocks h hle hw dX12_loses_32
  unfold wX12_loses at hw
  have h : kp_H D cy A S s.heap s.heap [] := h
  revert h
  intro h
  refine lv_aload_n X.1 X.2.1 dX12_loses_0 rfl (lv_at hl 0 rfl) ?_
  obtain ⟨b1, e_b1, hw⟩ := hw
  have f_b1 := h.2.2.2.rf (c := 12) (k := 95) f_a0 (by decide) (by decide) e_b1 (t := 14) rfl
  refine kp_get X h f_a0 ff_12_197.l (v := .ref b1) (congrArg va_rf e_b1) dX12_loses_1 ?_
  refine lv_iload_n X.1 X.2.1 dX12_loses_4 rfl (lv_at hl 1 rfl) ?_
  obtain ⟨hi, hw⟩ := hw
  refine kp_iald X h f_b1 hi dX12_loses_5 ?_
  refine lv_iconst (v := 4) X.1 X.2.1 dX12_loses_6 (by decide) ?_
  refine lv_icmp_ne (tgt := 32) X.1 X.2.1 dX12_loses_7 (by decide) (fun c5 => ?_) (fun c5 => ?_)
  · have hw := hw.1 c5
    exact j32  S _ _ ls (lv_sub hl [] rfl) h hle f_a0 hw
  · have hw := hw.2 c5
    refine lv_aload_n X.1 X.2.1 dX12_loses_10 rfl (lv_at hl 0 rfl) ?_
    refine lv_dup X.1 X.2.1 dX12_loses_11 rfl ?_
    refine kp_get X h f_a0 fp_12_634.l (v := .int (kp_I S 2479 a0)) rfl dX12_loses_12 ?_
    refine lv_iconst (v := 1) X.1 X.2.1 dX12_loses_15 (by decide) ?_
    refine lv_iadd X.1 X.2.1 dX12_loses_16 ?_
    refine kp_putI X h f_a0 fp_12_634 rfl ⟨rfl, rfl⟩ dX12_loses_17 (fun T2 e_T2 l_T2 H locs h => ?_)
    have hw := hw T2 e_T2
    have f_a0 := l_T2.is f_a0
    have f_b1 := l_T2.is f_b1
    have hle := hle.tr l_T2
    have e_b1 : kp_R T2 2495 a0 = some b1 := by rw [e_T2]; exact e_b1
    refine lv_aload_n X.1 X.2.1 dX12_loses_20 rfl (lv_at hl 0 rfl) ?_
    refine lv_bipush (v := 9) X.1 X.2.1 dX12_loses_21 (by decide) ?_
    refine lv_aload_n X.1 X.2.1 dX12_loses_23 rfl (lv_at hl 0 rfl) ?_
    obtain ⟨b3, e_b3, hw⟩ := hw
    have f_b3 := h.2.2.2.rf (c := 12) (k := 98) f_a0 (by decide) (by decide) e_b3 (t := 14) rfl
    refine kp_get X h f_a0 ff_12_206.l (v := .ref b3) (congrArg va_rf e_b3) dX12_loses_24 ?_
    refine lv_iload_n X.1 X.2.1 dX12_loses_27 rfl (lv_at hl 1 rfl) ?_
    obtain ⟨hi, hw⟩ := hw
    refine kp_iald X h f_b3 hi dX12_loses_28 ?_
    refine kp_callv X h (kp_runV (rm := { frames := 0, cells := 0, slots := 0, locals := 0 }) (mc := 0) (ms := 0) (rest := []) (Qc := fun A => kp_Qv D cy A T2 _) X h (c_X12_note l D cy ad T2 a0 9 (kp_A T2 b3 x1.toNatClampNeg) _ h.2.2.2 f_a0 hw) f_a0 cv_12_637 ⟨by decide, by decide, rfl, rfl, by decide, by decide⟩ rfl hl.1 rfl (Nat.le_of_ble_eq_true rfl) dX12_loses_29) (fun T4 hw l_T4 H locs h => ?_)
    have f_a0 := l_T4.is f_a0
    have f_b1 := l_T4.is f_b1
    have f_b3 := l_T4.is f_b3
    have hle := hle.tr l_T4
    exact j32  T4 _ _ ls (lv_sub hl [] rfl) h hle f_a0 hw
theorem dX12_goes_0 : decode cX12_goes 0 = .ok (.aload_n 0, 1) := by decide +kernel
theorem dX12_goes_1 : decode cX12_goes 1 = .ok (.iconst 0, 1) := by decide +kernel
theorem dX12_goes_2 : decode cX12_goes 2 = .ok (.putfield 616, 3) := by decide +kernel
theorem dX12_goes_5 : decode cX12_goes 5 = .ok (.aload_n 0, 1) := by decide +kernel
theorem dX12_goes_6 : decode cX12_goes 6 = .ok (.aload_n 0, 1) := by decide +kernel
theorem dX12_goes_7 : decode cX12_goes 7 = .ok (.getfield 188, 3) := by decide +kernel
theorem dX12_goes_10 : decode cX12_goes 10 = .ok (.iload_n 1, 1) := by decide +kernel
theorem dX12_goes_11 : decode cX12_goes 11 = .ok (.iaload, 1) := by decide +kernel
theorem dX12_goes_12 : decode cX12_goes 12 = .ok (.putfield 604, 3) := by decide +kernel
theorem dX12_goes_15 : decode cX12_goes 15 = .ok (.aload_n 0, 1) := by decide +kernel
theorem dX12_goes_16 : decode cX12_goes 16 = .ok (.iload_n 2, 1) := by decide +kernel
theorem dX12_goes_17 : decode cX12_goes 17 = .ok (.putfield 648, 3) := by decide +kernel
theorem dX12_goes_20 : decode cX12_goes 20 = .ok (.return_, 1) := by decide +kernel
def wX12_goes (a0 : Nat) (x1 : Int32) (x2 : Int32) (S : kp_S) (post : kp_S → Prop) : Prop :=
  ∀ T1 : kp_S, T1 = kp_sI S 2481 a0 0 →
  ∃ b2 : Nat, kp_R T1 2492 a0 = some b2 ∧
  vp_in x1 (kp_N T1 b2) ∧
  ∀ T3 : kp_S, T3 = kp_sI T1 2516 a0 (kp_A T1 b2 x1.toNatClampNeg) →
  ∀ T4 : kp_S, T4 = kp_sI T3 2510 a0 x2 →
  post T4
set_option maxHeartbeats 4000000 in
set_option maxRecDepth 100000 in
theorem c_X12_goes (l : Launch) (D : va_G) (cy : Nat → ClassId) (ad : (Nat → Nat) × (Nat → Nat)) (S : kp_S) (a0 : Nat) (x1 : Int32) (x2 : Int32) (post : kp_S → Prop) (hS : kp_ok S) (f_a0 : kp_is S a0 12) (hw : wX12_goes a0 x1 x2 S post) : kp_M l yX12_goes cX12_goes 3 none { frames := 0, cells := 0, slots := 0, locals := 0 } D cy ad S [.ref a0, .int x1, .int x2] 0 0 (fun A => kp_Qv D cy A S post) := by
  refine kp_start (own := RX12) (by decide) rfl (Nat.le_of_ble_eq_true rfl) hS ?_
  intro p e s m below meth c A ls X hr hlocks hname h hl
  have hle : kp_le S S := kp_le.rf
  have hl : lv_has ls 3 [(0, .ref a0), (1, .int x1), (2, .int x2)] := hl
  unfold wX12_goes at hw
  have h : kp_H D cy A S s.heap s.heap [] := h
  revert h
  intro h
  refine lv_aload_n X.1 X.2.1 dX12_goes_0 rfl (lv_at hl 0 rfl) ?_
  refine lv_iconst (v := 0) X.1 X.2.1 dX12_goes_1 (by decide) ?_
  refine kp_putI X h f_a0 fp_12_616 rfl ⟨rfl, rfl⟩ dX12_goes_2 (fun T1 e_T1 l_T1 H locs h => ?_)
  have hw := hw T1 e_T1
  have f_a0 := l_T1.is f_a0
  have hle := hle.tr l_T1
  refine lv_aload_n X.1 X.2.1 dX12_goes_5 rfl (lv_at hl 0 rfl) ?_
  refine lv_aload_n X.1 X.2.1 dX12_goes_6 rfl (lv_at hl 0 rfl) ?_
  obtain ⟨b2, e_b2, hw⟩ := hw
  have f_b2 := h.2.2.2.rf (c := 12) (k := 92) f_a0 (by decide) (by decide) e_b2 (t := 14) rfl
  refine kp_get X h f_a0 ff_12_188.l (v := .ref b2) (congrArg va_rf e_b2) dX12_goes_7 ?_
  refine lv_iload_n X.1 X.2.1 dX12_goes_10 rfl (lv_at hl 1 rfl) ?_
  obtain ⟨hi, hw⟩ := hw
  refine kp_iald X h f_b2 hi dX12_goes_11 ?_
  refine kp_putI X h f_a0 fp_12_604 rfl ⟨rfl, rfl⟩ dX12_goes_12 (fun T3 e_T3 l_T3 H locs h => ?_)
  have hw := hw T3 e_T3
  have f_a0 := l_T3.is f_a0
  have f_b2 := l_T3.is f_b2
  have hle := hle.tr l_T3
  have e_b2 : kp_R T3 2492 a0 = some b2 := by rw [e_T3]; exact e_b2
  refine lv_aload_n X.1 X.2.1 dX12_goes_15 rfl (lv_at hl 0 rfl) ?_
  refine lv_iload_n X.1 X.2.1 dX12_goes_16 rfl (lv_at hl 2 rfl) ?_
  refine kp_putI X h f_a0 fp_12_648 rfl ⟨rfl, rfl⟩ dX12_goes_17 (fun T4 e_T4 l_T4 H locs h => ?_)
  have hw := hw T4 e_T4
  have f_a0 := l_T4.is f_a0
  have f_b2 := l_T4.is f_b2
  have hle := hle.tr l_T4
  have e_b2 : kp_R T4 2492 a0 = some b2 := by rw [e_T4]; exact e_b2
  exact kp_retv X hr hlocks h hle hw dX12_goes_20
theorem dX12_closes_0 : decode cX12_closes 0 = .ok (.aload_n 0, 1) := by decide +kernel
theorem dX12_closes_1 : decode cX12_closes 1 = .ok (.iload_n 1, 1) := by decide +kernel
theorem dX12_closes_2 : decode cX12_closes 2 = .ok (.putfield 613, 3) := by decide +kernel
theorem dX12_closes_5 : decode cX12_closes 5 = .ok (.aload_n 0, 1) := by decide +kernel
theorem dX12_closes_6 : decode cX12_closes 6 = .ok (.getfield 616, 3) := by decide +kernel
theorem dX12_closes_9 : decode cX12_closes 9 = .ok (.ifCond .eq 5, 3) := by decide +kernel
theorem dX12_closes_12 : decode cX12_closes 12 = .ok (.iconst 1, 1) := by decide +kernel
theorem dX12_closes_13 : decode cX12_closes 13 = .ok (.ireturn, 1) := by decide +kernel
theorem dX12_closes_14 : decode cX12_closes 14 = .ok (.aload_n 0, 1) := by decide +kernel
theorem dX12_closes_15 : decode cX12_closes 15 = .ok (.iload_n 1, 1) := by decide +kernel
theorem dX12_closes_16 : decode cX12_closes 16 = .ok (.iload_n 2, 1) := by decide +kernel
theorem dX12_closes_17 : decode cX12_closes 17 = .ok (.invokevirtual 666, 3) := by decide +kernel
theorem dX12_closes_20 : decode cX12_closes 20 = .ok (.iconst 0, 1) := by decide +kernel
theorem dX12_closes_21 : decode cX12_closes 21 = .ok (.ireturn, 1) := by decide +kernel
def wX12_closes (a0 : Nat) (x1 : Int32) (x2 : Int32) (S : kp_S) (post : Int32 → kp_S → Prop) : Prop :=
  ∀ T1 : kp_S, T1 = kp_sI S 2487 a0 x1 →
  (((kp_I T1 2481 a0) = 0 →
  wX12_goes a0 x1 x2 T1 (fun T2 =>
  post 0 T2)) ∧ (¬ (kp_I T1 2481 a0) = 0 →
  post 1 T1))
set_option maxHeartbeats 4000000 in
set_option maxRecDepth 100000 in
theorem c_X12_closes (l : Launch) (D : va_G) (cy : Nat → ClassId) (ad : (Nat → Nat) × (Nat → Nat)) (S : kp_S) (a0 : Nat) (x1 : Int32) (x2 : Int32) (post : Int32 → kp_S → Prop) (hS : kp_ok S) (f_a0 : kp_is S a0 12) (hw : wX12_closes a0 x1 x2 S post) : kp_M l yX12_closes cX12_closes 3 (some .boolean) { frames := 1, cells := 0, slots := 0, locals := 22 } D cy ad S [.ref a0, .int x1, .int x2] 0 0 (fun A => kp_Qi D cy A S post) := by
  refine kp_start (own := RX12) (by decide) rfl (Nat.le_of_ble_eq_true rfl) hS ?_
  intro p e s m below meth c A ls X hr hlocks hname h hl
  have hle : kp_le S S := kp_le.rf
  have hl : lv_has ls 3 [(0, .ref a0), (1, .int x1), (2, .int x2)] := hl
  unfold wX12_closes at hw
  have h : kp_H D cy A S s.heap s.heap [] := h
  revert h
  intro h
  refine lv_aload_n X.1 X.2.1 dX12_closes_0 rfl (lv_at hl 0 rfl) ?_
  refine lv_iload_n X.1 X.2.1 dX12_closes_1 rfl (lv_at hl 1 rfl) ?_
  refine kp_putI X h f_a0 fp_12_613 rfl ⟨rfl, rfl⟩ dX12_closes_2 (fun T1 e_T1 l_T1 H locs h => ?_)
  have hw := hw T1 e_T1
  have f_a0 := l_T1.is f_a0
  have hle := hle.tr l_T1
  refine lv_aload_n X.1 X.2.1 dX12_closes_5 rfl (lv_at hl 0 rfl) ?_
  refine kp_get X h f_a0 fp_12_616.l (v := .int (kp_I T1 2481 a0)) rfl dX12_closes_6 ?_
  refine lv_if_eq (tgt := 14) X.1 X.2.1 dX12_closes_9 (by decide) (fun c3 => ?_) (fun c3 => ?_)
  · have hw := hw.1 c3
    refine lv_aload_n X.1 X.2.1 dX12_closes_14 rfl (lv_at hl 0 rfl) ?_
    refine lv_iload_n X.1 X.2.1 dX12_closes_15 rfl (lv_at hl 1 rfl) ?_
    refine lv_iload_n X.1 X.2.1 dX12_closes_16 rfl (lv_at hl 2 rfl) ?_
    refine kp_callv X h (kp_runV (rm := { frames := 0, cells := 0, slots := 0, locals := 0 }) (mc := 0) (ms := 0) (rest := []) (Qc := fun A => kp_Qv D cy A T1 _) X h (c_X12_goes l D cy ad T1 a0 x1 x2 _ h.2.2.2 f_a0 hw) f_a0 cv_12_666 ⟨by decide, by decide, rfl, rfl, by decide, by decide⟩ rfl hl.1 rfl (Nat.le_of_ble_eq_true rfl) dX12_closes_17) (fun T2 hw l_T2 H locs h => ?_)
    have f_a0 := l_T2.is f_a0
    have hle := hle.tr l_T2
    refine lv_iconst (v := 0) X.1 X.2.1 dX12_closes_20 (by decide) ?_
    exact kp_reti X hr hlocks h hle (by decide) hw dX12_closes_21
  · have hw := hw.2 c3
    refine lv_iconst (v := 1) X.1 X.2.1 dX12_closes_12 (by decide) ?_
    exact kp_reti X hr hlocks h hle (by decide) hw dX12_closes_13
theorem dX12_leavesHold_0 : decode cX12_leavesHold 0 = .ok (.aload_n 0, 1) := by decide +kernel
theorem dX12_leavesHold_1 : decode cX12_leavesHold 1 = .ok (.getfield 182, 3) := by decide +kernel
theorem dX12_leavesHold_4 : decode cX12_leavesHold 4 = .ok (.iload_n 1, 1) := by decide +kernel
theorem dX12_leavesHold_5 : decode cX12_leavesHold 5 = .ok (.iaload, 1) := by decide +kernel
theorem dX12_leavesHold_6 : decode cX12_leavesHold 6 = .ok (.istore_n 2, 1) := by decide +kernel
theorem dX12_leavesHold_7 : decode cX12_leavesHold 7 = .ok (.aload_n 0, 1) := by decide +kernel
theorem dX12_leavesHold_8 : decode cX12_leavesHold 8 = .ok (.getfield 161, 3) := by decide +kernel
theorem dX12_leavesHold_11 : decode cX12_leavesHold 11 = .ok (.iload_n 2, 1) := by decide +kernel
theorem dX12_leavesHold_12 : decode cX12_leavesHold 12 = .ok (.dup2, 1) := by decide +kernel
theorem dX12_leavesHold_13 : decode cX12_leavesHold 13 = .ok (.iaload, 1) := by decide +kernel
theorem dX12_leavesHold_14 : decode cX12_leavesHold 14 = .ok (.iconst 1, 1) := by decide +kernel
theorem dX12_leavesHold_15 : decode cX12_leavesHold 15 = .ok (.isub, 1) := by decide +kernel
theorem dX12_leavesHold_16 : decode cX12_leavesHold 16 = .ok (.iastore, 1) := by decide +kernel
theorem dX12_leavesHold_17 : decode cX12_leavesHold 17 = .ok (.aload_n 0, 1) := by decide +kernel
theorem dX12_leavesHold_18 : decode cX12_leavesHold 18 = .ok (.dup, 1) := by decide +kernel
theorem dX12_leavesHold_19 : decode cX12_leavesHold 19 = .ok (.getfield 669, 3) := by decide +kernel
theorem dX12_leavesHold_22 : decode cX12_leavesHold 22 = .ok (.iconst 1, 1) := by decide +kernel
theorem dX12_leavesHold_23 : decode cX12_leavesHold 23 = .ok (.iadd, 1) := by decide +kernel
theorem dX12_leavesHold_24 : decode cX12_leavesHold 24 = .ok (.putfield 669, 3) := by decide +kernel
theorem dX12_leavesHold_27 : decode cX12_leavesHold 27 = .ok (.aload_n 0, 1) := by decide +kernel
theorem dX12_leavesHold_28 : decode cX12_leavesHold 28 = .ok (.getfield 161, 3) := by decide +kernel
theorem dX12_leavesHold_31 : decode cX12_leavesHold 31 = .ok (.iload_n 2, 1) := by decide +kernel
theorem dX12_leavesHold_32 : decode cX12_leavesHold 32 = .ok (.iaload, 1) := by decide +kernel
theorem dX12_leavesHold_33 : decode cX12_leavesHold 33 = .ok (.ifCond .ne 9, 3) := by decide +kernel
theorem dX12_leavesHold_36 : decode cX12_leavesHold 36 = .ok (.aload_n 0, 1) := by decide +kernel
theorem dX12_leavesHold_37 : decode cX12_leavesHold 37 = .ok (.iconst 2, 1) := by decide +kernel
theorem dX12_leavesHold_38 : decode cX12_leavesHold 38 = .ok (.iload_n 2, 1) := by decide +kernel
theorem dX12_leavesHold_39 : decode cX12_leavesHold 39 = .ok (.invokevirtual 637, 3) := by decide +kernel
theorem dX12_leavesHold_42 : decode cX12_leavesHold 42 = .ok (.aload_n 0, 1) := by decide +kernel
theorem dX12_leavesHold_43 : decode cX12_leavesHold 43 = .ok (.iload_n 1, 1) := by decide +kernel
theorem dX12_leavesHold_44 : decode cX12_leavesHold 44 = .ok (.aload_n 0, 1) := by decide +kernel
theorem dX12_leavesHold_45 : decode cX12_leavesHold 45 = .ok (.getfield 191, 3) := by decide +kernel
theorem dX12_leavesHold_48 : decode cX12_leavesHold 48 = .ok (.iload_n 1, 1) := by decide +kernel
theorem dX12_leavesHold_49 : decode cX12_leavesHold 49 = .ok (.laload, 1) := by decide +kernel
theorem dX12_leavesHold_50 : decode cX12_leavesHold 50 = .ok (.l2i, 1) := by decide +kernel
theorem dX12_leavesHold_51 : decode cX12_leavesHold 51 = .ok (.invokevirtual 672, 3) := by decide +kernel
theorem dX12_leavesHold_54 : decode cX12_leavesHold 54 = .ok (.ireturn, 1) := by decide +kernel
def wX12_leavesHold_b42 (a0 : Nat) (x1 : Int32)  (Sn : kp_S) (post : Int32 → kp_S → Prop) : Prop :=
  ∃ b1001 : Nat, kp_R Sn 2493 a0 = some b1001 ∧
  vp_in x1 (kp_N Sn b1001) ∧
  wX12_closes a0 x1 ((kp_B Sn b1001 x1.toNatClampNeg : Int64).toInt32) Sn (fun y1003 T1002 =>
  kp_b y1003 ∧ post y1003 T1002)
def wX12_leavesHold (a0 : Nat) (x1 : Int32) (S : kp_S) (post : Int32 → kp_S → Prop) : Prop :=
  ∃ b1 : Nat, kp_R S 2490 a0 = some b1 ∧
  vp_in x1 (kp_N S b1) ∧
  ∀ y2 : Int32, y2 = (kp_A S b1 x1.toNatClampNeg) →
  ∃ b3 : Nat, kp_R S 2465 a0 = some b3 ∧
  vp_in y2 (kp_N S b3) ∧
  vp_in y2 (kp_N S b3) ∧ ∀ T4 : kp_S, T4 = kp_sA S b3 (upd (kp_A S b3) (y2.toNatClampNeg) ((kp_A S b3 y2.toNatClampNeg) - 1)) →
  ∀ T5 : kp_S, T5 = kp_sI T4 2472 a0 ((kp_I T4 2472 a0) + 1) →
  vp_in y2 (kp_N T5 b3) ∧
  ((¬ (kp_A T5 b3 y2.toNatClampNeg) = 0 →
  wX12_leavesHold_b42 a0 x1   T5 post) ∧ ((kp_A T5 b3 y2.toNatClampNeg) = 0 →
  wX12_note a0 2 y2 T5 (fun T6 =>
  wX12_leavesHold_b42 a0 x1   T6 post)))
set_option maxHeartbeats 4000000 in
set_option maxRecDepth 100000 in
theorem c_X12_leavesHold (l : Launch) (D : va_G) (cy : Nat → ClassId) (ad : (Nat → Nat) × (Nat → Nat)) (S : kp_S) (a0 : Nat) (x1 : Int32) (post : Int32 → kp_S → Prop) (hS : kp_ok S) (f_a0 : kp_is S a0 12) (hw : wX12_leavesHold a0 x1 S post) : kp_M l yX12_leavesHold cX12_leavesHold 3 (some .boolean) { frames := 2, cells := 0, slots := 0, locals := 44 } D cy ad S [.ref a0, .int x1] 0 0 (fun A => kp_Qi D cy A S post) := by
  refine kp_start (own := RX12) (by decide) rfl (Nat.le_of_ble_eq_true rfl) hS ?_
  intro p e s m below meth c A ls X hr hlocks hname h hl
  have hle : kp_le S S := kp_le.rf
  have hl : lv_has ls 3 [(0, .ref a0), (1, .int x1)] := hl
  have j42 : ∀  (Sn : kp_S) (H : Heap) (locs : List Loc) (ls : Array Slot), lv_has ls 3 [(0, .ref a0), (1, .int x1)] → kp_H D cy A Sn s.heap H locs → kp_le S Sn → kp_is Sn a0 12 → wX12_leavesHold_b42 a0 x1   Sn post → W p l e { frames := 2, cells := 0, slots := 0, locals := 44 } s m ([.ref a0, .int x1] : List Value).toArray below meth c H locs 0 0 (MQ below (kp_Qi D cy A S post) ([.ref a0, .int x1] : List Value).toArray s 0 0 A) (F0 m 42 ls []) := by
    intro  Sn H locs ls hl h hle f_a0 hw
    unfold wX12_leavesHold_b42 at hw
    refine lv_aload_n X.1 X.2.1 dX12_leavesHold_42 rfl (lv_at hl 0 rfl) ?_
    refine lv_iload_n X.1 X.2.1 dX12_leavesHold_43 rfl (lv_at hl 1 rfl) ?_
    refine lv_aload_n X.1 X.2.1 dX12_leavesHold_44 rfl (lv_at hl 0 rfl) ?_
    obtain ⟨b1001, e_b1001, hw⟩ := hw
    have f_b1001 := h.2.2.2.rf (c := 12) (k := 93) f_a0 (by decide) (by decide) e_b1001 (t := 15) rfl
    refine kp_get X h f_a0 ff_12_191.l (v := .ref b1001) (congrArg va_rf e_b1001) dX12_leavesHold_45 ?_
    refine lv_iload_n X.1 X.2.1 dX12_leavesHold_48 rfl (lv_at hl 1 rfl) ?_
    obtain ⟨hi, hw⟩ := hw
    refine kp_lald X h f_b1001 hi dX12_leavesHold_49 ?_
    refine lv_l2i X.1 X.2.1 dX12_leavesHold_50 rfl ?_
    refine kp_calli X h (kp_runV (rm := { frames := 1, cells := 0, slots := 0, locals := 22 }) (mc := 0) (ms := 0) (rest := []) (Qc := fun A => kp_Qi D cy A Sn _) X h (c_X12_closes l D cy ad Sn a0 x1 ((kp_B Sn b1001 x1.toNatClampNeg : Int64).toInt32) _ h.2.2.2 f_a0 hw) f_a0 cv_12_672 ⟨by decide, by decide, rfl, rfl, by decide, by decide⟩ rfl hl.1 rfl (Nat.le_of_ble_eq_true rfl) dX12_leavesHold_51) (fun y1003 T1002 hw l_T1002 H locs h => ?_)
    have f_a0 := l_T1002.is f_a0
    have f_b1001 := l_T1002.is f_b1001
    have hle := hle.tr l_T1002
    exact kp_reti X hr hlocks h hle (kp_bz hw.1).1 hw.2 dX12_leavesHold_54
  unfold wX12_leavesHold at hw
  have h : kp_H D cy A S s.heap s.heap [] := h
  revert h
  intro h
  refine lv_aload_n X.1 X.2.1 dX12_leavesHold_0 rfl (lv_at hl 0 rfl) ?_
  obtain ⟨b1, e_b1, hw⟩ := hw
  have f_b1 := h.2.2.2.rf (c := 12) (k := 90) f_a0 (by decide) (by decide) e_b1 (t := 14) rfl
  refine kp_get X h f_a0 ff_12_182.l (v := .ref b1) (congrArg va_rf e_b1) dX12_leavesHold_1 ?_
  refine lv_iload_n X.1 X.2.1 dX12_leavesHold_4 rfl (lv_at hl 1 rfl) ?_
  obtain ⟨hi, hw⟩ := hw
  refine kp_iald X h f_b1 hi dX12_leavesHold_5 ?_
  refine lv_topi (fun y2 e_y2 => ?_)
  have hw := hw y2 e_y2
  refine lv_istore_n (lv' := [(2, .int y2), (0, .ref a0), (1, .int x1)]) X.1 X.2.1 dX12_leavesHold_6 rfl hl (by decide) rfl (fun ls hl => ?_)
  refine lv_aload_n X.1 X.2.1 dX12_leavesHold_7 rfl (lv_at hl 1 rfl) ?_
  obtain ⟨b3, e_b3, hw⟩ := hw
  have f_b3 := h.2.2.2.rf (c := 12) (k := 65) f_a0 (by decide) (by decide) e_b3 (t := 14) rfl
  refine kp_get X h f_a0 ff_12_161.l (v := .ref b3) (congrArg va_rf e_b3) dX12_leavesHold_8 ?_
  refine lv_iload_n X.1 X.2.1 dX12_leavesHold_11 rfl (lv_at hl 0 rfl) ?_
  refine lv_dup2_11 X.1 X.2.1 dX12_leavesHold_12 rfl rfl ?_
  obtain ⟨hi, hw⟩ := hw
  refine kp_iald X h f_b3 hi dX12_leavesHold_13 ?_
  refine lv_iconst (v := 1) X.1 X.2.1 dX12_leavesHold_14 (by decide) ?_
  refine lv_isub X.1 X.2.1 dX12_leavesHold_15 ?_
  obtain ⟨hi, hw⟩ := hw
  refine kp_iast X h f_b3 hi dX12_leavesHold_16 (fun T4 e_T4 l_T4 H locs h => ?_)
  have hw := hw T4 e_T4
  have f_a0 := l_T4.is f_a0
  have f_b1 := l_T4.is f_b1
  have f_b3 := l_T4.is f_b3
  have hle := hle.tr l_T4
  have e_b1 : kp_R T4 2490 a0 = some b1 := by rw [e_T4]; exact e_b1
  have e_b3 : kp_R T4 2465 a0 = some b3 := by rw [e_T4]; exact e_b3
  refine lv_aload_n X.1 X.2.1 dX12_leavesHold_17 rfl (lv_at hl 1 rfl) ?_
  refine lv_dup X.1 X.2.1 dX12_leavesHold_18 rfl ?_
  refine kp_get X h f_a0 fp_12_669.l (v := .int (kp_I T4 2472 a0)) rfl dX12_leavesHold_19 ?_
  refine lv_iconst (v := 1) X.1 X.2.1 dX12_leavesHold_22 (by decide) ?_
  refine lv_iadd X.1 X.2.1 dX12_leavesHold_23 ?_
  refine kp_putI X h f_a0 fp_12_669 rfl ⟨rfl, rfl⟩ dX12_leavesHold_24 (fun T5 e_T5 l_T5 H locs h => ?_)
  have hw := hw T5 e_T5
  have f_a0 := l_T5.is f_a0
  have f_b1 := l_T5.is f_b1
  have f_b3 := l_T5.is f_b3
  have hle := hle.tr l_T5
  have e_b1 : kp_R T5 2490 a0 = some b1 := by rw [e_T5]; exact e_b1
  have e_b3 : kp_R T5 2465 a0 = some b3 := by rw [e_T5]; exact e_b3
  refine lv_aload_n X.1 X.2.1 dX12_leavesHold_27 rfl (lv_at hl 1 rfl) ?_
  refine kp_get X h f_a0 ff_12_161.l (v := .ref b3) (congrArg va_rf e_b3) dX12_leavesHold_28 ?_
  refine lv_iload_n X.1 X.2.1 dX12_leavesHold_31 rfl (lv_at hl 0 rfl) ?_
  obtain ⟨hi, hw⟩ := hw
  refine kp_iald X h f_b3 hi dX12_leavesHold_32 ?_
  refine lv_if_ne (tgt := 42) X.1 X.2.1 dX12_leavesHold_33 (by decide) (fun c7 => ?_) (fun c7 => ?_)
  · have hw := hw.1 c7
    exact j42  T5 _ _ ls (lv_sub hl [1, 2] rfl) h hle f_a0 hw
  · have hw := hw.2 c7
    refine lv_aload_n X.1 X.2.1 dX12_leavesHold_36 rfl (lv_at hl 1 rfl) ?_
    refine lv_iconst (v := 2) X.1 X.2.1 dX12_leavesHold_37 (by decide) ?_
    refine lv_iload_n X.1 X.2.1 dX12_leavesHold_38 rfl (lv_at hl 0 rfl) ?_
    refine kp_callv X h (kp_runV (rm := { frames := 0, cells := 0, slots := 0, locals := 0 }) (mc := 0) (ms := 0) (rest := []) (Qc := fun A => kp_Qv D cy A T5 _) X h (c_X12_note l D cy ad T5 a0 2 y2 _ h.2.2.2 f_a0 hw) f_a0 cv_12_637 ⟨by decide, by decide, rfl, rfl, by decide, by decide⟩ rfl hl.1 rfl (Nat.le_of_ble_eq_true rfl) dX12_leavesHold_39) (fun T6 hw l_T6 H locs h => ?_)
    have f_a0 := l_T6.is f_a0
    have f_b1 := l_T6.is f_b1
    have f_b3 := l_T6.is f_b3
    have hle := hle.tr l_T6
    exact j42  T6 _ _ ls (lv_sub hl [1, 2] rfl) h hle f_a0 hw
theorem dX12_beginsAlways_0 : decode cX12_beginsAlways 0 = .ok (.aload_n 0, 1) := by decide +kernel
theorem dX12_beginsAlways_1 : decode cX12_beginsAlways 1 = .ok (.getfield 182, 3) := by decide +kernel
theorem dX12_beginsAlways_4 : decode cX12_beginsAlways 4 = .ok (.iload_n 1, 1) := by decide +kernel
theorem dX12_beginsAlways_5 : decode cX12_beginsAlways 5 = .ok (.iaload, 1) := by decide +kernel
theorem dX12_beginsAlways_6 : decode cX12_beginsAlways 6 = .ok (.istore_n 2, 1) := by decide +kernel
theorem dX12_beginsAlways_7 : decode cX12_beginsAlways 7 = .ok (.aload_n 0, 1) := by decide +kernel
theorem dX12_beginsAlways_8 : decode cX12_beginsAlways 8 = .ok (.iload_n 1, 1) := by decide +kernel
theorem dX12_beginsAlways_9 : decode cX12_beginsAlways 9 = .ok (.invokevirtual 675, 3) := by decide +kernel
theorem dX12_beginsAlways_12 : decode cX12_beginsAlways 12 = .ok (.aload_n 0, 1) := by decide +kernel
theorem dX12_beginsAlways_13 : decode cX12_beginsAlways 13 = .ok (.getfield 179, 3) := by decide +kernel
theorem dX12_beginsAlways_16 : decode cX12_beginsAlways 16 = .ok (.iload_n 1, 1) := by decide +kernel
theorem dX12_beginsAlways_17 : decode cX12_beginsAlways 17 = .ok (.iconst 2, 1) := by decide +kernel
theorem dX12_beginsAlways_18 : decode cX12_beginsAlways 18 = .ok (.iastore, 1) := by decide +kernel
theorem dX12_beginsAlways_19 : decode cX12_beginsAlways 19 = .ok (.aload_n 0, 1) := by decide +kernel
theorem dX12_beginsAlways_20 : decode cX12_beginsAlways 20 = .ok (.getfield 185, 3) := by decide +kernel
theorem dX12_beginsAlways_23 : decode cX12_beginsAlways 23 = .ok (.iload_n 1, 1) := by decide +kernel
theorem dX12_beginsAlways_24 : decode cX12_beginsAlways 24 = .ok (.aload_n 0, 1) := by decide +kernel
theorem dX12_beginsAlways_25 : decode cX12_beginsAlways 25 = .ok (.getfield 616, 3) := by decide +kernel
theorem dX12_beginsAlways_28 : decode cX12_beginsAlways 28 = .ok (.iconst 4, 1) := by decide +kernel
theorem dX12_beginsAlways_29 : decode cX12_beginsAlways 29 = .ok (.if_icmp .ne 10, 3) := by decide +kernel
theorem dX12_beginsAlways_32 : decode cX12_beginsAlways 32 = .ok (.aload_n 0, 1) := by decide +kernel
theorem dX12_beginsAlways_33 : decode cX12_beginsAlways 33 = .ok (.getfield 625, 3) := by decide +kernel
theorem dX12_beginsAlways_36 : decode cX12_beginsAlways 36 = .ok (.goto 4, 3) := by decide +kernel
theorem dX12_beginsAlways_39 : decode cX12_beginsAlways 39 = .ok (.iconst 0, 1) := by decide +kernel
theorem dX12_beginsAlways_40 : decode cX12_beginsAlways 40 = .ok (.iastore, 1) := by decide +kernel
theorem dX12_beginsAlways_41 : decode cX12_beginsAlways 41 = .ok (.aload_n 0, 1) := by decide +kernel
theorem dX12_beginsAlways_42 : decode cX12_beginsAlways 42 = .ok (.dup, 1) := by decide +kernel
theorem dX12_beginsAlways_43 : decode cX12_beginsAlways 43 = .ok (.getfield 678, 3) := by decide +kernel
theorem dX12_beginsAlways_46 : decode cX12_beginsAlways 46 = .ok (.iconst 1, 1) := by decide +kernel
theorem dX12_beginsAlways_47 : decode cX12_beginsAlways 47 = .ok (.iadd, 1) := by decide +kernel
theorem dX12_beginsAlways_48 : decode cX12_beginsAlways 48 = .ok (.putfield 678, 3) := by decide +kernel
theorem dX12_beginsAlways_51 : decode cX12_beginsAlways 51 = .ok (.aload_n 0, 1) := by decide +kernel
theorem dX12_beginsAlways_52 : decode cX12_beginsAlways 52 = .ok (.bipush 11, 2) := by decide +kernel
theorem dX12_beginsAlways_54 : decode cX12_beginsAlways 54 = .ok (.aload_n 0, 1) := by decide +kernel
theorem dX12_beginsAlways_55 : decode cX12_beginsAlways 55 = .ok (.getfield 130, 3) := by decide +kernel
theorem dX12_beginsAlways_58 : decode cX12_beginsAlways 58 = .ok (.iload_n 2, 1) := by decide +kernel
theorem dX12_beginsAlways_59 : decode cX12_beginsAlways 59 = .ok (.iaload, 1) := by decide +kernel
theorem dX12_beginsAlways_60 : decode cX12_beginsAlways 60 = .ok (.invokevirtual 637, 3) := by decide +kernel
theorem dX12_beginsAlways_63 : decode cX12_beginsAlways 63 = .ok (.aload_n 0, 1) := by decide +kernel
theorem dX12_beginsAlways_64 : decode cX12_beginsAlways 64 = .ok (.iload_n 1, 1) := by decide +kernel
theorem dX12_beginsAlways_65 : decode cX12_beginsAlways 65 = .ok (.aload_n 0, 1) := by decide +kernel
theorem dX12_beginsAlways_66 : decode cX12_beginsAlways 66 = .ok (.getfield 124, 3) := by decide +kernel
theorem dX12_beginsAlways_69 : decode cX12_beginsAlways 69 = .ok (.iload_n 2, 1) := by decide +kernel
theorem dX12_beginsAlways_70 : decode cX12_beginsAlways 70 = .ok (.iaload, 1) := by decide +kernel
theorem dX12_beginsAlways_71 : decode cX12_beginsAlways 71 = .ok (.invokevirtual 666, 3) := by decide +kernel
theorem dX12_beginsAlways_74 : decode cX12_beginsAlways 74 = .ok (.return_, 1) := by decide +kernel
def wX12_beginsAlways_b40 (a0 : Nat) (x1 : Int32) (xn2 : Int32) (xt0 : Int32) (xt1 : Int32) (at2 : Nat)  (Sn : kp_S) (post : kp_S → Prop) : Prop :=
  vp_in xt1 (kp_N Sn at2) ∧ ∀ T1001 : kp_S, T1001 = kp_sA Sn at2 (upd (kp_A Sn at2) (xt1.toNatClampNeg) xt0) →
  ∀ T1002 : kp_S, T1002 = kp_sI T1001 2474 a0 ((kp_I T1001 2474 a0) + 1) →
  ∃ b1003 : Nat, kp_R T1002 2454 a0 = some b1003 ∧
  vp_in xn2 (kp_N T1002 b1003) ∧
  wX12_note a0 11 (kp_A T1002 b1003 xn2.toNatClampNeg) T1002 (fun T1004 =>
  ∃ b1005 : Nat, kp_R T1004 2452 a0 = some b1005 ∧
  vp_in xn2 (kp_N T1004 b1005) ∧
  wX12_goes a0 x1 (kp_A T1004 b1005 xn2.toNatClampNeg) T1004 (fun T1006 =>
  post T1006))
def wX12_beginsAlways (a0 : Nat) (x1 : Int32) (S : kp_S) (post : kp_S → Prop) : Prop :=
  ∃ b1 : Nat, kp_R S 2490 a0 = some b1 ∧
  vp_in x1 (kp_N S b1) ∧
  ∀ y2 : Int32, y2 = (kp_A S b1 x1.toNatClampNeg) →
  wX12_keepWay a0 x1 S (fun T3 =>
  ∃ b4 : Nat, kp_R T3 2489 a0 = some b4 ∧
  vp_in x1 (kp_N T3 b4) ∧ ∀ T5 : kp_S, T5 = kp_sA T3 b4 (upd (kp_A T3 b4) (x1.toNatClampNeg) 2) →
  ∃ b6 : Nat, kp_R T5 2491 a0 = some b6 ∧
  ((¬ (kp_I T5 2481 a0) = 4 →
  wX12_beginsAlways_b40 a0 x1 y2 0 x1 b6  T5 post) ∧ ((kp_I T5 2481 a0) = 4 →
  wX12_beginsAlways_b40 a0 x1 y2 (kp_I T5 2484 a0) x1 b6  T5 post)))
set_option maxHeartbeats 4000000 in
set_option maxRecDepth 100000 in
theorem c_X12_beginsAlways (l : Launch) (D : va_G) (cy : Nat → ClassId) (ad : (Nat → Nat) × (Nat → Nat)) (S : kp_S) (a0 : Nat) (x1 : Int32) (post : kp_S → Prop) (hS : kp_ok S) (f_a0 : kp_is S a0 12) (hw : wX12_beginsAlways a0 x1 S post) : kp_M l yX12_beginsAlways cX12_beginsAlways 3 none { frames := 1, cells := 0, slots := 0, locals := 22 } D cy ad S [.ref a0, .int x1] 0 0 (fun A => kp_Qv D cy A S post) := by
  refine kp_start (own := RX12) (by decide) rfl (Nat.le_of_ble_eq_true rfl) hS ?_
  intro p e s m below meth c A ls X hr hlocks hname h hl
  have hle : kp_le S S := kp_le.rf
  have hl : lv_has ls 3 [(0, .ref a0), (1, .int x1)] := hl
  have j40 : ∀ (xn2 : Int32) (xt0 : Int32) (xt1 : Int32) (at2 : Nat) (Sn : kp_S) (H : Heap) (locs : List Loc) (ls : Array Slot), lv_has ls 3 [(0, .ref a0), (1, .int x1), (2, .int xn2)] → kp_H D cy A Sn s.heap H locs → kp_le S Sn → kp_is Sn a0 12 → kp_is Sn at2 14 → wX12_beginsAlways_b40 a0 x1 xn2 xt0 xt1 at2  Sn post → W p l e { frames := 1, cells := 0, slots := 0, locals := 22 } s m ([.ref a0, .int x1] : List Value).toArray below meth c H locs 0 0 (MQ below (kp_Qv D cy A S post) ([.ref a0, .int x1] : List Value).toArray s 0 0 A) (F0 m 40 ls [.int xt0, .int xt1, .ref at2]) := by
    intro xn2 xt0 xt1 at2 Sn H locs ls hl h hle f_a0 f_at2 hw
    unfold wX12_beginsAlways_b40 at hw
    obtain ⟨hi, hw⟩ := hw
    refine kp_iast X h f_at2 hi dX12_beginsAlways_40 (fun T1001 e_T1001 l_T1001 H locs h => ?_)
    have hw := hw T1001 e_T1001
    have f_a0 := l_T1001.is f_a0
    have f_at2 := l_T1001.is f_at2
    have hle := hle.tr l_T1001
    refine lv_aload_n X.1 X.2.1 dX12_beginsAlways_41 rfl (lv_at hl 0 rfl) ?_
    refine lv_dup X.1 X.2.1 dX12_beginsAlways_42 rfl ?_
    refine kp_get X h f_a0 fp_12_678.l (v := .int (kp_I T1001 2474 a0)) rfl dX12_beginsAlways_43 ?_
    refine lv_iconst (v := 1) X.1 X.2.1 dX12_beginsAlways_46 (by decide) ?_
    refine lv_iadd X.1 X.2.1 dX12_beginsAlways_47 ?_
    refine kp_putI X h f_a0 fp_12_678 rfl ⟨rfl, rfl⟩ dX12_beginsAlways_48 (fun T1002 e_T1002 l_T1002 H locs h => ?_)
    have hw := hw T1002 e_T1002
    have f_a0 := l_T1002.is f_a0
    have f_at2 := l_T1002.is f_at2
    have hle := hle.tr l_T1002
    refine lv_aload_n X.1 X.2.1 dX12_beginsAlways_51 rfl (lv_at hl 0 rfl) ?_
    refine lv_bipush (v := 11) X.1 X.2.1 dX12_beginsAlways_52 (by decide) ?_
    refine lv_aload_n X.1 X.2.1 dX12_beginsAlways_54 rfl (lv_at hl 0 rfl) ?_
    obtain ⟨b1003, e_b1003, hw⟩ := hw
    have f_b1003 := h.2.2.2.rf (c := 12) (k := 54) f_a0 (by decide) (by decide) e_b1003 (t := 14) rfl
    refine kp_get X h f_a0 ff_12_130.l (v := .ref b1003) (congrArg va_rf e_b1003) dX12_beginsAlways_55 ?_
    refine lv_iload_n X.1 X.2.1 dX12_beginsAlways_58 rfl (lv_at hl 2 rfl) ?_
    obtain ⟨hi, hw⟩ := hw
    refine kp_iald X h f_b1003 hi dX12_beginsAlways_59 ?_
    refine kp_callv X h (kp_runV (rm := { frames := 0, cells := 0, slots := 0, locals := 0 }) (mc := 0) (ms := 0) (rest := []) (Qc := fun A => kp_Qv D cy A T1002 _) X h (c_X12_note l D cy ad T1002 a0 11 (kp_A T1002 b1003 xn2.toNatClampNeg) _ h.2.2.2 f_a0 hw) f_a0 cv_12_637 ⟨by decide, by decide, rfl, rfl, by decide, by decide⟩ rfl hl.1 rfl (Nat.le_of_ble_eq_true rfl) dX12_beginsAlways_60) (fun T1004 hw l_T1004 H locs h => ?_)
    have f_a0 := l_T1004.is f_a0
    have f_at2 := l_T1004.is f_at2
    have f_b1003 := l_T1004.is f_b1003
    have hle := hle.tr l_T1004
    refine lv_aload_n X.1 X.2.1 dX12_beginsAlways_63 rfl (lv_at hl 0 rfl) ?_
    refine lv_iload_n X.1 X.2.1 dX12_beginsAlways_64 rfl (lv_at hl 1 rfl) ?_
    refine lv_aload_n X.1 X.2.1 dX12_beginsAlways_65 rfl (lv_at hl 0 rfl) ?_
    obtain ⟨b1005, e_b1005, hw⟩ := hw
    have f_b1005 := h.2.2.2.rf (c := 12) (k := 52) f_a0 (by decide) (by decide) e_b1005 (t := 14) rfl
    refine kp_get X h f_a0 ff_12_124.l (v := .ref b1005) (congrArg va_rf e_b1005) dX12_beginsAlways_66 ?_
    refine lv_iload_n X.1 X.2.1 dX12_beginsAlways_69 rfl (lv_at hl 2 rfl) ?_
    obtain ⟨hi, hw⟩ := hw
    refine kp_iald X h f_b1005 hi dX12_beginsAlways_70 ?_
    refine kp_callv X h (kp_runV (rm := { frames := 0, cells := 0, slots := 0, locals := 0 }) (mc := 0) (ms := 0) (rest := []) (Qc := fun A => kp_Qv D cy A T1004 _) X h (c_X12_goes l D cy ad T1004 a0 x1 (kp_A T1004 b1005 xn2.toNatClampNeg) _ h.2.2.2 f_a0 hw) f_a0 cv_12_666 ⟨by decide, by decide, rfl, rfl, by decide, by decide⟩ rfl hl.1 rfl (Nat.le_of_ble_eq_true rfl) dX12_beginsAlways_71) (fun T1006 hw l_T1006 H locs h => ?_)
    have f_a0 := l_T1006.is f_a0
    have f_at2 := l_T1006.is f_at2
    have f_b1003 := l_T1006.is f_b1003
    have f_b1005 := l_T1006.is f_b1005
    have hle := hle.tr l_T1006
    exact kp_retv X hr hlocks h hle hw dX12_beginsAlways_74
  unfold wX12_beginsAlways at hw
  have h : kp_H D cy A S s.heap s.heap [] := h
  revert h
  intro h
  refine lv_aload_n X.1 X.2.1 dX12_beginsAlways_0 rfl (lv_at hl 0 rfl) ?_
  obtain ⟨b1, e_b1, hw⟩ := hw
  have f_b1 := h.2.2.2.rf (c := 12) (k := 90) f_a0 (by decide) (by decide) e_b1 (t := 14) rfl
  refine kp_get X h f_a0 ff_12_182.l (v := .ref b1) (congrArg va_rf e_b1) dX12_beginsAlways_1 ?_
  refine lv_iload_n X.1 X.2.1 dX12_beginsAlways_4 rfl (lv_at hl 1 rfl) ?_
  obtain ⟨hi, hw⟩ := hw
  refine kp_iald X h f_b1 hi dX12_beginsAlways_5 ?_
  refine lv_topi (fun y2 e_y2 => ?_)
  have hw := hw y2 e_y2
  refine lv_istore_n (lv' := [(2, .int y2), (0, .ref a0), (1, .int x1)]) X.1 X.2.1 dX12_beginsAlways_6 rfl hl (by decide) rfl (fun ls hl => ?_)
  refine lv_aload_n X.1 X.2.1 dX12_beginsAlways_7 rfl (lv_at hl 1 rfl) ?_
  refine lv_iload_n X.1 X.2.1 dX12_beginsAlways_8 rfl (lv_at hl 2 rfl) ?_
  refine kp_callv X h (kp_runV (rm := { frames := 0, cells := 0, slots := 0, locals := 0 }) (mc := 0) (ms := 0) (rest := []) (Qc := fun A => kp_Qv D cy A S _) X h (c_X12_keepWay l D cy ad S a0 x1 _ h.2.2.2 f_a0 hw) f_a0 cv_12_675 ⟨by decide, by decide, rfl, rfl, by decide, by decide⟩ rfl hl.1 rfl (Nat.le_of_ble_eq_true rfl) dX12_beginsAlways_9) (fun T3 hw l_T3 H locs h => ?_)
  have f_a0 := l_T3.is f_a0
  have f_b1 := l_T3.is f_b1
  have hle := hle.tr l_T3
  refine lv_aload_n X.1 X.2.1 dX12_beginsAlways_12 rfl (lv_at hl 1 rfl) ?_
  obtain ⟨b4, e_b4, hw⟩ := hw
  have f_b4 := h.2.2.2.rf (c := 12) (k := 89) f_a0 (by decide) (by decide) e_b4 (t := 14) rfl
  refine kp_get X h f_a0 ff_12_179.l (v := .ref b4) (congrArg va_rf e_b4) dX12_beginsAlways_13 ?_
  refine lv_iload_n X.1 X.2.1 dX12_beginsAlways_16 rfl (lv_at hl 2 rfl) ?_
  refine lv_iconst (v := 2) X.1 X.2.1 dX12_beginsAlways_17 (by decide) ?_
  obtain ⟨hi, hw⟩ := hw
  refine kp_iast X h f_b4 hi dX12_beginsAlways_18 (fun T5 e_T5 l_T5 H locs h => ?_)
  have hw := hw T5 e_T5
  have f_a0 := l_T5.is f_a0
  have f_b1 := l_T5.is f_b1
  have f_b4 := l_T5.is f_b4
  have hle := hle.tr l_T5
  have e_b4 : kp_R T5 2489 a0 = some b4 := by rw [e_T5]; exact e_b4
  refine lv_aload_n X.1 X.2.1 dX12_beginsAlways_19 rfl (lv_at hl 1 rfl) ?_
  obtain ⟨b6, e_b6, hw⟩ := hw
  have f_b6 := h.2.2.2.rf (c := 12) (k := 91) f_a0 (by decide) (by decide) e_b6 (t := 14) rfl
  refine kp_get X h f_a0 ff_12_185.l (v := .ref b6) (congrArg va_rf e_b6) dX12_beginsAlways_20 ?_
  refine lv_iload_n X.1 X.2.1 dX12_beginsAlways_23 rfl (lv_at hl 2 rfl) ?_
  refine lv_aload_n X.1 X.2.1 dX12_beginsAlways_24 rfl (lv_at hl 1 rfl) ?_
  refine kp_get X h f_a0 fp_12_616.l (v := .int (kp_I T5 2481 a0)) rfl dX12_beginsAlways_25 ?_
  refine lv_iconst (v := 4) X.1 X.2.1 dX12_beginsAlways_28 (by decide) ?_
  refine lv_icmp_ne (tgt := 39) X.1 X.2.1 dX12_beginsAlways_29 (by decide) (fun c7 => ?_) (fun c7 => ?_)
  · have hw := hw.1 c7
    refine lv_iconst (v := 0) X.1 X.2.1 dX12_beginsAlways_39 (by decide) ?_
    exact j40 y2 0 x1 b6 T5 _ _ ls (lv_sub hl [1, 2, 0] rfl) h hle f_a0 f_b6 hw
  · have hw := hw.2 c7
    refine lv_aload_n X.1 X.2.1 dX12_beginsAlways_32 rfl (lv_at hl 1 rfl) ?_
    refine kp_get X h f_a0 fp_12_625.l (v := .int (kp_I T5 2484 a0)) rfl dX12_beginsAlways_33 ?_
    refine lv_goto (tgt := 40) X.1 X.2.1 dX12_beginsAlways_36 (by decide) ?_
    exact j40 y2 (kp_I T5 2484 a0) x1 b6 T5 _ _ ls (lv_sub hl [1, 2, 0] rfl) h hle f_a0 f_b6 hw
theorem dX12_endsAlways_0 : decode cX12_endsAlways 0 = .ok (.aload_n 0, 1) := by decide +kernel
theorem dX12_endsAlways_1 : decode cX12_endsAlways 1 = .ok (.getfield 616, 3) := by decide +kernel
theorem dX12_endsAlways_4 : decode cX12_endsAlways 4 = .ok (.ifCond .ne 11, 3) := by decide +kernel
theorem dX12_endsAlways_7 : decode cX12_endsAlways 7 = .ok (.aload_n 0, 1) := by decide +kernel
theorem dX12_endsAlways_8 : decode cX12_endsAlways 8 = .ok (.iload_n 1, 1) := by decide +kernel
theorem dX12_endsAlways_9 : decode cX12_endsAlways 9 = .ok (.invokevirtual 681, 3) := by decide +kernel
theorem dX12_endsAlways_12 : decode cX12_endsAlways 12 = .ok (.goto 8, 3) := by decide +kernel
theorem dX12_endsAlways_15 : decode cX12_endsAlways 15 = .ok (.aload_n 0, 1) := by decide +kernel
theorem dX12_endsAlways_16 : decode cX12_endsAlways 16 = .ok (.iload_n 1, 1) := by decide +kernel
theorem dX12_endsAlways_17 : decode cX12_endsAlways 17 = .ok (.invokevirtual 684, 3) := by decide +kernel
theorem dX12_endsAlways_20 : decode cX12_endsAlways 20 = .ok (.aload_n 0, 1) := by decide +kernel
theorem dX12_endsAlways_21 : decode cX12_endsAlways 21 = .ok (.getfield 185, 3) := by decide +kernel
theorem dX12_endsAlways_24 : decode cX12_endsAlways 24 = .ok (.iload_n 1, 1) := by decide +kernel
theorem dX12_endsAlways_25 : decode cX12_endsAlways 25 = .ok (.iconst 0, 1) := by decide +kernel
theorem dX12_endsAlways_26 : decode cX12_endsAlways 26 = .ok (.iastore, 1) := by decide +kernel
theorem dX12_endsAlways_27 : decode cX12_endsAlways 27 = .ok (.return_, 1) := by decide +kernel
def wX12_endsAlways_b20 (a0 : Nat) (x1 : Int32)  (Sn : kp_S) (post : kp_S → Prop) : Prop :=
  ∃ b1001 : Nat, kp_R Sn 2491 a0 = some b1001 ∧
  vp_in x1 (kp_N Sn b1001) ∧ ∀ T1002 : kp_S, T1002 = kp_sA Sn b1001 (upd (kp_A Sn b1001) (x1.toNatClampNeg) 0) →
  post T1002
def wX12_endsAlways (a0 : Nat) (x1 : Int32) (S : kp_S) (post : kp_S → Prop) : Prop :=
  ((¬ (kp_I S 2481 a0) = 0 →
  wX12_loses a0 x1 S (fun T1 =>
  wX12_endsAlways_b20 a0 x1   T1 post)) ∧ ((kp_I S 2481 a0) = 0 →
  wX12_takeWay a0 x1 S (fun T2 =>
  wX12_endsAlways_b20 a0 x1   T2 post)))
set_option maxHeartbeats 4000000 in
set_option maxRecDepth 100000 in
theorem c_X12_endsAlways (l : Launch) (D : va_G) (cy : Nat → ClassId) (ad : (Nat → Nat) × (Nat → Nat)) (S : kp_S) (a0 : Nat) (x1 : Int32) (post : kp_S → Prop) (hS : kp_ok S) (f_a0 : kp_is S a0 12) (hw : wX12_endsAlways a0 x1 S post) : kp_M l yX12_endsAlways cX12_endsAlways 2 none { frames := 2, cells := 0, slots := 0, locals := 43 } D cy ad S [.ref a0, .int x1] 0 0 (fun A => kp_Qv D cy A S post) := by
  refine kp_start (own := RX12) (by decide) rfl (Nat.le_of_ble_eq_true rfl) hS ?_
  intro p e s m below meth c A ls X hr hlocks hname h hl
  have hle : kp_le S S := kp_le.rf
  have hl : lv_has ls 2 [(0, .ref a0), (1, .int x1)] := hl
  have j20 : ∀  (Sn : kp_S) (H : Heap) (locs : List Loc) (ls : Array Slot), lv_has ls 2 [(0, .ref a0), (1, .int x1)] → kp_H D cy A Sn s.heap H locs → kp_le S Sn → kp_is Sn a0 12 → wX12_endsAlways_b20 a0 x1   Sn post → W p l e { frames := 2, cells := 0, slots := 0, locals := 43 } s m ([.ref a0, .int x1] : List Value).toArray below meth c H locs 0 0 (MQ below (kp_Qv D cy A S post) ([.ref a0, .int x1] : List Value).toArray s 0 0 A) (F0 m 20 ls []) := by
    intro  Sn H locs ls hl h hle f_a0 hw
    unfold wX12_endsAlways_b20 at hw
    refine lv_aload_n X.1 X.2.1 dX12_endsAlways_20 rfl (lv_at hl 0 rfl) ?_
    obtain ⟨b1001, e_b1001, hw⟩ := hw
    have f_b1001 := h.2.2.2.rf (c := 12) (k := 91) f_a0 (by decide) (by decide) e_b1001 (t := 14) rfl
    refine kp_get X h f_a0 ff_12_185.l (v := .ref b1001) (congrArg va_rf e_b1001) dX12_endsAlways_21 ?_
    refine lv_iload_n X.1 X.2.1 dX12_endsAlways_24 rfl (lv_at hl 1 rfl) ?_
    refine lv_iconst (v := 0) X.1 X.2.1 dX12_endsAlways_25 (by decide) ?_
    obtain ⟨hi, hw⟩ := hw
    refine kp_iast X h f_b1001 hi dX12_endsAlways_26 (fun T1002 e_T1002 l_T1002 H locs h => ?_)
    have hw := hw T1002 e_T1002
    have f_a0 := l_T1002.is f_a0
    have f_b1001 := l_T1002.is f_b1001
    have hle := hle.tr l_T1002
    have e_b1001 : kp_R T1002 2491 a0 = some b1001 := by rw [e_T1002]; exact e_b1001
    exact kp_retv X hr hlocks h hle hw dX12_endsAlways_27
  unfold wX12_endsAlways at hw
  have h : kp_H D cy A S s.heap s.heap [] := h
  revert h
  intro h
  refine lv_aload_n X.1 X.2.1 dX12_endsAlways_0 rfl (lv_at hl 0 rfl) ?_
  refine kp_get X h f_a0 fp_12_616.l (v := .int (kp_I S 2481 a0)) rfl dX12_endsAlways_1 ?_
  refine lv_if_ne (tgt := 15) X.1 X.2.1 dX12_endsAlways_4 (by decide) (fun c3 => ?_) (fun c3 => ?_)
  · have hw := hw.1 c3
    refine lv_aload_n X.1 X.2.1 dX12_endsAlways_15 rfl (lv_at hl 0 rfl) ?_
    refine lv_iload_n X.1 X.2.1 dX12_endsAlways_16 rfl (lv_at hl 1 rfl) ?_
    refine kp_callv X h (kp_runV (rm := { frames := 1, cells := 0, slots := 0, locals := 22 }) (mc := 0) (ms := 0) (rest := []) (Qc := fun A => kp_Qv D cy A S _) X h (c_X12_loses l D cy ad S a0 x1 _ h.2.2.2 f_a0 hw) f_a0 cv_12_684 ⟨by decide, by decide, rfl, rfl, by decide, by decide⟩ rfl hl.1 rfl (Nat.le_of_ble_eq_true rfl) dX12_endsAlways_17) (fun T1 hw l_T1 H locs h => ?_)
    have f_a0 := l_T1.is f_a0
    have hle := hle.tr l_T1
    exact j20  T1 _ _ ls (lv_sub hl [0, 1] rfl) h hle f_a0 hw
  · have hw := hw.2 c3
    refine lv_aload_n X.1 X.2.1 dX12_endsAlways_7 rfl (lv_at hl 0 rfl) ?_
    refine lv_iload_n X.1 X.2.1 dX12_endsAlways_8 rfl (lv_at hl 1 rfl) ?_
    refine kp_callv X h (kp_runV (rm := { frames := 0, cells := 0, slots := 0, locals := 0 }) (mc := 0) (ms := 0) (rest := []) (Qc := fun A => kp_Qv D cy A S _) X h (c_X12_takeWay l D cy ad S a0 x1 _ h.2.2.2 f_a0 hw) f_a0 cv_12_681 ⟨by decide, by decide, rfl, rfl, by decide, by decide⟩ rfl hl.1 rfl (Nat.le_of_ble_eq_true rfl) dX12_endsAlways_9) (fun T2 hw l_T2 H locs h => ?_)
    have f_a0 := l_T2.is f_a0
    have hle := hle.tr l_T2
    refine lv_goto (tgt := 20) X.1 X.2.1 dX12_endsAlways_12 (by decide) ?_
    exact j20  T2 _ _ ls (lv_sub hl [0, 1] rfl) h hle f_a0 hw
theorem dX12_leavesLoop_0 : decode cX12_leavesLoop 0 = .ok (.aload_n 0, 1) := by decide +kernel
theorem dX12_leavesLoop_1 : decode cX12_leavesLoop 1 = .ok (.getfield 182, 3) := by decide +kernel
theorem dX12_leavesLoop_4 : decode cX12_leavesLoop 4 = .ok (.iload_n 1, 1) := by decide +kernel
theorem dX12_leavesLoop_5 : decode cX12_leavesLoop 5 = .ok (.iaload, 1) := by decide +kernel
theorem dX12_leavesLoop_6 : decode cX12_leavesLoop 6 = .ok (.istore_n 2, 1) := by decide +kernel
theorem dX12_leavesLoop_7 : decode cX12_leavesLoop 7 = .ok (.aload_n 0, 1) := by decide +kernel
theorem dX12_leavesLoop_8 : decode cX12_leavesLoop 8 = .ok (.getfield 179, 3) := by decide +kernel
theorem dX12_leavesLoop_11 : decode cX12_leavesLoop 11 = .ok (.iload_n 1, 1) := by decide +kernel
theorem dX12_leavesLoop_12 : decode cX12_leavesLoop 12 = .ok (.iaload, 1) := by decide +kernel
theorem dX12_leavesLoop_13 : decode cX12_leavesLoop 13 = .ok (.ifCond .ne 15, 3) := by decide +kernel
theorem dX12_leavesLoop_16 : decode cX12_leavesLoop 16 = .ok (.aload_n 0, 1) := by decide +kernel
theorem dX12_leavesLoop_17 : decode cX12_leavesLoop 17 = .ok (.iload_n 1, 1) := by decide +kernel
theorem dX12_leavesLoop_18 : decode cX12_leavesLoop 18 = .ok (.aload_n 0, 1) := by decide +kernel
theorem dX12_leavesLoop_19 : decode cX12_leavesLoop 19 = .ok (.getfield 127, 3) := by decide +kernel
theorem dX12_leavesLoop_22 : decode cX12_leavesLoop 22 = .ok (.iload_n 2, 1) := by decide +kernel
theorem dX12_leavesLoop_23 : decode cX12_leavesLoop 23 = .ok (.iaload, 1) := by decide +kernel
theorem dX12_leavesLoop_24 : decode cX12_leavesLoop 24 = .ok (.invokevirtual 672, 3) := by decide +kernel
theorem dX12_leavesLoop_27 : decode cX12_leavesLoop 27 = .ok (.ireturn, 1) := by decide +kernel
theorem dX12_leavesLoop_28 : decode cX12_leavesLoop 28 = .ok (.aload_n 0, 1) := by decide +kernel
theorem dX12_leavesLoop_29 : decode cX12_leavesLoop 29 = .ok (.getfield 179, 3) := by decide +kernel
theorem dX12_leavesLoop_32 : decode cX12_leavesLoop 32 = .ok (.iload_n 1, 1) := by decide +kernel
theorem dX12_leavesLoop_33 : decode cX12_leavesLoop 33 = .ok (.iaload, 1) := by decide +kernel
theorem dX12_leavesLoop_34 : decode cX12_leavesLoop 34 = .ok (.iconst 1, 1) := by decide +kernel
theorem dX12_leavesLoop_35 : decode cX12_leavesLoop 35 = .ok (.if_icmp .ne 20, 3) := by decide +kernel
theorem dX12_leavesLoop_38 : decode cX12_leavesLoop 38 = .ok (.aload_n 0, 1) := by decide +kernel
theorem dX12_leavesLoop_39 : decode cX12_leavesLoop 39 = .ok (.getfield 124, 3) := by decide +kernel
theorem dX12_leavesLoop_42 : decode cX12_leavesLoop 42 = .ok (.iload_n 2, 1) := by decide +kernel
theorem dX12_leavesLoop_43 : decode cX12_leavesLoop 43 = .ok (.iaload, 1) := by decide +kernel
theorem dX12_leavesLoop_44 : decode cX12_leavesLoop 44 = .ok (.iconst (-1), 1) := by decide +kernel
theorem dX12_leavesLoop_45 : decode cX12_leavesLoop 45 = .ok (.if_icmp .eq 10, 3) := by decide +kernel
theorem dX12_leavesLoop_48 : decode cX12_leavesLoop 48 = .ok (.aload_n 0, 1) := by decide +kernel
theorem dX12_leavesLoop_49 : decode cX12_leavesLoop 49 = .ok (.iload_n 1, 1) := by decide +kernel
theorem dX12_leavesLoop_50 : decode cX12_leavesLoop 50 = .ok (.invokevirtual 687, 3) := by decide +kernel
theorem dX12_leavesLoop_53 : decode cX12_leavesLoop 53 = .ok (.iconst 0, 1) := by decide +kernel
theorem dX12_leavesLoop_54 : decode cX12_leavesLoop 54 = .ok (.ireturn, 1) := by decide +kernel
theorem dX12_leavesLoop_55 : decode cX12_leavesLoop 55 = .ok (.aload_n 0, 1) := by decide +kernel
theorem dX12_leavesLoop_56 : decode cX12_leavesLoop 56 = .ok (.getfield 179, 3) := by decide +kernel
theorem dX12_leavesLoop_59 : decode cX12_leavesLoop 59 = .ok (.iload_n 1, 1) := by decide +kernel
theorem dX12_leavesLoop_60 : decode cX12_leavesLoop 60 = .ok (.iaload, 1) := by decide +kernel
theorem dX12_leavesLoop_61 : decode cX12_leavesLoop 61 = .ok (.iconst 2, 1) := by decide +kernel
theorem dX12_leavesLoop_62 : decode cX12_leavesLoop 62 = .ok (.if_icmp .ne 8, 3) := by decide +kernel
theorem dX12_leavesLoop_65 : decode cX12_leavesLoop 65 = .ok (.aload_n 0, 1) := by decide +kernel
theorem dX12_leavesLoop_66 : decode cX12_leavesLoop 66 = .ok (.iload_n 1, 1) := by decide +kernel
theorem dX12_leavesLoop_67 : decode cX12_leavesLoop 67 = .ok (.invokevirtual 690, 3) := by decide +kernel
theorem dX12_leavesLoop_70 : decode cX12_leavesLoop 70 = .ok (.aload_n 0, 1) := by decide +kernel
theorem dX12_leavesLoop_71 : decode cX12_leavesLoop 71 = .ok (.getfield 616, 3) := by decide +kernel
theorem dX12_leavesLoop_74 : decode cX12_leavesLoop 74 = .ok (.ifCond .eq 19, 3) := by decide +kernel
theorem dX12_leavesLoop_77 : decode cX12_leavesLoop 77 = .ok (.aload_n 0, 1) := by decide +kernel
theorem dX12_leavesLoop_78 : decode cX12_leavesLoop 78 = .ok (.getfield 616, 3) := by decide +kernel
theorem dX12_leavesLoop_81 : decode cX12_leavesLoop 81 = .ok (.iconst 2, 1) := by decide +kernel
theorem dX12_leavesLoop_82 : decode cX12_leavesLoop 82 = .ok (.if_icmp .ne 31, 3) := by decide +kernel
theorem dX12_leavesLoop_85 : decode cX12_leavesLoop 85 = .ok (.aload_n 0, 1) := by decide +kernel
theorem dX12_leavesLoop_86 : decode cX12_leavesLoop 86 = .ok (.getfield 619, 3) := by decide +kernel
theorem dX12_leavesLoop_89 : decode cX12_leavesLoop 89 = .ok (.iload_n 2, 1) := by decide +kernel
theorem dX12_leavesLoop_90 : decode cX12_leavesLoop 90 = .ok (.if_icmp .ne 23, 3) := by decide +kernel
theorem dX12_leavesLoop_93 : decode cX12_leavesLoop 93 = .ok (.aload_n 0, 1) := by decide +kernel
theorem dX12_leavesLoop_94 : decode cX12_leavesLoop 94 = .ok (.getfield 179, 3) := by decide +kernel
theorem dX12_leavesLoop_97 : decode cX12_leavesLoop 97 = .ok (.iload_n 1, 1) := by decide +kernel
theorem dX12_leavesLoop_98 : decode cX12_leavesLoop 98 = .ok (.iconst 0, 1) := by decide +kernel
theorem dX12_leavesLoop_99 : decode cX12_leavesLoop 99 = .ok (.iastore, 1) := by decide +kernel
theorem dX12_leavesLoop_100 : decode cX12_leavesLoop 100 = .ok (.aload_n 0, 1) := by decide +kernel
theorem dX12_leavesLoop_101 : decode cX12_leavesLoop 101 = .ok (.iload_n 1, 1) := by decide +kernel
theorem dX12_leavesLoop_102 : decode cX12_leavesLoop 102 = .ok (.aload_n 0, 1) := by decide +kernel
theorem dX12_leavesLoop_103 : decode cX12_leavesLoop 103 = .ok (.getfield 121, 3) := by decide +kernel
theorem dX12_leavesLoop_106 : decode cX12_leavesLoop 106 = .ok (.iload_n 2, 1) := by decide +kernel
theorem dX12_leavesLoop_107 : decode cX12_leavesLoop 107 = .ok (.iaload, 1) := by decide +kernel
theorem dX12_leavesLoop_108 : decode cX12_leavesLoop 108 = .ok (.invokevirtual 666, 3) := by decide +kernel
theorem dX12_leavesLoop_111 : decode cX12_leavesLoop 111 = .ok (.iconst 0, 1) := by decide +kernel
theorem dX12_leavesLoop_112 : decode cX12_leavesLoop 112 = .ok (.ireturn, 1) := by decide +kernel
theorem dX12_leavesLoop_113 : decode cX12_leavesLoop 113 = .ok (.aload_n 0, 1) := by decide +kernel
theorem dX12_leavesLoop_114 : decode cX12_leavesLoop 114 = .ok (.getfield 616, 3) := by decide +kernel
theorem dX12_leavesLoop_117 : decode cX12_leavesLoop 117 = .ok (.iconst 1, 1) := by decide +kernel
theorem dX12_leavesLoop_118 : decode cX12_leavesLoop 118 = .ok (.if_icmp .ne 16, 3) := by decide +kernel
theorem dX12_leavesLoop_121 : decode cX12_leavesLoop 121 = .ok (.aload_n 0, 1) := by decide +kernel
theorem dX12_leavesLoop_122 : decode cX12_leavesLoop 122 = .ok (.getfield 619, 3) := by decide +kernel
theorem dX12_leavesLoop_125 : decode cX12_leavesLoop 125 = .ok (.iload_n 2, 1) := by decide +kernel
theorem dX12_leavesLoop_126 : decode cX12_leavesLoop 126 = .ok (.if_icmp .ne 8, 3) := by decide +kernel
theorem dX12_leavesLoop_129 : decode cX12_leavesLoop 129 = .ok (.aload_n 0, 1) := by decide +kernel
theorem dX12_leavesLoop_130 : decode cX12_leavesLoop 130 = .ok (.iconst 0, 1) := by decide +kernel
theorem dX12_leavesLoop_131 : decode cX12_leavesLoop 131 = .ok (.putfield 616, 3) := by decide +kernel
theorem dX12_leavesLoop_134 : decode cX12_leavesLoop 134 = .ok (.aload_n 0, 1) := by decide +kernel
theorem dX12_leavesLoop_135 : decode cX12_leavesLoop 135 = .ok (.iload_n 1, 1) := by decide +kernel
theorem dX12_leavesLoop_136 : decode cX12_leavesLoop 136 = .ok (.aload_n 0, 1) := by decide +kernel
theorem dX12_leavesLoop_137 : decode cX12_leavesLoop 137 = .ok (.getfield 127, 3) := by decide +kernel
theorem dX12_leavesLoop_140 : decode cX12_leavesLoop 140 = .ok (.iload_n 2, 1) := by decide +kernel
theorem dX12_leavesLoop_141 : decode cX12_leavesLoop 141 = .ok (.iaload, 1) := by decide +kernel
theorem dX12_leavesLoop_142 : decode cX12_leavesLoop 142 = .ok (.invokevirtual 672, 3) := by decide +kernel
theorem dX12_leavesLoop_145 : decode cX12_leavesLoop 145 = .ok (.ireturn, 1) := by decide +kernel
def wX12_leavesLoop_b93 (a0 : Nat) (x1 : Int32) (xn2 : Int32)  (Sn : kp_S) (post : Int32 → kp_S → Prop) : Prop :=
  ∃ b1001 : Nat, kp_R Sn 2489 a0 = some b1001 ∧
  vp_in x1 (kp_N Sn b1001) ∧ ∀ T1002 : kp_S, T1002 = kp_sA Sn b1001 (upd (kp_A Sn b1001) (x1.toNatClampNeg) 0) →
  ∃ b1003 : Nat, kp_R T1002 2451 a0 = some b1003 ∧
  vp_in xn2 (kp_N T1002 b1003) ∧
  wX12_goes a0 x1 (kp_A T1002 b1003 xn2.toNatClampNeg) T1002 (fun T1004 =>
  post 0 T1004)
def wX12_leavesLoop_b134 (a0 : Nat) (x1 : Int32) (xn2 : Int32)  (Sn : kp_S) (post : Int32 → kp_S → Prop) : Prop :=
  ∃ b2001 : Nat, kp_R Sn 2453 a0 = some b2001 ∧
  vp_in xn2 (kp_N Sn b2001) ∧
  wX12_closes a0 x1 (kp_A Sn b2001 xn2.toNatClampNeg) Sn (fun y2003 T2002 =>
  kp_b y2003 ∧ post y2003 T2002)
def wX12_leavesLoop_b113 (a0 : Nat) (x1 : Int32) (xn2 : Int32)  (Sn : kp_S) (post : Int32 → kp_S → Prop) : Prop :=
  ((¬ (kp_I Sn 2481 a0) = 1 →
  wX12_leavesLoop_b134 a0 x1 xn2  Sn post) ∧ ((kp_I Sn 2481 a0) = 1 →
  ((¬ (kp_I Sn 2482 a0) = xn2 →
  wX12_leavesLoop_b134 a0 x1 xn2  Sn post) ∧ ((kp_I Sn 2482 a0) = xn2 →
  ∀ T3001 : kp_S, T3001 = kp_sI Sn 2481 a0 0 →
  wX12_leavesLoop_b134 a0 x1 xn2  T3001 post))))
def wX12_leavesLoop_b70 (a0 : Nat) (x1 : Int32) (xn2 : Int32)  (Sn : kp_S) (post : Int32 → kp_S → Prop) : Prop :=
  (((kp_I Sn 2481 a0) = 0 →
  wX12_leavesLoop_b93 a0 x1 xn2  Sn post) ∧ (¬ (kp_I Sn 2481 a0) = 0 →
  ((¬ (kp_I Sn 2481 a0) = 2 →
  wX12_leavesLoop_b113 a0 x1 xn2  Sn post) ∧ ((kp_I Sn 2481 a0) = 2 →
  ((¬ (kp_I Sn 2482 a0) = xn2 →
  wX12_leavesLoop_b113 a0 x1 xn2  Sn post) ∧ ((kp_I Sn 2482 a0) = xn2 →
  wX12_leavesLoop_b93 a0 x1 xn2  Sn post))))))
def wX12_leavesLoop_b55 (a0 : Nat) (x1 : Int32) (xn2 : Int32)  (Sn : kp_S) (post : Int32 → kp_S → Prop) : Prop :=
  ∃ b5001 : Nat, kp_R Sn 2489 a0 = some b5001 ∧
  vp_in x1 (kp_N Sn b5001) ∧
  ((¬ (kp_A Sn b5001 x1.toNatClampNeg) = 2 →
  wX12_leavesLoop_b70 a0 x1 xn2  Sn post) ∧ ((kp_A Sn b5001 x1.toNatClampNeg) = 2 →
  wX12_endsAlways a0 x1 Sn (fun T5002 =>
  wX12_leavesLoop_b70 a0 x1 xn2  T5002 post)))
def wX12_leavesLoop (a0 : Nat) (x1 : Int32) (S : kp_S) (post : Int32 → kp_S → Prop) : Prop :=
  ∃ b1 : Nat, kp_R S 2490 a0 = some b1 ∧
  vp_in x1 (kp_N S b1) ∧
  ∀ y2 : Int32, y2 = (kp_A S b1 x1.toNatClampNeg) →
  ∃ b3 : Nat, kp_R S 2489 a0 = some b3 ∧
  vp_in x1 (kp_N S b3) ∧
  ((¬ (kp_A S b3 x1.toNatClampNeg) = 0 →
  vp_in x1 (kp_N S b3) ∧
  ((¬ (kp_A S b3 x1.toNatClampNeg) = 1 →
  wX12_leavesLoop_b55 a0 x1 y2  S post) ∧ ((kp_A S b3 x1.toNatClampNeg) = 1 →
  ∃ b4 : Nat, kp_R S 2452 a0 = some b4 ∧
  vp_in y2 (kp_N S b4) ∧
  (((kp_A S b4 y2.toNatClampNeg) = (-1) →
  wX12_leavesLoop_b55 a0 x1 y2  S post) ∧ (¬ (kp_A S b4 y2.toNatClampNeg) = (-1) →
  wX12_beginsAlways a0 x1 S (fun T5 =>
  post 0 T5)))))) ∧ ((kp_A S b3 x1.toNatClampNeg) = 0 →
  ∃ b8 : Nat, kp_R S 2453 a0 = some b8 ∧
  vp_in y2 (kp_N S b8) ∧
  wX12_closes a0 x1 (kp_A S b8 y2.toNatClampNeg) S (fun y10 T9 =>
  kp_b y10 ∧ post y10 T9)))
set_option maxHeartbeats 4000000 in
set_option maxRecDepth 100000 in
theorem c_X12_leavesLoop (l : Launch) (D : va_G) (cy : Nat → ClassId) (ad : (Nat → Nat) × (Nat → Nat)) (S : kp_S) (a0 : Nat) (x1 : Int32) (post : Int32 → kp_S → Prop) (hS : kp_ok S) (f_a0 : kp_is S a0 12) (hw : wX12_leavesLoop a0 x1 S post) : kp_M l yX12_leavesLoop cX12_leavesLoop 3 (some .boolean) { frames := 3, cells := 0, slots := 0, locals := 64 } D cy ad S [.ref a0, .int x1] 0 0 (fun A => kp_Qi D cy A S post) := by
  refine kp_start (own := RX12) (by decide) rfl (Nat.le_of_ble_eq_true rfl) hS ?_
  intro p e s m below meth c A ls X hr hlocks hname h hl
  have hle : kp_le S S := kp_le.rf
  have hl : lv_has ls 3 [(0, .ref a0), (1, .int x1)] := hl
  have j93 : ∀ (xn2 : Int32) (Sn : kp_S) (H : Heap) (locs : List Loc) (ls : Array Slot), lv_has ls 3 [(0, .ref a0), (1, .int x1), (2, .int xn2)] → kp_H D cy A Sn s.heap H locs → kp_le S Sn → kp_is Sn a0 12 → wX12_leavesLoop_b93 a0 x1 xn2  Sn post → W p l e { frames := 3, cells := 0, slots := 0, locals := 64 } s m ([.ref a0, .int x1] : List Value).toArray below meth c H locs 0 0 (MQ below (kp_Qi D cy A S post) ([.ref a0, .int x1] : List Value).toArray s 0 0 A) (F0 m 93 ls []) := by
    intro xn2 Sn H locs ls hl h hle f_a0 hw
    unfold wX12_leavesLoop_b93 at hw
    refine lv_aload_n X.1 X.2.1 dX12_leavesLoop_93 rfl (lv_at hl 0 rfl) ?_
    obtain ⟨b1001, e_b1001, hw⟩ := hw
    have f_b1001 := h.2.2.2.rf (c := 12) (k := 89) f_a0 (by decide) (by decide) e_b1001 (t := 14) rfl
    refine kp_get X h f_a0 ff_12_179.l (v := .ref b1001) (congrArg va_rf e_b1001) dX12_leavesLoop_94 ?_
    refine lv_iload_n X.1 X.2.1 dX12_leavesLoop_97 rfl (lv_at hl 1 rfl) ?_
    refine lv_iconst (v := 0) X.1 X.2.1 dX12_leavesLoop_98 (by decide) ?_
    obtain ⟨hi, hw⟩ := hw
    refine kp_iast X h f_b1001 hi dX12_leavesLoop_99 (fun T1002 e_T1002 l_T1002 H locs h => ?_)
    have hw := hw T1002 e_T1002
    have f_a0 := l_T1002.is f_a0
    have f_b1001 := l_T1002.is f_b1001
    have hle := hle.tr l_T1002
    have e_b1001 : kp_R T1002 2489 a0 = some b1001 := by rw [e_T1002]; exact e_b1001
    refine lv_aload_n X.1 X.2.1 dX12_leavesLoop_100 rfl (lv_at hl 0 rfl) ?_
    refine lv_iload_n X.1 X.2.1 dX12_leavesLoop_101 rfl (lv_at hl 1 rfl) ?_
    refine lv_aload_n X.1 X.2.1 dX12_leavesLoop_102 rfl (lv_at hl 0 rfl) ?_
    obtain ⟨b1003, e_b1003, hw⟩ := hw
    have f_b1003 := h.2.2.2.rf (c := 12) (k := 51) f_a0 (by decide) (by decide) e_b1003 (t := 14) rfl
    refine kp_get X h f_a0 ff_12_121.l (v := .ref b1003) (congrArg va_rf e_b1003) dX12_leavesLoop_103 ?_
    refine lv_iload_n X.1 X.2.1 dX12_leavesLoop_106 rfl (lv_at hl 2 rfl) ?_
    obtain ⟨hi, hw⟩ := hw
    refine kp_iald X h f_b1003 hi dX12_leavesLoop_107 ?_
    refine kp_callv X h (kp_runV (rm := { frames := 0, cells := 0, slots := 0, locals := 0 }) (mc := 0) (ms := 0) (rest := []) (Qc := fun A => kp_Qv D cy A T1002 _) X h (c_X12_goes l D cy ad T1002 a0 x1 (kp_A T1002 b1003 xn2.toNatClampNeg) _ h.2.2.2 f_a0 hw) f_a0 cv_12_666 ⟨by decide, by decide, rfl, rfl, by decide, by decide⟩ rfl hl.1 rfl (Nat.le_of_ble_eq_true rfl) dX12_leavesLoop_108) (fun T1004 hw l_T1004 H locs h => ?_)
    have f_a0 := l_T1004.is f_a0
    have f_b1001 := l_T1004.is f_b1001
    have f_b1003 := l_T1004.is f_b1003
    have hle := hle.tr l_T1004
    refine lv_iconst (v := 0) X.1 X.2.1 dX12_leavesLoop_111 (by decide) ?_
    exact kp_reti X hr hlocks h hle (by decide) hw dX12_leavesLoop_112
  have j134 : ∀ (xn2 : Int32) (Sn : kp_S) (H : Heap) (locs : List Loc) (ls : Array Slot), lv_has ls 3 [(0, .ref a0), (1, .int x1), (2, .int xn2)] → kp_H D cy A Sn s.heap H locs → kp_le S Sn → kp_is Sn a0 12 → wX12_leavesLoop_b134 a0 x1 xn2  Sn post → W p l e { frames := 3, cells := 0, slots := 0, locals := 64 } s m ([.ref a0, .int x1] : List Value).toArray below meth c H locs 0 0 (MQ below (kp_Qi D cy A S post) ([.ref a0, .int x1] : List Value).toArray s 0 0 A) (F0 m 134 ls []) := by
    intro xn2 Sn H locs ls hl h hle f_a0 hw
    unfold wX12_leavesLoop_b134 at hw
    refine lv_aload_n X.1 X.2.1 dX12_leavesLoop_134 rfl (lv_at hl 0 rfl) ?_
    refine lv_iload_n X.1 X.2.1 dX12_leavesLoop_135 rfl (lv_at hl 1 rfl) ?_
    refine lv_aload_n X.1 X.2.1 dX12_leavesLoop_136 rfl (lv_at hl 0 rfl) ?_
    obtain ⟨b2001, e_b2001, hw⟩ := hw
    have f_b2001 := h.2.2.2.rf (c := 12) (k := 53) f_a0 (by decide) (by decide) e_b2001 (t := 14) rfl
    refine kp_get X h f_a0 ff_12_127.l (v := .ref b2001) (congrArg va_rf e_b2001) dX12_leavesLoop_137 ?_
    refine lv_iload_n X.1 X.2.1 dX12_leavesLoop_140 rfl (lv_at hl 2 rfl) ?_
    obtain ⟨hi, hw⟩ := hw
    refine kp_iald X h f_b2001 hi dX12_leavesLoop_141 ?_
    refine kp_calli X h (kp_runV (rm := { frames := 1, cells := 0, slots := 0, locals := 22 }) (mc := 0) (ms := 0) (rest := []) (Qc := fun A => kp_Qi D cy A Sn _) X h (c_X12_closes l D cy ad Sn a0 x1 (kp_A Sn b2001 xn2.toNatClampNeg) _ h.2.2.2 f_a0 hw) f_a0 cv_12_672 ⟨by decide, by decide, rfl, rfl, by decide, by decide⟩ rfl hl.1 rfl (Nat.le_of_ble_eq_true rfl) dX12_leavesLoop_142) (fun y2003 T2002 hw l_T2002 H locs h => ?_)
    have f_a0 := l_T2002.is f_a0
    have f_b2001 := l_T2002.is f_b2001
    have hle := hle.tr l_T2002
    exact kp_reti X hr hlocks h hle (kp_bz hw.1).1 hw.2 dX12_leavesLoop_145
  have j113 : ∀ (xn2 : Int32) (Sn : kp_S) (H : Heap) (locs : List Loc) (ls : Array Slot), lv_has ls 3 [(0, .ref a0), (1, .int x1), (2, .int xn2)] → kp_H D cy A Sn s.heap H locs → kp_le S Sn → kp_is Sn a0 12 → wX12_leavesLoop_b113 a0 x1 xn2  Sn post → W p l e { frames := 3, cells := 0, slots := 0, locals := 64 } s m ([.ref a0, .int x1] : List Value).toArray below meth c H locs 0 0 (MQ below (kp_Qi D cy A S post) ([.ref a0, .int x1] : List Value).toArray s 0 0 A) (F0 m 113 ls []) := by
    intro xn2 Sn H locs ls hl h hle f_a0 hw
    unfold wX12_leavesLoop_b113 at hw
    refine lv_aload_n X.1 X.2.1 dX12_leavesLoop_113 rfl (lv_at hl 0 rfl) ?_
    refine kp_get X h f_a0 fp_12_616.l (v := .int (kp_I Sn 2481 a0)) rfl dX12_leavesLoop_114 ?_
    refine lv_iconst (v := 1) X.1 X.2.1 dX12_leavesLoop_117 (by decide) ?_
    refine lv_icmp_ne (tgt := 134) X.1 X.2.1 dX12_leavesLoop_118 (by decide) (fun c3003 => ?_) (fun c3003 => ?_)
    · have hw := hw.1 c3003
      exact j134 xn2 Sn H locs ls (lv_sub hl [0, 1, 2] rfl) h hle f_a0 hw
    · have hw := hw.2 c3003
      refine lv_aload_n X.1 X.2.1 dX12_leavesLoop_121 rfl (lv_at hl 0 rfl) ?_
      refine kp_get X h f_a0 fp_12_619.l (v := .int (kp_I Sn 2482 a0)) rfl dX12_leavesLoop_122 ?_
      refine lv_iload_n X.1 X.2.1 dX12_leavesLoop_125 rfl (lv_at hl 2 rfl) ?_
      refine lv_icmp_ne (tgt := 134) X.1 X.2.1 dX12_leavesLoop_126 (by decide) (fun c3002 => ?_) (fun c3002 => ?_)
      · have hw := hw.1 c3002
        exact j134 xn2 Sn H locs ls (lv_sub hl [0, 1, 2] rfl) h hle f_a0 hw
      · have hw := hw.2 c3002
        refine lv_aload_n X.1 X.2.1 dX12_leavesLoop_129 rfl (lv_at hl 0 rfl) ?_
        refine lv_iconst (v := 0) X.1 X.2.1 dX12_leavesLoop_130 (by decide) ?_
        refine kp_putI X h f_a0 fp_12_616 rfl ⟨rfl, rfl⟩ dX12_leavesLoop_131 (fun T3001 e_T3001 l_T3001 H locs h => ?_)
        have hw := hw T3001 e_T3001
        have f_a0 := l_T3001.is f_a0
        have hle := hle.tr l_T3001
        exact j134 xn2 T3001 H locs ls (lv_sub hl [0, 1, 2] rfl) h hle f_a0 hw
  have j70 : ∀ (xn2 : Int32) (Sn : kp_S) (H : Heap) (locs : List Loc) (ls : Array Slot), lv_has ls 3 [(0, .ref a0), (1, .int x1), (2, .int xn2)] → kp_H D cy A Sn s.heap H locs → kp_le S Sn → kp_is Sn a0 12 → wX12_leavesLoop_b70 a0 x1 xn2  Sn post → W p l e { frames := 3, cells := 0, slots := 0, locals := 64 } s m ([.ref a0, .int x1] : List Value).toArray below meth c H locs 0 0 (MQ below (kp_Qi D cy A S post) ([.ref a0, .int x1] : List Value).toArray s 0 0 A) (F0 m 70 ls []) := by
    intro xn2 Sn H locs ls hl h hle f_a0 hw
    unfold wX12_leavesLoop_b70 at hw
    refine lv_aload_n X.1 X.2.1 dX12_leavesLoop_70 rfl (lv_at hl 0 rfl) ?_
    refine kp_get X h f_a0 fp_12_616.l (v := .int (kp_I Sn 2481 a0)) rfl dX12_leavesLoop_71 ?_
    refine lv_if_eq (tgt := 93) X.1 X.2.1 dX12_leavesLoop_74 (by decide) (fun c4003 => ?_) (fun c4003 => ?_)
    · have hw := hw.1 c4003
      exact j93 xn2 Sn H locs ls (lv_sub hl [0, 1, 2] rfl) h hle f_a0 hw
    · have hw := hw.2 c4003
      refine lv_aload_n X.1 X.2.1 dX12_leavesLoop_77 rfl (lv_at hl 0 rfl) ?_
      refine kp_get X h f_a0 fp_12_616.l (v := .int (kp_I Sn 2481 a0)) rfl dX12_leavesLoop_78 ?_
      refine lv_iconst (v := 2) X.1 X.2.1 dX12_leavesLoop_81 (by decide) ?_
      refine lv_icmp_ne (tgt := 113) X.1 X.2.1 dX12_leavesLoop_82 (by decide) (fun c4002 => ?_) (fun c4002 => ?_)
      · have hw := hw.1 c4002
        exact j113 xn2 Sn H locs ls (lv_sub hl [0, 1, 2] rfl) h hle f_a0 hw
      · have hw := hw.2 c4002
        refine lv_aload_n X.1 X.2.1 dX12_leavesLoop_85 rfl (lv_at hl 0 rfl) ?_
        refine kp_get X h f_a0 fp_12_619.l (v := .int (kp_I Sn 2482 a0)) rfl dX12_leavesLoop_86 ?_
        refine lv_iload_n X.1 X.2.1 dX12_leavesLoop_89 rfl (lv_at hl 2 rfl) ?_
        refine lv_icmp_ne (tgt := 113) X.1 X.2.1 dX12_leavesLoop_90 (by decide) (fun c4001 => ?_) (fun c4001 => ?_)
        · have hw := hw.1 c4001
          exact j113 xn2 Sn H locs ls (lv_sub hl [0, 1, 2] rfl) h hle f_a0 hw
        · have hw := hw.2 c4001
          exact j93 xn2 Sn H locs ls (lv_sub hl [0, 1, 2] rfl) h hle f_a0 hw
  have j55 : ∀ (xn2 : Int32) (Sn : kp_S) (H : Heap) (locs : List Loc) (ls : Array Slot), lv_has ls 3 [(0, .ref a0), (1, .int x1), (2, .int xn2)] → kp_H D cy A Sn s.heap H locs → kp_le S Sn → kp_is Sn a0 12 → wX12_leavesLoop_b55 a0 x1 xn2  Sn post → W p l e { frames := 3, cells := 0, slots := 0, locals := 64 } s m ([.ref a0, .int x1] : List Value).toArray below meth c H locs 0 0 (MQ below (kp_Qi D cy A S post) ([.ref a0, .int x1] : List Value).toArray s 0 0 A) (F0 m 55 ls []) := by
    intro xn2 Sn H locs ls hl h hle f_a0 hw
    unfold wX12_leavesLoop_b55 at hw
    refine lv_aload_n X.1 X.2.1 dX12_leavesLoop_55 rfl (lv_at hl 0 rfl) ?_
    obtain ⟨b5001, e_b5001, hw⟩ := hw
    have f_b5001 := h.2.2.2.rf (c := 12) (k := 89) f_a0 (by decide) (by decide) e_b5001 (t := 14) rfl
    refine kp_get X h f_a0 ff_12_179.l (v := .ref b5001) (congrArg va_rf e_b5001) dX12_leavesLoop_56 ?_
    refine lv_iload_n X.1 X.2.1 dX12_leavesLoop_59 rfl (lv_at hl 1 rfl) ?_
    obtain ⟨hi, hw⟩ := hw
    refine kp_iald X h f_b5001 hi dX12_leavesLoop_60 ?_
    refine lv_iconst (v := 2) X.1 X.2.1 dX12_leavesLoop_61 (by decide) ?_
    refine lv_icmp_ne (tgt := 70) X.1 X.2.1 dX12_leavesLoop_62 (by decide) (fun c5003 => ?_) (fun c5003 => ?_)
    · have hw := hw.1 c5003
      exact j70 xn2 Sn H locs ls (lv_sub hl [0, 1, 2] rfl) h hle f_a0 hw
    · have hw := hw.2 c5003
      refine lv_aload_n X.1 X.2.1 dX12_leavesLoop_65 rfl (lv_at hl 0 rfl) ?_
      refine lv_iload_n X.1 X.2.1 dX12_leavesLoop_66 rfl (lv_at hl 1 rfl) ?_
      refine kp_callv X h (kp_runV (rm := { frames := 2, cells := 0, slots := 0, locals := 43 }) (mc := 0) (ms := 0) (rest := []) (Qc := fun A => kp_Qv D cy A Sn _) X h (c_X12_endsAlways l D cy ad Sn a0 x1 _ h.2.2.2 f_a0 hw) f_a0 cv_12_690 ⟨by decide, by decide, rfl, rfl, by decide, by decide⟩ rfl hl.1 rfl (Nat.le_of_ble_eq_true rfl) dX12_leavesLoop_67) (fun T5002 hw l_T5002 H locs h => ?_)
      have f_a0 := l_T5002.is f_a0
      have f_b5001 := l_T5002.is f_b5001
      have hle := hle.tr l_T5002
      exact j70 xn2 T5002 H locs ls (lv_sub hl [0, 1, 2] rfl) h hle f_a0 hw
  unfold wX12_leavesLoop at hw
  have h : kp_H D cy A S s.heap s.heap [] := h
  revert h
  intro h
  refine lv_aload_n X.1 X.2.1 dX12_leavesLoop_0 rfl (lv_at hl 0 rfl) ?_
  obtain ⟨b1, e_b1, hw⟩ := hw
  have f_b1 := h.2.2.2.rf (c := 12) (k := 90) f_a0 (by decide) (by decide) e_b1 (t := 14) rfl
  refine kp_get X h f_a0 ff_12_182.l (v := .ref b1) (congrArg va_rf e_b1) dX12_leavesLoop_1 ?_
  refine lv_iload_n X.1 X.2.1 dX12_leavesLoop_4 rfl (lv_at hl 1 rfl) ?_
  obtain ⟨hi, hw⟩ := hw
  refine kp_iald X h f_b1 hi dX12_leavesLoop_5 ?_
  refine lv_topi (fun y2 e_y2 => ?_)
  have hw := hw y2 e_y2
  refine lv_istore_n (lv' := [(2, .int y2), (0, .ref a0), (1, .int x1)]) X.1 X.2.1 dX12_leavesLoop_6 rfl hl (by decide) rfl (fun ls hl => ?_)
  refine lv_aload_n X.1 X.2.1 dX12_leavesLoop_7 rfl (lv_at hl 1 rfl) ?_
  obtain ⟨b3, e_b3, hw⟩ := hw
  have f_b3 := h.2.2.2.rf (c := 12) (k := 89) f_a0 (by decide) (by decide) e_b3 (t := 14) rfl
  refine kp_get X h f_a0 ff_12_179.l (v := .ref b3) (congrArg va_rf e_b3) dX12_leavesLoop_8 ?_
  refine lv_iload_n X.1 X.2.1 dX12_leavesLoop_11 rfl (lv_at hl 2 rfl) ?_
  obtain ⟨hi, hw⟩ := hw
  refine kp_iald X h f_b3 hi dX12_leavesLoop_12 ?_
  refine lv_if_ne (tgt := 28) X.1 X.2.1 dX12_leavesLoop_13 (by decide) (fun c11 => ?_) (fun c11 => ?_)
  · have hw := hw.1 c11
    refine lv_aload_n X.1 X.2.1 dX12_leavesLoop_28 rfl (lv_at hl 1 rfl) ?_
    refine kp_get X h f_a0 ff_12_179.l (v := .ref b3) (congrArg va_rf e_b3) dX12_leavesLoop_29 ?_
    refine lv_iload_n X.1 X.2.1 dX12_leavesLoop_32 rfl (lv_at hl 2 rfl) ?_
    obtain ⟨hi, hw⟩ := hw
    refine kp_iald X h f_b3 hi dX12_leavesLoop_33 ?_
    refine lv_iconst (v := 1) X.1 X.2.1 dX12_leavesLoop_34 (by decide) ?_
    refine lv_icmp_ne (tgt := 55) X.1 X.2.1 dX12_leavesLoop_35 (by decide) (fun c7 => ?_) (fun c7 => ?_)
    · have hw := hw.1 c7
      exact j55 y2 S _ _ ls (lv_sub hl [1, 2, 0] rfl) h hle f_a0 hw
    · have hw := hw.2 c7
      refine lv_aload_n X.1 X.2.1 dX12_leavesLoop_38 rfl (lv_at hl 1 rfl) ?_
      obtain ⟨b4, e_b4, hw⟩ := hw
      have f_b4 := h.2.2.2.rf (c := 12) (k := 52) f_a0 (by decide) (by decide) e_b4 (t := 14) rfl
      refine kp_get X h f_a0 ff_12_124.l (v := .ref b4) (congrArg va_rf e_b4) dX12_leavesLoop_39 ?_
      refine lv_iload_n X.1 X.2.1 dX12_leavesLoop_42 rfl (lv_at hl 0 rfl) ?_
      obtain ⟨hi, hw⟩ := hw
      refine kp_iald X h f_b4 hi dX12_leavesLoop_43 ?_
      refine lv_iconst (v := (-1)) X.1 X.2.1 dX12_leavesLoop_44 (by decide) ?_
      refine lv_icmp_eq (tgt := 55) X.1 X.2.1 dX12_leavesLoop_45 (by decide) (fun c6 => ?_) (fun c6 => ?_)
      · have hw := hw.1 c6
        exact j55 y2 S _ _ ls (lv_sub hl [1, 2, 0] rfl) h hle f_a0 hw
      · have hw := hw.2 c6
        refine lv_aload_n X.1 X.2.1 dX12_leavesLoop_48 rfl (lv_at hl 1 rfl) ?_
        refine lv_iload_n X.1 X.2.1 dX12_leavesLoop_49 rfl (lv_at hl 2 rfl) ?_
        refine kp_callv X h (kp_runV (rm := { frames := 1, cells := 0, slots := 0, locals := 22 }) (mc := 0) (ms := 0) (rest := []) (Qc := fun A => kp_Qv D cy A S _) X h (c_X12_beginsAlways l D cy ad S a0 x1 _ h.2.2.2 f_a0 hw) f_a0 cv_12_687 ⟨by decide, by decide, rfl, rfl, by decide, by decide⟩ rfl hl.1 rfl (Nat.le_of_ble_eq_true rfl) dX12_leavesLoop_50) (fun T5 hw l_T5 H locs h => ?_)
        have f_a0 := l_T5.is f_a0
        have f_b1 := l_T5.is f_b1
        have f_b3 := l_T5.is f_b3
        have f_b4 := l_T5.is f_b4
        have hle := hle.tr l_T5
        refine lv_iconst (v := 0) X.1 X.2.1 dX12_leavesLoop_53 (by decide) ?_
        exact kp_reti X hr hlocks h hle (by decide) hw dX12_leavesLoop_54
  · have hw := hw.2 c11
    refine lv_aload_n X.1 X.2.1 dX12_leavesLoop_16 rfl (lv_at hl 1 rfl) ?_
    refine lv_iload_n X.1 X.2.1 dX12_leavesLoop_17 rfl (lv_at hl 2 rfl) ?_
    refine lv_aload_n X.1 X.2.1 dX12_leavesLoop_18 rfl (lv_at hl 1 rfl) ?_
    obtain ⟨b8, e_b8, hw⟩ := hw
    have f_b8 := h.2.2.2.rf (c := 12) (k := 53) f_a0 (by decide) (by decide) e_b8 (t := 14) rfl
    refine kp_get X h f_a0 ff_12_127.l (v := .ref b8) (congrArg va_rf e_b8) dX12_leavesLoop_19 ?_
    refine lv_iload_n X.1 X.2.1 dX12_leavesLoop_22 rfl (lv_at hl 0 rfl) ?_
    obtain ⟨hi, hw⟩ := hw
    refine kp_iald X h f_b8 hi dX12_leavesLoop_23 ?_
    refine kp_calli X h (kp_runV (rm := { frames := 1, cells := 0, slots := 0, locals := 22 }) (mc := 0) (ms := 0) (rest := []) (Qc := fun A => kp_Qi D cy A S _) X h (c_X12_closes l D cy ad S a0 x1 (kp_A S b8 y2.toNatClampNeg) _ h.2.2.2 f_a0 hw) f_a0 cv_12_672 ⟨by decide, by decide, rfl, rfl, by decide, by decide⟩ rfl hl.1 rfl (Nat.le_of_ble_eq_true rfl) dX12_leavesLoop_24) (fun y10 T9 hw l_T9 H locs h => ?_)
    have f_a0 := l_T9.is f_a0
    have f_b1 := l_T9.is f_b1
    have f_b3 := l_T9.is f_b3
    have f_b8 := l_T9.is f_b8
    have hle := hle.tr l_T9
    exact kp_reti X hr hlocks h hle (kp_bz hw.1).1 hw.2 dX12_leavesLoop_27
theorem dX12_leavesTrial_0 : decode cX12_leavesTrial 0 = .ok (.aload_n 0, 1) := by decide +kernel
theorem dX12_leavesTrial_1 : decode cX12_leavesTrial 1 = .ok (.getfield 182, 3) := by decide +kernel
theorem dX12_leavesTrial_4 : decode cX12_leavesTrial 4 = .ok (.iload_n 1, 1) := by decide +kernel
theorem dX12_leavesTrial_5 : decode cX12_leavesTrial 5 = .ok (.iaload, 1) := by decide +kernel
theorem dX12_leavesTrial_6 : decode cX12_leavesTrial 6 = .ok (.istore_n 2, 1) := by decide +kernel
theorem dX12_leavesTrial_7 : decode cX12_leavesTrial 7 = .ok (.aload_n 0, 1) := by decide +kernel
theorem dX12_leavesTrial_8 : decode cX12_leavesTrial 8 = .ok (.getfield 179, 3) := by decide +kernel
theorem dX12_leavesTrial_11 : decode cX12_leavesTrial 11 = .ok (.iload_n 1, 1) := by decide +kernel
theorem dX12_leavesTrial_12 : decode cX12_leavesTrial 12 = .ok (.iaload, 1) := by decide +kernel
theorem dX12_leavesTrial_13 : decode cX12_leavesTrial 13 = .ok (.iconst 3, 1) := by decide +kernel
theorem dX12_leavesTrial_14 : decode cX12_leavesTrial 14 = .ok (.if_icmp .ne 66, 3) := by decide +kernel
theorem dX12_leavesTrial_17 : decode cX12_leavesTrial 17 = .ok (.aload_n 0, 1) := by decide +kernel
theorem dX12_leavesTrial_18 : decode cX12_leavesTrial 18 = .ok (.getfield 616, 3) := by decide +kernel
theorem dX12_leavesTrial_21 : decode cX12_leavesTrial 21 = .ok (.iconst 4, 1) := by decide +kernel
theorem dX12_leavesTrial_22 : decode cX12_leavesTrial 22 = .ok (.if_icmp .ne 58, 3) := by decide +kernel
theorem dX12_leavesTrial_25 : decode cX12_leavesTrial 25 = .ok (.aload_n 0, 1) := by decide +kernel
theorem dX12_leavesTrial_26 : decode cX12_leavesTrial 26 = .ok (.getfield 136, 3) := by decide +kernel
theorem dX12_leavesTrial_29 : decode cX12_leavesTrial 29 = .ok (.iload_n 2, 1) := by decide +kernel
theorem dX12_leavesTrial_30 : decode cX12_leavesTrial 30 = .ok (.iaload, 1) := by decide +kernel
theorem dX12_leavesTrial_31 : decode cX12_leavesTrial 31 = .ok (.iconst (-1), 1) := by decide +kernel
theorem dX12_leavesTrial_32 : decode cX12_leavesTrial 32 = .ok (.if_icmp .eq 48, 3) := by decide +kernel
theorem dX12_leavesTrial_35 : decode cX12_leavesTrial 35 = .ok (.aload_n 0, 1) := by decide +kernel
theorem dX12_leavesTrial_36 : decode cX12_leavesTrial 36 = .ok (.iload_n 1, 1) := by decide +kernel
theorem dX12_leavesTrial_37 : decode cX12_leavesTrial 37 = .ok (.invokevirtual 675, 3) := by decide +kernel
theorem dX12_leavesTrial_40 : decode cX12_leavesTrial 40 = .ok (.aload_n 0, 1) := by decide +kernel
theorem dX12_leavesTrial_41 : decode cX12_leavesTrial 41 = .ok (.getfield 179, 3) := by decide +kernel
theorem dX12_leavesTrial_44 : decode cX12_leavesTrial 44 = .ok (.iload_n 1, 1) := by decide +kernel
theorem dX12_leavesTrial_45 : decode cX12_leavesTrial 45 = .ok (.iconst 4, 1) := by decide +kernel
theorem dX12_leavesTrial_46 : decode cX12_leavesTrial 46 = .ok (.iastore, 1) := by decide +kernel
theorem dX12_leavesTrial_47 : decode cX12_leavesTrial 47 = .ok (.aload_n 0, 1) := by decide +kernel
theorem dX12_leavesTrial_48 : decode cX12_leavesTrial 48 = .ok (.getfield 185, 3) := by decide +kernel
theorem dX12_leavesTrial_51 : decode cX12_leavesTrial 51 = .ok (.iload_n 1, 1) := by decide +kernel
theorem dX12_leavesTrial_52 : decode cX12_leavesTrial 52 = .ok (.aload_n 0, 1) := by decide +kernel
theorem dX12_leavesTrial_53 : decode cX12_leavesTrial 53 = .ok (.getfield 625, 3) := by decide +kernel
theorem dX12_leavesTrial_56 : decode cX12_leavesTrial 56 = .ok (.iastore, 1) := by decide +kernel
theorem dX12_leavesTrial_57 : decode cX12_leavesTrial 57 = .ok (.aload_n 0, 1) := by decide +kernel
theorem dX12_leavesTrial_58 : decode cX12_leavesTrial 58 = .ok (.aload_n 0, 1) := by decide +kernel
theorem dX12_leavesTrial_59 : decode cX12_leavesTrial 59 = .ok (.getfield 130, 3) := by decide +kernel
theorem dX12_leavesTrial_62 : decode cX12_leavesTrial 62 = .ok (.iload_n 2, 1) := by decide +kernel
theorem dX12_leavesTrial_63 : decode cX12_leavesTrial 63 = .ok (.iaload, 1) := by decide +kernel
theorem dX12_leavesTrial_64 : decode cX12_leavesTrial 64 = .ok (.putfield 639, 3) := by decide +kernel
theorem dX12_leavesTrial_67 : decode cX12_leavesTrial 67 = .ok (.aload_n 0, 1) := by decide +kernel
theorem dX12_leavesTrial_68 : decode cX12_leavesTrial 68 = .ok (.iload_n 1, 1) := by decide +kernel
theorem dX12_leavesTrial_69 : decode cX12_leavesTrial 69 = .ok (.aload_n 0, 1) := by decide +kernel
theorem dX12_leavesTrial_70 : decode cX12_leavesTrial 70 = .ok (.getfield 136, 3) := by decide +kernel
theorem dX12_leavesTrial_73 : decode cX12_leavesTrial 73 = .ok (.iload_n 2, 1) := by decide +kernel
theorem dX12_leavesTrial_74 : decode cX12_leavesTrial 74 = .ok (.iaload, 1) := by decide +kernel
theorem dX12_leavesTrial_75 : decode cX12_leavesTrial 75 = .ok (.invokevirtual 666, 3) := by decide +kernel
theorem dX12_leavesTrial_78 : decode cX12_leavesTrial 78 = .ok (.iconst 0, 1) := by decide +kernel
theorem dX12_leavesTrial_79 : decode cX12_leavesTrial 79 = .ok (.ireturn, 1) := by decide +kernel
theorem dX12_leavesTrial_80 : decode cX12_leavesTrial 80 = .ok (.aload_n 0, 1) := by decide +kernel
theorem dX12_leavesTrial_81 : decode cX12_leavesTrial 81 = .ok (.getfield 179, 3) := by decide +kernel
theorem dX12_leavesTrial_84 : decode cX12_leavesTrial 84 = .ok (.iload_n 1, 1) := by decide +kernel
theorem dX12_leavesTrial_85 : decode cX12_leavesTrial 85 = .ok (.iaload, 1) := by decide +kernel
theorem dX12_leavesTrial_86 : decode cX12_leavesTrial 86 = .ok (.iconst 2, 1) := by decide +kernel
theorem dX12_leavesTrial_87 : decode cX12_leavesTrial 87 = .ok (.if_icmp .ne 20, 3) := by decide +kernel
theorem dX12_leavesTrial_90 : decode cX12_leavesTrial 90 = .ok (.aload_n 0, 1) := by decide +kernel
theorem dX12_leavesTrial_91 : decode cX12_leavesTrial 91 = .ok (.iload_n 1, 1) := by decide +kernel
theorem dX12_leavesTrial_92 : decode cX12_leavesTrial 92 = .ok (.invokevirtual 690, 3) := by decide +kernel
theorem dX12_leavesTrial_95 : decode cX12_leavesTrial 95 = .ok (.aload_n 0, 1) := by decide +kernel
theorem dX12_leavesTrial_96 : decode cX12_leavesTrial 96 = .ok (.iload_n 1, 1) := by decide +kernel
theorem dX12_leavesTrial_97 : decode cX12_leavesTrial 97 = .ok (.aload_n 0, 1) := by decide +kernel
theorem dX12_leavesTrial_98 : decode cX12_leavesTrial 98 = .ok (.getfield 127, 3) := by decide +kernel
theorem dX12_leavesTrial_101 : decode cX12_leavesTrial 101 = .ok (.iload_n 2, 1) := by decide +kernel
theorem dX12_leavesTrial_102 : decode cX12_leavesTrial 102 = .ok (.iaload, 1) := by decide +kernel
theorem dX12_leavesTrial_103 : decode cX12_leavesTrial 103 = .ok (.invokevirtual 672, 3) := by decide +kernel
theorem dX12_leavesTrial_106 : decode cX12_leavesTrial 106 = .ok (.ireturn, 1) := by decide +kernel
theorem dX12_leavesTrial_107 : decode cX12_leavesTrial 107 = .ok (.aload_n 0, 1) := by decide +kernel
theorem dX12_leavesTrial_108 : decode cX12_leavesTrial 108 = .ok (.getfield 179, 3) := by decide +kernel
theorem dX12_leavesTrial_111 : decode cX12_leavesTrial 111 = .ok (.iload_n 1, 1) := by decide +kernel
theorem dX12_leavesTrial_112 : decode cX12_leavesTrial 112 = .ok (.iaload, 1) := by decide +kernel
theorem dX12_leavesTrial_113 : decode cX12_leavesTrial 113 = .ok (.iconst 4, 1) := by decide +kernel
theorem dX12_leavesTrial_114 : decode cX12_leavesTrial 114 = .ok (.if_icmp .ne 8, 3) := by decide +kernel
theorem dX12_leavesTrial_117 : decode cX12_leavesTrial 117 = .ok (.aload_n 0, 1) := by decide +kernel
theorem dX12_leavesTrial_118 : decode cX12_leavesTrial 118 = .ok (.iload_n 1, 1) := by decide +kernel
theorem dX12_leavesTrial_119 : decode cX12_leavesTrial 119 = .ok (.invokevirtual 684, 3) := by decide +kernel
theorem dX12_leavesTrial_122 : decode cX12_leavesTrial 122 = .ok (.aload_n 0, 1) := by decide +kernel
theorem dX12_leavesTrial_123 : decode cX12_leavesTrial 123 = .ok (.getfield 185, 3) := by decide +kernel
theorem dX12_leavesTrial_126 : decode cX12_leavesTrial 126 = .ok (.iload_n 1, 1) := by decide +kernel
theorem dX12_leavesTrial_127 : decode cX12_leavesTrial 127 = .ok (.iconst 0, 1) := by decide +kernel
theorem dX12_leavesTrial_128 : decode cX12_leavesTrial 128 = .ok (.iastore, 1) := by decide +kernel
theorem dX12_leavesTrial_129 : decode cX12_leavesTrial 129 = .ok (.aload_n 0, 1) := by decide +kernel
theorem dX12_leavesTrial_130 : decode cX12_leavesTrial 130 = .ok (.getfield 124, 3) := by decide +kernel
theorem dX12_leavesTrial_133 : decode cX12_leavesTrial 133 = .ok (.iload_n 2, 1) := by decide +kernel
theorem dX12_leavesTrial_134 : decode cX12_leavesTrial 134 = .ok (.iaload, 1) := by decide +kernel
theorem dX12_leavesTrial_135 : decode cX12_leavesTrial 135 = .ok (.iconst (-1), 1) := by decide +kernel
theorem dX12_leavesTrial_136 : decode cX12_leavesTrial 136 = .ok (.if_icmp .eq 10, 3) := by decide +kernel
theorem dX12_leavesTrial_139 : decode cX12_leavesTrial 139 = .ok (.aload_n 0, 1) := by decide +kernel
theorem dX12_leavesTrial_140 : decode cX12_leavesTrial 140 = .ok (.iload_n 1, 1) := by decide +kernel
theorem dX12_leavesTrial_141 : decode cX12_leavesTrial 141 = .ok (.invokevirtual 687, 3) := by decide +kernel
theorem dX12_leavesTrial_144 : decode cX12_leavesTrial 144 = .ok (.iconst 0, 1) := by decide +kernel
theorem dX12_leavesTrial_145 : decode cX12_leavesTrial 145 = .ok (.ireturn, 1) := by decide +kernel
theorem dX12_leavesTrial_146 : decode cX12_leavesTrial 146 = .ok (.aload_n 0, 1) := by decide +kernel
theorem dX12_leavesTrial_147 : decode cX12_leavesTrial 147 = .ok (.iload_n 1, 1) := by decide +kernel
theorem dX12_leavesTrial_148 : decode cX12_leavesTrial 148 = .ok (.aload_n 0, 1) := by decide +kernel
theorem dX12_leavesTrial_149 : decode cX12_leavesTrial 149 = .ok (.getfield 127, 3) := by decide +kernel
theorem dX12_leavesTrial_152 : decode cX12_leavesTrial 152 = .ok (.iload_n 2, 1) := by decide +kernel
theorem dX12_leavesTrial_153 : decode cX12_leavesTrial 153 = .ok (.iaload, 1) := by decide +kernel
theorem dX12_leavesTrial_154 : decode cX12_leavesTrial 154 = .ok (.invokevirtual 672, 3) := by decide +kernel
theorem dX12_leavesTrial_157 : decode cX12_leavesTrial 157 = .ok (.ireturn, 1) := by decide +kernel
def wX12_leavesTrial_b122 (a0 : Nat) (x1 : Int32) (xn2 : Int32)  (Sn : kp_S) (post : Int32 → kp_S → Prop) : Prop :=
  ∃ b1001 : Nat, kp_R Sn 2491 a0 = some b1001 ∧
  vp_in x1 (kp_N Sn b1001) ∧ ∀ T1002 : kp_S, T1002 = kp_sA Sn b1001 (upd (kp_A Sn b1001) (x1.toNatClampNeg) 0) →
  ∃ b1003 : Nat, kp_R T1002 2452 a0 = some b1003 ∧
  vp_in xn2 (kp_N T1002 b1003) ∧
  (((kp_A T1002 b1003 xn2.toNatClampNeg) = (-1) →
  ∃ b1004 : Nat, kp_R T1002 2453 a0 = some b1004 ∧
  vp_in xn2 (kp_N T1002 b1004) ∧
  wX12_closes a0 x1 (kp_A T1002 b1004 xn2.toNatClampNeg) T1002 (fun y1006 T1005 =>
  kp_b y1006 ∧ post y1006 T1005)) ∧ (¬ (kp_A T1002 b1003 xn2.toNatClampNeg) = (-1) →
  wX12_beginsAlways a0 x1 T1002 (fun T1007 =>
  post 0 T1007)))
def wX12_leavesTrial_b80 (a0 : Nat) (x1 : Int32) (xn2 : Int32)  (Sn : kp_S) (post : Int32 → kp_S → Prop) : Prop :=
  ∃ b2001 : Nat, kp_R Sn 2489 a0 = some b2001 ∧
  vp_in x1 (kp_N Sn b2001) ∧
  ((¬ (kp_A Sn b2001 x1.toNatClampNeg) = 2 →
  vp_in x1 (kp_N Sn b2001) ∧
  ((¬ (kp_A Sn b2001 x1.toNatClampNeg) = 4 →
  wX12_leavesTrial_b122 a0 x1 xn2  Sn post) ∧ ((kp_A Sn b2001 x1.toNatClampNeg) = 4 →
  wX12_loses a0 x1 Sn (fun T2002 =>
  wX12_leavesTrial_b122 a0 x1 xn2  T2002 post)))) ∧ ((kp_A Sn b2001 x1.toNatClampNeg) = 2 →
  wX12_endsAlways a0 x1 Sn (fun T2004 =>
  ∃ b2005 : Nat, kp_R T2004 2453 a0 = some b2005 ∧
  vp_in xn2 (kp_N T2004 b2005) ∧
  wX12_closes a0 x1 (kp_A T2004 b2005 xn2.toNatClampNeg) T2004 (fun y2007 T2006 =>
  kp_b y2007 ∧ post y2007 T2006))))
def wX12_leavesTrial (a0 : Nat) (x1 : Int32) (S : kp_S) (post : Int32 → kp_S → Prop) : Prop :=
  ∃ b1 : Nat, kp_R S 2490 a0 = some b1 ∧
  vp_in x1 (kp_N S b1) ∧
  ∀ y2 : Int32, y2 = (kp_A S b1 x1.toNatClampNeg) →
  ∃ b3 : Nat, kp_R S 2489 a0 = some b3 ∧
  vp_in x1 (kp_N S b3) ∧
  ((¬ (kp_A S b3 x1.toNatClampNeg) = 3 →
  wX12_leavesTrial_b80 a0 x1 y2  S post) ∧ ((kp_A S b3 x1.toNatClampNeg) = 3 →
  ((¬ (kp_I S 2481 a0) = 4 →
  wX12_leavesTrial_b80 a0 x1 y2  S post) ∧ ((kp_I S 2481 a0) = 4 →
  ∃ b4 : Nat, kp_R S 2456 a0 = some b4 ∧
  vp_in y2 (kp_N S b4) ∧
  (((kp_A S b4 y2.toNatClampNeg) = (-1) →
  wX12_leavesTrial_b80 a0 x1 y2  S post) ∧ (¬ (kp_A S b4 y2.toNatClampNeg) = (-1) →
  wX12_keepWay a0 x1 S (fun T5 =>
  ∃ b6 : Nat, kp_R T5 2489 a0 = some b6 ∧
  vp_in x1 (kp_N T5 b6) ∧ ∀ T7 : kp_S, T7 = kp_sA T5 b6 (upd (kp_A T5 b6) (x1.toNatClampNeg) 4) →
  ∃ b8 : Nat, kp_R T7 2491 a0 = some b8 ∧
  vp_in x1 (kp_N T7 b8) ∧ ∀ T9 : kp_S, T9 = kp_sA T7 b8 (upd (kp_A T7 b8) (x1.toNatClampNeg) (kp_I T7 2484 a0)) →
  ∃ b10 : Nat, kp_R T9 2454 a0 = some b10 ∧
  vp_in y2 (kp_N T9 b10) ∧
  ∀ T11 : kp_S, T11 = kp_sI T9 2511 a0 (kp_A T9 b10 y2.toNatClampNeg) →
  ∃ b12 : Nat, kp_R T11 2456 a0 = some b12 ∧
  vp_in y2 (kp_N T11 b12) ∧
  wX12_goes a0 x1 (kp_A T11 b12 y2.toNatClampNeg) T11 (fun T13 =>
  post 0 T13))))))))
set_option maxHeartbeats 4000000 in
set_option maxRecDepth 100000 in
theorem c_X12_leavesTrial (l : Launch) (D : va_G) (cy : Nat → ClassId) (ad : (Nat → Nat) × (Nat → Nat)) (S : kp_S) (a0 : Nat) (x1 : Int32) (post : Int32 → kp_S → Prop) (hS : kp_ok S) (f_a0 : kp_is S a0 12) (hw : wX12_leavesTrial a0 x1 S post) : kp_M l yX12_leavesTrial cX12_leavesTrial 3 (some .boolean) { frames := 3, cells := 0, slots := 0, locals := 64 } D cy ad S [.ref a0, .int x1] 0 0 (fun A => kp_Qi D cy A S post) := by
  refine kp_start (own := RX12) (by decide) rfl (Nat.le_of_ble_eq_true rfl) hS ?_
  intro p e s m below meth c A ls X hr hlocks hname h hl
  have hle : kp_le S S := kp_le.rf
  have hl : lv_has ls 3 [(0, .ref a0), (1, .int x1)] := hl
  have j122 : ∀ (xn2 : Int32) (Sn : kp_S) (H : Heap) (locs : List Loc) (ls : Array Slot), lv_has ls 3 [(0, .ref a0), (1, .int x1), (2, .int xn2)] → kp_H D cy A Sn s.heap H locs → kp_le S Sn → kp_is Sn a0 12 → wX12_leavesTrial_b122 a0 x1 xn2  Sn post → W p l e { frames := 3, cells := 0, slots := 0, locals := 64 } s m ([.ref a0, .int x1] : List Value).toArray below meth c H locs 0 0 (MQ below (kp_Qi D cy A S post) ([.ref a0, .int x1] : List Value).toArray s 0 0 A) (F0 m 122 ls []) := by
    intro xn2 Sn H locs ls hl h hle f_a0 hw
    unfold wX12_leavesTrial_b122 at hw
    refine lv_aload_n X.1 X.2.1 dX12_leavesTrial_122 rfl (lv_at hl 0 rfl) ?_
    obtain ⟨b1001, e_b1001, hw⟩ := hw
    have f_b1001 := h.2.2.2.rf (c := 12) (k := 91) f_a0 (by decide) (by decide) e_b1001 (t := 14) rfl
    refine kp_get X h f_a0 ff_12_185.l (v := .ref b1001) (congrArg va_rf e_b1001) dX12_leavesTrial_123 ?_
    refine lv_iload_n X.1 X.2.1 dX12_leavesTrial_126 rfl (lv_at hl 1 rfl) ?_
    refine lv_iconst (v := 0) X.1 X.2.1 dX12_leavesTrial_127 (by decide) ?_
    obtain ⟨hi, hw⟩ := hw
    refine kp_iast X h f_b1001 hi dX12_leavesTrial_128 (fun T1002 e_T1002 l_T1002 H locs h => ?_)
    have hw := hw T1002 e_T1002
    have f_a0 := l_T1002.is f_a0
    have f_b1001 := l_T1002.is f_b1001
    have hle := hle.tr l_T1002
    have e_b1001 : kp_R T1002 2491 a0 = some b1001 := by rw [e_T1002]; exact e_b1001
    refine lv_aload_n X.1 X.2.1 dX12_leavesTrial_129 rfl (lv_at hl 0 rfl) ?_
    obtain ⟨b1003, e_b1003, hw⟩ := hw
    have f_b1003 := h.2.2.2.rf (c := 12) (k := 52) f_a0 (by decide) (by decide) e_b1003 (t := 14) rfl
    refine kp_get X h f_a0 ff_12_124.l (v := .ref b1003) (congrArg va_rf e_b1003) dX12_leavesTrial_130 ?_
    refine lv_iload_n X.1 X.2.1 dX12_leavesTrial_133 rfl (lv_at hl 2 rfl) ?_
    obtain ⟨hi, hw⟩ := hw
    refine kp_iald X h f_b1003 hi dX12_leavesTrial_134 ?_
    refine lv_iconst (v := (-1)) X.1 X.2.1 dX12_leavesTrial_135 (by decide) ?_
    refine lv_icmp_eq (tgt := 146) X.1 X.2.1 dX12_leavesTrial_136 (by decide) (fun c1008 => ?_) (fun c1008 => ?_)
    · have hw := hw.1 c1008
      refine lv_aload_n X.1 X.2.1 dX12_leavesTrial_146 rfl (lv_at hl 0 rfl) ?_
      refine lv_iload_n X.1 X.2.1 dX12_leavesTrial_147 rfl (lv_at hl 1 rfl) ?_
      refine lv_aload_n X.1 X.2.1 dX12_leavesTrial_148 rfl (lv_at hl 0 rfl) ?_
      obtain ⟨b1004, e_b1004, hw⟩ := hw
      have f_b1004 := h.2.2.2.rf (c := 12) (k := 53) f_a0 (by decide) (by decide) e_b1004 (t := 14) rfl
      refine kp_get X h f_a0 ff_12_127.l (v := .ref b1004) (congrArg va_rf e_b1004) dX12_leavesTrial_149 ?_
      refine lv_iload_n X.1 X.2.1 dX12_leavesTrial_152 rfl (lv_at hl 2 rfl) ?_
      obtain ⟨hi, hw⟩ := hw
      refine kp_iald X h f_b1004 hi dX12_leavesTrial_153 ?_
      refine kp_calli X h (kp_runV (rm := { frames := 1, cells := 0, slots := 0, locals := 22 }) (mc := 0) (ms := 0) (rest := []) (Qc := fun A => kp_Qi D cy A T1002 _) X h (c_X12_closes l D cy ad T1002 a0 x1 (kp_A T1002 b1004 xn2.toNatClampNeg) _ h.2.2.2 f_a0 hw) f_a0 cv_12_672 ⟨by decide, by decide, rfl, rfl, by decide, by decide⟩ rfl hl.1 rfl (Nat.le_of_ble_eq_true rfl) dX12_leavesTrial_154) (fun y1006 T1005 hw l_T1005 H locs h => ?_)
      have f_a0 := l_T1005.is f_a0
      have f_b1001 := l_T1005.is f_b1001
      have f_b1003 := l_T1005.is f_b1003
      have f_b1004 := l_T1005.is f_b1004
      have hle := hle.tr l_T1005
      exact kp_reti X hr hlocks h hle (kp_bz hw.1).1 hw.2 dX12_leavesTrial_157
    · have hw := hw.2 c1008
      refine lv_aload_n X.1 X.2.1 dX12_leavesTrial_139 rfl (lv_at hl 0 rfl) ?_
      refine lv_iload_n X.1 X.2.1 dX12_leavesTrial_140 rfl (lv_at hl 1 rfl) ?_
      refine kp_callv X h (kp_runV (rm := { frames := 1, cells := 0, slots := 0, locals := 22 }) (mc := 0) (ms := 0) (rest := []) (Qc := fun A => kp_Qv D cy A T1002 _) X h (c_X12_beginsAlways l D cy ad T1002 a0 x1 _ h.2.2.2 f_a0 hw) f_a0 cv_12_687 ⟨by decide, by decide, rfl, rfl, by decide, by decide⟩ rfl hl.1 rfl (Nat.le_of_ble_eq_true rfl) dX12_leavesTrial_141) (fun T1007 hw l_T1007 H locs h => ?_)
      have f_a0 := l_T1007.is f_a0
      have f_b1001 := l_T1007.is f_b1001
      have f_b1003 := l_T1007.is f_b1003
      have hle := hle.tr l_T1007
      refine lv_iconst (v := 0) X.1 X.2.1 dX12_leavesTrial_144 (by decide) ?_
      exact kp_reti X hr hlocks h hle (by decide) hw dX12_leavesTrial_145
  have j80 : ∀ (xn2 : Int32) (Sn : kp_S) (H : Heap) (locs : List Loc) (ls : Array Slot), lv_has ls 3 [(0, .ref a0), (1, .int x1), (2, .int xn2)] → kp_H D cy A Sn s.heap H locs → kp_le S Sn → kp_is Sn a0 12 → wX12_leavesTrial_b80 a0 x1 xn2  Sn post → W p l e { frames := 3, cells := 0, slots := 0, locals := 64 } s m ([.ref a0, .int x1] : List Value).toArray below meth c H locs 0 0 (MQ below (kp_Qi D cy A S post) ([.ref a0, .int x1] : List Value).toArray s 0 0 A) (F0 m 80 ls []) := by
    intro xn2 Sn H locs ls hl h hle f_a0 hw
    unfold wX12_leavesTrial_b80 at hw
    refine lv_aload_n X.1 X.2.1 dX12_leavesTrial_80 rfl (lv_at hl 0 rfl) ?_
    obtain ⟨b2001, e_b2001, hw⟩ := hw
    have f_b2001 := h.2.2.2.rf (c := 12) (k := 89) f_a0 (by decide) (by decide) e_b2001 (t := 14) rfl
    refine kp_get X h f_a0 ff_12_179.l (v := .ref b2001) (congrArg va_rf e_b2001) dX12_leavesTrial_81 ?_
    refine lv_iload_n X.1 X.2.1 dX12_leavesTrial_84 rfl (lv_at hl 1 rfl) ?_
    obtain ⟨hi, hw⟩ := hw
    refine kp_iald X h f_b2001 hi dX12_leavesTrial_85 ?_
    refine lv_iconst (v := 2) X.1 X.2.1 dX12_leavesTrial_86 (by decide) ?_
    refine lv_icmp_ne (tgt := 107) X.1 X.2.1 dX12_leavesTrial_87 (by decide) (fun c2008 => ?_) (fun c2008 => ?_)
    · have hw := hw.1 c2008
      refine lv_aload_n X.1 X.2.1 dX12_leavesTrial_107 rfl (lv_at hl 0 rfl) ?_
      refine kp_get X h f_a0 ff_12_179.l (v := .ref b2001) (congrArg va_rf e_b2001) dX12_leavesTrial_108 ?_
      refine lv_iload_n X.1 X.2.1 dX12_leavesTrial_111 rfl (lv_at hl 1 rfl) ?_
      obtain ⟨hi, hw⟩ := hw
      refine kp_iald X h f_b2001 hi dX12_leavesTrial_112 ?_
      refine lv_iconst (v := 4) X.1 X.2.1 dX12_leavesTrial_113 (by decide) ?_
      refine lv_icmp_ne (tgt := 122) X.1 X.2.1 dX12_leavesTrial_114 (by decide) (fun c2003 => ?_) (fun c2003 => ?_)
      · have hw := hw.1 c2003
        exact j122 xn2 Sn H locs ls (lv_sub hl [0, 1, 2] rfl) h hle f_a0 hw
      · have hw := hw.2 c2003
        refine lv_aload_n X.1 X.2.1 dX12_leavesTrial_117 rfl (lv_at hl 0 rfl) ?_
        refine lv_iload_n X.1 X.2.1 dX12_leavesTrial_118 rfl (lv_at hl 1 rfl) ?_
        refine kp_callv X h (kp_runV (rm := { frames := 1, cells := 0, slots := 0, locals := 22 }) (mc := 0) (ms := 0) (rest := []) (Qc := fun A => kp_Qv D cy A Sn _) X h (c_X12_loses l D cy ad Sn a0 x1 _ h.2.2.2 f_a0 hw) f_a0 cv_12_684 ⟨by decide, by decide, rfl, rfl, by decide, by decide⟩ rfl hl.1 rfl (Nat.le_of_ble_eq_true rfl) dX12_leavesTrial_119) (fun T2002 hw l_T2002 H locs h => ?_)
        have f_a0 := l_T2002.is f_a0
        have f_b2001 := l_T2002.is f_b2001
        have hle := hle.tr l_T2002
        exact j122 xn2 T2002 H locs ls (lv_sub hl [0, 1, 2] rfl) h hle f_a0 hw
    · have hw := hw.2 c2008
      refine lv_aload_n X.1 X.2.1 dX12_leavesTrial_90 rfl (lv_at hl 0 rfl) ?_
      refine lv_iload_n X.1 X.2.1 dX12_leavesTrial_91 rfl (lv_at hl 1 rfl) ?_
      refine kp_callv X h (kp_runV (rm := { frames := 2, cells := 0, slots := 0, locals := 43 }) (mc := 0) (ms := 0) (rest := []) (Qc := fun A => kp_Qv D cy A Sn _) X h (c_X12_endsAlways l D cy ad Sn a0 x1 _ h.2.2.2 f_a0 hw) f_a0 cv_12_690 ⟨by decide, by decide, rfl, rfl, by decide, by decide⟩ rfl hl.1 rfl (Nat.le_of_ble_eq_true rfl) dX12_leavesTrial_92) (fun T2004 hw l_T2004 H locs h => ?_)
      have f_a0 := l_T2004.is f_a0
      have f_b2001 := l_T2004.is f_b2001
      have hle := hle.tr l_T2004
      refine lv_aload_n X.1 X.2.1 dX12_leavesTrial_95 rfl (lv_at hl 0 rfl) ?_
      refine lv_iload_n X.1 X.2.1 dX12_leavesTrial_96 rfl (lv_at hl 1 rfl) ?_
      refine lv_aload_n X.1 X.2.1 dX12_leavesTrial_97 rfl (lv_at hl 0 rfl) ?_
      obtain ⟨b2005, e_b2005, hw⟩ := hw
      have f_b2005 := h.2.2.2.rf (c := 12) (k := 53) f_a0 (by decide) (by decide) e_b2005 (t := 14) rfl
      refine kp_get X h f_a0 ff_12_127.l (v := .ref b2005) (congrArg va_rf e_b2005) dX12_leavesTrial_98 ?_
      refine lv_iload_n X.1 X.2.1 dX12_leavesTrial_101 rfl (lv_at hl 2 rfl) ?_
      obtain ⟨hi, hw⟩ := hw
      refine kp_iald X h f_b2005 hi dX12_leavesTrial_102 ?_
      refine kp_calli X h (kp_runV (rm := { frames := 1, cells := 0, slots := 0, locals := 22 }) (mc := 0) (ms := 0) (rest := []) (Qc := fun A => kp_Qi D cy A T2004 _) X h (c_X12_closes l D cy ad T2004 a0 x1 (kp_A T2004 b2005 xn2.toNatClampNeg) _ h.2.2.2 f_a0 hw) f_a0 cv_12_672 ⟨by decide, by decide, rfl, rfl, by decide, by decide⟩ rfl hl.1 rfl (Nat.le_of_ble_eq_true rfl) dX12_leavesTrial_103) (fun y2007 T2006 hw l_T2006 H locs h => ?_)
      have f_a0 := l_T2006.is f_a0
      have f_b2001 := l_T2006.is f_b2001
      have f_b2005 := l_T2006.is f_b2005
      have hle := hle.tr l_T2006
      exact kp_reti X hr hlocks h hle (kp_bz hw.1).1 hw.2 dX12_leavesTrial_106
  unfold wX12_leavesTrial at hw
  have h : kp_H D cy A S s.heap s.heap [] := h
  revert h
  intro h
  refine lv_aload_n X.1 X.2.1 dX12_leavesTrial_0 rfl (lv_at hl 0 rfl) ?_
  obtain ⟨b1, e_b1, hw⟩ := hw
  have f_b1 := h.2.2.2.rf (c := 12) (k := 90) f_a0 (by decide) (by decide) e_b1 (t := 14) rfl
  refine kp_get X h f_a0 ff_12_182.l (v := .ref b1) (congrArg va_rf e_b1) dX12_leavesTrial_1 ?_
  refine lv_iload_n X.1 X.2.1 dX12_leavesTrial_4 rfl (lv_at hl 1 rfl) ?_
  obtain ⟨hi, hw⟩ := hw
  refine kp_iald X h f_b1 hi dX12_leavesTrial_5 ?_
  refine lv_topi (fun y2 e_y2 => ?_)
  have hw := hw y2 e_y2
  refine lv_istore_n (lv' := [(2, .int y2), (0, .ref a0), (1, .int x1)]) X.1 X.2.1 dX12_leavesTrial_6 rfl hl (by decide) rfl (fun ls hl => ?_)
  refine lv_aload_n X.1 X.2.1 dX12_leavesTrial_7 rfl (lv_at hl 1 rfl) ?_
  obtain ⟨b3, e_b3, hw⟩ := hw
  have f_b3 := h.2.2.2.rf (c := 12) (k := 89) f_a0 (by decide) (by decide) e_b3 (t := 14) rfl
  refine kp_get X h f_a0 ff_12_179.l (v := .ref b3) (congrArg va_rf e_b3) dX12_leavesTrial_8 ?_
  refine lv_iload_n X.1 X.2.1 dX12_leavesTrial_11 rfl (lv_at hl 2 rfl) ?_
  obtain ⟨hi, hw⟩ := hw
  refine kp_iald X h f_b3 hi dX12_leavesTrial_12 ?_
  refine lv_iconst (v := 3) X.1 X.2.1 dX12_leavesTrial_13 (by decide) ?_
  refine lv_icmp_ne (tgt := 80) X.1 X.2.1 dX12_leavesTrial_14 (by decide) (fun c16 => ?_) (fun c16 => ?_)
  · have hw := hw.1 c16
    exact j80 y2 S _ _ ls (lv_sub hl [1, 2, 0] rfl) h hle f_a0 hw
  · have hw := hw.2 c16
    refine lv_aload_n X.1 X.2.1 dX12_leavesTrial_17 rfl (lv_at hl 1 rfl) ?_
    refine kp_get X h f_a0 fp_12_616.l (v := .int (kp_I S 2481 a0)) rfl dX12_leavesTrial_18 ?_
    refine lv_iconst (v := 4) X.1 X.2.1 dX12_leavesTrial_21 (by decide) ?_
    refine lv_icmp_ne (tgt := 80) X.1 X.2.1 dX12_leavesTrial_22 (by decide) (fun c15 => ?_) (fun c15 => ?_)
    · have hw := hw.1 c15
      exact j80 y2 S _ _ ls (lv_sub hl [1, 2, 0] rfl) h hle f_a0 hw
    · have hw := hw.2 c15
      refine lv_aload_n X.1 X.2.1 dX12_leavesTrial_25 rfl (lv_at hl 1 rfl) ?_
      obtain ⟨b4, e_b4, hw⟩ := hw
      have f_b4 := h.2.2.2.rf (c := 12) (k := 56) f_a0 (by decide) (by decide) e_b4 (t := 14) rfl
      refine kp_get X h f_a0 ff_12_136.l (v := .ref b4) (congrArg va_rf e_b4) dX12_leavesTrial_26 ?_
      refine lv_iload_n X.1 X.2.1 dX12_leavesTrial_29 rfl (lv_at hl 0 rfl) ?_
      obtain ⟨hi, hw⟩ := hw
      refine kp_iald X h f_b4 hi dX12_leavesTrial_30 ?_
      refine lv_iconst (v := (-1)) X.1 X.2.1 dX12_leavesTrial_31 (by decide) ?_
      refine lv_icmp_eq (tgt := 80) X.1 X.2.1 dX12_leavesTrial_32 (by decide) (fun c14 => ?_) (fun c14 => ?_)
      · have hw := hw.1 c14
        exact j80 y2 S _ _ ls (lv_sub hl [1, 2, 0] rfl) h hle f_a0 hw
      · have hw := hw.2 c14
        refine lv_aload_n X.1 X.2.1 dX12_leavesTrial_35 rfl (lv_at hl 1 rfl) ?_
        refine lv_iload_n X.1 X.2.1 dX12_leavesTrial_36 rfl (lv_at hl 2 rfl) ?_
        refine kp_callv X h (kp_runV (rm := { frames := 0, cells := 0, slots := 0, locals := 0 }) (mc := 0) (ms := 0) (rest := []) (Qc := fun A => kp_Qv D cy A S _) X h (c_X12_keepWay l D cy ad S a0 x1 _ h.2.2.2 f_a0 hw) f_a0 cv_12_675 ⟨by decide, by decide, rfl, rfl, by decide, by decide⟩ rfl hl.1 rfl (Nat.le_of_ble_eq_true rfl) dX12_leavesTrial_37) (fun T5 hw l_T5 H locs h => ?_)
        have f_a0 := l_T5.is f_a0
        have f_b1 := l_T5.is f_b1
        have f_b3 := l_T5.is f_b3
        have f_b4 := l_T5.is f_b4
        have hle := hle.tr l_T5
        refine lv_aload_n X.1 X.2.1 dX12_leavesTrial_40 rfl (lv_at hl 1 rfl) ?_
        obtain ⟨b6, e_b6, hw⟩ := hw
        have f_b6 := h.2.2.2.rf (c := 12) (k := 89) f_a0 (by decide) (by decide) e_b6 (t := 14) rfl
        refine kp_get X h f_a0 ff_12_179.l (v := .ref b6) (congrArg va_rf e_b6) dX12_leavesTrial_41 ?_
        refine lv_iload_n X.1 X.2.1 dX12_leavesTrial_44 rfl (lv_at hl 2 rfl) ?_
        refine lv_iconst (v := 4) X.1 X.2.1 dX12_leavesTrial_45 (by decide) ?_
        obtain ⟨hi, hw⟩ := hw
        refine kp_iast X h f_b6 hi dX12_leavesTrial_46 (fun T7 e_T7 l_T7 H locs h => ?_)
        have hw := hw T7 e_T7
        have f_a0 := l_T7.is f_a0
        have f_b1 := l_T7.is f_b1
        have f_b3 := l_T7.is f_b3
        have f_b4 := l_T7.is f_b4
        have f_b6 := l_T7.is f_b6
        have hle := hle.tr l_T7
        have e_b6 : kp_R T7 2489 a0 = some b6 := by rw [e_T7]; exact e_b6
        refine lv_aload_n X.1 X.2.1 dX12_leavesTrial_47 rfl (lv_at hl 1 rfl) ?_
        obtain ⟨b8, e_b8, hw⟩ := hw
        have f_b8 := h.2.2.2.rf (c := 12) (k := 91) f_a0 (by decide) (by decide) e_b8 (t := 14) rfl
        refine kp_get X h f_a0 ff_12_185.l (v := .ref b8) (congrArg va_rf e_b8) dX12_leavesTrial_48 ?_
        refine lv_iload_n X.1 X.2.1 dX12_leavesTrial_51 rfl (lv_at hl 2 rfl) ?_
        refine lv_aload_n X.1 X.2.1 dX12_leavesTrial_52 rfl (lv_at hl 1 rfl) ?_
        refine kp_get X h f_a0 fp_12_625.l (v := .int (kp_I T7 2484 a0)) rfl dX12_leavesTrial_53 ?_
        obtain ⟨hi, hw⟩ := hw
        refine kp_iast X h f_b8 hi dX12_leavesTrial_56 (fun T9 e_T9 l_T9 H locs h => ?_)
        have hw := hw T9 e_T9
        have f_a0 := l_T9.is f_a0
        have f_b1 := l_T9.is f_b1
        have f_b3 := l_T9.is f_b3
        have f_b4 := l_T9.is f_b4
        have f_b6 := l_T9.is f_b6
        have f_b8 := l_T9.is f_b8
        have hle := hle.tr l_T9
        have e_b6 : kp_R T9 2489 a0 = some b6 := by rw [e_T9]; exact e_b6
        have e_b8 : kp_R T9 2491 a0 = some b8 := by rw [e_T9]; exact e_b8
        refine lv_aload_n X.1 X.2.1 dX12_leavesTrial_57 rfl (lv_at hl 1 rfl) ?_
        refine lv_aload_n X.1 X.2.1 dX12_leavesTrial_58 rfl (lv_at hl 1 rfl) ?_
        obtain ⟨b10, e_b10, hw⟩ := hw
        have f_b10 := h.2.2.2.rf (c := 12) (k := 54) f_a0 (by decide) (by decide) e_b10 (t := 14) rfl
        refine kp_get X h f_a0 ff_12_130.l (v := .ref b10) (congrArg va_rf e_b10) dX12_leavesTrial_59 ?_
        refine lv_iload_n X.1 X.2.1 dX12_leavesTrial_62 rfl (lv_at hl 0 rfl) ?_
        obtain ⟨hi, hw⟩ := hw
        refine kp_iald X h f_b10 hi dX12_leavesTrial_63 ?_
        refine kp_putI X h f_a0 fp_12_639 rfl ⟨rfl, rfl⟩ dX12_leavesTrial_64 (fun T11 e_T11 l_T11 H locs h => ?_)
        have hw := hw T11 e_T11
        have f_a0 := l_T11.is f_a0
        have f_b1 := l_T11.is f_b1
        have f_b3 := l_T11.is f_b3
        have f_b4 := l_T11.is f_b4
        have f_b6 := l_T11.is f_b6
        have f_b8 := l_T11.is f_b8
        have f_b10 := l_T11.is f_b10
        have hle := hle.tr l_T11
        have e_b6 : kp_R T11 2489 a0 = some b6 := by rw [e_T11]; exact e_b6
        have e_b8 : kp_R T11 2491 a0 = some b8 := by rw [e_T11]; exact e_b8
        have e_b10 : kp_R T11 2454 a0 = some b10 := by rw [e_T11]; exact e_b10
        refine lv_aload_n X.1 X.2.1 dX12_leavesTrial_67 rfl (lv_at hl 1 rfl) ?_
        refine lv_iload_n X.1 X.2.1 dX12_leavesTrial_68 rfl (lv_at hl 2 rfl) ?_
        refine lv_aload_n X.1 X.2.1 dX12_leavesTrial_69 rfl (lv_at hl 1 rfl) ?_
        obtain ⟨b12, e_b12, hw⟩ := hw
        have f_b12 := h.2.2.2.rf (c := 12) (k := 56) f_a0 (by decide) (by decide) e_b12 (t := 14) rfl
        refine kp_get X h f_a0 ff_12_136.l (v := .ref b12) (congrArg va_rf e_b12) dX12_leavesTrial_70 ?_
        refine lv_iload_n X.1 X.2.1 dX12_leavesTrial_73 rfl (lv_at hl 0 rfl) ?_
        obtain ⟨hi, hw⟩ := hw
        refine kp_iald X h f_b12 hi dX12_leavesTrial_74 ?_
        refine kp_callv X h (kp_runV (rm := { frames := 0, cells := 0, slots := 0, locals := 0 }) (mc := 0) (ms := 0) (rest := []) (Qc := fun A => kp_Qv D cy A T11 _) X h (c_X12_goes l D cy ad T11 a0 x1 (kp_A T11 b12 y2.toNatClampNeg) _ h.2.2.2 f_a0 hw) f_a0 cv_12_666 ⟨by decide, by decide, rfl, rfl, by decide, by decide⟩ rfl hl.1 rfl (Nat.le_of_ble_eq_true rfl) dX12_leavesTrial_75) (fun T13 hw l_T13 H locs h => ?_)
        have f_a0 := l_T13.is f_a0
        have f_b1 := l_T13.is f_b1
        have f_b3 := l_T13.is f_b3
        have f_b4 := l_T13.is f_b4
        have f_b6 := l_T13.is f_b6
        have f_b8 := l_T13.is f_b8
        have f_b10 := l_T13.is f_b10
        have f_b12 := l_T13.is f_b12
        have hle := hle.tr l_T13
        refine lv_iconst (v := 0) X.1 X.2.1 dX12_leavesTrial_78 (by decide) ?_
        exact kp_reti X hr hlocks h hle (by decide) hw dX12_leavesTrial_79
theorem dX12_leavesEnsure_0 : decode cX12_leavesEnsure 0 = .ok (.aload_n 0, 1) := by decide +kernel
theorem dX12_leavesEnsure_1 : decode cX12_leavesEnsure 1 = .ok (.getfield 182, 3) := by decide +kernel
theorem dX12_leavesEnsure_4 : decode cX12_leavesEnsure 4 = .ok (.iload_n 1, 1) := by decide +kernel
theorem dX12_leavesEnsure_5 : decode cX12_leavesEnsure 5 = .ok (.iaload, 1) := by decide +kernel
theorem dX12_leavesEnsure_6 : decode cX12_leavesEnsure 6 = .ok (.istore_n 2, 1) := by decide +kernel
theorem dX12_leavesEnsure_7 : decode cX12_leavesEnsure 7 = .ok (.aload_n 0, 1) := by decide +kernel
theorem dX12_leavesEnsure_8 : decode cX12_leavesEnsure 8 = .ok (.getfield 179, 3) := by decide +kernel
theorem dX12_leavesEnsure_11 : decode cX12_leavesEnsure 11 = .ok (.iload_n 1, 1) := by decide +kernel
theorem dX12_leavesEnsure_12 : decode cX12_leavesEnsure 12 = .ok (.iaload, 1) := by decide +kernel
theorem dX12_leavesEnsure_13 : decode cX12_leavesEnsure 13 = .ok (.bipush 8, 2) := by decide +kernel
theorem dX12_leavesEnsure_15 : decode cX12_leavesEnsure 15 = .ok (.if_icmp .ne 66, 3) := by decide +kernel
theorem dX12_leavesEnsure_18 : decode cX12_leavesEnsure 18 = .ok (.aload_n 0, 1) := by decide +kernel
theorem dX12_leavesEnsure_19 : decode cX12_leavesEnsure 19 = .ok (.iload_n 1, 1) := by decide +kernel
theorem dX12_leavesEnsure_20 : decode cX12_leavesEnsure 20 = .ok (.invokevirtual 675, 3) := by decide +kernel
theorem dX12_leavesEnsure_23 : decode cX12_leavesEnsure 23 = .ok (.aload_n 0, 1) := by decide +kernel
theorem dX12_leavesEnsure_24 : decode cX12_leavesEnsure 24 = .ok (.getfield 179, 3) := by decide +kernel
theorem dX12_leavesEnsure_27 : decode cX12_leavesEnsure 27 = .ok (.iload_n 1, 1) := by decide +kernel
theorem dX12_leavesEnsure_28 : decode cX12_leavesEnsure 28 = .ok (.bipush 9, 2) := by decide +kernel
theorem dX12_leavesEnsure_30 : decode cX12_leavesEnsure 30 = .ok (.iastore, 1) := by decide +kernel
theorem dX12_leavesEnsure_31 : decode cX12_leavesEnsure 31 = .ok (.aload_n 0, 1) := by decide +kernel
theorem dX12_leavesEnsure_32 : decode cX12_leavesEnsure 32 = .ok (.getfield 185, 3) := by decide +kernel
theorem dX12_leavesEnsure_35 : decode cX12_leavesEnsure 35 = .ok (.iload_n 1, 1) := by decide +kernel
theorem dX12_leavesEnsure_36 : decode cX12_leavesEnsure 36 = .ok (.aload_n 0, 1) := by decide +kernel
theorem dX12_leavesEnsure_37 : decode cX12_leavesEnsure 37 = .ok (.getfield 616, 3) := by decide +kernel
theorem dX12_leavesEnsure_40 : decode cX12_leavesEnsure 40 = .ok (.iconst 4, 1) := by decide +kernel
theorem dX12_leavesEnsure_41 : decode cX12_leavesEnsure 41 = .ok (.if_icmp .ne 10, 3) := by decide +kernel
theorem dX12_leavesEnsure_44 : decode cX12_leavesEnsure 44 = .ok (.aload_n 0, 1) := by decide +kernel
theorem dX12_leavesEnsure_45 : decode cX12_leavesEnsure 45 = .ok (.getfield 625, 3) := by decide +kernel
theorem dX12_leavesEnsure_48 : decode cX12_leavesEnsure 48 = .ok (.goto 4, 3) := by decide +kernel
theorem dX12_leavesEnsure_51 : decode cX12_leavesEnsure 51 = .ok (.iconst 0, 1) := by decide +kernel
theorem dX12_leavesEnsure_52 : decode cX12_leavesEnsure 52 = .ok (.iastore, 1) := by decide +kernel
theorem dX12_leavesEnsure_53 : decode cX12_leavesEnsure 53 = .ok (.aload_n 0, 1) := by decide +kernel
theorem dX12_leavesEnsure_54 : decode cX12_leavesEnsure 54 = .ok (.aload_n 0, 1) := by decide +kernel
theorem dX12_leavesEnsure_55 : decode cX12_leavesEnsure 55 = .ok (.getfield 130, 3) := by decide +kernel
theorem dX12_leavesEnsure_58 : decode cX12_leavesEnsure 58 = .ok (.iload_n 2, 1) := by decide +kernel
theorem dX12_leavesEnsure_59 : decode cX12_leavesEnsure 59 = .ok (.iaload, 1) := by decide +kernel
theorem dX12_leavesEnsure_60 : decode cX12_leavesEnsure 60 = .ok (.putfield 639, 3) := by decide +kernel
theorem dX12_leavesEnsure_63 : decode cX12_leavesEnsure 63 = .ok (.aload_n 0, 1) := by decide +kernel
theorem dX12_leavesEnsure_64 : decode cX12_leavesEnsure 64 = .ok (.iload_n 1, 1) := by decide +kernel
theorem dX12_leavesEnsure_65 : decode cX12_leavesEnsure 65 = .ok (.aload_n 0, 1) := by decide +kernel
theorem dX12_leavesEnsure_66 : decode cX12_leavesEnsure 66 = .ok (.getfield 121, 3) := by decide +kernel
theorem dX12_leavesEnsure_69 : decode cX12_leavesEnsure 69 = .ok (.iload_n 2, 1) := by decide +kernel
theorem dX12_leavesEnsure_70 : decode cX12_leavesEnsure 70 = .ok (.iaload, 1) := by decide +kernel
theorem dX12_leavesEnsure_71 : decode cX12_leavesEnsure 71 = .ok (.invokevirtual 666, 3) := by decide +kernel
theorem dX12_leavesEnsure_74 : decode cX12_leavesEnsure 74 = .ok (.aload_n 0, 1) := by decide +kernel
theorem dX12_leavesEnsure_75 : decode cX12_leavesEnsure 75 = .ok (.invokevirtual 693, 3) := by decide +kernel
theorem dX12_leavesEnsure_78 : decode cX12_leavesEnsure 78 = .ok (.pop, 1) := by decide +kernel
theorem dX12_leavesEnsure_79 : decode cX12_leavesEnsure 79 = .ok (.iconst 0, 1) := by decide +kernel
theorem dX12_leavesEnsure_80 : decode cX12_leavesEnsure 80 = .ok (.ireturn, 1) := by decide +kernel
theorem dX12_leavesEnsure_81 : decode cX12_leavesEnsure 81 = .ok (.aload_n 0, 1) := by decide +kernel
theorem dX12_leavesEnsure_82 : decode cX12_leavesEnsure 82 = .ok (.getfield 179, 3) := by decide +kernel
theorem dX12_leavesEnsure_85 : decode cX12_leavesEnsure 85 = .ok (.iload_n 1, 1) := by decide +kernel
theorem dX12_leavesEnsure_86 : decode cX12_leavesEnsure 86 = .ok (.iaload, 1) := by decide +kernel
theorem dX12_leavesEnsure_87 : decode cX12_leavesEnsure 87 = .ok (.bipush 9, 2) := by decide +kernel
theorem dX12_leavesEnsure_89 : decode cX12_leavesEnsure 89 = .ok (.if_icmp .ne 8, 3) := by decide +kernel
theorem dX12_leavesEnsure_92 : decode cX12_leavesEnsure 92 = .ok (.aload_n 0, 1) := by decide +kernel
theorem dX12_leavesEnsure_93 : decode cX12_leavesEnsure 93 = .ok (.iload_n 1, 1) := by decide +kernel
theorem dX12_leavesEnsure_94 : decode cX12_leavesEnsure 94 = .ok (.invokevirtual 684, 3) := by decide +kernel
theorem dX12_leavesEnsure_97 : decode cX12_leavesEnsure 97 = .ok (.aload_n 0, 1) := by decide +kernel
theorem dX12_leavesEnsure_98 : decode cX12_leavesEnsure 98 = .ok (.iload_n 1, 1) := by decide +kernel
theorem dX12_leavesEnsure_99 : decode cX12_leavesEnsure 99 = .ok (.aload_n 0, 1) := by decide +kernel
theorem dX12_leavesEnsure_100 : decode cX12_leavesEnsure 100 = .ok (.getfield 127, 3) := by decide +kernel
theorem dX12_leavesEnsure_103 : decode cX12_leavesEnsure 103 = .ok (.iload_n 2, 1) := by decide +kernel
theorem dX12_leavesEnsure_104 : decode cX12_leavesEnsure 104 = .ok (.iaload, 1) := by decide +kernel
theorem dX12_leavesEnsure_105 : decode cX12_leavesEnsure 105 = .ok (.invokevirtual 672, 3) := by decide +kernel
theorem dX12_leavesEnsure_108 : decode cX12_leavesEnsure 108 = .ok (.ireturn, 1) := by decide +kernel
def wX12_leavesEnsure_b97 (a0 : Nat) (x1 : Int32) (xn2 : Int32)  (Sn : kp_S) (post : Int32 → kp_S → Prop) : Prop :=
  ∃ b1001 : Nat, kp_R Sn 2453 a0 = some b1001 ∧
  vp_in xn2 (kp_N Sn b1001) ∧
  wX12_closes a0 x1 (kp_A Sn b1001 xn2.toNatClampNeg) Sn (fun y1003 T1002 =>
  kp_b y1003 ∧ post y1003 T1002)
def wX12_leavesEnsure_b52 (a0 : Nat) (x1 : Int32) (xn2 : Int32) (xt0 : Int32) (xt1 : Int32) (at2 : Nat)  (Sn : kp_S) (post : Int32 → kp_S → Prop) : Prop :=
  vp_in xt1 (kp_N Sn at2) ∧ ∀ T2001 : kp_S, T2001 = kp_sA Sn at2 (upd (kp_A Sn at2) (xt1.toNatClampNeg) xt0) →
  ∃ b2002 : Nat, kp_R T2001 2454 a0 = some b2002 ∧
  vp_in xn2 (kp_N T2001 b2002) ∧
  ∀ T2003 : kp_S, T2003 = kp_sI T2001 2511 a0 (kp_A T2001 b2002 xn2.toNatClampNeg) →
  ∃ b2004 : Nat, kp_R T2003 2451 a0 = some b2004 ∧
  vp_in xn2 (kp_N T2003 b2004) ∧
  wX12_goes a0 x1 (kp_A T2003 b2004 xn2.toNatClampNeg) T2003 (fun T2005 =>
  wX12_burns a0 T2005 (fun y2007 T2006 =>
  post 0 T2006))
def wX12_leavesEnsure (a0 : Nat) (x1 : Int32) (S : kp_S) (post : Int32 → kp_S → Prop) : Prop :=
  ∃ b1 : Nat, kp_R S 2490 a0 = some b1 ∧
  vp_in x1 (kp_N S b1) ∧
  ∀ y2 : Int32, y2 = (kp_A S b1 x1.toNatClampNeg) →
  ∃ b3 : Nat, kp_R S 2489 a0 = some b3 ∧
  vp_in x1 (kp_N S b3) ∧
  ((¬ (kp_A S b3 x1.toNatClampNeg) = 8 →
  vp_in x1 (kp_N S b3) ∧
  ((¬ (kp_A S b3 x1.toNatClampNeg) = 9 →
  wX12_leavesEnsure_b97 a0 x1 y2  S post) ∧ ((kp_A S b3 x1.toNatClampNeg) = 9 →
  wX12_loses a0 x1 S (fun T4 =>
  wX12_leavesEnsure_b97 a0 x1 y2  T4 post)))) ∧ ((kp_A S b3 x1.toNatClampNeg) = 8 →
  wX12_keepWay a0 x1 S (fun T6 =>
  ∃ b7 : Nat, kp_R T6 2489 a0 = some b7 ∧
  vp_in x1 (kp_N T6 b7) ∧ ∀ T8 : kp_S, T8 = kp_sA T6 b7 (upd (kp_A T6 b7) (x1.toNatClampNeg) 9) →
  ∃ b9 : Nat, kp_R T8 2491 a0 = some b9 ∧
  ((¬ (kp_I T8 2481 a0) = 4 →
  wX12_leavesEnsure_b52 a0 x1 y2 0 x1 b9  T8 post) ∧ ((kp_I T8 2481 a0) = 4 →
  wX12_leavesEnsure_b52 a0 x1 y2 (kp_I T8 2484 a0) x1 b9  T8 post)))))
set_option maxHeartbeats 4000000 in
set_option maxRecDepth 100000 in
theorem c_X12_leavesEnsure (l : Launch) (D : va_G) (cy : Nat → ClassId) (ad : (Nat → Nat) × (Nat → Nat)) (S : kp_S) (a0 : Nat) (x1 : Int32) (post : Int32 → kp_S → Prop) (hS : kp_ok S) (f_a0 : kp_is S a0 12) (hw : wX12_leavesEnsure a0 x1 S post) : kp_M l yX12_leavesEnsure cX12_leavesEnsure 3 (some .boolean) { frames := 2, cells := 0, slots := 0, locals := 44 } D cy ad S [.ref a0, .int x1] 0 0 (fun A => kp_Qi D cy A S post) := by
  refine kp_start (own := RX12) (by decide) rfl (Nat.le_of_ble_eq_true rfl) hS ?_
  intro p e s m below meth c A ls X hr hlocks hname h hl
  have hle : kp_le S S := kp_le.rf
  have hl : lv_has ls 3 [(0, .ref a0), (1, .int x1)] := hl
  have j97 : ∀ (xn2 : Int32) (Sn : kp_S) (H : Heap) (locs : List Loc) (ls : Array Slot), lv_has ls 3 [(0, .ref a0), (1, .int x1), (2, .int xn2)] → kp_H D cy A Sn s.heap H locs → kp_le S Sn → kp_is Sn a0 12 → wX12_leavesEnsure_b97 a0 x1 xn2  Sn post → W p l e { frames := 2, cells := 0, slots := 0, locals := 44 } s m ([.ref a0, .int x1] : List Value).toArray below meth c H locs 0 0 (MQ below (kp_Qi D cy A S post) ([.ref a0, .int x1] : List Value).toArray s 0 0 A) (F0 m 97 ls []) := by
    intro xn2 Sn H locs ls hl h hle f_a0 hw
    unfold wX12_leavesEnsure_b97 at hw
    refine lv_aload_n X.1 X.2.1 dX12_leavesEnsure_97 rfl (lv_at hl 0 rfl) ?_
    refine lv_iload_n X.1 X.2.1 dX12_leavesEnsure_98 rfl (lv_at hl 1 rfl) ?_
    refine lv_aload_n X.1 X.2.1 dX12_leavesEnsure_99 rfl (lv_at hl 0 rfl) ?_
    obtain ⟨b1001, e_b1001, hw⟩ := hw
    have f_b1001 := h.2.2.2.rf (c := 12) (k := 53) f_a0 (by decide) (by decide) e_b1001 (t := 14) rfl
    refine kp_get X h f_a0 ff_12_127.l (v := .ref b1001) (congrArg va_rf e_b1001) dX12_leavesEnsure_100 ?_
    refine lv_iload_n X.1 X.2.1 dX12_leavesEnsure_103 rfl (lv_at hl 2 rfl) ?_
    obtain ⟨hi, hw⟩ := hw
    refine kp_iald X h f_b1001 hi dX12_leavesEnsure_104 ?_
    refine kp_calli X h (kp_runV (rm := { frames := 1, cells := 0, slots := 0, locals := 22 }) (mc := 0) (ms := 0) (rest := []) (Qc := fun A => kp_Qi D cy A Sn _) X h (c_X12_closes l D cy ad Sn a0 x1 (kp_A Sn b1001 xn2.toNatClampNeg) _ h.2.2.2 f_a0 hw) f_a0 cv_12_672 ⟨by decide, by decide, rfl, rfl, by decide, by decide⟩ rfl hl.1 rfl (Nat.le_of_ble_eq_true rfl) dX12_leavesEnsure_105) (fun y1003 T1002 hw l_T1002 H locs h => ?_)
    have f_a0 := l_T1002.is f_a0
    have f_b1001 := l_T1002.is f_b1001
    have hle := hle.tr l_T1002
    exact kp_reti X hr hlocks h hle (kp_bz hw.1).1 hw.2 dX12_leavesEnsure_108
  have j52 : ∀ (xn2 : Int32) (xt0 : Int32) (xt1 : Int32) (at2 : Nat) (Sn : kp_S) (H : Heap) (locs : List Loc) (ls : Array Slot), lv_has ls 3 [(0, .ref a0), (1, .int x1), (2, .int xn2)] → kp_H D cy A Sn s.heap H locs → kp_le S Sn → kp_is Sn a0 12 → kp_is Sn at2 14 → wX12_leavesEnsure_b52 a0 x1 xn2 xt0 xt1 at2  Sn post → W p l e { frames := 2, cells := 0, slots := 0, locals := 44 } s m ([.ref a0, .int x1] : List Value).toArray below meth c H locs 0 0 (MQ below (kp_Qi D cy A S post) ([.ref a0, .int x1] : List Value).toArray s 0 0 A) (F0 m 52 ls [.int xt0, .int xt1, .ref at2]) := by
    intro xn2 xt0 xt1 at2 Sn H locs ls hl h hle f_a0 f_at2 hw
    unfold wX12_leavesEnsure_b52 at hw
    obtain ⟨hi, hw⟩ := hw
    refine kp_iast X h f_at2 hi dX12_leavesEnsure_52 (fun T2001 e_T2001 l_T2001 H locs h => ?_)
    have hw := hw T2001 e_T2001
    have f_a0 := l_T2001.is f_a0
    have f_at2 := l_T2001.is f_at2
    have hle := hle.tr l_T2001
    refine lv_aload_n X.1 X.2.1 dX12_leavesEnsure_53 rfl (lv_at hl 0 rfl) ?_
    refine lv_aload_n X.1 X.2.1 dX12_leavesEnsure_54 rfl (lv_at hl 0 rfl) ?_
    obtain ⟨b2002, e_b2002, hw⟩ := hw
    have f_b2002 := h.2.2.2.rf (c := 12) (k := 54) f_a0 (by decide) (by decide) e_b2002 (t := 14) rfl
    refine kp_get X h f_a0 ff_12_130.l (v := .ref b2002) (congrArg va_rf e_b2002) dX12_leavesEnsure_55 ?_
    refine lv_iload_n X.1 X.2.1 dX12_leavesEnsure_58 rfl (lv_at hl 2 rfl) ?_
    obtain ⟨hi, hw⟩ := hw
    refine kp_iald X h f_b2002 hi dX12_leavesEnsure_59 ?_
    refine kp_putI X h f_a0 fp_12_639 rfl ⟨rfl, rfl⟩ dX12_leavesEnsure_60 (fun T2003 e_T2003 l_T2003 H locs h => ?_)
    have hw := hw T2003 e_T2003
    have f_a0 := l_T2003.is f_a0
    have f_at2 := l_T2003.is f_at2
    have f_b2002 := l_T2003.is f_b2002
    have hle := hle.tr l_T2003
    have e_b2002 : kp_R T2003 2454 a0 = some b2002 := by rw [e_T2003]; exact e_b2002
    refine lv_aload_n X.1 X.2.1 dX12_leavesEnsure_63 rfl (lv_at hl 0 rfl) ?_
    refine lv_iload_n X.1 X.2.1 dX12_leavesEnsure_64 rfl (lv_at hl 1 rfl) ?_
    refine lv_aload_n X.1 X.2.1 dX12_leavesEnsure_65 rfl (lv_at hl 0 rfl) ?_
    obtain ⟨b2004, e_b2004, hw⟩ := hw
    have f_b2004 := h.2.2.2.rf (c := 12) (k := 51) f_a0 (by decide) (by decide) e_b2004 (t := 14) rfl
    refine kp_get X h f_a0 ff_12_121.l (v := .ref b2004) (congrArg va_rf e_b2004) dX12_leavesEnsure_66 ?_
    refine lv_iload_n X.1 X.2.1 dX12_leavesEnsure_69 rfl (lv_at hl 2 rfl) ?_
    obtain ⟨hi, hw⟩ := hw
    refine kp_iald X h f_b2004 hi dX12_leavesEnsure_70 ?_
    refine kp_callv X h (kp_runV (rm := { frames := 0, cells := 0, slots := 0, locals := 0 }) (mc := 0) (ms := 0) (rest := []) (Qc := fun A => kp_Qv D cy A T2003 _) X h (c_X12_goes l D cy ad T2003 a0 x1 (kp_A T2003 b2004 xn2.toNatClampNeg) _ h.2.2.2 f_a0 hw) f_a0 cv_12_666 ⟨by decide, by decide, rfl, rfl, by decide, by decide⟩ rfl hl.1 rfl (Nat.le_of_ble_eq_true rfl) dX12_leavesEnsure_71) (fun T2005 hw l_T2005 H locs h => ?_)
    have f_a0 := l_T2005.is f_a0
    have f_at2 := l_T2005.is f_at2
    have f_b2002 := l_T2005.is f_b2002
    have f_b2004 := l_T2005.is f_b2004
    have hle := hle.tr l_T2005
    refine lv_aload_n X.1 X.2.1 dX12_leavesEnsure_74 rfl (lv_at hl 0 rfl) ?_
    refine kp_calli X h (kp_runV (rm := { frames := 0, cells := 0, slots := 0, locals := 0 }) (mc := 0) (ms := 0) (rest := []) (Qc := fun A => kp_Qi D cy A T2005 _) X h (c_X12_burns l D cy ad T2005 a0 _ h.2.2.2 f_a0 hw) f_a0 cv_12_693 ⟨by decide, by decide, rfl, rfl, by decide, by decide⟩ rfl hl.1 rfl (Nat.le_of_ble_eq_true rfl) dX12_leavesEnsure_75) (fun y2007 T2006 hw l_T2006 H locs h => ?_)
    have f_a0 := l_T2006.is f_a0
    have f_at2 := l_T2006.is f_at2
    have f_b2002 := l_T2006.is f_b2002
    have f_b2004 := l_T2006.is f_b2004
    have hle := hle.tr l_T2006
    refine lv_pop X.1 X.2.1 dX12_leavesEnsure_78 rfl ?_
    refine lv_iconst (v := 0) X.1 X.2.1 dX12_leavesEnsure_79 (by decide) ?_
    exact kp_reti X hr hlocks h hle (by decide) hw dX12_leavesEnsure_80
  unfold wX12_leavesEnsure at hw
  have h : kp_H D cy A S s.heap s.heap [] := h
  revert h
  intro h
  refine lv_aload_n X.1 X.2.1 dX12_leavesEnsure_0 rfl (lv_at hl 0 rfl) ?_
  obtain ⟨b1, e_b1, hw⟩ := hw
  have f_b1 := h.2.2.2.rf (c := 12) (k := 90) f_a0 (by decide) (by decide) e_b1 (t := 14) rfl
  refine kp_get X h f_a0 ff_12_182.l (v := .ref b1) (congrArg va_rf e_b1) dX12_leavesEnsure_1 ?_
  refine lv_iload_n X.1 X.2.1 dX12_leavesEnsure_4 rfl (lv_at hl 1 rfl) ?_
  obtain ⟨hi, hw⟩ := hw
  refine kp_iald X h f_b1 hi dX12_leavesEnsure_5 ?_
  refine lv_topi (fun y2 e_y2 => ?_)
  have hw := hw y2 e_y2
  refine lv_istore_n (lv' := [(2, .int y2), (0, .ref a0), (1, .int x1)]) X.1 X.2.1 dX12_leavesEnsure_6 rfl hl (by decide) rfl (fun ls hl => ?_)
  refine lv_aload_n X.1 X.2.1 dX12_leavesEnsure_7 rfl (lv_at hl 1 rfl) ?_
  obtain ⟨b3, e_b3, hw⟩ := hw
  have f_b3 := h.2.2.2.rf (c := 12) (k := 89) f_a0 (by decide) (by decide) e_b3 (t := 14) rfl
  refine kp_get X h f_a0 ff_12_179.l (v := .ref b3) (congrArg va_rf e_b3) dX12_leavesEnsure_8 ?_
  refine lv_iload_n X.1 X.2.1 dX12_leavesEnsure_11 rfl (lv_at hl 2 rfl) ?_
  obtain ⟨hi, hw⟩ := hw
  refine kp_iald X h f_b3 hi dX12_leavesEnsure_12 ?_
  refine lv_bipush (v := 8) X.1 X.2.1 dX12_leavesEnsure_13 (by decide) ?_
  refine lv_icmp_ne (tgt := 81) X.1 X.2.1 dX12_leavesEnsure_15 (by decide) (fun c11 => ?_) (fun c11 => ?_)
  · have hw := hw.1 c11
    refine lv_aload_n X.1 X.2.1 dX12_leavesEnsure_81 rfl (lv_at hl 1 rfl) ?_
    refine kp_get X h f_a0 ff_12_179.l (v := .ref b3) (congrArg va_rf e_b3) dX12_leavesEnsure_82 ?_
    refine lv_iload_n X.1 X.2.1 dX12_leavesEnsure_85 rfl (lv_at hl 2 rfl) ?_
    obtain ⟨hi, hw⟩ := hw
    refine kp_iald X h f_b3 hi dX12_leavesEnsure_86 ?_
    refine lv_bipush (v := 9) X.1 X.2.1 dX12_leavesEnsure_87 (by decide) ?_
    refine lv_icmp_ne (tgt := 97) X.1 X.2.1 dX12_leavesEnsure_89 (by decide) (fun c5 => ?_) (fun c5 => ?_)
    · have hw := hw.1 c5
      exact j97 y2 S _ _ ls (lv_sub hl [1, 2, 0] rfl) h hle f_a0 hw
    · have hw := hw.2 c5
      refine lv_aload_n X.1 X.2.1 dX12_leavesEnsure_92 rfl (lv_at hl 1 rfl) ?_
      refine lv_iload_n X.1 X.2.1 dX12_leavesEnsure_93 rfl (lv_at hl 2 rfl) ?_
      refine kp_callv X h (kp_runV (rm := { frames := 1, cells := 0, slots := 0, locals := 22 }) (mc := 0) (ms := 0) (rest := []) (Qc := fun A => kp_Qv D cy A S _) X h (c_X12_loses l D cy ad S a0 x1 _ h.2.2.2 f_a0 hw) f_a0 cv_12_684 ⟨by decide, by decide, rfl, rfl, by decide, by decide⟩ rfl hl.1 rfl (Nat.le_of_ble_eq_true rfl) dX12_leavesEnsure_94) (fun T4 hw l_T4 H locs h => ?_)
      have f_a0 := l_T4.is f_a0
      have f_b1 := l_T4.is f_b1
      have f_b3 := l_T4.is f_b3
      have hle := hle.tr l_T4
      exact j97 y2 T4 _ _ ls (lv_sub hl [1, 2, 0] rfl) h hle f_a0 hw
  · have hw := hw.2 c11
    refine lv_aload_n X.1 X.2.1 dX12_leavesEnsure_18 rfl (lv_at hl 1 rfl) ?_
    refine lv_iload_n X.1 X.2.1 dX12_leavesEnsure_19 rfl (lv_at hl 2 rfl) ?_
    refine kp_callv X h (kp_runV (rm := { frames := 0, cells := 0, slots := 0, locals := 0 }) (mc := 0) (ms := 0) (rest := []) (Qc := fun A => kp_Qv D cy A S _) X h (c_X12_keepWay l D cy ad S a0 x1 _ h.2.2.2 f_a0 hw) f_a0 cv_12_675 ⟨by decide, by decide, rfl, rfl, by decide, by decide⟩ rfl hl.1 rfl (Nat.le_of_ble_eq_true rfl) dX12_leavesEnsure_20) (fun T6 hw l_T6 H locs h => ?_)
    have f_a0 := l_T6.is f_a0
    have f_b1 := l_T6.is f_b1
    have f_b3 := l_T6.is f_b3
    have hle := hle.tr l_T6
    refine lv_aload_n X.1 X.2.1 dX12_leavesEnsure_23 rfl (lv_at hl 1 rfl) ?_
    obtain ⟨b7, e_b7, hw⟩ := hw
    have f_b7 := h.2.2.2.rf (c := 12) (k := 89) f_a0 (by decide) (by decide) e_b7 (t := 14) rfl
    refine kp_get X h f_a0 ff_12_179.l (v := .ref b7) (congrArg va_rf e_b7) dX12_leavesEnsure_24 ?_
    refine lv_iload_n X.1 X.2.1 dX12_leavesEnsure_27 rfl (lv_at hl 2 rfl) ?_
    refine lv_bipush (v := 9) X.1 X.2.1 dX12_leavesEnsure_28 (by decide) ?_
    obtain ⟨hi, hw⟩ := hw
    refine kp_iast X h f_b7 hi dX12_leavesEnsure_30 (fun T8 e_T8 l_T8 H locs h => ?_)
    have hw := hw T8 e_T8
    have f_a0 := l_T8.is f_a0
    have f_b1 := l_T8.is f_b1
    have f_b3 := l_T8.is f_b3
    have f_b7 := l_T8.is f_b7
    have hle := hle.tr l_T8
    have e_b7 : kp_R T8 2489 a0 = some b7 := by rw [e_T8]; exact e_b7
    refine lv_aload_n X.1 X.2.1 dX12_leavesEnsure_31 rfl (lv_at hl 1 rfl) ?_
    obtain ⟨b9, e_b9, hw⟩ := hw
    have f_b9 := h.2.2.2.rf (c := 12) (k := 91) f_a0 (by decide) (by decide) e_b9 (t := 14) rfl
    refine kp_get X h f_a0 ff_12_185.l (v := .ref b9) (congrArg va_rf e_b9) dX12_leavesEnsure_32 ?_
    refine lv_iload_n X.1 X.2.1 dX12_leavesEnsure_35 rfl (lv_at hl 2 rfl) ?_
    refine lv_aload_n X.1 X.2.1 dX12_leavesEnsure_36 rfl (lv_at hl 1 rfl) ?_
    refine kp_get X h f_a0 fp_12_616.l (v := .int (kp_I T8 2481 a0)) rfl dX12_leavesEnsure_37 ?_
    refine lv_iconst (v := 4) X.1 X.2.1 dX12_leavesEnsure_40 (by decide) ?_
    refine lv_icmp_ne (tgt := 51) X.1 X.2.1 dX12_leavesEnsure_41 (by decide) (fun c10 => ?_) (fun c10 => ?_)
    · have hw := hw.1 c10
      refine lv_iconst (v := 0) X.1 X.2.1 dX12_leavesEnsure_51 (by decide) ?_
      exact j52 y2 0 x1 b9 T8 _ _ ls (lv_sub hl [1, 2, 0] rfl) h hle f_a0 f_b9 hw
    · have hw := hw.2 c10
      refine lv_aload_n X.1 X.2.1 dX12_leavesEnsure_44 rfl (lv_at hl 1 rfl) ?_
      refine kp_get X h f_a0 fp_12_625.l (v := .int (kp_I T8 2484 a0)) rfl dX12_leavesEnsure_45 ?_
      refine lv_goto (tgt := 52) X.1 X.2.1 dX12_leavesEnsure_48 (by decide) ?_
      exact j52 y2 (kp_I T8 2484 a0) x1 b9 T8 _ _ ls (lv_sub hl [1, 2, 0] rfl) h hle f_a0 f_b9 hw
theorem dX12_leavesCall_0 : decode cX12_leavesCall 0 = .ok (.aload_n 0, 1) := by decide +kernel
theorem dX12_leavesCall_1 : decode cX12_leavesCall 1 = .ok (.getfield 179, 3) := by decide +kernel
theorem dX12_leavesCall_4 : decode cX12_leavesCall 4 = .ok (.iload_n 1, 1) := by decide +kernel
theorem dX12_leavesCall_5 : decode cX12_leavesCall 5 = .ok (.iaload, 1) := by decide +kernel
theorem dX12_leavesCall_6 : decode cX12_leavesCall 6 = .ok (.bipush 7, 2) := by decide +kernel
theorem dX12_leavesCall_8 : decode cX12_leavesCall 8 = .ok (.if_icmp .ne 23, 3) := by decide +kernel
theorem dX12_leavesCall_11 : decode cX12_leavesCall 11 = .ok (.aload_n 0, 1) := by decide +kernel
theorem dX12_leavesCall_12 : decode cX12_leavesCall 12 = .ok (.getfield 616, 3) := by decide +kernel
theorem dX12_leavesCall_15 : decode cX12_leavesCall 15 = .ok (.ifCond .ne 11, 3) := by decide +kernel
theorem dX12_leavesCall_18 : decode cX12_leavesCall 18 = .ok (.aload_n 0, 1) := by decide +kernel
theorem dX12_leavesCall_19 : decode cX12_leavesCall 19 = .ok (.iload_n 1, 1) := by decide +kernel
theorem dX12_leavesCall_20 : decode cX12_leavesCall 20 = .ok (.invokevirtual 681, 3) := by decide +kernel
theorem dX12_leavesCall_23 : decode cX12_leavesCall 23 = .ok (.goto 8, 3) := by decide +kernel
theorem dX12_leavesCall_26 : decode cX12_leavesCall 26 = .ok (.aload_n 0, 1) := by decide +kernel
theorem dX12_leavesCall_27 : decode cX12_leavesCall 27 = .ok (.iload_n 1, 1) := by decide +kernel
theorem dX12_leavesCall_28 : decode cX12_leavesCall 28 = .ok (.invokevirtual 684, 3) := by decide +kernel
theorem dX12_leavesCall_31 : decode cX12_leavesCall 31 = .ok (.aload_n 0, 1) := by decide +kernel
theorem dX12_leavesCall_32 : decode cX12_leavesCall 32 = .ok (.iload_n 1, 1) := by decide +kernel
theorem dX12_leavesCall_33 : decode cX12_leavesCall 33 = .ok (.invokevirtual 675, 3) := by decide +kernel
theorem dX12_leavesCall_36 : decode cX12_leavesCall 36 = .ok (.aload_n 0, 1) := by decide +kernel
theorem dX12_leavesCall_37 : decode cX12_leavesCall 37 = .ok (.getfield 179, 3) := by decide +kernel
theorem dX12_leavesCall_40 : decode cX12_leavesCall 40 = .ok (.iload_n 1, 1) := by decide +kernel
theorem dX12_leavesCall_41 : decode cX12_leavesCall 41 = .ok (.bipush 7, 2) := by decide +kernel
theorem dX12_leavesCall_43 : decode cX12_leavesCall 43 = .ok (.iastore, 1) := by decide +kernel
theorem dX12_leavesCall_44 : decode cX12_leavesCall 44 = .ok (.aload_n 0, 1) := by decide +kernel
theorem dX12_leavesCall_45 : decode cX12_leavesCall 45 = .ok (.getfield 227, 3) := by decide +kernel
theorem dX12_leavesCall_48 : decode cX12_leavesCall 48 = .ok (.aload_n 0, 1) := by decide +kernel
theorem dX12_leavesCall_49 : decode cX12_leavesCall 49 = .ok (.getfield 699, 3) := by decide +kernel
theorem dX12_leavesCall_52 : decode cX12_leavesCall 52 = .ok (.iaload, 1) := by decide +kernel
theorem dX12_leavesCall_53 : decode cX12_leavesCall 53 = .ok (.ifCond .le 91, 3) := by decide +kernel
theorem dX12_leavesCall_56 : decode cX12_leavesCall 56 = .ok (.aload_n 0, 1) := by decide +kernel
theorem dX12_leavesCall_57 : decode cX12_leavesCall 57 = .ok (.getfield 227, 3) := by decide +kernel
theorem dX12_leavesCall_60 : decode cX12_leavesCall 60 = .ok (.aload_n 0, 1) := by decide +kernel
theorem dX12_leavesCall_61 : decode cX12_leavesCall 61 = .ok (.getfield 699, 3) := by decide +kernel
theorem dX12_leavesCall_64 : decode cX12_leavesCall 64 = .ok (.dup2, 1) := by decide +kernel
theorem dX12_leavesCall_65 : decode cX12_leavesCall 65 = .ok (.iaload, 1) := by decide +kernel
theorem dX12_leavesCall_66 : decode cX12_leavesCall 66 = .ok (.iconst 1, 1) := by decide +kernel
theorem dX12_leavesCall_67 : decode cX12_leavesCall 67 = .ok (.isub, 1) := by decide +kernel
theorem dX12_leavesCall_68 : decode cX12_leavesCall 68 = .ok (.iastore, 1) := by decide +kernel
theorem dX12_leavesCall_69 : decode cX12_leavesCall 69 = .ok (.bipush 40, 2) := by decide +kernel
theorem dX12_leavesCall_71 : decode cX12_leavesCall 71 = .ok (.aload_n 0, 1) := by decide +kernel
theorem dX12_leavesCall_72 : decode cX12_leavesCall 72 = .ok (.getfield 699, 3) := by decide +kernel
theorem dX12_leavesCall_75 : decode cX12_leavesCall 75 = .ok (.imul, 1) := by decide +kernel
theorem dX12_leavesCall_76 : decode cX12_leavesCall 76 = .ok (.aload_n 0, 1) := by decide +kernel
theorem dX12_leavesCall_77 : decode cX12_leavesCall 77 = .ok (.getfield 227, 3) := by decide +kernel
theorem dX12_leavesCall_80 : decode cX12_leavesCall 80 = .ok (.aload_n 0, 1) := by decide +kernel
theorem dX12_leavesCall_81 : decode cX12_leavesCall 81 = .ok (.getfield 699, 3) := by decide +kernel
theorem dX12_leavesCall_84 : decode cX12_leavesCall 84 = .ok (.iaload, 1) := by decide +kernel
theorem dX12_leavesCall_85 : decode cX12_leavesCall 85 = .ok (.iadd, 1) := by decide +kernel
theorem dX12_leavesCall_86 : decode cX12_leavesCall 86 = .ok (.istore_n 2, 1) := by decide +kernel
theorem dX12_leavesCall_87 : decode cX12_leavesCall 87 = .ok (.aload_n 0, 1) := by decide +kernel
theorem dX12_leavesCall_88 : decode cX12_leavesCall 88 = .ok (.dup, 1) := by decide +kernel
theorem dX12_leavesCall_89 : decode cX12_leavesCall 89 = .ok (.getfield 702, 3) := by decide +kernel
theorem dX12_leavesCall_92 : decode cX12_leavesCall 92 = .ok (.iconst 1, 1) := by decide +kernel
theorem dX12_leavesCall_93 : decode cX12_leavesCall 93 = .ok (.iadd, 1) := by decide +kernel
theorem dX12_leavesCall_94 : decode cX12_leavesCall 94 = .ok (.putfield 702, 3) := by decide +kernel
theorem dX12_leavesCall_97 : decode cX12_leavesCall 97 = .ok (.aload_n 0, 1) := by decide +kernel
theorem dX12_leavesCall_98 : decode cX12_leavesCall 98 = .ok (.bipush 10, 2) := by decide +kernel
theorem dX12_leavesCall_100 : decode cX12_leavesCall 100 = .ok (.aload_n 0, 1) := by decide +kernel
theorem dX12_leavesCall_101 : decode cX12_leavesCall 101 = .ok (.getfield 233, 3) := by decide +kernel
theorem dX12_leavesCall_104 : decode cX12_leavesCall 104 = .ok (.iload_n 2, 1) := by decide +kernel
theorem dX12_leavesCall_105 : decode cX12_leavesCall 105 = .ok (.iaload, 1) := by decide +kernel
theorem dX12_leavesCall_106 : decode cX12_leavesCall 106 = .ok (.invokevirtual 637, 3) := by decide +kernel
theorem dX12_leavesCall_109 : decode cX12_leavesCall 109 = .ok (.aload_n 0, 1) := by decide +kernel
theorem dX12_leavesCall_110 : decode cX12_leavesCall 110 = .ok (.getfield 185, 3) := by decide +kernel
theorem dX12_leavesCall_113 : decode cX12_leavesCall 113 = .ok (.iload_n 1, 1) := by decide +kernel
theorem dX12_leavesCall_114 : decode cX12_leavesCall 114 = .ok (.aload_n 0, 1) := by decide +kernel
theorem dX12_leavesCall_115 : decode cX12_leavesCall 115 = .ok (.getfield 616, 3) := by decide +kernel
theorem dX12_leavesCall_118 : decode cX12_leavesCall 118 = .ok (.iconst 4, 1) := by decide +kernel
theorem dX12_leavesCall_119 : decode cX12_leavesCall 119 = .ok (.if_icmp .ne 10, 3) := by decide +kernel
theorem dX12_leavesCall_122 : decode cX12_leavesCall 122 = .ok (.aload_n 0, 1) := by decide +kernel
theorem dX12_leavesCall_123 : decode cX12_leavesCall 123 = .ok (.getfield 625, 3) := by decide +kernel
theorem dX12_leavesCall_126 : decode cX12_leavesCall 126 = .ok (.goto 4, 3) := by decide +kernel
theorem dX12_leavesCall_129 : decode cX12_leavesCall 129 = .ok (.iconst 0, 1) := by decide +kernel
theorem dX12_leavesCall_130 : decode cX12_leavesCall 130 = .ok (.iastore, 1) := by decide +kernel
theorem dX12_leavesCall_131 : decode cX12_leavesCall 131 = .ok (.aload_n 0, 1) := by decide +kernel
theorem dX12_leavesCall_132 : decode cX12_leavesCall 132 = .ok (.iload_n 1, 1) := by decide +kernel
theorem dX12_leavesCall_133 : decode cX12_leavesCall 133 = .ok (.aload_n 0, 1) := by decide +kernel
theorem dX12_leavesCall_134 : decode cX12_leavesCall 134 = .ok (.getfield 230, 3) := by decide +kernel
theorem dX12_leavesCall_137 : decode cX12_leavesCall 137 = .ok (.iload_n 2, 1) := by decide +kernel
theorem dX12_leavesCall_138 : decode cX12_leavesCall 138 = .ok (.iaload, 1) := by decide +kernel
theorem dX12_leavesCall_139 : decode cX12_leavesCall 139 = .ok (.invokevirtual 666, 3) := by decide +kernel
theorem dX12_leavesCall_142 : decode cX12_leavesCall 142 = .ok (.iconst 0, 1) := by decide +kernel
theorem dX12_leavesCall_143 : decode cX12_leavesCall 143 = .ok (.ireturn, 1) := by decide +kernel
theorem dX12_leavesCall_144 : decode cX12_leavesCall 144 = .ok (.aload_n 0, 1) := by decide +kernel
theorem dX12_leavesCall_145 : decode cX12_leavesCall 145 = .ok (.iload_n 1, 1) := by decide +kernel
theorem dX12_leavesCall_146 : decode cX12_leavesCall 146 = .ok (.putfield 613, 3) := by decide +kernel
theorem dX12_leavesCall_149 : decode cX12_leavesCall 149 = .ok (.aload_n 0, 1) := by decide +kernel
theorem dX12_leavesCall_150 : decode cX12_leavesCall 150 = .ok (.aload_n 0, 1) := by decide +kernel
theorem dX12_leavesCall_151 : decode cX12_leavesCall 151 = .ok (.getfield 218, 3) := by decide +kernel
theorem dX12_leavesCall_154 : decode cX12_leavesCall 154 = .ok (.aload_n 0, 1) := by decide +kernel
theorem dX12_leavesCall_155 : decode cX12_leavesCall 155 = .ok (.getfield 699, 3) := by decide +kernel
theorem dX12_leavesCall_158 : decode cX12_leavesCall 158 = .ok (.iaload, 1) := by decide +kernel
theorem dX12_leavesCall_159 : decode cX12_leavesCall 159 = .ok (.putfield 639, 3) := by decide +kernel
theorem dX12_leavesCall_162 : decode cX12_leavesCall 162 = .ok (.aload_n 0, 1) := by decide +kernel
theorem dX12_leavesCall_163 : decode cX12_leavesCall 163 = .ok (.getfield 215, 3) := by decide +kernel
theorem dX12_leavesCall_166 : decode cX12_leavesCall 166 = .ok (.aload_n 0, 1) := by decide +kernel
theorem dX12_leavesCall_167 : decode cX12_leavesCall 167 = .ok (.getfield 699, 3) := by decide +kernel
theorem dX12_leavesCall_170 : decode cX12_leavesCall 170 = .ok (.iaload, 1) := by decide +kernel
theorem dX12_leavesCall_171 : decode cX12_leavesCall 171 = .ok (.istore_n 2, 1) := by decide +kernel
theorem dX12_leavesCall_172 : decode cX12_leavesCall 172 = .ok (.aload_n 0, 1) := by decide +kernel
theorem dX12_leavesCall_173 : decode cX12_leavesCall 173 = .ok (.dup, 1) := by decide +kernel
theorem dX12_leavesCall_174 : decode cX12_leavesCall 174 = .ok (.getfield 699, 3) := by decide +kernel
theorem dX12_leavesCall_177 : decode cX12_leavesCall 177 = .ok (.iconst 1, 1) := by decide +kernel
theorem dX12_leavesCall_178 : decode cX12_leavesCall 178 = .ok (.isub, 1) := by decide +kernel
theorem dX12_leavesCall_179 : decode cX12_leavesCall 179 = .ok (.putfield 699, 3) := by decide +kernel
theorem dX12_leavesCall_182 : decode cX12_leavesCall 182 = .ok (.aload_n 0, 1) := by decide +kernel
theorem dX12_leavesCall_183 : decode cX12_leavesCall 183 = .ok (.aload_n 0, 1) := by decide +kernel
theorem dX12_leavesCall_184 : decode cX12_leavesCall 184 = .ok (.getfield 699, 3) := by decide +kernel
theorem dX12_leavesCall_187 : decode cX12_leavesCall 187 = .ok (.ifCond .ne 7, 3) := by decide +kernel
theorem dX12_leavesCall_190 : decode cX12_leavesCall 190 = .ok (.iconst 1, 1) := by decide +kernel
theorem dX12_leavesCall_191 : decode cX12_leavesCall 191 = .ok (.goto 4, 3) := by decide +kernel
theorem dX12_leavesCall_194 : decode cX12_leavesCall 194 = .ok (.iconst 0, 1) := by decide +kernel
theorem dX12_leavesCall_195 : decode cX12_leavesCall 195 = .ok (.putfield 705, 3) := by decide +kernel
theorem dX12_leavesCall_198 : decode cX12_leavesCall 198 = .ok (.aload_n 0, 1) := by decide +kernel
theorem dX12_leavesCall_199 : decode cX12_leavesCall 199 = .ok (.getfield 705, 3) := by decide +kernel
theorem dX12_leavesCall_202 : decode cX12_leavesCall 202 = .ok (.ifCond .eq 5, 3) := by decide +kernel
theorem dX12_leavesCall_205 : decode cX12_leavesCall 205 = .ok (.iconst 0, 1) := by decide +kernel
theorem dX12_leavesCall_206 : decode cX12_leavesCall 206 = .ok (.ireturn, 1) := by decide +kernel
theorem dX12_leavesCall_207 : decode cX12_leavesCall 207 = .ok (.aload_n 0, 1) := by decide +kernel
theorem dX12_leavesCall_208 : decode cX12_leavesCall 208 = .ok (.getfield 616, 3) := by decide +kernel
theorem dX12_leavesCall_211 : decode cX12_leavesCall 211 = .ok (.iconst 4, 1) := by decide +kernel
theorem dX12_leavesCall_212 : decode cX12_leavesCall 212 = .ok (.if_icmp .ne 5, 3) := by decide +kernel
theorem dX12_leavesCall_215 : decode cX12_leavesCall 215 = .ok (.iconst 1, 1) := by decide +kernel
theorem dX12_leavesCall_216 : decode cX12_leavesCall 216 = .ok (.ireturn, 1) := by decide +kernel
theorem dX12_leavesCall_217 : decode cX12_leavesCall 217 = .ok (.aload_n 0, 1) := by decide +kernel
theorem dX12_leavesCall_218 : decode cX12_leavesCall 218 = .ok (.getfield 616, 3) := by decide +kernel
theorem dX12_leavesCall_221 : decode cX12_leavesCall 221 = .ok (.iconst 3, 1) := by decide +kernel
theorem dX12_leavesCall_222 : decode cX12_leavesCall 222 = .ok (.if_icmp .ne 10, 3) := by decide +kernel
theorem dX12_leavesCall_225 : decode cX12_leavesCall 225 = .ok (.aload_n 0, 1) := by decide +kernel
theorem dX12_leavesCall_226 : decode cX12_leavesCall 226 = .ok (.getfield 622, 3) := by decide +kernel
theorem dX12_leavesCall_229 : decode cX12_leavesCall 229 = .ok (.goto 4, 3) := by decide +kernel
theorem dX12_leavesCall_232 : decode cX12_leavesCall 232 = .ok (.iconst 0, 1) := by decide +kernel
theorem dX12_leavesCall_233 : decode cX12_leavesCall 233 = .ok (.istore_n 3, 1) := by decide +kernel
theorem dX12_leavesCall_234 : decode cX12_leavesCall 234 = .ok (.aload_n 0, 1) := by decide +kernel
theorem dX12_leavesCall_235 : decode cX12_leavesCall 235 = .ok (.iload_n 1, 1) := by decide +kernel
theorem dX12_leavesCall_236 : decode cX12_leavesCall 236 = .ok (.iload_n 2, 1) := by decide +kernel
theorem dX12_leavesCall_237 : decode cX12_leavesCall 237 = .ok (.invokevirtual 666, 3) := by decide +kernel
theorem dX12_leavesCall_240 : decode cX12_leavesCall 240 = .ok (.aload_n 0, 1) := by decide +kernel
theorem dX12_leavesCall_241 : decode cX12_leavesCall 241 = .ok (.iload_n 3, 1) := by decide +kernel
theorem dX12_leavesCall_242 : decode cX12_leavesCall 242 = .ok (.invokevirtual 708, 3) := by decide +kernel
theorem dX12_leavesCall_245 : decode cX12_leavesCall 245 = .ok (.iconst 0, 1) := by decide +kernel
theorem dX12_leavesCall_246 : decode cX12_leavesCall 246 = .ok (.ireturn, 1) := by decide +kernel
def wX12_leavesCall_b233 (a0 : Nat) (x1 : Int32) (xn2 : Int32) (xt0 : Int32)  (Sn : kp_S) (post : Int32 → kp_S → Prop) : Prop :=
  wX12_goes a0 x1 xn2 Sn (fun T1001 =>
  wX12_push a0 xt0 T1001 (fun T1002 =>
  post 0 T1002))
def wX12_leavesCall_b195 (a0 : Nat) (x1 : Int32) (xn2 : Int32) (xt0 : Int32) (at1 : Nat)  (Sn : kp_S) (post : Int32 → kp_S → Prop) : Prop :=
  kp_b xt0 ∧
  ∀ T2001 : kp_S, T2001 = kp_sI Sn 2514 at1 xt0 →
  (((kp_I T2001 2514 a0) = 0 →
  ((¬ (kp_I T2001 2481 a0) = 4 →
  ((¬ (kp_I T2001 2481 a0) = 3 →
  wX12_leavesCall_b233 a0 x1 xn2 0  T2001 post) ∧ ((kp_I T2001 2481 a0) = 3 →
  wX12_leavesCall_b233 a0 x1 xn2 (kp_I T2001 2483 a0)  T2001 post))) ∧ ((kp_I T2001 2481 a0) = 4 →
  post 1 T2001))) ∧ (¬ (kp_I T2001 2514 a0) = 0 →
  post 0 T2001))
def wX12_leavesCall_b130 (a0 : Nat) (x1 : Int32) (xn2 : Int32) (xt0 : Int32) (xt1 : Int32) (at2 : Nat)  (Sn : kp_S) (post : Int32 → kp_S → Prop) : Prop :=
  vp_in xt1 (kp_N Sn at2) ∧ ∀ T3001 : kp_S, T3001 = kp_sA Sn at2 (upd (kp_A Sn at2) (xt1.toNatClampNeg) xt0) →
  ∃ b3002 : Nat, kp_R T3001 2507 a0 = some b3002 ∧
  vp_in xn2 (kp_N T3001 b3002) ∧
  wX12_goes a0 x1 (kp_A T3001 b3002 xn2.toNatClampNeg) T3001 (fun T3003 =>
  post 0 T3003)
def wX12_leavesCall_b31 (a0 : Nat) (x1 : Int32)  (Sn : kp_S) (post : Int32 → kp_S → Prop) : Prop :=
  wX12_keepWay a0 x1 Sn (fun T4001 =>
  ∃ b4002 : Nat, kp_R T4001 2489 a0 = some b4002 ∧
  vp_in x1 (kp_N T4001 b4002) ∧ ∀ T4003 : kp_S, T4003 = kp_sA T4001 b4002 (upd (kp_A T4001 b4002) (x1.toNatClampNeg) 7) →
  ∃ b4004 : Nat, kp_R T4003 2506 a0 = some b4004 ∧
  vp_in (kp_I T4003 2501 a0) (kp_N T4003 b4004) ∧
  (((kp_A T4003 b4004 (kp_I T4003 2501 a0).toNatClampNeg) ≤ 0 →
  ∀ T4005 : kp_S, T4005 = kp_sI T4003 2487 a0 x1 →
  ∃ b4006 : Nat, kp_R T4005 2503 a0 = some b4006 ∧
  vp_in (kp_I T4005 2501 a0) (kp_N T4005 b4006) ∧
  ∀ T4007 : kp_S, T4007 = kp_sI T4005 2511 a0 (kp_A T4005 b4006 (kp_I T4005 2501 a0).toNatClampNeg) →
  ∃ b4008 : Nat, kp_R T4007 2502 a0 = some b4008 ∧
  vp_in (kp_I T4007 2501 a0) (kp_N T4007 b4008) ∧
  ∀ y4009 : Int32, y4009 = (kp_A T4007 b4008 (kp_I T4007 2501 a0).toNatClampNeg) →
  ∀ T4010 : kp_S, T4010 = kp_sI T4007 2501 a0 ((kp_I T4007 2501 a0) - 1) →
  ((¬ (kp_I T4010 2501 a0) = 0 →
  wX12_leavesCall_b195 a0 x1 y4009 0 a0  T4010 post) ∧ ((kp_I T4010 2501 a0) = 0 →
  wX12_leavesCall_b195 a0 x1 y4009 1 a0  T4010 post))) ∧ (¬ (kp_A T4003 b4004 (kp_I T4003 2501 a0).toNatClampNeg) ≤ 0 →
  vp_in (kp_I T4003 2501 a0) (kp_N T4003 b4004) ∧
  vp_in (kp_I T4003 2501 a0) (kp_N T4003 b4004) ∧ ∀ T4012 : kp_S, T4012 = kp_sA T4003 b4004 (upd (kp_A T4003 b4004) ((kp_I T4003 2501 a0).toNatClampNeg) ((kp_A T4003 b4004 (kp_I T4003 2501 a0).toNatClampNeg) - 1)) →
  vp_in (kp_I T4012 2501 a0) (kp_N T4012 b4004) ∧
  ∀ y4013 : Int32, y4013 = ((40 * (kp_I T4012 2501 a0)) + (kp_A T4012 b4004 (kp_I T4012 2501 a0).toNatClampNeg)) →
  ∀ T4014 : kp_S, T4014 = kp_sI T4012 2476 a0 ((kp_I T4012 2476 a0) + 1) →
  ∃ b4015 : Nat, kp_R T4014 2508 a0 = some b4015 ∧
  vp_in y4013 (kp_N T4014 b4015) ∧
  wX12_note a0 10 (kp_A T4014 b4015 y4013.toNatClampNeg) T4014 (fun T4016 =>
  ∃ b4017 : Nat, kp_R T4016 2491 a0 = some b4017 ∧
  ((¬ (kp_I T4016 2481 a0) = 4 →
  wX12_leavesCall_b130 a0 x1 y4013 0 x1 b4017  T4016 post) ∧ ((kp_I T4016 2481 a0) = 4 →
  wX12_leavesCall_b130 a0 x1 y4013 (kp_I T4016 2484 a0) x1 b4017  T4016 post))))))
def wX12_leavesCall (a0 : Nat) (x1 : Int32) (S : kp_S) (post : Int32 → kp_S → Prop) : Prop :=
  ∃ b1 : Nat, kp_R S 2489 a0 = some b1 ∧
  vp_in x1 (kp_N S b1) ∧
  ((¬ (kp_A S b1 x1.toNatClampNeg) = 7 →
  wX12_leavesCall_b31 a0 x1   S post) ∧ ((kp_A S b1 x1.toNatClampNeg) = 7 →
  ((¬ (kp_I S 2481 a0) = 0 →
  wX12_loses a0 x1 S (fun T2 =>
  wX12_leavesCall_b31 a0 x1   T2 post)) ∧ ((kp_I S 2481 a0) = 0 →
  wX12_takeWay a0 x1 S (fun T3 =>
  wX12_leavesCall_b31 a0 x1   T3 post)))))
set_option maxHeartbeats 4000000 in
set_option maxRecDepth 100000 in
theorem c_X12_leavesCall (l : Launch) (D : va_G) (cy : Nat → ClassId) (ad : (Nat → Nat) × (Nat → Nat)) (S : kp_S) (a0 : Nat) (x1 : Int32) (post : Int32 → kp_S → Prop) (hS : kp_ok S) (f_a0 : kp_is S a0 12) (hw : wX12_leavesCall a0 x1 S post) : kp_M l yX12_leavesCall cX12_leavesCall 4 (some .boolean) { frames := 2, cells := 0, slots := 0, locals := 43 } D cy ad S [.ref a0, .int x1] 0 0 (fun A => kp_Qi D cy A S post) := by
  refine kp_start (own := RX12) (by decide) rfl (Nat.le_of_ble_eq_true rfl) hS ?_
  intro p e s m below meth c A ls X hr hlocks hname h hl
  have hle : kp_le S S := kp_le.rf
  have hl : lv_has ls 4 [(0, .ref a0), (1, .int x1)] := hl
  have j233 : ∀ (xn2 : Int32) (xt0 : Int32) (Sn : kp_S) (H : Heap) (locs : List Loc) (ls : Array Slot), lv_has ls 4 [(0, .ref a0), (1, .int x1), (2, .int xn2)] → kp_H D cy A Sn s.heap H locs → kp_le S Sn → kp_is Sn a0 12 → wX12_leavesCall_b233 a0 x1 xn2 xt0  Sn post → W p l e { frames := 2, cells := 0, slots := 0, locals := 43 } s m ([.ref a0, .int x1] : List Value).toArray below meth c H locs 0 0 (MQ below (kp_Qi D cy A S post) ([.ref a0, .int x1] : List Value).toArray s 0 0 A) (F0 m 233 ls [.int xt0]) := by
    intro xn2 xt0 Sn H locs ls hl h hle f_a0 hw
    unfold wX12_leavesCall_b233 at hw
    refine lv_istore_n (lv' := [(3, .int xt0), (0, .ref a0), (1, .int x1), (2, .int xn2)]) X.1 X.2.1 dX12_leavesCall_233 rfl hl (by decide) rfl (fun ls hl => ?_)
    refine lv_aload_n X.1 X.2.1 dX12_leavesCall_234 rfl (lv_at hl 1 rfl) ?_
    refine lv_iload_n X.1 X.2.1 dX12_leavesCall_235 rfl (lv_at hl 2 rfl) ?_
    refine lv_iload_n X.1 X.2.1 dX12_leavesCall_236 rfl (lv_at hl 3 rfl) ?_
    refine kp_callv X h (kp_runV (rm := { frames := 0, cells := 0, slots := 0, locals := 0 }) (mc := 0) (ms := 0) (rest := []) (Qc := fun A => kp_Qv D cy A Sn _) X h (c_X12_goes l D cy ad Sn a0 x1 xn2 _ h.2.2.2 f_a0 hw) f_a0 cv_12_666 ⟨by decide, by decide, rfl, rfl, by decide, by decide⟩ rfl hl.1 rfl (Nat.le_of_ble_eq_true rfl) dX12_leavesCall_237) (fun T1001 hw l_T1001 H locs h => ?_)
    have f_a0 := l_T1001.is f_a0
    have hle := hle.tr l_T1001
    refine lv_aload_n X.1 X.2.1 dX12_leavesCall_240 rfl (lv_at hl 1 rfl) ?_
    refine lv_iload_n X.1 X.2.1 dX12_leavesCall_241 rfl (lv_at hl 0 rfl) ?_
    refine kp_callv X h (kp_runV (rm := { frames := 0, cells := 0, slots := 0, locals := 0 }) (mc := 0) (ms := 0) (rest := []) (Qc := fun A => kp_Qv D cy A T1001 _) X h (c_X12_push l D cy ad T1001 a0 xt0 _ h.2.2.2 f_a0 hw) f_a0 cv_12_708 ⟨by decide, by decide, rfl, rfl, by decide, by decide⟩ rfl hl.1 rfl (Nat.le_of_ble_eq_true rfl) dX12_leavesCall_242) (fun T1002 hw l_T1002 H locs h => ?_)
    have f_a0 := l_T1002.is f_a0
    have hle := hle.tr l_T1002
    refine lv_iconst (v := 0) X.1 X.2.1 dX12_leavesCall_245 (by decide) ?_
    exact kp_reti X hr hlocks h hle (by decide) hw dX12_leavesCall_246
  have j195 : ∀ (xn2 : Int32) (xt0 : Int32) (at1 : Nat) (Sn : kp_S) (H : Heap) (locs : List Loc) (ls : Array Slot), lv_has ls 4 [(0, .ref a0), (1, .int x1), (2, .int xn2)] → kp_H D cy A Sn s.heap H locs → kp_le S Sn → kp_is Sn a0 12 → kp_is Sn at1 12 → wX12_leavesCall_b195 a0 x1 xn2 xt0 at1  Sn post → W p l e { frames := 2, cells := 0, slots := 0, locals := 43 } s m ([.ref a0, .int x1] : List Value).toArray below meth c H locs 0 0 (MQ below (kp_Qi D cy A S post) ([.ref a0, .int x1] : List Value).toArray s 0 0 A) (F0 m 195 ls [.int xt0, .ref at1]) := by
    intro xn2 xt0 at1 Sn H locs ls hl h hle f_a0 f_at1 hw
    unfold wX12_leavesCall_b195 at hw
    obtain ⟨hb, hw⟩ := hw
    refine kp_putI X h f_at1 fp_12_705 rfl (kp_bz hb) dX12_leavesCall_195 (fun T2001 e_T2001 l_T2001 H locs h => ?_)
    have hw := hw T2001 e_T2001
    have f_a0 := l_T2001.is f_a0
    have f_at1 := l_T2001.is f_at1
    have hle := hle.tr l_T2001
    refine lv_aload_n X.1 X.2.1 dX12_leavesCall_198 rfl (lv_at hl 0 rfl) ?_
    refine kp_get X h f_a0 fp_12_705.l (v := .int (kp_I T2001 2514 a0)) rfl dX12_leavesCall_199 ?_
    refine lv_if_eq (tgt := 207) X.1 X.2.1 dX12_leavesCall_202 (by decide) (fun c2004 => ?_) (fun c2004 => ?_)
    · have hw := hw.1 c2004
      refine lv_aload_n X.1 X.2.1 dX12_leavesCall_207 rfl (lv_at hl 0 rfl) ?_
      refine kp_get X h f_a0 fp_12_616.l (v := .int (kp_I T2001 2481 a0)) rfl dX12_leavesCall_208 ?_
      refine lv_iconst (v := 4) X.1 X.2.1 dX12_leavesCall_211 (by decide) ?_
      refine lv_icmp_ne (tgt := 217) X.1 X.2.1 dX12_leavesCall_212 (by decide) (fun c2003 => ?_) (fun c2003 => ?_)
      · have hw := hw.1 c2003
        refine lv_aload_n X.1 X.2.1 dX12_leavesCall_217 rfl (lv_at hl 0 rfl) ?_
        refine kp_get X h f_a0 fp_12_616.l (v := .int (kp_I T2001 2481 a0)) rfl dX12_leavesCall_218 ?_
        refine lv_iconst (v := 3) X.1 X.2.1 dX12_leavesCall_221 (by decide) ?_
        refine lv_icmp_ne (tgt := 232) X.1 X.2.1 dX12_leavesCall_222 (by decide) (fun c2002 => ?_) (fun c2002 => ?_)
        · have hw := hw.1 c2002
          refine lv_iconst (v := 0) X.1 X.2.1 dX12_leavesCall_232 (by decide) ?_
          exact j233 xn2 0 T2001 H locs ls (lv_sub hl [0, 1, 2] rfl) h hle f_a0 hw
        · have hw := hw.2 c2002
          refine lv_aload_n X.1 X.2.1 dX12_leavesCall_225 rfl (lv_at hl 0 rfl) ?_
          refine kp_get X h f_a0 fp_12_622.l (v := .int (kp_I T2001 2483 a0)) rfl dX12_leavesCall_226 ?_
          refine lv_goto (tgt := 233) X.1 X.2.1 dX12_leavesCall_229 (by decide) ?_
          exact j233 xn2 (kp_I T2001 2483 a0) T2001 H locs ls (lv_sub hl [0, 1, 2] rfl) h hle f_a0 hw
      · have hw := hw.2 c2003
        refine lv_iconst (v := 1) X.1 X.2.1 dX12_leavesCall_215 (by decide) ?_
        exact kp_reti X hr hlocks h hle (by decide) hw dX12_leavesCall_216
    · have hw := hw.2 c2004
      refine lv_iconst (v := 0) X.1 X.2.1 dX12_leavesCall_205 (by decide) ?_
      exact kp_reti X hr hlocks h hle (by decide) hw dX12_leavesCall_206
  have j130 : ∀ (xn2 : Int32) (xt0 : Int32) (xt1 : Int32) (at2 : Nat) (Sn : kp_S) (H : Heap) (locs : List Loc) (ls : Array Slot), lv_has ls 4 [(0, .ref a0), (1, .int x1), (2, .int xn2)] → kp_H D cy A Sn s.heap H locs → kp_le S Sn → kp_is Sn a0 12 → kp_is Sn at2 14 → wX12_leavesCall_b130 a0 x1 xn2 xt0 xt1 at2  Sn post → W p l e { frames := 2, cells := 0, slots := 0, locals := 43 } s m ([.ref a0, .int x1] : List Value).toArray below meth c H locs 0 0 (MQ below (kp_Qi D cy A S post) ([.ref a0, .int x1] : List Value).toArray s 0 0 A) (F0 m 130 ls [.int xt0, .int xt1, .ref at2]) := by
    intro xn2 xt0 xt1 at2 Sn H locs ls hl h hle f_a0 f_at2 hw
    unfold wX12_leavesCall_b130 at hw
    obtain ⟨hi, hw⟩ := hw
    refine kp_iast X h f_at2 hi dX12_leavesCall_130 (fun T3001 e_T3001 l_T3001 H locs h => ?_)
    have hw := hw T3001 e_T3001
    have f_a0 := l_T3001.is f_a0
    have f_at2 := l_T3001.is f_at2
    have hle := hle.tr l_T3001
    refine lv_aload_n X.1 X.2.1 dX12_leavesCall_131 rfl (lv_at hl 0 rfl) ?_
    refine lv_iload_n X.1 X.2.1 dX12_leavesCall_132 rfl (lv_at hl 1 rfl) ?_
    refine lv_aload_n X.1 X.2.1 dX12_leavesCall_133 rfl (lv_at hl 0 rfl) ?_
    obtain ⟨b3002, e_b3002, hw⟩ := hw
    have f_b3002 := h.2.2.2.rf (c := 12) (k := 107) f_a0 (by decide) (by decide) e_b3002 (t := 14) rfl
    refine kp_get X h f_a0 ff_12_230.l (v := .ref b3002) (congrArg va_rf e_b3002) dX12_leavesCall_134 ?_
    refine lv_iload_n X.1 X.2.1 dX12_leavesCall_137 rfl (lv_at hl 2 rfl) ?_
    obtain ⟨hi, hw⟩ := hw
    refine kp_iald X h f_b3002 hi dX12_leavesCall_138 ?_
    refine kp_callv X h (kp_runV (rm := { frames := 0, cells := 0, slots := 0, locals := 0 }) (mc := 0) (ms := 0) (rest := []) (Qc := fun A => kp_Qv D cy A T3001 _) X h (c_X12_goes l D cy ad T3001 a0 x1 (kp_A T3001 b3002 xn2.toNatClampNeg) _ h.2.2.2 f_a0 hw) f_a0 cv_12_666 ⟨by decide, by decide, rfl, rfl, by decide, by decide⟩ rfl hl.1 rfl (Nat.le_of_ble_eq_true rfl) dX12_leavesCall_139) (fun T3003 hw l_T3003 H locs h => ?_)
    have f_a0 := l_T3003.is f_a0
    have f_at2 := l_T3003.is f_at2
    have f_b3002 := l_T3003.is f_b3002
    have hle := hle.tr l_T3003
    refine lv_iconst (v := 0) X.1 X.2.1 dX12_leavesCall_142 (by decide) ?_
    exact kp_reti X hr hlocks h hle (by decide) hw dX12_leavesCall_143
  have j31 : ∀  (Sn : kp_S) (H : Heap) (locs : List Loc) (ls : Array Slot), lv_has ls 4 [(0, .ref a0), (1, .int x1)] → kp_H D cy A Sn s.heap H locs → kp_le S Sn → kp_is Sn a0 12 → wX12_leavesCall_b31 a0 x1   Sn post → W p l e { frames := 2, cells := 0, slots := 0, locals := 43 } s m ([.ref a0, .int x1] : List Value).toArray below meth c H locs 0 0 (MQ below (kp_Qi D cy A S post) ([.ref a0, .int x1] : List Value).toArray s 0 0 A) (F0 m 31 ls []) := by
    intro  Sn H locs ls hl h hle f_a0 hw
    unfold wX12_leavesCall_b31 at hw
    refine lv_aload_n X.1 X.2.1 dX12_leavesCall_31 rfl (lv_at hl 0 rfl) ?_
    refine lv_iload_n X.1 X.2.1 dX12_leavesCall_32 rfl (lv_at hl 1 rfl) ?_
    refine kp_callv X h (kp_runV (rm := { frames := 0, cells := 0, slots := 0, locals := 0 }) (mc := 0) (ms := 0) (rest := []) (Qc := fun A => kp_Qv D cy A Sn _) X h (c_X12_keepWay l D cy ad Sn a0 x1 _ h.2.2.2 f_a0 hw) f_a0 cv_12_675 ⟨by decide, by decide, rfl, rfl, by decide, by decide⟩ rfl hl.1 rfl (Nat.le_of_ble_eq_true rfl) dX12_leavesCall_33) (fun T4001 hw l_T4001 H locs h => ?_)
    have f_a0 := l_T4001.is f_a0
    have hle := hle.tr l_T4001
    refine lv_aload_n X.1 X.2.1 dX12_leavesCall_36 rfl (lv_at hl 0 rfl) ?_
    obtain ⟨b4002, e_b4002, hw⟩ := hw
    have f_b4002 := h.2.2.2.rf (c := 12) (k := 89) f_a0 (by decide) (by decide) e_b4002 (t := 14) rfl
    refine kp_get X h f_a0 ff_12_179.l (v := .ref b4002) (congrArg va_rf e_b4002) dX12_leavesCall_37 ?_
    refine lv_iload_n X.1 X.2.1 dX12_leavesCall_40 rfl (lv_at hl 1 rfl) ?_
    refine lv_bipush (v := 7) X.1 X.2.1 dX12_leavesCall_41 (by decide) ?_
    obtain ⟨hi, hw⟩ := hw
    refine kp_iast X h f_b4002 hi dX12_leavesCall_43 (fun T4003 e_T4003 l_T4003 H locs h => ?_)
    have hw := hw T4003 e_T4003
    have f_a0 := l_T4003.is f_a0
    have f_b4002 := l_T4003.is f_b4002
    have hle := hle.tr l_T4003
    have e_b4002 : kp_R T4003 2489 a0 = some b4002 := by rw [e_T4003]; exact e_b4002
    refine lv_aload_n X.1 X.2.1 dX12_leavesCall_44 rfl (lv_at hl 0 rfl) ?_
    obtain ⟨b4004, e_b4004, hw⟩ := hw
    have f_b4004 := h.2.2.2.rf (c := 12) (k := 106) f_a0 (by decide) (by decide) e_b4004 (t := 14) rfl
    refine kp_get X h f_a0 ff_12_227.l (v := .ref b4004) (congrArg va_rf e_b4004) dX12_leavesCall_45 ?_
    refine lv_aload_n X.1 X.2.1 dX12_leavesCall_48 rfl (lv_at hl 0 rfl) ?_
    refine kp_get X h f_a0 fp_12_699.l (v := .int (kp_I T4003 2501 a0)) rfl dX12_leavesCall_49 ?_
    obtain ⟨hi, hw⟩ := hw
    refine kp_iald X h f_b4004 hi dX12_leavesCall_52 ?_
    refine lv_if_le (tgt := 144) X.1 X.2.1 dX12_leavesCall_53 (by decide) (fun c4019 => ?_) (fun c4019 => ?_)
    · have hw := hw.1 c4019
      refine lv_aload_n X.1 X.2.1 dX12_leavesCall_144 rfl (lv_at hl 0 rfl) ?_
      refine lv_iload_n X.1 X.2.1 dX12_leavesCall_145 rfl (lv_at hl 1 rfl) ?_
      refine kp_putI X h f_a0 fp_12_613 rfl ⟨rfl, rfl⟩ dX12_leavesCall_146 (fun T4005 e_T4005 l_T4005 H locs h => ?_)
      have hw := hw T4005 e_T4005
      have f_a0 := l_T4005.is f_a0
      have f_b4002 := l_T4005.is f_b4002
      have f_b4004 := l_T4005.is f_b4004
      have hle := hle.tr l_T4005
      have e_b4002 : kp_R T4005 2489 a0 = some b4002 := by rw [e_T4005]; exact e_b4002
      have e_b4004 : kp_R T4005 2506 a0 = some b4004 := by rw [e_T4005]; exact e_b4004
      refine lv_aload_n X.1 X.2.1 dX12_leavesCall_149 rfl (lv_at hl 0 rfl) ?_
      refine lv_aload_n X.1 X.2.1 dX12_leavesCall_150 rfl (lv_at hl 0 rfl) ?_
      obtain ⟨b4006, e_b4006, hw⟩ := hw
      have f_b4006 := h.2.2.2.rf (c := 12) (k := 103) f_a0 (by decide) (by decide) e_b4006 (t := 14) rfl
      refine kp_get X h f_a0 ff_12_218.l (v := .ref b4006) (congrArg va_rf e_b4006) dX12_leavesCall_151 ?_
      refine lv_aload_n X.1 X.2.1 dX12_leavesCall_154 rfl (lv_at hl 0 rfl) ?_
      refine kp_get X h f_a0 fp_12_699.l (v := .int (kp_I T4005 2501 a0)) rfl dX12_leavesCall_155 ?_
      obtain ⟨hi, hw⟩ := hw
      refine kp_iald X h f_b4006 hi dX12_leavesCall_158 ?_
      refine kp_putI X h f_a0 fp_12_639 rfl ⟨rfl, rfl⟩ dX12_leavesCall_159 (fun T4007 e_T4007 l_T4007 H locs h => ?_)
      have hw := hw T4007 e_T4007
      have f_a0 := l_T4007.is f_a0
      have f_b4002 := l_T4007.is f_b4002
      have f_b4004 := l_T4007.is f_b4004
      have f_b4006 := l_T4007.is f_b4006
      have hle := hle.tr l_T4007
      have e_b4002 : kp_R T4007 2489 a0 = some b4002 := by rw [e_T4007]; exact e_b4002
      have e_b4004 : kp_R T4007 2506 a0 = some b4004 := by rw [e_T4007]; exact e_b4004
      have e_b4006 : kp_R T4007 2503 a0 = some b4006 := by rw [e_T4007]; exact e_b4006
      refine lv_aload_n X.1 X.2.1 dX12_leavesCall_162 rfl (lv_at hl 0 rfl) ?_
      obtain ⟨b4008, e_b4008, hw⟩ := hw
      have f_b4008 := h.2.2.2.rf (c := 12) (k := 102) f_a0 (by decide) (by decide) e_b4008 (t := 14) rfl
      refine kp_get X h f_a0 ff_12_215.l (v := .ref b4008) (congrArg va_rf e_b4008) dX12_leavesCall_163 ?_
      refine lv_aload_n X.1 X.2.1 dX12_leavesCall_166 rfl (lv_at hl 0 rfl) ?_
      refine kp_get X h f_a0 fp_12_699.l (v := .int (kp_I T4007 2501 a0)) rfl dX12_leavesCall_167 ?_
      obtain ⟨hi, hw⟩ := hw
      refine kp_iald X h f_b4008 hi dX12_leavesCall_170 ?_
      refine lv_topi (fun y4009 e_y4009 => ?_)
      have hw := hw y4009 e_y4009
      refine lv_istore_n (lv' := [(2, .int y4009), (0, .ref a0), (1, .int x1)]) X.1 X.2.1 dX12_leavesCall_171 rfl hl (by decide) rfl (fun ls hl => ?_)
      refine lv_aload_n X.1 X.2.1 dX12_leavesCall_172 rfl (lv_at hl 1 rfl) ?_
      refine lv_dup X.1 X.2.1 dX12_leavesCall_173 rfl ?_
      refine kp_get X h f_a0 fp_12_699.l (v := .int (kp_I T4007 2501 a0)) rfl dX12_leavesCall_174 ?_
      refine lv_iconst (v := 1) X.1 X.2.1 dX12_leavesCall_177 (by decide) ?_
      refine lv_isub X.1 X.2.1 dX12_leavesCall_178 ?_
      refine kp_putI X h f_a0 fp_12_699 rfl ⟨rfl, rfl⟩ dX12_leavesCall_179 (fun T4010 e_T4010 l_T4010 H locs h => ?_)
      have hw := hw T4010 e_T4010
      have f_a0 := l_T4010.is f_a0
      have f_b4002 := l_T4010.is f_b4002
      have f_b4004 := l_T4010.is f_b4004
      have f_b4006 := l_T4010.is f_b4006
      have f_b4008 := l_T4010.is f_b4008
      have hle := hle.tr l_T4010
      have e_b4002 : kp_R T4010 2489 a0 = some b4002 := by rw [e_T4010]; exact e_b4002
      have e_b4004 : kp_R T4010 2506 a0 = some b4004 := by rw [e_T4010]; exact e_b4004
      have e_b4006 : kp_R T4010 2503 a0 = some b4006 := by rw [e_T4010]; exact e_b4006
      have e_b4008 : kp_R T4010 2502 a0 = some b4008 := by rw [e_T4010]; exact e_b4008
      refine lv_aload_n X.1 X.2.1 dX12_leavesCall_182 rfl (lv_at hl 1 rfl) ?_
      refine lv_aload_n X.1 X.2.1 dX12_leavesCall_183 rfl (lv_at hl 1 rfl) ?_
      refine kp_get X h f_a0 fp_12_699.l (v := .int (kp_I T4010 2501 a0)) rfl dX12_leavesCall_184 ?_
      refine lv_if_ne (tgt := 194) X.1 X.2.1 dX12_leavesCall_187 (by decide) (fun c4011 => ?_) (fun c4011 => ?_)
      · have hw := hw.1 c4011
        refine lv_iconst (v := 0) X.1 X.2.1 dX12_leavesCall_194 (by decide) ?_
        exact j195 y4009 0 a0 T4010 H locs ls (lv_sub hl [1, 2, 0] rfl) h hle f_a0 f_a0 hw
      · have hw := hw.2 c4011
        refine lv_iconst (v := 1) X.1 X.2.1 dX12_leavesCall_190 (by decide) ?_
        refine lv_goto (tgt := 195) X.1 X.2.1 dX12_leavesCall_191 (by decide) ?_
        exact j195 y4009 1 a0 T4010 H locs ls (lv_sub hl [1, 2, 0] rfl) h hle f_a0 f_a0 hw
    · have hw := hw.2 c4019
      refine lv_aload_n X.1 X.2.1 dX12_leavesCall_56 rfl (lv_at hl 0 rfl) ?_
      refine kp_get X h f_a0 ff_12_227.l (v := .ref b4004) (congrArg va_rf e_b4004) dX12_leavesCall_57 ?_
      refine lv_aload_n X.1 X.2.1 dX12_leavesCall_60 rfl (lv_at hl 0 rfl) ?_
      refine kp_get X h f_a0 fp_12_699.l (v := .int (kp_I T4003 2501 a0)) rfl dX12_leavesCall_61 ?_
      refine lv_dup2_11 X.1 X.2.1 dX12_leavesCall_64 rfl rfl ?_
      obtain ⟨hi, hw⟩ := hw
      refine kp_iald X h f_b4004 hi dX12_leavesCall_65 ?_
      refine lv_iconst (v := 1) X.1 X.2.1 dX12_leavesCall_66 (by decide) ?_
      refine lv_isub X.1 X.2.1 dX12_leavesCall_67 ?_
      obtain ⟨hi, hw⟩ := hw
      refine kp_iast X h f_b4004 hi dX12_leavesCall_68 (fun T4012 e_T4012 l_T4012 H locs h => ?_)
      have hw := hw T4012 e_T4012
      have f_a0 := l_T4012.is f_a0
      have f_b4002 := l_T4012.is f_b4002
      have f_b4004 := l_T4012.is f_b4004
      have hle := hle.tr l_T4012
      have e_b4002 : kp_R T4012 2489 a0 = some b4002 := by rw [e_T4012]; exact e_b4002
      have e_b4004 : kp_R T4012 2506 a0 = some b4004 := by rw [e_T4012]; exact e_b4004
      refine lv_bipush (v := 40) X.1 X.2.1 dX12_leavesCall_69 (by decide) ?_
      refine lv_aload_n X.1 X.2.1 dX12_leavesCall_71 rfl (lv_at hl 0 rfl) ?_
      refine kp_get X h f_a0 fp_12_699.l (v := .int (kp_I T4012 2501 a0)) rfl dX12_leavesCall_72 ?_
      refine lv_imul X.1 X.2.1 dX12_leavesCall_75 ?_
      refine lv_aload_n X.1 X.2.1 dX12_leavesCall_76 rfl (lv_at hl 0 rfl) ?_
      refine kp_get X h f_a0 ff_12_227.l (v := .ref b4004) (congrArg va_rf e_b4004) dX12_leavesCall_77 ?_
      refine lv_aload_n X.1 X.2.1 dX12_leavesCall_80 rfl (lv_at hl 0 rfl) ?_
      refine kp_get X h f_a0 fp_12_699.l (v := .int (kp_I T4012 2501 a0)) rfl dX12_leavesCall_81 ?_
      obtain ⟨hi, hw⟩ := hw
      refine kp_iald X h f_b4004 hi dX12_leavesCall_84 ?_
      refine lv_iadd X.1 X.2.1 dX12_leavesCall_85 ?_
      refine lv_topi (fun y4013 e_y4013 => ?_)
      have hw := hw y4013 e_y4013
      refine lv_istore_n (lv' := [(2, .int y4013), (0, .ref a0), (1, .int x1)]) X.1 X.2.1 dX12_leavesCall_86 rfl hl (by decide) rfl (fun ls hl => ?_)
      refine lv_aload_n X.1 X.2.1 dX12_leavesCall_87 rfl (lv_at hl 1 rfl) ?_
      refine lv_dup X.1 X.2.1 dX12_leavesCall_88 rfl ?_
      refine kp_get X h f_a0 fp_12_702.l (v := .int (kp_I T4012 2476 a0)) rfl dX12_leavesCall_89 ?_
      refine lv_iconst (v := 1) X.1 X.2.1 dX12_leavesCall_92 (by decide) ?_
      refine lv_iadd X.1 X.2.1 dX12_leavesCall_93 ?_
      refine kp_putI X h f_a0 fp_12_702 rfl ⟨rfl, rfl⟩ dX12_leavesCall_94 (fun T4014 e_T4014 l_T4014 H locs h => ?_)
      have hw := hw T4014 e_T4014
      have f_a0 := l_T4014.is f_a0
      have f_b4002 := l_T4014.is f_b4002
      have f_b4004 := l_T4014.is f_b4004
      have hle := hle.tr l_T4014
      have e_b4002 : kp_R T4014 2489 a0 = some b4002 := by rw [e_T4014]; exact e_b4002
      have e_b4004 : kp_R T4014 2506 a0 = some b4004 := by rw [e_T4014]; exact e_b4004
      refine lv_aload_n X.1 X.2.1 dX12_leavesCall_97 rfl (lv_at hl 1 rfl) ?_
      refine lv_bipush (v := 10) X.1 X.2.1 dX12_leavesCall_98 (by decide) ?_
      refine lv_aload_n X.1 X.2.1 dX12_leavesCall_100 rfl (lv_at hl 1 rfl) ?_
      obtain ⟨b4015, e_b4015, hw⟩ := hw
      have f_b4015 := h.2.2.2.rf (c := 12) (k := 108) f_a0 (by decide) (by decide) e_b4015 (t := 14) rfl
      refine kp_get X h f_a0 ff_12_233.l (v := .ref b4015) (congrArg va_rf e_b4015) dX12_leavesCall_101 ?_
      refine lv_iload_n X.1 X.2.1 dX12_leavesCall_104 rfl (lv_at hl 0 rfl) ?_
      obtain ⟨hi, hw⟩ := hw
      refine kp_iald X h f_b4015 hi dX12_leavesCall_105 ?_
      refine kp_callv X h (kp_runV (rm := { frames := 0, cells := 0, slots := 0, locals := 0 }) (mc := 0) (ms := 0) (rest := []) (Qc := fun A => kp_Qv D cy A T4014 _) X h (c_X12_note l D cy ad T4014 a0 10 (kp_A T4014 b4015 y4013.toNatClampNeg) _ h.2.2.2 f_a0 hw) f_a0 cv_12_637 ⟨by decide, by decide, rfl, rfl, by decide, by decide⟩ rfl hl.1 rfl (Nat.le_of_ble_eq_true rfl) dX12_leavesCall_106) (fun T4016 hw l_T4016 H locs h => ?_)
      have f_a0 := l_T4016.is f_a0
      have f_b4002 := l_T4016.is f_b4002
      have f_b4004 := l_T4016.is f_b4004
      have f_b4015 := l_T4016.is f_b4015
      have hle := hle.tr l_T4016
      refine lv_aload_n X.1 X.2.1 dX12_leavesCall_109 rfl (lv_at hl 1 rfl) ?_
      obtain ⟨b4017, e_b4017, hw⟩ := hw
      have f_b4017 := h.2.2.2.rf (c := 12) (k := 91) f_a0 (by decide) (by decide) e_b4017 (t := 14) rfl
      refine kp_get X h f_a0 ff_12_185.l (v := .ref b4017) (congrArg va_rf e_b4017) dX12_leavesCall_110 ?_
      refine lv_iload_n X.1 X.2.1 dX12_leavesCall_113 rfl (lv_at hl 2 rfl) ?_
      refine lv_aload_n X.1 X.2.1 dX12_leavesCall_114 rfl (lv_at hl 1 rfl) ?_
      refine kp_get X h f_a0 fp_12_616.l (v := .int (kp_I T4016 2481 a0)) rfl dX12_leavesCall_115 ?_
      refine lv_iconst (v := 4) X.1 X.2.1 dX12_leavesCall_118 (by decide) ?_
      refine lv_icmp_ne (tgt := 129) X.1 X.2.1 dX12_leavesCall_119 (by decide) (fun c4018 => ?_) (fun c4018 => ?_)
      · have hw := hw.1 c4018
        refine lv_iconst (v := 0) X.1 X.2.1 dX12_leavesCall_129 (by decide) ?_
        exact j130 y4013 0 x1 b4017 T4016 H locs ls (lv_sub hl [1, 2, 0] rfl) h hle f_a0 f_b4017 hw
      · have hw := hw.2 c4018
        refine lv_aload_n X.1 X.2.1 dX12_leavesCall_122 rfl (lv_at hl 1 rfl) ?_
        refine kp_get X h f_a0 fp_12_625.l (v := .int (kp_I T4016 2484 a0)) rfl dX12_leavesCall_123 ?_
        refine lv_goto (tgt := 130) X.1 X.2.1 dX12_leavesCall_126 (by decide) ?_
        exact j130 y4013 (kp_I T4016 2484 a0) x1 b4017 T4016 H locs ls (lv_sub hl [1, 2, 0] rfl) h hle f_a0 f_b4017 hw
  unfold wX12_leavesCall at hw
  have h : kp_H D cy A S s.heap s.heap [] := h
  revert h
  intro h
  refine lv_aload_n X.1 X.2.1 dX12_leavesCall_0 rfl (lv_at hl 0 rfl) ?_
  obtain ⟨b1, e_b1, hw⟩ := hw
  have f_b1 := h.2.2.2.rf (c := 12) (k := 89) f_a0 (by decide) (by decide) e_b1 (t := 14) rfl
  refine kp_get X h f_a0 ff_12_179.l (v := .ref b1) (congrArg va_rf e_b1) dX12_leavesCall_1 ?_
  refine lv_iload_n X.1 X.2.1 dX12_leavesCall_4 rfl (lv_at hl 1 rfl) ?_
  obtain ⟨hi, hw⟩ := hw
  refine kp_iald X h f_b1 hi dX12_leavesCall_5 ?_
  refine lv_bipush (v := 7) X.1 X.2.1 dX12_leavesCall_6 (by decide) ?_
  refine lv_icmp_ne (tgt := 31) X.1 X.2.1 dX12_leavesCall_8 (by decide) (fun c5 => ?_) (fun c5 => ?_)
  · have hw := hw.1 c5
    exact j31  S _ _ ls (lv_sub hl [0, 1] rfl) h hle f_a0 hw
  · have hw := hw.2 c5
    refine lv_aload_n X.1 X.2.1 dX12_leavesCall_11 rfl (lv_at hl 0 rfl) ?_
    refine kp_get X h f_a0 fp_12_616.l (v := .int (kp_I S 2481 a0)) rfl dX12_leavesCall_12 ?_
    refine lv_if_ne (tgt := 26) X.1 X.2.1 dX12_leavesCall_15 (by decide) (fun c4 => ?_) (fun c4 => ?_)
    · have hw := hw.1 c4
      refine lv_aload_n X.1 X.2.1 dX12_leavesCall_26 rfl (lv_at hl 0 rfl) ?_
      refine lv_iload_n X.1 X.2.1 dX12_leavesCall_27 rfl (lv_at hl 1 rfl) ?_
      refine kp_callv X h (kp_runV (rm := { frames := 1, cells := 0, slots := 0, locals := 22 }) (mc := 0) (ms := 0) (rest := []) (Qc := fun A => kp_Qv D cy A S _) X h (c_X12_loses l D cy ad S a0 x1 _ h.2.2.2 f_a0 hw) f_a0 cv_12_684 ⟨by decide, by decide, rfl, rfl, by decide, by decide⟩ rfl hl.1 rfl (Nat.le_of_ble_eq_true rfl) dX12_leavesCall_28) (fun T2 hw l_T2 H locs h => ?_)
      have f_a0 := l_T2.is f_a0
      have f_b1 := l_T2.is f_b1
      have hle := hle.tr l_T2
      exact j31  T2 _ _ ls (lv_sub hl [0, 1] rfl) h hle f_a0 hw
    · have hw := hw.2 c4
      refine lv_aload_n X.1 X.2.1 dX12_leavesCall_18 rfl (lv_at hl 0 rfl) ?_
      refine lv_iload_n X.1 X.2.1 dX12_leavesCall_19 rfl (lv_at hl 1 rfl) ?_
      refine kp_callv X h (kp_runV (rm := { frames := 0, cells := 0, slots := 0, locals := 0 }) (mc := 0) (ms := 0) (rest := []) (Qc := fun A => kp_Qv D cy A S _) X h (c_X12_takeWay l D cy ad S a0 x1 _ h.2.2.2 f_a0 hw) f_a0 cv_12_681 ⟨by decide, by decide, rfl, rfl, by decide, by decide⟩ rfl hl.1 rfl (Nat.le_of_ble_eq_true rfl) dX12_leavesCall_20) (fun T3 hw l_T3 H locs h => ?_)
      have f_a0 := l_T3.is f_a0
      have f_b1 := l_T3.is f_b1
      have hle := hle.tr l_T3
      refine lv_goto (tgt := 31) X.1 X.2.1 dX12_leavesCall_23 (by decide) ?_
      exact j31  T3 _ _ ls (lv_sub hl [0, 1] rfl) h hle f_a0 hw
theorem dX12_leaves_0 : decode cX12_leaves 0 = .ok (.iconst 1, 1) := by decide +kernel
theorem dX12_leaves_1 : decode cX12_leaves 1 = .ok (.istore_n 1, 1) := by decide +kernel
theorem dX12_leaves_2 : decode cX12_leaves 2 = .ok (.iload_n 1, 1) := by decide +kernel
theorem dX12_leaves_3 : decode cX12_leaves 3 = .ok (.ifCond .eq 90, 3) := by decide +kernel
theorem dX12_leaves_6 : decode cX12_leaves 6 = .ok (.aload_n 0, 1) := by decide +kernel
theorem dX12_leaves_7 : decode cX12_leaves 7 = .ok (.getfield 613, 3) := by decide +kernel
theorem dX12_leaves_10 : decode cX12_leaves 10 = .ok (.iconst 1, 1) := by decide +kernel
theorem dX12_leaves_11 : decode cX12_leaves 11 = .ok (.isub, 1) := by decide +kernel
theorem dX12_leaves_12 : decode cX12_leaves 12 = .ok (.istore_n 2, 1) := by decide +kernel
theorem dX12_leaves_13 : decode cX12_leaves 13 = .ok (.aload_n 0, 1) := by decide +kernel
theorem dX12_leaves_14 : decode cX12_leaves 14 = .ok (.getfield 176, 3) := by decide +kernel
theorem dX12_leaves_17 : decode cX12_leaves 17 = .ok (.iload_n 2, 1) := by decide +kernel
theorem dX12_leaves_18 : decode cX12_leaves 18 = .ok (.iaload, 1) := by decide +kernel
theorem dX12_leaves_19 : decode cX12_leaves 19 = .ok (.tableswitch 65 2 5 #[29, 38, 47, 56], 29) := by decide +kernel
theorem dX12_leaves_48 : decode cX12_leaves 48 = .ok (.aload_n 0, 1) := by decide +kernel
theorem dX12_leaves_49 : decode cX12_leaves 49 = .ok (.iload_n 2, 1) := by decide +kernel
theorem dX12_leaves_50 : decode cX12_leaves 50 = .ok (.invokevirtual 651, 3) := by decide +kernel
theorem dX12_leaves_53 : decode cX12_leaves 53 = .ok (.istore_n 1, 1) := by decide +kernel
theorem dX12_leaves_54 : decode cX12_leaves 54 = .ok (.goto 36, 3) := by decide +kernel
theorem dX12_leaves_57 : decode cX12_leaves 57 = .ok (.aload_n 0, 1) := by decide +kernel
theorem dX12_leaves_58 : decode cX12_leaves 58 = .ok (.iload_n 2, 1) := by decide +kernel
theorem dX12_leaves_59 : decode cX12_leaves 59 = .ok (.invokevirtual 654, 3) := by decide +kernel
theorem dX12_leaves_62 : decode cX12_leaves 62 = .ok (.istore_n 1, 1) := by decide +kernel
theorem dX12_leaves_63 : decode cX12_leaves 63 = .ok (.goto 27, 3) := by decide +kernel
theorem dX12_leaves_66 : decode cX12_leaves 66 = .ok (.aload_n 0, 1) := by decide +kernel
theorem dX12_leaves_67 : decode cX12_leaves 67 = .ok (.iload_n 2, 1) := by decide +kernel
theorem dX12_leaves_68 : decode cX12_leaves 68 = .ok (.invokevirtual 657, 3) := by decide +kernel
theorem dX12_leaves_71 : decode cX12_leaves 71 = .ok (.istore_n 1, 1) := by decide +kernel
theorem dX12_leaves_72 : decode cX12_leaves 72 = .ok (.goto 18, 3) := by decide +kernel
theorem dX12_leaves_75 : decode cX12_leaves 75 = .ok (.aload_n 0, 1) := by decide +kernel
theorem dX12_leaves_76 : decode cX12_leaves 76 = .ok (.iload_n 2, 1) := by decide +kernel
theorem dX12_leaves_77 : decode cX12_leaves 77 = .ok (.invokevirtual 660, 3) := by decide +kernel
theorem dX12_leaves_80 : decode cX12_leaves 80 = .ok (.istore_n 1, 1) := by decide +kernel
theorem dX12_leaves_81 : decode cX12_leaves 81 = .ok (.goto 9, 3) := by decide +kernel
theorem dX12_leaves_84 : decode cX12_leaves 84 = .ok (.aload_n 0, 1) := by decide +kernel
theorem dX12_leaves_85 : decode cX12_leaves 85 = .ok (.iload_n 2, 1) := by decide +kernel
theorem dX12_leaves_86 : decode cX12_leaves 86 = .ok (.invokevirtual 663, 3) := by decide +kernel
theorem dX12_leaves_89 : decode cX12_leaves 89 = .ok (.istore_n 1, 1) := by decide +kernel
theorem dX12_leaves_90 : decode cX12_leaves 90 = .ok (.goto (-88), 3) := by decide +kernel
theorem dX12_leaves_93 : decode cX12_leaves 93 = .ok (.return_, 1) := by decide +kernel
def wX12_leaves_b90 (a0 : Nat) (xn1 : Int32) (K2 : Int32 → kp_S → Prop) (Sn : kp_S) (post : kp_S → Prop) : Prop :=
  K2 xn1 Sn
def wX12_leaves_L2 (a0 : Nat)  (post : kp_S → Prop) : Nat → Int32 → kp_S → Prop
  | 0, _, _ => False
  | n + 1, xn1, Sn =>
  ((xn1 = 0 →
  post Sn) ∧ (¬ xn1 = 0 →
  ∀ y2001 : Int32, y2001 = ((kp_I Sn 2487 a0) - 1) →
  ∃ b2002 : Nat, kp_R Sn 2488 a0 = some b2002 ∧
  vp_in y2001 (kp_N Sn b2002) ∧
  ∀ y2003 : Int32, y2003 = (kp_A Sn b2002 y2001.toNatClampNeg) →
  ((y2003 = 2 →
  wX12_leavesHold a0 y2001 Sn (fun y2006 T2005 =>
  wX12_leaves_b90 a0 y2006 (fun xn1_ S_ => wX12_leaves_L2 a0  post n xn1_ S_) T2005 post)) ∧ (¬ y2003 = 2 →
  ((y2003 = 3 →
  wX12_leavesLoop a0 y2001 Sn (fun y2009 T2008 =>
  wX12_leaves_b90 a0 y2009 (fun xn1_ S_ => wX12_leaves_L2 a0  post n xn1_ S_) T2008 post)) ∧ (¬ y2003 = 3 →
  ((y2003 = 4 →
  wX12_leavesTrial a0 y2001 Sn (fun y2012 T2011 =>
  wX12_leaves_b90 a0 y2012 (fun xn1_ S_ => wX12_leaves_L2 a0  post n xn1_ S_) T2011 post)) ∧ (¬ y2003 = 4 →
  ((y2003 = 5 →
  wX12_leavesEnsure a0 y2001 Sn (fun y2015 T2014 =>
  wX12_leaves_b90 a0 y2015 (fun xn1_ S_ => wX12_leaves_L2 a0  post n xn1_ S_) T2014 post)) ∧ (¬ y2003 = 5 →
  wX12_leavesCall a0 y2001 Sn (fun y2017 T2016 =>
  wX12_leaves_b90 a0 y2017 (fun xn1_ S_ => wX12_leaves_L2 a0  post n xn1_ S_) T2016 post)))))))))))
def wX12_leaves (a0 : Nat) (S : kp_S) (post : kp_S → Prop) : Prop :=
  ∃ n0 : Nat, wX12_leaves_L2 a0  post n0 1 S
set_option maxHeartbeats 4000000 in
set_option maxRecDepth 100000 in
theorem c_X12_leaves (l : Launch) (D : va_G) (cy : Nat → ClassId) (ad : (Nat → Nat) × (Nat → Nat)) (S : kp_S) (a0 : Nat) (post : kp_S → Prop) (hS : kp_ok S) (f_a0 : kp_is S a0 12) (hw : wX12_leaves a0 S post) : kp_M l yX12_leaves cX12_leaves 3 none { frames := 4, cells := 0, slots := 0, locals := 86 } D cy ad S [.ref a0] 0 0 (fun A => kp_Qv D cy A S post) := by
  refine kp_start (own := RX12) (by decide) rfl (Nat.le_of_ble_eq_true rfl) hS ?_
  intro p e s m below meth c A ls X hr hlocks hname h hl
  have hle : kp_le S S := kp_le.rf
  have hl : lv_has ls 3 [(0, .ref a0)] := hl
  have L2 : ∀ n2 : Nat, ∀ (xn1 : Int32) (Sn : kp_S) (H : Heap) (locs : List Loc) (ls : Array Slot), lv_has ls 3 [(0, .ref a0), (1, .int xn1)] → kp_H D cy A Sn s.heap H locs → kp_le S Sn → kp_is Sn a0 12 → wX12_leaves_L2 a0  post n2 xn1 Sn → W p l e { frames := 4, cells := 0, slots := 0, locals := 86 } s m ([.ref a0] : List Value).toArray below meth c H locs 0 0 (MQ below (kp_Qv D cy A S post) ([.ref a0] : List Value).toArray s 0 0 A) (F0 m 2 ls []) := by
    intro n2
    induction n2 with
    | zero => intro xn1 Sn H locs ls hl h hle f_a0 hw; exact hw.elim
    | succ n2 ih2 =>
      have j90 : ∀ (xn1 : Int32) (Sn : kp_S) (H : Heap) (locs : List Loc) (ls : Array Slot), lv_has ls 3 [(0, .ref a0), (1, .int xn1)] → kp_H D cy A Sn s.heap H locs → kp_le S Sn → kp_is Sn a0 12 → wX12_leaves_b90 a0 xn1 (fun xn1_ S_ => wX12_leaves_L2 a0  post n2 xn1_ S_) Sn post → W p l e { frames := 4, cells := 0, slots := 0, locals := 86 } s m ([.ref a0] : List Value).toArray below meth c H locs 0 0 (MQ below (kp_Qv D cy A S post) ([.ref a0] : List Value).toArray s 0 0 A) (F0 m 90 ls []) := by
        intro xn1 Sn H locs ls hl h hle f_a0 hw
        unfold wX12_leaves_b90 at hw
        refine lv_goto (tgt := 2) X.1 X.2.1 dX12_leaves_90 (by decide) ?_
        exact ih2 xn1 Sn H locs ls (lv_sub hl [0, 1] rfl) h hle f_a0 hw
      intro xn1 Sn H locs ls hl h hle f_a0 hw
      unfold wX12_leaves_L2 at hw
      refine lv_iload_n X.1 X.2.1 dX12_leaves_2 rfl (lv_at hl 1 rfl) ?_
      refine lv_if_eq (tgt := 93) X.1 X.2.1 dX12_leaves_3 (by decide) (fun c2018 => ?_) (fun c2018 => ?_)
      · have hw := hw.1 c2018
        exact kp_retv X hr hlocks h hle hw dX12_leaves_93
      · have hw := hw.2 c2018
        refine lv_aload_n X.1 X.2.1 dX12_leaves_6 rfl (lv_at hl 0 rfl) ?_
        refine kp_get X h f_a0 fp_12_613.l (v := .int (kp_I Sn 2487 a0)) rfl dX12_leaves_7 ?_
        refine lv_iconst (v := 1) X.1 X.2.1 dX12_leaves_10 (by decide) ?_
        refine lv_isub X.1 X.2.1 dX12_leaves_11 ?_
        refine lv_topi (fun y2001 e_y2001 => ?_)
        have hw := hw y2001 e_y2001
        refine lv_istore_n (lv' := [(2, .int y2001), (0, .ref a0), (1, .int xn1)]) X.1 X.2.1 dX12_leaves_12 rfl hl (by decide) rfl (fun ls hl => ?_)
        refine lv_aload_n X.1 X.2.1 dX12_leaves_13 rfl (lv_at hl 1 rfl) ?_
        obtain ⟨b2002, e_b2002, hw⟩ := hw
        have f_b2002 := h.2.2.2.rf (c := 12) (k := 88) f_a0 (by decide) (by decide) e_b2002 (t := 14) rfl
        refine kp_get X h f_a0 ff_12_176.l (v := .ref b2002) (congrArg va_rf e_b2002) dX12_leaves_14 ?_
        refine lv_iload_n X.1 X.2.1 dX12_leaves_17 rfl (lv_at hl 0 rfl) ?_
        obtain ⟨hi, hw⟩ := hw
        refine kp_iald X h f_b2002 hi dX12_leaves_18 ?_
        refine lv_topi (fun y2003 e_y2003 => ?_)
        have hw := hw y2003 e_y2003
        by_cases c2004 : y2003 = 2
        · have hw := hw.1 c2004
          refine lv_tableIn (off := 29) (tgt := 48) X.1 X.2.1 dX12_leaves_19 (by rw [c2004]; decide) (by rw [c2004]; decide) (by rw [c2004]; decide) (by decide) ?_
          refine lv_aload_n X.1 X.2.1 dX12_leaves_48 rfl (lv_at hl 1 rfl) ?_
          refine lv_iload_n X.1 X.2.1 dX12_leaves_49 rfl (lv_at hl 0 rfl) ?_
          refine kp_calli X h (kp_runV (rm := { frames := 2, cells := 0, slots := 0, locals := 44 }) (mc := 0) (ms := 0) (rest := []) (Qc := fun A => kp_Qi D cy A Sn _) X h (c_X12_leavesHold l D cy ad Sn a0 y2001 _ h.2.2.2 f_a0 hw) f_a0 cv_12_651 ⟨by decide, by decide, rfl, rfl, by decide, by decide⟩ rfl hl.1 rfl (Nat.le_of_ble_eq_true rfl) dX12_leaves_50) (fun y2006 T2005 hw l_T2005 H locs h => ?_)
          have f_a0 := l_T2005.is f_a0
          have f_b2002 := l_T2005.is f_b2002
          have hle := hle.tr l_T2005
          refine lv_istore_n (lv' := [(1, .int y2006), (2, .int y2001), (0, .ref a0)]) X.1 X.2.1 dX12_leaves_53 rfl hl (by decide) rfl (fun ls hl => ?_)
          refine lv_goto (tgt := 90) X.1 X.2.1 dX12_leaves_54 (by decide) ?_
          exact j90 y2006 T2005 H locs ls (lv_sub hl [2, 0] rfl) h hle f_a0 hw
        have hw := hw.2 c2004
        by_cases c2007 : y2003 = 3
        · have hw := hw.1 c2007
          refine lv_tableIn (off := 38) (tgt := 57) X.1 X.2.1 dX12_leaves_19 (by rw [c2007]; decide) (by rw [c2007]; decide) (by rw [c2007]; decide) (by decide) ?_
          refine lv_aload_n X.1 X.2.1 dX12_leaves_57 rfl (lv_at hl 1 rfl) ?_
          refine lv_iload_n X.1 X.2.1 dX12_leaves_58 rfl (lv_at hl 0 rfl) ?_
          refine kp_calli X h (kp_runV (rm := { frames := 3, cells := 0, slots := 0, locals := 64 }) (mc := 0) (ms := 0) (rest := []) (Qc := fun A => kp_Qi D cy A Sn _) X h (c_X12_leavesLoop l D cy ad Sn a0 y2001 _ h.2.2.2 f_a0 hw) f_a0 cv_12_654 ⟨by decide, by decide, rfl, rfl, by decide, by decide⟩ rfl hl.1 rfl (Nat.le_of_ble_eq_true rfl) dX12_leaves_59) (fun y2009 T2008 hw l_T2008 H locs h => ?_)
          have f_a0 := l_T2008.is f_a0
          have f_b2002 := l_T2008.is f_b2002
          have hle := hle.tr l_T2008
          refine lv_istore_n (lv' := [(1, .int y2009), (2, .int y2001), (0, .ref a0)]) X.1 X.2.1 dX12_leaves_62 rfl hl (by decide) rfl (fun ls hl => ?_)
          refine lv_goto (tgt := 90) X.1 X.2.1 dX12_leaves_63 (by decide) ?_
          exact j90 y2009 T2008 H locs ls (lv_sub hl [2, 0] rfl) h hle f_a0 hw
        have hw := hw.2 c2007
        by_cases c2010 : y2003 = 4
        · have hw := hw.1 c2010
          refine lv_tableIn (off := 47) (tgt := 66) X.1 X.2.1 dX12_leaves_19 (by rw [c2010]; decide) (by rw [c2010]; decide) (by rw [c2010]; decide) (by decide) ?_
          refine lv_aload_n X.1 X.2.1 dX12_leaves_66 rfl (lv_at hl 1 rfl) ?_
          refine lv_iload_n X.1 X.2.1 dX12_leaves_67 rfl (lv_at hl 0 rfl) ?_
          refine kp_calli X h (kp_runV (rm := { frames := 3, cells := 0, slots := 0, locals := 64 }) (mc := 0) (ms := 0) (rest := []) (Qc := fun A => kp_Qi D cy A Sn _) X h (c_X12_leavesTrial l D cy ad Sn a0 y2001 _ h.2.2.2 f_a0 hw) f_a0 cv_12_657 ⟨by decide, by decide, rfl, rfl, by decide, by decide⟩ rfl hl.1 rfl (Nat.le_of_ble_eq_true rfl) dX12_leaves_68) (fun y2012 T2011 hw l_T2011 H locs h => ?_)
          have f_a0 := l_T2011.is f_a0
          have f_b2002 := l_T2011.is f_b2002
          have hle := hle.tr l_T2011
          refine lv_istore_n (lv' := [(1, .int y2012), (2, .int y2001), (0, .ref a0)]) X.1 X.2.1 dX12_leaves_71 rfl hl (by decide) rfl (fun ls hl => ?_)
          refine lv_goto (tgt := 90) X.1 X.2.1 dX12_leaves_72 (by decide) ?_
          exact j90 y2012 T2011 H locs ls (lv_sub hl [2, 0] rfl) h hle f_a0 hw
        have hw := hw.2 c2010
        by_cases c2013 : y2003 = 5
        · have hw := hw.1 c2013
          refine lv_tableIn (off := 56) (tgt := 75) X.1 X.2.1 dX12_leaves_19 (by rw [c2013]; decide) (by rw [c2013]; decide) (by rw [c2013]; decide) (by decide) ?_
          refine lv_aload_n X.1 X.2.1 dX12_leaves_75 rfl (lv_at hl 1 rfl) ?_
          refine lv_iload_n X.1 X.2.1 dX12_leaves_76 rfl (lv_at hl 0 rfl) ?_
          refine kp_calli X h (kp_runV (rm := { frames := 2, cells := 0, slots := 0, locals := 44 }) (mc := 0) (ms := 0) (rest := []) (Qc := fun A => kp_Qi D cy A Sn _) X h (c_X12_leavesEnsure l D cy ad Sn a0 y2001 _ h.2.2.2 f_a0 hw) f_a0 cv_12_660 ⟨by decide, by decide, rfl, rfl, by decide, by decide⟩ rfl hl.1 rfl (Nat.le_of_ble_eq_true rfl) dX12_leaves_77) (fun y2015 T2014 hw l_T2014 H locs h => ?_)
          have f_a0 := l_T2014.is f_a0
          have f_b2002 := l_T2014.is f_b2002
          have hle := hle.tr l_T2014
          refine lv_istore_n (lv' := [(1, .int y2015), (2, .int y2001), (0, .ref a0)]) X.1 X.2.1 dX12_leaves_80 rfl hl (by decide) rfl (fun ls hl => ?_)
          refine lv_goto (tgt := 90) X.1 X.2.1 dX12_leaves_81 (by decide) ?_
          exact j90 y2015 T2014 H locs ls (lv_sub hl [2, 0] rfl) h hle f_a0 hw
        have hw := hw.2 c2013
        have t_c2004 := lv_neT (a := 2) c2004 (by decide)
        have t_c2007 := lv_neT (a := 3) c2007 (by decide)
        have t_c2010 := lv_neT (a := 4) c2010 (by decide)
        have t_c2013 := lv_neT (a := 5) c2013 (by decide)
        refine lv_tableOut (tgt := 84) X.1 X.2.1 dX12_leaves_19 (by omega) (by decide) ?_
        refine lv_aload_n X.1 X.2.1 dX12_leaves_84 rfl (lv_at hl 1 rfl) ?_
        refine lv_iload_n X.1 X.2.1 dX12_leaves_85 rfl (lv_at hl 0 rfl) ?_
        refine kp_calli X h (kp_runV (rm := { frames := 2, cells := 0, slots := 0, locals := 43 }) (mc := 0) (ms := 0) (rest := []) (Qc := fun A => kp_Qi D cy A Sn _) X h (c_X12_leavesCall l D cy ad Sn a0 y2001 _ h.2.2.2 f_a0 hw) f_a0 cv_12_663 ⟨by decide, by decide, rfl, rfl, by decide, by decide⟩ rfl hl.1 rfl (Nat.le_of_ble_eq_true rfl) dX12_leaves_86) (fun y2017 T2016 hw l_T2016 H locs h => ?_)
        have f_a0 := l_T2016.is f_a0
        have f_b2002 := l_T2016.is f_b2002
        have hle := hle.tr l_T2016
        refine lv_istore_n (lv' := [(1, .int y2017), (2, .int y2001), (0, .ref a0)]) X.1 X.2.1 dX12_leaves_89 rfl hl (by decide) rfl (fun ls hl => ?_)
        exact j90 y2017 T2016 H locs ls (lv_sub hl [2, 0] rfl) h hle f_a0 hw
  unfold wX12_leaves at hw
  have h : kp_H D cy A S s.heap s.heap [] := h
  revert h
  intro h
  refine lv_iconst (v := 1) X.1 X.2.1 dX12_leaves_0 (by decide) ?_
  refine lv_istore_n (lv' := [(1, .int 1), (0, .ref a0)]) X.1 X.2.1 dX12_leaves_1 rfl hl (by decide) rfl (fun ls hl => ?_)
  obtain ⟨n0, hw⟩ := hw
  exact L2 n0 1 S _ _ ls (lv_sub hl [1, 0] rfl) h hle f_a0 hw
theorem dX12_trouble_0 : decode cX12_trouble 0 = .ok (.aload_n 0, 1) := by decide +kernel
theorem dX12_trouble_1 : decode cX12_trouble 1 = .ok (.iconst 4, 1) := by decide +kernel
theorem dX12_trouble_2 : decode cX12_trouble 2 = .ok (.putfield 616, 3) := by decide +kernel
theorem dX12_trouble_5 : decode cX12_trouble 5 = .ok (.aload_n 0, 1) := by decide +kernel
theorem dX12_trouble_6 : decode cX12_trouble 6 = .ok (.iload_n 1, 1) := by decide +kernel
theorem dX12_trouble_7 : decode cX12_trouble 7 = .ok (.putfield 625, 3) := by decide +kernel
theorem dX12_trouble_10 : decode cX12_trouble 10 = .ok (.aload_n 0, 1) := by decide +kernel
theorem dX12_trouble_11 : decode cX12_trouble 11 = .ok (.iconst 0, 1) := by decide +kernel
theorem dX12_trouble_12 : decode cX12_trouble 12 = .ok (.putfield 628, 3) := by decide +kernel
theorem dX12_trouble_15 : decode cX12_trouble 15 = .ok (.iconst 0, 1) := by decide +kernel
theorem dX12_trouble_16 : decode cX12_trouble 16 = .ok (.istore_n 2, 1) := by decide +kernel
theorem dX12_trouble_17 : decode cX12_trouble 17 = .ok (.iload_n 2, 1) := by decide +kernel
theorem dX12_trouble_18 : decode cX12_trouble 18 = .ok (.aload_n 0, 1) := by decide +kernel
theorem dX12_trouble_19 : decode cX12_trouble 19 = .ok (.getfield 613, 3) := by decide +kernel
theorem dX12_trouble_22 : decode cX12_trouble 22 = .ok (.if_icmp .ge 35, 3) := by decide +kernel
theorem dX12_trouble_25 : decode cX12_trouble 25 = .ok (.aload_n 0, 1) := by decide +kernel
theorem dX12_trouble_26 : decode cX12_trouble 26 = .ok (.aload_n 0, 1) := by decide +kernel
theorem dX12_trouble_27 : decode cX12_trouble 27 = .ok (.getfield 185, 3) := by decide +kernel
theorem dX12_trouble_30 : decode cX12_trouble 30 = .ok (.iload_n 2, 1) := by decide +kernel
theorem dX12_trouble_31 : decode cX12_trouble 31 = .ok (.iaload, 1) := by decide +kernel
theorem dX12_trouble_32 : decode cX12_trouble 32 = .ok (.ifCond .le 12, 3) := by decide +kernel
theorem dX12_trouble_35 : decode cX12_trouble 35 = .ok (.aload_n 0, 1) := by decide +kernel
theorem dX12_trouble_36 : decode cX12_trouble 36 = .ok (.getfield 185, 3) := by decide +kernel
theorem dX12_trouble_39 : decode cX12_trouble 39 = .ok (.iload_n 2, 1) := by decide +kernel
theorem dX12_trouble_40 : decode cX12_trouble 40 = .ok (.iaload, 1) := by decide +kernel
theorem dX12_trouble_41 : decode cX12_trouble 41 = .ok (.goto 7, 3) := by decide +kernel
theorem dX12_trouble_44 : decode cX12_trouble 44 = .ok (.aload_n 0, 1) := by decide +kernel
theorem dX12_trouble_45 : decode cX12_trouble 45 = .ok (.getfield 628, 3) := by decide +kernel
theorem dX12_trouble_48 : decode cX12_trouble 48 = .ok (.putfield 628, 3) := by decide +kernel
theorem dX12_trouble_51 : decode cX12_trouble 51 = .ok (.iinc 2 1, 3) := by decide +kernel
theorem dX12_trouble_54 : decode cX12_trouble 54 = .ok (.goto (-37), 3) := by decide +kernel
theorem dX12_trouble_57 : decode cX12_trouble 57 = .ok (.aload_n 0, 1) := by decide +kernel
theorem dX12_trouble_58 : decode cX12_trouble 58 = .ok (.aload_n 0, 1) := by decide +kernel
theorem dX12_trouble_59 : decode cX12_trouble 59 = .ok (.getfield 639, 3) := by decide +kernel
theorem dX12_trouble_62 : decode cX12_trouble 62 = .ok (.putfield 631, 3) := by decide +kernel
theorem dX12_trouble_65 : decode cX12_trouble 65 = .ok (.aload_n 0, 1) := by decide +kernel
theorem dX12_trouble_66 : decode cX12_trouble 66 = .ok (.dup, 1) := by decide +kernel
theorem dX12_trouble_67 : decode cX12_trouble 67 = .ok (.getfield 642, 3) := by decide +kernel
theorem dX12_trouble_70 : decode cX12_trouble 70 = .ok (.iconst 1, 1) := by decide +kernel
theorem dX12_trouble_71 : decode cX12_trouble 71 = .ok (.iadd, 1) := by decide +kernel
theorem dX12_trouble_72 : decode cX12_trouble 72 = .ok (.putfield 642, 3) := by decide +kernel
theorem dX12_trouble_75 : decode cX12_trouble 75 = .ok (.aload_n 0, 1) := by decide +kernel
theorem dX12_trouble_76 : decode cX12_trouble 76 = .ok (.bipush 7, 2) := by decide +kernel
theorem dX12_trouble_78 : decode cX12_trouble 78 = .ok (.iload_n 1, 1) := by decide +kernel
theorem dX12_trouble_79 : decode cX12_trouble 79 = .ok (.invokevirtual 637, 3) := by decide +kernel
theorem dX12_trouble_82 : decode cX12_trouble 82 = .ok (.aload_n 0, 1) := by decide +kernel
theorem dX12_trouble_83 : decode cX12_trouble 83 = .ok (.invokevirtual 645, 3) := by decide +kernel
theorem dX12_trouble_86 : decode cX12_trouble 86 = .ok (.return_, 1) := by decide +kernel
def wX12_trouble_b48 (a0 : Nat) (x1 : Int32) (xn2 : Int32) (xt0 : Int32) (at1 : Nat) (K17 : Int32 → kp_S → Prop) (Sn : kp_S) (post : kp_S → Prop) : Prop :=
  ∀ T1001 : kp_S, T1001 = kp_sI Sn 2485 at1 xt0 →
  ∀ y1002 : Int32, y1002 = xn2 + 1 →
  K17 y1002 T1001
def wX12_trouble_L17 (a0 : Nat) (x1 : Int32)  (post : kp_S → Prop) : Nat → Int32 → kp_S → Prop
  | 0, _, _ => False
  | n + 1, xn2, Sn =>
  (((kp_I Sn 2487 a0) ≤ xn2 →
  ∀ T2001 : kp_S, T2001 = kp_sI Sn 2486 a0 (kp_I Sn 2511 a0) →
  ∀ T2002 : kp_S, T2002 = kp_sI T2001 2477 a0 ((kp_I T2001 2477 a0) + 1) →
  wX12_note a0 7 x1 T2002 (fun T2003 =>
  wX12_leaves a0 T2003 (fun T2004 =>
  post T2004))) ∧ (¬ (kp_I Sn 2487 a0) ≤ xn2 →
  ∃ b2005 : Nat, kp_R Sn 2491 a0 = some b2005 ∧
  vp_in xn2 (kp_N Sn b2005) ∧
  (((kp_A Sn b2005 xn2.toNatClampNeg) ≤ 0 →
  wX12_trouble_b48 a0 x1 xn2 (kp_I Sn 2485 a0) a0 (fun xn2_ S_ => wX12_trouble_L17 a0 x1  post n xn2_ S_) Sn post) ∧ (¬ (kp_A Sn b2005 xn2.toNatClampNeg) ≤ 0 →
  vp_in xn2 (kp_N Sn b2005) ∧
  wX12_trouble_b48 a0 x1 xn2 (kp_A Sn b2005 xn2.toNatClampNeg) a0 (fun xn2_ S_ => wX12_trouble_L17 a0 x1  post n xn2_ S_) Sn post))))
def wX12_trouble (a0 : Nat) (x1 : Int32) (S : kp_S) (post : kp_S → Prop) : Prop :=
  ∀ T1 : kp_S, T1 = kp_sI S 2481 a0 4 →
  ∀ T2 : kp_S, T2 = kp_sI T1 2484 a0 x1 →
  ∀ T3 : kp_S, T3 = kp_sI T2 2485 a0 0 →
  ∃ n0 : Nat, wX12_trouble_L17 a0 x1  post n0 0 T3
set_option maxHeartbeats 4000000 in
set_option maxRecDepth 100000 in
theorem c_X12_trouble (l : Launch) (D : va_G) (cy : Nat → ClassId) (ad : (Nat → Nat) × (Nat → Nat)) (S : kp_S) (a0 : Nat) (x1 : Int32) (post : kp_S → Prop) (hS : kp_ok S) (f_a0 : kp_is S a0 12) (hw : wX12_trouble a0 x1 S post) : kp_M l yX12_trouble cX12_trouble 3 none { frames := 5, cells := 0, slots := 0, locals := 108 } D cy ad S [.ref a0, .int x1] 0 0 (fun A => kp_Qv D cy A S post) := by
  refine kp_start (own := RX12) (by decide) rfl (Nat.le_of_ble_eq_true rfl) hS ?_
  intro p e s m below meth c A ls X hr hlocks hname h hl
  have hle : kp_le S S := kp_le.rf
  have hl : lv_has ls 3 [(0, .ref a0), (1, .int x1)] := hl
  have L17 : ∀ n17 : Nat, ∀ (xn2 : Int32) (Sn : kp_S) (H : Heap) (locs : List Loc) (ls : Array Slot), lv_has ls 3 [(0, .ref a0), (1, .int x1), (2, .int xn2)] → kp_H D cy A Sn s.heap H locs → kp_le S Sn → kp_is Sn a0 12 → wX12_trouble_L17 a0 x1  post n17 xn2 Sn → W p l e { frames := 5, cells := 0, slots := 0, locals := 108 } s m ([.ref a0, .int x1] : List Value).toArray below meth c H locs 0 0 (MQ below (kp_Qv D cy A S post) ([.ref a0, .int x1] : List Value).toArray s 0 0 A) (F0 m 17 ls []) := by
    intro n17
    induction n17 with
    | zero => intro xn2 Sn H locs ls hl h hle f_a0 hw; exact hw.elim
    | succ n17 ih17 =>
      have j48 : ∀ (xn2 : Int32) (xt0 : Int32) (at1 : Nat) (Sn : kp_S) (H : Heap) (locs : List Loc) (ls : Array Slot), lv_has ls 3 [(0, .ref a0), (1, .int x1), (2, .int xn2)] → kp_H D cy A Sn s.heap H locs → kp_le S Sn → kp_is Sn a0 12 → kp_is Sn at1 12 → wX12_trouble_b48 a0 x1 xn2 xt0 at1 (fun xn2_ S_ => wX12_trouble_L17 a0 x1  post n17 xn2_ S_) Sn post → W p l e { frames := 5, cells := 0, slots := 0, locals := 108 } s m ([.ref a0, .int x1] : List Value).toArray below meth c H locs 0 0 (MQ below (kp_Qv D cy A S post) ([.ref a0, .int x1] : List Value).toArray s 0 0 A) (F0 m 48 ls [.int xt0, .ref at1]) := by
        intro xn2 xt0 at1 Sn H locs ls hl h hle f_a0 f_at1 hw
        unfold wX12_trouble_b48 at hw
        refine kp_putI X h f_at1 fp_12_628 rfl ⟨rfl, rfl⟩ dX12_trouble_48 (fun T1001 e_T1001 l_T1001 H locs h => ?_)
        have hw := hw T1001 e_T1001
        have f_a0 := l_T1001.is f_a0
        have f_at1 := l_T1001.is f_at1
        have hle := hle.tr l_T1001
        obtain ⟨y1002, e_y1002⟩ : ∃ y : Int32, y = xn2 + 1 := ⟨_, rfl⟩
        have hw := hw y1002 e_y1002
        refine lv_iinc (v := y1002) (lv' := [(2, .int y1002), (0, .ref a0), (1, .int x1)]) X.1 X.2.1 dX12_trouble_51 hl (k := 2) rfl (by rw [e_y1002]; rfl) (by decide) rfl (fun ls hl => ?_)
        refine lv_goto (tgt := 17) X.1 X.2.1 dX12_trouble_54 (by decide) ?_
        exact ih17 y1002 T1001 H locs ls (lv_sub hl [1, 2, 0] rfl) h hle f_a0 hw
      intro xn2 Sn H locs ls hl h hle f_a0 hw
      unfold wX12_trouble_L17 at hw
      refine lv_iload_n X.1 X.2.1 dX12_trouble_17 rfl (lv_at hl 2 rfl) ?_
      refine lv_aload_n X.1 X.2.1 dX12_trouble_18 rfl (lv_at hl 0 rfl) ?_
      refine kp_get X h f_a0 fp_12_613.l (v := .int (kp_I Sn 2487 a0)) rfl dX12_trouble_19 ?_
      refine lv_icmp_ge (tgt := 57) X.1 X.2.1 dX12_trouble_22 (by decide) (fun c2007 => ?_) (fun c2007 => ?_)
      · have hw := hw.1 c2007
        refine lv_aload_n X.1 X.2.1 dX12_trouble_57 rfl (lv_at hl 0 rfl) ?_
        refine lv_aload_n X.1 X.2.1 dX12_trouble_58 rfl (lv_at hl 0 rfl) ?_
        refine kp_get X h f_a0 fp_12_639.l (v := .int (kp_I Sn 2511 a0)) rfl dX12_trouble_59 ?_
        refine kp_putI X h f_a0 fp_12_631 rfl ⟨rfl, rfl⟩ dX12_trouble_62 (fun T2001 e_T2001 l_T2001 H locs h => ?_)
        have hw := hw T2001 e_T2001
        have f_a0 := l_T2001.is f_a0
        have hle := hle.tr l_T2001
        refine lv_aload_n X.1 X.2.1 dX12_trouble_65 rfl (lv_at hl 0 rfl) ?_
        refine lv_dup X.1 X.2.1 dX12_trouble_66 rfl ?_
        refine kp_get X h f_a0 fp_12_642.l (v := .int (kp_I T2001 2477 a0)) rfl dX12_trouble_67 ?_
        refine lv_iconst (v := 1) X.1 X.2.1 dX12_trouble_70 (by decide) ?_
        refine lv_iadd X.1 X.2.1 dX12_trouble_71 ?_
        refine kp_putI X h f_a0 fp_12_642 rfl ⟨rfl, rfl⟩ dX12_trouble_72 (fun T2002 e_T2002 l_T2002 H locs h => ?_)
        have hw := hw T2002 e_T2002
        have f_a0 := l_T2002.is f_a0
        have hle := hle.tr l_T2002
        refine lv_aload_n X.1 X.2.1 dX12_trouble_75 rfl (lv_at hl 0 rfl) ?_
        refine lv_bipush (v := 7) X.1 X.2.1 dX12_trouble_76 (by decide) ?_
        refine lv_iload_n X.1 X.2.1 dX12_trouble_78 rfl (lv_at hl 1 rfl) ?_
        refine kp_callv X h (kp_runV (rm := { frames := 0, cells := 0, slots := 0, locals := 0 }) (mc := 0) (ms := 0) (rest := []) (Qc := fun A => kp_Qv D cy A T2002 _) X h (c_X12_note l D cy ad T2002 a0 7 x1 _ h.2.2.2 f_a0 hw) f_a0 cv_12_637 ⟨by decide, by decide, rfl, rfl, by decide, by decide⟩ rfl hl.1 rfl (Nat.le_of_ble_eq_true rfl) dX12_trouble_79) (fun T2003 hw l_T2003 H locs h => ?_)
        have f_a0 := l_T2003.is f_a0
        have hle := hle.tr l_T2003
        refine lv_aload_n X.1 X.2.1 dX12_trouble_82 rfl (lv_at hl 0 rfl) ?_
        refine kp_callv X h (kp_runV (rm := { frames := 4, cells := 0, slots := 0, locals := 86 }) (mc := 0) (ms := 0) (rest := []) (Qc := fun A => kp_Qv D cy A T2003 _) X h (c_X12_leaves l D cy ad T2003 a0 _ h.2.2.2 f_a0 hw) f_a0 cv_12_645 ⟨by decide, by decide, rfl, rfl, by decide, by decide⟩ rfl hl.1 rfl (Nat.le_of_ble_eq_true rfl) dX12_trouble_83) (fun T2004 hw l_T2004 H locs h => ?_)
        have f_a0 := l_T2004.is f_a0
        have hle := hle.tr l_T2004
        exact kp_retv X hr hlocks h hle hw dX12_trouble_86
      · have hw := hw.2 c2007
        refine lv_aload_n X.1 X.2.1 dX12_trouble_25 rfl (lv_at hl 0 rfl) ?_
        refine lv_aload_n X.1 X.2.1 dX12_trouble_26 rfl (lv_at hl 0 rfl) ?_
        obtain ⟨b2005, e_b2005, hw⟩ := hw
        have f_b2005 := h.2.2.2.rf (c := 12) (k := 91) f_a0 (by decide) (by decide) e_b2005 (t := 14) rfl
        refine kp_get X h f_a0 ff_12_185.l (v := .ref b2005) (congrArg va_rf e_b2005) dX12_trouble_27 ?_
        refine lv_iload_n X.1 X.2.1 dX12_trouble_30 rfl (lv_at hl 2 rfl) ?_
        obtain ⟨hi, hw⟩ := hw
        refine kp_iald X h f_b2005 hi dX12_trouble_31 ?_
        refine lv_if_le (tgt := 44) X.1 X.2.1 dX12_trouble_32 (by decide) (fun c2006 => ?_) (fun c2006 => ?_)
        · have hw := hw.1 c2006
          refine lv_aload_n X.1 X.2.1 dX12_trouble_44 rfl (lv_at hl 0 rfl) ?_
          refine kp_get X h f_a0 fp_12_628.l (v := .int (kp_I Sn 2485 a0)) rfl dX12_trouble_45 ?_
          exact j48 xn2 (kp_I Sn 2485 a0) a0 Sn H locs ls (lv_sub hl [0, 1, 2] rfl) h hle f_a0 f_a0 hw
        · have hw := hw.2 c2006
          refine lv_aload_n X.1 X.2.1 dX12_trouble_35 rfl (lv_at hl 0 rfl) ?_
          refine kp_get X h f_a0 ff_12_185.l (v := .ref b2005) (congrArg va_rf e_b2005) dX12_trouble_36 ?_
          refine lv_iload_n X.1 X.2.1 dX12_trouble_39 rfl (lv_at hl 2 rfl) ?_
          obtain ⟨hi, hw⟩ := hw
          refine kp_iald X h f_b2005 hi dX12_trouble_40 ?_
          refine lv_goto (tgt := 48) X.1 X.2.1 dX12_trouble_41 (by decide) ?_
          exact j48 xn2 (kp_A Sn b2005 xn2.toNatClampNeg) a0 Sn H locs ls (lv_sub hl [0, 1, 2] rfl) h hle f_a0 f_a0 hw
  unfold wX12_trouble at hw
  have h : kp_H D cy A S s.heap s.heap [] := h
  revert h
  intro h
  refine lv_aload_n X.1 X.2.1 dX12_trouble_0 rfl (lv_at hl 0 rfl) ?_
  refine lv_iconst (v := 4) X.1 X.2.1 dX12_trouble_1 (by decide) ?_
  refine kp_putI X h f_a0 fp_12_616 rfl ⟨rfl, rfl⟩ dX12_trouble_2 (fun T1 e_T1 l_T1 H locs h => ?_)
  have hw := hw T1 e_T1
  have f_a0 := l_T1.is f_a0
  have hle := hle.tr l_T1
  refine lv_aload_n X.1 X.2.1 dX12_trouble_5 rfl (lv_at hl 0 rfl) ?_
  refine lv_iload_n X.1 X.2.1 dX12_trouble_6 rfl (lv_at hl 1 rfl) ?_
  refine kp_putI X h f_a0 fp_12_625 rfl ⟨rfl, rfl⟩ dX12_trouble_7 (fun T2 e_T2 l_T2 H locs h => ?_)
  have hw := hw T2 e_T2
  have f_a0 := l_T2.is f_a0
  have hle := hle.tr l_T2
  refine lv_aload_n X.1 X.2.1 dX12_trouble_10 rfl (lv_at hl 0 rfl) ?_
  refine lv_iconst (v := 0) X.1 X.2.1 dX12_trouble_11 (by decide) ?_
  refine kp_putI X h f_a0 fp_12_628 rfl ⟨rfl, rfl⟩ dX12_trouble_12 (fun T3 e_T3 l_T3 H locs h => ?_)
  have hw := hw T3 e_T3
  have f_a0 := l_T3.is f_a0
  have hle := hle.tr l_T3
  refine lv_iconst (v := 0) X.1 X.2.1 dX12_trouble_15 (by decide) ?_
  refine lv_istore_n (lv' := [(2, .int 0), (0, .ref a0), (1, .int x1)]) X.1 X.2.1 dX12_trouble_16 rfl hl (by decide) rfl (fun ls hl => ?_)
  obtain ⟨n0, hw⟩ := hw
  exact L17 n0 0 T3 _ _ ls (lv_sub hl [1, 2, 0] rfl) h hle f_a0 hw
theorem dX12_ensures_0 : decode cX12_ensures 0 = .ok (.iload_n 1, 1) := by decide +kernel
theorem dX12_ensures_1 : decode cX12_ensures 1 = .ok (.ifCond .ne 10, 3) := by decide +kernel
theorem dX12_ensures_4 : decode cX12_ensures 4 = .ok (.aload_n 0, 1) := by decide +kernel
theorem dX12_ensures_5 : decode cX12_ensures 5 = .ok (.bipush 10, 2) := by decide +kernel
theorem dX12_ensures_7 : decode cX12_ensures 7 = .ok (.invokevirtual 696, 3) := by decide +kernel
theorem dX12_ensures_10 : decode cX12_ensures 10 = .ok (.return_, 1) := by decide +kernel
theorem dX12_ensures_11 : decode cX12_ensures 11 = .ok (.aload_n 0, 1) := by decide +kernel
theorem dX12_ensures_12 : decode cX12_ensures 12 = .ok (.aload_n 0, 1) := by decide +kernel
theorem dX12_ensures_13 : decode cX12_ensures 13 = .ok (.getfield 613, 3) := by decide +kernel
theorem dX12_ensures_16 : decode cX12_ensures 16 = .ok (.iconst 1, 1) := by decide +kernel
theorem dX12_ensures_17 : decode cX12_ensures 17 = .ok (.isub, 1) := by decide +kernel
theorem dX12_ensures_18 : decode cX12_ensures 18 = .ok (.invokevirtual 681, 3) := by decide +kernel
theorem dX12_ensures_21 : decode cX12_ensures 21 = .ok (.aload_n 0, 1) := by decide +kernel
theorem dX12_ensures_22 : decode cX12_ensures 22 = .ok (.getfield 179, 3) := by decide +kernel
theorem dX12_ensures_25 : decode cX12_ensures 25 = .ok (.aload_n 0, 1) := by decide +kernel
theorem dX12_ensures_26 : decode cX12_ensures 26 = .ok (.getfield 613, 3) := by decide +kernel
theorem dX12_ensures_29 : decode cX12_ensures 29 = .ok (.iconst 1, 1) := by decide +kernel
theorem dX12_ensures_30 : decode cX12_ensures 30 = .ok (.isub, 1) := by decide +kernel
theorem dX12_ensures_31 : decode cX12_ensures 31 = .ok (.bipush 10, 2) := by decide +kernel
theorem dX12_ensures_33 : decode cX12_ensures 33 = .ok (.iastore, 1) := by decide +kernel
theorem dX12_ensures_34 : decode cX12_ensures 34 = .ok (.aload_n 0, 1) := by decide +kernel
theorem dX12_ensures_35 : decode cX12_ensures 35 = .ok (.invokevirtual 645, 3) := by decide +kernel
theorem dX12_ensures_38 : decode cX12_ensures 38 = .ok (.return_, 1) := by decide +kernel
def wX12_ensures (a0 : Nat) (x1 : Int32) (S : kp_S) (post : kp_S → Prop) : Prop :=
  ((¬ x1 = 0 →
  wX12_takeWay a0 ((kp_I S 2487 a0) - 1) S (fun T1 =>
  ∃ b2 : Nat, kp_R T1 2489 a0 = some b2 ∧
  vp_in ((kp_I T1 2487 a0) - 1) (kp_N T1 b2) ∧ ∀ T3 : kp_S, T3 = kp_sA T1 b2 (upd (kp_A T1 b2) (((kp_I T1 2487 a0) - 1).toNatClampNeg) 10) →
  wX12_leaves a0 T3 (fun T4 =>
  post T4))) ∧ (x1 = 0 →
  wX12_trouble a0 10 S (fun T5 =>
  post T5)))
set_option maxHeartbeats 4000000 in
set_option maxRecDepth 100000 in
theorem c_X12_ensures (l : Launch) (D : va_G) (cy : Nat → ClassId) (ad : (Nat → Nat) × (Nat → Nat)) (S : kp_S) (a0 : Nat) (x1 : Int32) (post : kp_S → Prop) (hS : kp_ok S) (f_a0 : kp_is S a0 12) (hw : wX12_ensures a0 x1 S post) : kp_M l yX12_ensures cX12_ensures 2 none { frames := 6, cells := 0, slots := 0, locals := 130 } D cy ad S [.ref a0, .int x1] 0 0 (fun A => kp_Qv D cy A S post) := by
  refine kp_start (own := RX12) (by decide) rfl (Nat.le_of_ble_eq_true rfl) hS ?_
  intro p e s m below meth c A ls X hr hlocks hname h hl
  have hle : kp_le S S := kp_le.rf
  have hl : lv_has ls 2 [(0, .ref a0), (1, .int x1)] := hl
  unfold wX12_ensures at hw
  have h : kp_H D cy A S s.heap s.heap [] := h
  revert h
  intro h
  refine lv_iload_n X.1 X.2.1 dX12_ensures_0 rfl (lv_at hl 1 rfl) ?_
  refine lv_if_ne (tgt := 11) X.1 X.2.1 dX12_ensures_1 (by decide) (fun c6 => ?_) (fun c6 => ?_)
  · have hw := hw.1 c6
    refine lv_aload_n X.1 X.2.1 dX12_ensures_11 rfl (lv_at hl 0 rfl) ?_
    refine lv_aload_n X.1 X.2.1 dX12_ensures_12 rfl (lv_at hl 0 rfl) ?_
    refine kp_get X h f_a0 fp_12_613.l (v := .int (kp_I S 2487 a0)) rfl dX12_ensures_13 ?_
    refine lv_iconst (v := 1) X.1 X.2.1 dX12_ensures_16 (by decide) ?_
    refine lv_isub X.1 X.2.1 dX12_ensures_17 ?_
    refine kp_callv X h (kp_runV (rm := { frames := 0, cells := 0, slots := 0, locals := 0 }) (mc := 0) (ms := 0) (rest := []) (Qc := fun A => kp_Qv D cy A S _) X h (c_X12_takeWay l D cy ad S a0 ((kp_I S 2487 a0) - 1) _ h.2.2.2 f_a0 hw) f_a0 cv_12_681 ⟨by decide, by decide, rfl, rfl, by decide, by decide⟩ rfl hl.1 rfl (Nat.le_of_ble_eq_true rfl) dX12_ensures_18) (fun T1 hw l_T1 H locs h => ?_)
    have f_a0 := l_T1.is f_a0
    have hle := hle.tr l_T1
    refine lv_aload_n X.1 X.2.1 dX12_ensures_21 rfl (lv_at hl 0 rfl) ?_
    obtain ⟨b2, e_b2, hw⟩ := hw
    have f_b2 := h.2.2.2.rf (c := 12) (k := 89) f_a0 (by decide) (by decide) e_b2 (t := 14) rfl
    refine kp_get X h f_a0 ff_12_179.l (v := .ref b2) (congrArg va_rf e_b2) dX12_ensures_22 ?_
    refine lv_aload_n X.1 X.2.1 dX12_ensures_25 rfl (lv_at hl 0 rfl) ?_
    refine kp_get X h f_a0 fp_12_613.l (v := .int (kp_I T1 2487 a0)) rfl dX12_ensures_26 ?_
    refine lv_iconst (v := 1) X.1 X.2.1 dX12_ensures_29 (by decide) ?_
    refine lv_isub X.1 X.2.1 dX12_ensures_30 ?_
    refine lv_bipush (v := 10) X.1 X.2.1 dX12_ensures_31 (by decide) ?_
    obtain ⟨hi, hw⟩ := hw
    refine kp_iast X h f_b2 hi dX12_ensures_33 (fun T3 e_T3 l_T3 H locs h => ?_)
    have hw := hw T3 e_T3
    have f_a0 := l_T3.is f_a0
    have f_b2 := l_T3.is f_b2
    have hle := hle.tr l_T3
    have e_b2 : kp_R T3 2489 a0 = some b2 := by rw [e_T3]; exact e_b2
    refine lv_aload_n X.1 X.2.1 dX12_ensures_34 rfl (lv_at hl 0 rfl) ?_
    refine kp_callv X h (kp_runV (rm := { frames := 4, cells := 0, slots := 0, locals := 86 }) (mc := 0) (ms := 0) (rest := []) (Qc := fun A => kp_Qv D cy A T3 _) X h (c_X12_leaves l D cy ad T3 a0 _ h.2.2.2 f_a0 hw) f_a0 cv_12_645 ⟨by decide, by decide, rfl, rfl, by decide, by decide⟩ rfl hl.1 rfl (Nat.le_of_ble_eq_true rfl) dX12_ensures_35) (fun T4 hw l_T4 H locs h => ?_)
    have f_a0 := l_T4.is f_a0
    have f_b2 := l_T4.is f_b2
    have hle := hle.tr l_T4
    exact kp_retv X hr hlocks h hle hw dX12_ensures_38
  · have hw := hw.2 c6
    refine lv_aload_n X.1 X.2.1 dX12_ensures_4 rfl (lv_at hl 0 rfl) ?_
    refine lv_bipush (v := 10) X.1 X.2.1 dX12_ensures_5 (by decide) ?_
    refine kp_callv X h (kp_runV (rm := { frames := 5, cells := 0, slots := 0, locals := 108 }) (mc := 0) (ms := 0) (rest := []) (Qc := fun A => kp_Qv D cy A S _) X h (c_X12_trouble l D cy ad S a0 10 _ h.2.2.2 f_a0 hw) f_a0 cv_12_696 ⟨by decide, by decide, rfl, rfl, by decide, by decide⟩ rfl hl.1 rfl (Nat.le_of_ble_eq_true rfl) dX12_ensures_7) (fun T5 hw l_T5 H locs h => ?_)
    have f_a0 := l_T5.is f_a0
    have hle := hle.tr l_T5
    exact kp_retv X hr hlocks h hle hw dX12_ensures_10
theorem dX12_calls_0 : decode cX12_calls 0 = .ok (.aload_n 0, 1) := by decide +kernel
theorem dX12_calls_1 : decode cX12_calls 1 = .ok (.invokevirtual 693, 3) := by decide +kernel
theorem dX12_calls_4 : decode cX12_calls 4 = .ok (.ifCond .ne 4, 3) := by decide +kernel
theorem dX12_calls_7 : decode cX12_calls 7 = .ok (.return_, 1) := by decide +kernel
theorem dX12_calls_8 : decode cX12_calls 8 = .ok (.aload_n 0, 1) := by decide +kernel
theorem dX12_calls_9 : decode cX12_calls 9 = .ok (.getfield 699, 3) := by decide +kernel
theorem dX12_calls_12 : decode cX12_calls 12 = .ok (.bipush 12, 2) := by decide +kernel
theorem dX12_calls_14 : decode cX12_calls 14 = .ok (.if_icmp .ne 9, 3) := by decide +kernel
theorem dX12_calls_17 : decode cX12_calls 17 = .ok (.aload_n 0, 1) := by decide +kernel
theorem dX12_calls_18 : decode cX12_calls 18 = .ok (.iconst 2, 1) := by decide +kernel
theorem dX12_calls_19 : decode cX12_calls 19 = .ok (.invokevirtual 696, 3) := by decide +kernel
theorem dX12_calls_22 : decode cX12_calls 22 = .ok (.return_, 1) := by decide +kernel
theorem dX12_calls_23 : decode cX12_calls 23 = .ok (.aload_n 0, 1) := by decide +kernel
theorem dX12_calls_24 : decode cX12_calls 24 = .ok (.dup, 1) := by decide +kernel
theorem dX12_calls_25 : decode cX12_calls 25 = .ok (.getfield 699, 3) := by decide +kernel
theorem dX12_calls_28 : decode cX12_calls 28 = .ok (.iconst 1, 1) := by decide +kernel
theorem dX12_calls_29 : decode cX12_calls 29 = .ok (.iadd, 1) := by decide +kernel
theorem dX12_calls_30 : decode cX12_calls 30 = .ok (.putfield 699, 3) := by decide +kernel
theorem dX12_calls_33 : decode cX12_calls 33 = .ok (.aload_n 0, 1) := by decide +kernel
theorem dX12_calls_34 : decode cX12_calls 34 = .ok (.dup, 1) := by decide +kernel
theorem dX12_calls_35 : decode cX12_calls 35 = .ok (.getfield 711, 3) := by decide +kernel
theorem dX12_calls_38 : decode cX12_calls 38 = .ok (.iconst 1, 1) := by decide +kernel
theorem dX12_calls_39 : decode cX12_calls 39 = .ok (.iadd, 1) := by decide +kernel
theorem dX12_calls_40 : decode cX12_calls 40 = .ok (.putfield 711, 3) := by decide +kernel
theorem dX12_calls_43 : decode cX12_calls 43 = .ok (.aload_n 0, 1) := by decide +kernel
theorem dX12_calls_44 : decode cX12_calls 44 = .ok (.dup, 1) := by decide +kernel
theorem dX12_calls_45 : decode cX12_calls 45 = .ok (.getfield 604, 3) := by decide +kernel
theorem dX12_calls_48 : decode cX12_calls 48 = .ok (.iload_n 2, 1) := by decide +kernel
theorem dX12_calls_49 : decode cX12_calls 49 = .ok (.isub, 1) := by decide +kernel
theorem dX12_calls_50 : decode cX12_calls 50 = .ok (.putfield 604, 3) := by decide +kernel
theorem dX12_calls_53 : decode cX12_calls 53 = .ok (.iconst 0, 1) := by decide +kernel
theorem dX12_calls_54 : decode cX12_calls 54 = .ok (.istore_n 3, 1) := by decide +kernel
theorem dX12_calls_55 : decode cX12_calls 55 = .ok (.iload_n 3, 1) := by decide +kernel
theorem dX12_calls_56 : decode cX12_calls 56 = .ok (.bipush 24, 2) := by decide +kernel
theorem dX12_calls_58 : decode cX12_calls 58 = .ok (.if_icmp .ge 43, 3) := by decide +kernel
theorem dX12_calls_61 : decode cX12_calls 61 = .ok (.aload_n 0, 1) := by decide +kernel
theorem dX12_calls_62 : decode cX12_calls 62 = .ok (.getfield 236, 3) := by decide +kernel
theorem dX12_calls_65 : decode cX12_calls 65 = .ok (.bipush 24, 2) := by decide +kernel
theorem dX12_calls_67 : decode cX12_calls 67 = .ok (.aload_n 0, 1) := by decide +kernel
theorem dX12_calls_68 : decode cX12_calls 68 = .ok (.getfield 699, 3) := by decide +kernel
theorem dX12_calls_71 : decode cX12_calls 71 = .ok (.imul, 1) := by decide +kernel
theorem dX12_calls_72 : decode cX12_calls 72 = .ok (.iload_n 3, 1) := by decide +kernel
theorem dX12_calls_73 : decode cX12_calls 73 = .ok (.iadd, 1) := by decide +kernel
theorem dX12_calls_74 : decode cX12_calls 74 = .ok (.iload_n 3, 1) := by decide +kernel
theorem dX12_calls_75 : decode cX12_calls 75 = .ok (.iload_n 2, 1) := by decide +kernel
theorem dX12_calls_76 : decode cX12_calls 76 = .ok (.if_icmp .ge 17, 3) := by decide +kernel
theorem dX12_calls_79 : decode cX12_calls 79 = .ok (.aload_n 0, 1) := by decide +kernel
theorem dX12_calls_80 : decode cX12_calls 80 = .ok (.getfield 239, 3) := by decide +kernel
theorem dX12_calls_83 : decode cX12_calls 83 = .ok (.aload_n 0, 1) := by decide +kernel
theorem dX12_calls_84 : decode cX12_calls 84 = .ok (.getfield 604, 3) := by decide +kernel
theorem dX12_calls_87 : decode cX12_calls 87 = .ok (.iload_n 3, 1) := by decide +kernel
theorem dX12_calls_88 : decode cX12_calls 88 = .ok (.iadd, 1) := by decide +kernel
theorem dX12_calls_89 : decode cX12_calls 89 = .ok (.iaload, 1) := by decide +kernel
theorem dX12_calls_90 : decode cX12_calls 90 = .ok (.goto 4, 3) := by decide +kernel
theorem dX12_calls_93 : decode cX12_calls 93 = .ok (.iconst 0, 1) := by decide +kernel
theorem dX12_calls_94 : decode cX12_calls 94 = .ok (.iastore, 1) := by decide +kernel
theorem dX12_calls_95 : decode cX12_calls 95 = .ok (.iinc 3 1, 3) := by decide +kernel
theorem dX12_calls_98 : decode cX12_calls 98 = .ok (.goto (-43), 3) := by decide +kernel
theorem dX12_calls_101 : decode cX12_calls 101 = .ok (.aload_n 0, 1) := by decide +kernel
theorem dX12_calls_102 : decode cX12_calls 102 = .ok (.iconst 1, 1) := by decide +kernel
theorem dX12_calls_103 : decode cX12_calls 103 = .ok (.bipush 6, 2) := by decide +kernel
theorem dX12_calls_105 : decode cX12_calls 105 = .ok (.iload_n 1, 1) := by decide +kernel
theorem dX12_calls_106 : decode cX12_calls 106 = .ok (.invokevirtual 714, 3) := by decide +kernel
theorem dX12_calls_109 : decode cX12_calls 109 = .ok (.aload_n 0, 1) := by decide +kernel
theorem dX12_calls_110 : decode cX12_calls 110 = .ok (.getfield 215, 3) := by decide +kernel
theorem dX12_calls_113 : decode cX12_calls 113 = .ok (.aload_n 0, 1) := by decide +kernel
theorem dX12_calls_114 : decode cX12_calls 114 = .ok (.getfield 699, 3) := by decide +kernel
theorem dX12_calls_117 : decode cX12_calls 117 = .ok (.aload_n 0, 1) := by decide +kernel
theorem dX12_calls_118 : decode cX12_calls 118 = .ok (.getfield 648, 3) := by decide +kernel
theorem dX12_calls_121 : decode cX12_calls 121 = .ok (.iastore, 1) := by decide +kernel
theorem dX12_calls_122 : decode cX12_calls 122 = .ok (.aload_n 0, 1) := by decide +kernel
theorem dX12_calls_123 : decode cX12_calls 123 = .ok (.getfield 218, 3) := by decide +kernel
theorem dX12_calls_126 : decode cX12_calls 126 = .ok (.aload_n 0, 1) := by decide +kernel
theorem dX12_calls_127 : decode cX12_calls 127 = .ok (.getfield 699, 3) := by decide +kernel
theorem dX12_calls_130 : decode cX12_calls 130 = .ok (.aload_n 0, 1) := by decide +kernel
theorem dX12_calls_131 : decode cX12_calls 131 = .ok (.getfield 639, 3) := by decide +kernel
theorem dX12_calls_134 : decode cX12_calls 134 = .ok (.iastore, 1) := by decide +kernel
theorem dX12_calls_135 : decode cX12_calls 135 = .ok (.aload_n 0, 1) := by decide +kernel
theorem dX12_calls_136 : decode cX12_calls 136 = .ok (.getfield 221, 3) := by decide +kernel
theorem dX12_calls_139 : decode cX12_calls 139 = .ok (.aload_n 0, 1) := by decide +kernel
theorem dX12_calls_140 : decode cX12_calls 140 = .ok (.getfield 699, 3) := by decide +kernel
theorem dX12_calls_143 : decode cX12_calls 143 = .ok (.iconst 0, 1) := by decide +kernel
theorem dX12_calls_144 : decode cX12_calls 144 = .ok (.iastore, 1) := by decide +kernel
theorem dX12_calls_145 : decode cX12_calls 145 = .ok (.aload_n 0, 1) := by decide +kernel
theorem dX12_calls_146 : decode cX12_calls 146 = .ok (.getfield 224, 3) := by decide +kernel
theorem dX12_calls_149 : decode cX12_calls 149 = .ok (.aload_n 0, 1) := by decide +kernel
theorem dX12_calls_150 : decode cX12_calls 150 = .ok (.getfield 699, 3) := by decide +kernel
theorem dX12_calls_153 : decode cX12_calls 153 = .ok (.iconst 0, 1) := by decide +kernel
theorem dX12_calls_154 : decode cX12_calls 154 = .ok (.iastore, 1) := by decide +kernel
theorem dX12_calls_155 : decode cX12_calls 155 = .ok (.aload_n 0, 1) := by decide +kernel
theorem dX12_calls_156 : decode cX12_calls 156 = .ok (.getfield 227, 3) := by decide +kernel
theorem dX12_calls_159 : decode cX12_calls 159 = .ok (.aload_n 0, 1) := by decide +kernel
theorem dX12_calls_160 : decode cX12_calls 160 = .ok (.getfield 699, 3) := by decide +kernel
theorem dX12_calls_163 : decode cX12_calls 163 = .ok (.iconst 0, 1) := by decide +kernel
theorem dX12_calls_164 : decode cX12_calls 164 = .ok (.iastore, 1) := by decide +kernel
theorem dX12_calls_165 : decode cX12_calls 165 = .ok (.aload_n 0, 1) := by decide +kernel
theorem dX12_calls_166 : decode cX12_calls 166 = .ok (.aload_n 0, 1) := by decide +kernel
theorem dX12_calls_167 : decode cX12_calls 167 = .ok (.getfield 139, 3) := by decide +kernel
theorem dX12_calls_170 : decode cX12_calls 170 = .ok (.iload_n 1, 1) := by decide +kernel
theorem dX12_calls_171 : decode cX12_calls 171 = .ok (.iaload, 1) := by decide +kernel
theorem dX12_calls_172 : decode cX12_calls 172 = .ok (.putfield 648, 3) := by decide +kernel
theorem dX12_calls_175 : decode cX12_calls 175 = .ok (.return_, 1) := by decide +kernel
def wX12_calls_b94 (a0 : Nat) (x1 : Int32) (x2 : Int32) (xn3 : Int32) (xt0 : Int32) (xt1 : Int32) (at2 : Nat) (K55 : Int32 → kp_S → Prop) (Sn : kp_S) (post : kp_S → Prop) : Prop :=
  vp_in xt1 (kp_N Sn at2) ∧ ∀ T1001 : kp_S, T1001 = kp_sA Sn at2 (upd (kp_A Sn at2) (xt1.toNatClampNeg) xt0) →
  ∀ y1002 : Int32, y1002 = xn3 + 1 →
  K55 y1002 T1001
def wX12_calls_L55 (a0 : Nat) (x1 : Int32) (x2 : Int32)  (post : kp_S → Prop) : Nat → Int32 → kp_S → Prop
  | 0, _, _ => False
  | n + 1, xn3, Sn =>
  ((24 ≤ xn3 →
  wX12_opens a0 1 6 x1 Sn (fun T2001 =>
  ∃ b2002 : Nat, kp_R T2001 2502 a0 = some b2002 ∧
  vp_in (kp_I T2001 2501 a0) (kp_N T2001 b2002) ∧ ∀ T2003 : kp_S, T2003 = kp_sA T2001 b2002 (upd (kp_A T2001 b2002) ((kp_I T2001 2501 a0).toNatClampNeg) (kp_I T2001 2510 a0)) →
  ∃ b2004 : Nat, kp_R T2003 2503 a0 = some b2004 ∧
  vp_in (kp_I T2003 2501 a0) (kp_N T2003 b2004) ∧ ∀ T2005 : kp_S, T2005 = kp_sA T2003 b2004 (upd (kp_A T2003 b2004) ((kp_I T2003 2501 a0).toNatClampNeg) (kp_I T2003 2511 a0)) →
  ∃ b2006 : Nat, kp_R T2005 2504 a0 = some b2006 ∧
  vp_in (kp_I T2005 2501 a0) (kp_N T2005 b2006) ∧ ∀ T2007 : kp_S, T2007 = kp_sA T2005 b2006 (upd (kp_A T2005 b2006) ((kp_I T2005 2501 a0).toNatClampNeg) 0) →
  ∃ b2008 : Nat, kp_R T2007 2505 a0 = some b2008 ∧
  vp_in (kp_I T2007 2501 a0) (kp_N T2007 b2008) ∧ ∀ T2009 : kp_S, T2009 = kp_sA T2007 b2008 (upd (kp_A T2007 b2008) ((kp_I T2007 2501 a0).toNatClampNeg) 0) →
  ∃ b2010 : Nat, kp_R T2009 2506 a0 = some b2010 ∧
  vp_in (kp_I T2009 2501 a0) (kp_N T2009 b2010) ∧ ∀ T2011 : kp_S, T2011 = kp_sA T2009 b2010 (upd (kp_A T2009 b2010) ((kp_I T2009 2501 a0).toNatClampNeg) 0) →
  ∃ b2012 : Nat, kp_R T2011 2457 a0 = some b2012 ∧
  vp_in x1 (kp_N T2011 b2012) ∧
  ∀ T2013 : kp_S, T2013 = kp_sI T2011 2510 a0 (kp_A T2011 b2012 x1.toNatClampNeg) →
  post T2013)) ∧ (¬ 24 ≤ xn3 →
  ∃ b2014 : Nat, kp_R Sn 2509 a0 = some b2014 ∧
  ((x2 ≤ xn3 →
  wX12_calls_b94 a0 x1 x2 xn3 0 ((24 * (kp_I Sn 2501 a0)) + xn3) b2014 (fun xn3_ S_ => wX12_calls_L55 a0 x1 x2  post n xn3_ S_) Sn post) ∧ (¬ x2 ≤ xn3 →
  ∃ b2015 : Nat, kp_R Sn 2515 a0 = some b2015 ∧
  vp_in ((kp_I Sn 2516 a0) + xn3) (kp_N Sn b2015) ∧
  wX12_calls_b94 a0 x1 x2 xn3 (kp_A Sn b2015 ((kp_I Sn 2516 a0) + xn3).toNatClampNeg) ((24 * (kp_I Sn 2501 a0)) + xn3) b2014 (fun xn3_ S_ => wX12_calls_L55 a0 x1 x2  post n xn3_ S_) Sn post))))
def wX12_calls (a0 : Nat) (x1 : Int32) (x2 : Int32) (S : kp_S) (post : kp_S → Prop) : Prop :=
  wX12_burns a0 S (fun y2 T1 =>
  ((¬ y2 = 0 →
  ((¬ (kp_I T1 2501 a0) = 12 →
  ∀ T3 : kp_S, T3 = kp_sI T1 2501 a0 ((kp_I T1 2501 a0) + 1) →
  ∀ T4 : kp_S, T4 = kp_sI T3 2480 a0 ((kp_I T3 2480 a0) + 1) →
  ∀ T5 : kp_S, T5 = kp_sI T4 2516 a0 ((kp_I T4 2516 a0) - x2) →
  ∃ n0 : Nat, wX12_calls_L55 a0 x1 x2  post n0 0 T5) ∧ ((kp_I T1 2501 a0) = 12 →
  wX12_trouble a0 2 T1 (fun T6 =>
  post T6)))) ∧ (y2 = 0 →
  post T1)))
set_option maxHeartbeats 4000000 in
set_option maxRecDepth 100000 in
theorem c_X12_calls (l : Launch) (D : va_G) (cy : Nat → ClassId) (ad : (Nat → Nat) × (Nat → Nat)) (S : kp_S) (a0 : Nat) (x1 : Int32) (x2 : Int32) (post : kp_S → Prop) (hS : kp_ok S) (f_a0 : kp_is S a0 12) (hw : wX12_calls a0 x1 x2 S post) : kp_M l yX12_calls cX12_calls 4 none { frames := 6, cells := 0, slots := 0, locals := 130 } D cy ad S [.ref a0, .int x1, .int x2] 0 0 (fun A => kp_Qv D cy A S post) := by
  refine kp_start (own := RX12) (by decide) rfl (Nat.le_of_ble_eq_true rfl) hS ?_
  intro p e s m below meth c A ls X hr hlocks hname h hl
  have hle : kp_le S S := kp_le.rf
  have hl : lv_has ls 4 [(0, .ref a0), (1, .int x1), (2, .int x2)] := hl
  have L55 : ∀ n55 : Nat, ∀ (xn3 : Int32) (Sn : kp_S) (H : Heap) (locs : List Loc) (ls : Array Slot), lv_has ls 4 [(0, .ref a0), (1, .int x1), (2, .int x2), (3, .int xn3)] → kp_H D cy A Sn s.heap H locs → kp_le S Sn → kp_is Sn a0 12 → wX12_calls_L55 a0 x1 x2  post n55 xn3 Sn → W p l e { frames := 6, cells := 0, slots := 0, locals := 130 } s m ([.ref a0, .int x1, .int x2] : List Value).toArray below meth c H locs 0 0 (MQ below (kp_Qv D cy A S post) ([.ref a0, .int x1, .int x2] : List Value).toArray s 0 0 A) (F0 m 55 ls []) := by
    intro n55
    induction n55 with
    | zero => intro xn3 Sn H locs ls hl h hle f_a0 hw; exact hw.elim
    | succ n55 ih55 =>
      have j94 : ∀ (xn3 : Int32) (xt0 : Int32) (xt1 : Int32) (at2 : Nat) (Sn : kp_S) (H : Heap) (locs : List Loc) (ls : Array Slot), lv_has ls 4 [(0, .ref a0), (1, .int x1), (2, .int x2), (3, .int xn3)] → kp_H D cy A Sn s.heap H locs → kp_le S Sn → kp_is Sn a0 12 → kp_is Sn at2 14 → wX12_calls_b94 a0 x1 x2 xn3 xt0 xt1 at2 (fun xn3_ S_ => wX12_calls_L55 a0 x1 x2  post n55 xn3_ S_) Sn post → W p l e { frames := 6, cells := 0, slots := 0, locals := 130 } s m ([.ref a0, .int x1, .int x2] : List Value).toArray below meth c H locs 0 0 (MQ below (kp_Qv D cy A S post) ([.ref a0, .int x1, .int x2] : List Value).toArray s 0 0 A) (F0 m 94 ls [.int xt0, .int xt1, .ref at2]) := by
        intro xn3 xt0 xt1 at2 Sn H locs ls hl h hle f_a0 f_at2 hw
        unfold wX12_calls_b94 at hw
        obtain ⟨hi, hw⟩ := hw
        refine kp_iast X h f_at2 hi dX12_calls_94 (fun T1001 e_T1001 l_T1001 H locs h => ?_)
        have hw := hw T1001 e_T1001
        have f_a0 := l_T1001.is f_a0
        have f_at2 := l_T1001.is f_at2
        have hle := hle.tr l_T1001
        obtain ⟨y1002, e_y1002⟩ : ∃ y : Int32, y = xn3 + 1 := ⟨_, rfl⟩
        have hw := hw y1002 e_y1002
        refine lv_iinc (v := y1002) (lv' := [(3, .int y1002), (0, .ref a0), (1, .int x1), (2, .int x2)]) X.1 X.2.1 dX12_calls_95 hl (k := 3) rfl (by rw [e_y1002]; rfl) (by decide) rfl (fun ls hl => ?_)
        refine lv_goto (tgt := 55) X.1 X.2.1 dX12_calls_98 (by decide) ?_
        exact ih55 y1002 T1001 H locs ls (lv_sub hl [1, 2, 3, 0] rfl) h hle f_a0 hw
      intro xn3 Sn H locs ls hl h hle f_a0 hw
      unfold wX12_calls_L55 at hw
      refine lv_iload_n X.1 X.2.1 dX12_calls_55 rfl (lv_at hl 3 rfl) ?_
      refine lv_bipush (v := 24) X.1 X.2.1 dX12_calls_56 (by decide) ?_
      refine lv_icmp_ge (tgt := 101) X.1 X.2.1 dX12_calls_58 (by decide) (fun c2017 => ?_) (fun c2017 => ?_)
      · have hw := hw.1 c2017
        refine lv_aload_n X.1 X.2.1 dX12_calls_101 rfl (lv_at hl 0 rfl) ?_
        refine lv_iconst (v := 1) X.1 X.2.1 dX12_calls_102 (by decide) ?_
        refine lv_bipush (v := 6) X.1 X.2.1 dX12_calls_103 (by decide) ?_
        refine lv_iload_n X.1 X.2.1 dX12_calls_105 rfl (lv_at hl 1 rfl) ?_
        refine kp_callv X h (kp_runV (rm := { frames := 0, cells := 0, slots := 0, locals := 0 }) (mc := 0) (ms := 0) (rest := []) (Qc := fun A => kp_Qv D cy A Sn _) X h (c_X12_opens l D cy ad Sn a0 1 6 x1 _ h.2.2.2 f_a0 hw) f_a0 cv_12_714 ⟨by decide, by decide, rfl, rfl, by decide, by decide⟩ rfl hl.1 rfl (Nat.le_of_ble_eq_true rfl) dX12_calls_106) (fun T2001 hw l_T2001 H locs h => ?_)
        have f_a0 := l_T2001.is f_a0
        have hle := hle.tr l_T2001
        refine lv_aload_n X.1 X.2.1 dX12_calls_109 rfl (lv_at hl 0 rfl) ?_
        obtain ⟨b2002, e_b2002, hw⟩ := hw
        have f_b2002 := h.2.2.2.rf (c := 12) (k := 102) f_a0 (by decide) (by decide) e_b2002 (t := 14) rfl
        refine kp_get X h f_a0 ff_12_215.l (v := .ref b2002) (congrArg va_rf e_b2002) dX12_calls_110 ?_
        refine lv_aload_n X.1 X.2.1 dX12_calls_113 rfl (lv_at hl 0 rfl) ?_
        refine kp_get X h f_a0 fp_12_699.l (v := .int (kp_I T2001 2501 a0)) rfl dX12_calls_114 ?_
        refine lv_aload_n X.1 X.2.1 dX12_calls_117 rfl (lv_at hl 0 rfl) ?_
        refine kp_get X h f_a0 fp_12_648.l (v := .int (kp_I T2001 2510 a0)) rfl dX12_calls_118 ?_
        obtain ⟨hi, hw⟩ := hw
        refine kp_iast X h f_b2002 hi dX12_calls_121 (fun T2003 e_T2003 l_T2003 H locs h => ?_)
        have hw := hw T2003 e_T2003
        have f_a0 := l_T2003.is f_a0
        have f_b2002 := l_T2003.is f_b2002
        have hle := hle.tr l_T2003
        have e_b2002 : kp_R T2003 2502 a0 = some b2002 := by rw [e_T2003]; exact e_b2002
        refine lv_aload_n X.1 X.2.1 dX12_calls_122 rfl (lv_at hl 0 rfl) ?_
        obtain ⟨b2004, e_b2004, hw⟩ := hw
        have f_b2004 := h.2.2.2.rf (c := 12) (k := 103) f_a0 (by decide) (by decide) e_b2004 (t := 14) rfl
        refine kp_get X h f_a0 ff_12_218.l (v := .ref b2004) (congrArg va_rf e_b2004) dX12_calls_123 ?_
        refine lv_aload_n X.1 X.2.1 dX12_calls_126 rfl (lv_at hl 0 rfl) ?_
        refine kp_get X h f_a0 fp_12_699.l (v := .int (kp_I T2003 2501 a0)) rfl dX12_calls_127 ?_
        refine lv_aload_n X.1 X.2.1 dX12_calls_130 rfl (lv_at hl 0 rfl) ?_
        refine kp_get X h f_a0 fp_12_639.l (v := .int (kp_I T2003 2511 a0)) rfl dX12_calls_131 ?_
        obtain ⟨hi, hw⟩ := hw
        refine kp_iast X h f_b2004 hi dX12_calls_134 (fun T2005 e_T2005 l_T2005 H locs h => ?_)
        have hw := hw T2005 e_T2005
        have f_a0 := l_T2005.is f_a0
        have f_b2002 := l_T2005.is f_b2002
        have f_b2004 := l_T2005.is f_b2004
        have hle := hle.tr l_T2005
        have e_b2002 : kp_R T2005 2502 a0 = some b2002 := by rw [e_T2005]; exact e_b2002
        have e_b2004 : kp_R T2005 2503 a0 = some b2004 := by rw [e_T2005]; exact e_b2004
        refine lv_aload_n X.1 X.2.1 dX12_calls_135 rfl (lv_at hl 0 rfl) ?_
        obtain ⟨b2006, e_b2006, hw⟩ := hw
        have f_b2006 := h.2.2.2.rf (c := 12) (k := 104) f_a0 (by decide) (by decide) e_b2006 (t := 14) rfl
        refine kp_get X h f_a0 ff_12_221.l (v := .ref b2006) (congrArg va_rf e_b2006) dX12_calls_136 ?_
        refine lv_aload_n X.1 X.2.1 dX12_calls_139 rfl (lv_at hl 0 rfl) ?_
        refine kp_get X h f_a0 fp_12_699.l (v := .int (kp_I T2005 2501 a0)) rfl dX12_calls_140 ?_
        refine lv_iconst (v := 0) X.1 X.2.1 dX12_calls_143 (by decide) ?_
        obtain ⟨hi, hw⟩ := hw
        refine kp_iast X h f_b2006 hi dX12_calls_144 (fun T2007 e_T2007 l_T2007 H locs h => ?_)
        have hw := hw T2007 e_T2007
        have f_a0 := l_T2007.is f_a0
        have f_b2002 := l_T2007.is f_b2002
        have f_b2004 := l_T2007.is f_b2004
        have f_b2006 := l_T2007.is f_b2006
        have hle := hle.tr l_T2007
        have e_b2002 : kp_R T2007 2502 a0 = some b2002 := by rw [e_T2007]; exact e_b2002
        have e_b2004 : kp_R T2007 2503 a0 = some b2004 := by rw [e_T2007]; exact e_b2004
        have e_b2006 : kp_R T2007 2504 a0 = some b2006 := by rw [e_T2007]; exact e_b2006
        refine lv_aload_n X.1 X.2.1 dX12_calls_145 rfl (lv_at hl 0 rfl) ?_
        obtain ⟨b2008, e_b2008, hw⟩ := hw
        have f_b2008 := h.2.2.2.rf (c := 12) (k := 105) f_a0 (by decide) (by decide) e_b2008 (t := 14) rfl
        refine kp_get X h f_a0 ff_12_224.l (v := .ref b2008) (congrArg va_rf e_b2008) dX12_calls_146 ?_
        refine lv_aload_n X.1 X.2.1 dX12_calls_149 rfl (lv_at hl 0 rfl) ?_
        refine kp_get X h f_a0 fp_12_699.l (v := .int (kp_I T2007 2501 a0)) rfl dX12_calls_150 ?_
        refine lv_iconst (v := 0) X.1 X.2.1 dX12_calls_153 (by decide) ?_
        obtain ⟨hi, hw⟩ := hw
        refine kp_iast X h f_b2008 hi dX12_calls_154 (fun T2009 e_T2009 l_T2009 H locs h => ?_)
        have hw := hw T2009 e_T2009
        have f_a0 := l_T2009.is f_a0
        have f_b2002 := l_T2009.is f_b2002
        have f_b2004 := l_T2009.is f_b2004
        have f_b2006 := l_T2009.is f_b2006
        have f_b2008 := l_T2009.is f_b2008
        have hle := hle.tr l_T2009
        have e_b2002 : kp_R T2009 2502 a0 = some b2002 := by rw [e_T2009]; exact e_b2002
        have e_b2004 : kp_R T2009 2503 a0 = some b2004 := by rw [e_T2009]; exact e_b2004
        have e_b2006 : kp_R T2009 2504 a0 = some b2006 := by rw [e_T2009]; exact e_b2006
        have e_b2008 : kp_R T2009 2505 a0 = some b2008 := by rw [e_T2009]; exact e_b2008
        refine lv_aload_n X.1 X.2.1 dX12_calls_155 rfl (lv_at hl 0 rfl) ?_
        obtain ⟨b2010, e_b2010, hw⟩ := hw
        have f_b2010 := h.2.2.2.rf (c := 12) (k := 106) f_a0 (by decide) (by decide) e_b2010 (t := 14) rfl
        refine kp_get X h f_a0 ff_12_227.l (v := .ref b2010) (congrArg va_rf e_b2010) dX12_calls_156 ?_
        refine lv_aload_n X.1 X.2.1 dX12_calls_159 rfl (lv_at hl 0 rfl) ?_
        refine kp_get X h f_a0 fp_12_699.l (v := .int (kp_I T2009 2501 a0)) rfl dX12_calls_160 ?_
        refine lv_iconst (v := 0) X.1 X.2.1 dX12_calls_163 (by decide) ?_
        obtain ⟨hi, hw⟩ := hw
        refine kp_iast X h f_b2010 hi dX12_calls_164 (fun T2011 e_T2011 l_T2011 H locs h => ?_)
        have hw := hw T2011 e_T2011
        have f_a0 := l_T2011.is f_a0
        have f_b2002 := l_T2011.is f_b2002
        have f_b2004 := l_T2011.is f_b2004
        have f_b2006 := l_T2011.is f_b2006
        have f_b2008 := l_T2011.is f_b2008
        have f_b2010 := l_T2011.is f_b2010
        have hle := hle.tr l_T2011
        have e_b2002 : kp_R T2011 2502 a0 = some b2002 := by rw [e_T2011]; exact e_b2002
        have e_b2004 : kp_R T2011 2503 a0 = some b2004 := by rw [e_T2011]; exact e_b2004
        have e_b2006 : kp_R T2011 2504 a0 = some b2006 := by rw [e_T2011]; exact e_b2006
        have e_b2008 : kp_R T2011 2505 a0 = some b2008 := by rw [e_T2011]; exact e_b2008
        have e_b2010 : kp_R T2011 2506 a0 = some b2010 := by rw [e_T2011]; exact e_b2010
        refine lv_aload_n X.1 X.2.1 dX12_calls_165 rfl (lv_at hl 0 rfl) ?_
        refine lv_aload_n X.1 X.2.1 dX12_calls_166 rfl (lv_at hl 0 rfl) ?_
        obtain ⟨b2012, e_b2012, hw⟩ := hw
        have f_b2012 := h.2.2.2.rf (c := 12) (k := 57) f_a0 (by decide) (by decide) e_b2012 (t := 14) rfl
        refine kp_get X h f_a0 ff_12_139.l (v := .ref b2012) (congrArg va_rf e_b2012) dX12_calls_167 ?_
        refine lv_iload_n X.1 X.2.1 dX12_calls_170 rfl (lv_at hl 1 rfl) ?_
        obtain ⟨hi, hw⟩ := hw
        refine kp_iald X h f_b2012 hi dX12_calls_171 ?_
        refine kp_putI X h f_a0 fp_12_648 rfl ⟨rfl, rfl⟩ dX12_calls_172 (fun T2013 e_T2013 l_T2013 H locs h => ?_)
        have hw := hw T2013 e_T2013
        have f_a0 := l_T2013.is f_a0
        have f_b2002 := l_T2013.is f_b2002
        have f_b2004 := l_T2013.is f_b2004
        have f_b2006 := l_T2013.is f_b2006
        have f_b2008 := l_T2013.is f_b2008
        have f_b2010 := l_T2013.is f_b2010
        have f_b2012 := l_T2013.is f_b2012
        have hle := hle.tr l_T2013
        have e_b2002 : kp_R T2013 2502 a0 = some b2002 := by rw [e_T2013]; exact e_b2002
        have e_b2004 : kp_R T2013 2503 a0 = some b2004 := by rw [e_T2013]; exact e_b2004
        have e_b2006 : kp_R T2013 2504 a0 = some b2006 := by rw [e_T2013]; exact e_b2006
        have e_b2008 : kp_R T2013 2505 a0 = some b2008 := by rw [e_T2013]; exact e_b2008
        have e_b2010 : kp_R T2013 2506 a0 = some b2010 := by rw [e_T2013]; exact e_b2010
        have e_b2012 : kp_R T2013 2457 a0 = some b2012 := by rw [e_T2013]; exact e_b2012
        exact kp_retv X hr hlocks h hle hw dX12_calls_175
      · have hw := hw.2 c2017
        refine lv_aload_n X.1 X.2.1 dX12_calls_61 rfl (lv_at hl 0 rfl) ?_
        obtain ⟨b2014, e_b2014, hw⟩ := hw
        have f_b2014 := h.2.2.2.rf (c := 12) (k := 109) f_a0 (by decide) (by decide) e_b2014 (t := 14) rfl
        refine kp_get X h f_a0 ff_12_236.l (v := .ref b2014) (congrArg va_rf e_b2014) dX12_calls_62 ?_
        refine lv_bipush (v := 24) X.1 X.2.1 dX12_calls_65 (by decide) ?_
        refine lv_aload_n X.1 X.2.1 dX12_calls_67 rfl (lv_at hl 0 rfl) ?_
        refine kp_get X h f_a0 fp_12_699.l (v := .int (kp_I Sn 2501 a0)) rfl dX12_calls_68 ?_
        refine lv_imul X.1 X.2.1 dX12_calls_71 ?_
        refine lv_iload_n X.1 X.2.1 dX12_calls_72 rfl (lv_at hl 3 rfl) ?_
        refine lv_iadd X.1 X.2.1 dX12_calls_73 ?_
        refine lv_iload_n X.1 X.2.1 dX12_calls_74 rfl (lv_at hl 3 rfl) ?_
        refine lv_iload_n X.1 X.2.1 dX12_calls_75 rfl (lv_at hl 2 rfl) ?_
        refine lv_icmp_ge (tgt := 93) X.1 X.2.1 dX12_calls_76 (by decide) (fun c2016 => ?_) (fun c2016 => ?_)
        · have hw := hw.1 c2016
          refine lv_iconst (v := 0) X.1 X.2.1 dX12_calls_93 (by decide) ?_
          exact j94 xn3 0 ((24 * (kp_I Sn 2501 a0)) + xn3) b2014 Sn H locs ls (lv_sub hl [0, 1, 2, 3] rfl) h hle f_a0 f_b2014 hw
        · have hw := hw.2 c2016
          refine lv_aload_n X.1 X.2.1 dX12_calls_79 rfl (lv_at hl 0 rfl) ?_
          obtain ⟨b2015, e_b2015, hw⟩ := hw
          have f_b2015 := h.2.2.2.rf (c := 12) (k := 115) f_a0 (by decide) (by decide) e_b2015 (t := 14) rfl
          refine kp_get X h f_a0 ff_12_239.l (v := .ref b2015) (congrArg va_rf e_b2015) dX12_calls_80 ?_
          refine lv_aload_n X.1 X.2.1 dX12_calls_83 rfl (lv_at hl 0 rfl) ?_
          refine kp_get X h f_a0 fp_12_604.l (v := .int (kp_I Sn 2516 a0)) rfl dX12_calls_84 ?_
          refine lv_iload_n X.1 X.2.1 dX12_calls_87 rfl (lv_at hl 3 rfl) ?_
          refine lv_iadd X.1 X.2.1 dX12_calls_88 ?_
          obtain ⟨hi, hw⟩ := hw
          refine kp_iald X h f_b2015 hi dX12_calls_89 ?_
          refine lv_goto (tgt := 94) X.1 X.2.1 dX12_calls_90 (by decide) ?_
          exact j94 xn3 (kp_A Sn b2015 ((kp_I Sn 2516 a0) + xn3).toNatClampNeg) ((24 * (kp_I Sn 2501 a0)) + xn3) b2014 Sn H locs ls (lv_sub hl [0, 1, 2, 3] rfl) h hle f_a0 f_b2014 hw
  unfold wX12_calls at hw
  have h : kp_H D cy A S s.heap s.heap [] := h
  revert h
  intro h
  refine lv_aload_n X.1 X.2.1 dX12_calls_0 rfl (lv_at hl 0 rfl) ?_
  refine kp_calli X h (kp_runV (rm := { frames := 0, cells := 0, slots := 0, locals := 0 }) (mc := 0) (ms := 0) (rest := []) (Qc := fun A => kp_Qi D cy A S _) X h (c_X12_burns l D cy ad S a0 _ h.2.2.2 f_a0 hw) f_a0 cv_12_693 ⟨by decide, by decide, rfl, rfl, by decide, by decide⟩ rfl hl.1 rfl (Nat.le_of_ble_eq_true rfl) dX12_calls_1) (fun y2 T1 hw l_T1 H locs h => ?_)
  have f_a0 := l_T1.is f_a0
  have hle := hle.tr l_T1
  refine lv_if_ne (tgt := 8) X.1 X.2.1 dX12_calls_4 (by decide) (fun c8 => ?_) (fun c8 => ?_)
  · have hw := hw.1 c8
    refine lv_aload_n X.1 X.2.1 dX12_calls_8 rfl (lv_at hl 0 rfl) ?_
    refine kp_get X h f_a0 fp_12_699.l (v := .int (kp_I T1 2501 a0)) rfl dX12_calls_9 ?_
    refine lv_bipush (v := 12) X.1 X.2.1 dX12_calls_12 (by decide) ?_
    refine lv_icmp_ne (tgt := 23) X.1 X.2.1 dX12_calls_14 (by decide) (fun c7 => ?_) (fun c7 => ?_)
    · have hw := hw.1 c7
      refine lv_aload_n X.1 X.2.1 dX12_calls_23 rfl (lv_at hl 0 rfl) ?_
      refine lv_dup X.1 X.2.1 dX12_calls_24 rfl ?_
      refine kp_get X h f_a0 fp_12_699.l (v := .int (kp_I T1 2501 a0)) rfl dX12_calls_25 ?_
      refine lv_iconst (v := 1) X.1 X.2.1 dX12_calls_28 (by decide) ?_
      refine lv_iadd X.1 X.2.1 dX12_calls_29 ?_
      refine kp_putI X h f_a0 fp_12_699 rfl ⟨rfl, rfl⟩ dX12_calls_30 (fun T3 e_T3 l_T3 H locs h => ?_)
      have hw := hw T3 e_T3
      have f_a0 := l_T3.is f_a0
      have hle := hle.tr l_T3
      refine lv_aload_n X.1 X.2.1 dX12_calls_33 rfl (lv_at hl 0 rfl) ?_
      refine lv_dup X.1 X.2.1 dX12_calls_34 rfl ?_
      refine kp_get X h f_a0 fp_12_711.l (v := .int (kp_I T3 2480 a0)) rfl dX12_calls_35 ?_
      refine lv_iconst (v := 1) X.1 X.2.1 dX12_calls_38 (by decide) ?_
      refine lv_iadd X.1 X.2.1 dX12_calls_39 ?_
      refine kp_putI X h f_a0 fp_12_711 rfl ⟨rfl, rfl⟩ dX12_calls_40 (fun T4 e_T4 l_T4 H locs h => ?_)
      have hw := hw T4 e_T4
      have f_a0 := l_T4.is f_a0
      have hle := hle.tr l_T4
      refine lv_aload_n X.1 X.2.1 dX12_calls_43 rfl (lv_at hl 0 rfl) ?_
      refine lv_dup X.1 X.2.1 dX12_calls_44 rfl ?_
      refine kp_get X h f_a0 fp_12_604.l (v := .int (kp_I T4 2516 a0)) rfl dX12_calls_45 ?_
      refine lv_iload_n X.1 X.2.1 dX12_calls_48 rfl (lv_at hl 2 rfl) ?_
      refine lv_isub X.1 X.2.1 dX12_calls_49 ?_
      refine kp_putI X h f_a0 fp_12_604 rfl ⟨rfl, rfl⟩ dX12_calls_50 (fun T5 e_T5 l_T5 H locs h => ?_)
      have hw := hw T5 e_T5
      have f_a0 := l_T5.is f_a0
      have hle := hle.tr l_T5
      refine lv_iconst (v := 0) X.1 X.2.1 dX12_calls_53 (by decide) ?_
      refine lv_istore_n (lv' := [(3, .int 0), (0, .ref a0), (1, .int x1), (2, .int x2)]) X.1 X.2.1 dX12_calls_54 rfl hl (by decide) rfl (fun ls hl => ?_)
      obtain ⟨n0, hw⟩ := hw
      exact L55 n0 0 T5 _ _ ls (lv_sub hl [1, 2, 3, 0] rfl) h hle f_a0 hw
    · have hw := hw.2 c7
      refine lv_aload_n X.1 X.2.1 dX12_calls_17 rfl (lv_at hl 0 rfl) ?_
      refine lv_iconst (v := 2) X.1 X.2.1 dX12_calls_18 (by decide) ?_
      refine kp_callv X h (kp_runV (rm := { frames := 5, cells := 0, slots := 0, locals := 108 }) (mc := 0) (ms := 0) (rest := []) (Qc := fun A => kp_Qv D cy A T1 _) X h (c_X12_trouble l D cy ad T1 a0 2 _ h.2.2.2 f_a0 hw) f_a0 cv_12_696 ⟨by decide, by decide, rfl, rfl, by decide, by decide⟩ rfl hl.1 rfl (Nat.le_of_ble_eq_true rfl) dX12_calls_19) (fun T6 hw l_T6 H locs h => ?_)
      have f_a0 := l_T6.is f_a0
      have hle := hle.tr l_T6
      exact kp_retv X hr hlocks h hle hw dX12_calls_22
  · have hw := hw.2 c8
    exact kp_retv X hr hlocks h hle hw dX12_calls_7
theorem dX12_reckon_0 : decode cX12_reckon 0 = .ok (.aload_n 0, 1) := by decide +kernel
theorem dX12_reckon_1 : decode cX12_reckon 1 = .ok (.invokevirtual 718, 3) := by decide +kernel
theorem dX12_reckon_4 : decode cX12_reckon 4 = .ok (.istore_n 2, 1) := by decide +kernel
theorem dX12_reckon_5 : decode cX12_reckon 5 = .ok (.aload_n 0, 1) := by decide +kernel
theorem dX12_reckon_6 : decode cX12_reckon 6 = .ok (.invokevirtual 718, 3) := by decide +kernel
theorem dX12_reckon_9 : decode cX12_reckon 9 = .ok (.istore_n 3, 1) := by decide +kernel
theorem dX12_reckon_10 : decode cX12_reckon 10 = .ok (.iload_n 1, 1) := by decide +kernel
theorem dX12_reckon_11 : decode cX12_reckon 11 = .ok (.tableswitch 147 7 15 #[49, 59, 69, 147, 147, 79, 96, 113, 130], 49) := by decide +kernel
theorem dX12_reckon_60 : decode cX12_reckon 60 = .ok (.aload_n 0, 1) := by decide +kernel
theorem dX12_reckon_61 : decode cX12_reckon 61 = .ok (.iload_n 3, 1) := by decide +kernel
theorem dX12_reckon_62 : decode cX12_reckon 62 = .ok (.iload_n 2, 1) := by decide +kernel
theorem dX12_reckon_63 : decode cX12_reckon 63 = .ok (.iadd, 1) := by decide +kernel
theorem dX12_reckon_64 : decode cX12_reckon 64 = .ok (.invokevirtual 708, 3) := by decide +kernel
theorem dX12_reckon_67 : decode cX12_reckon 67 = .ok (.goto 146, 3) := by decide +kernel
theorem dX12_reckon_70 : decode cX12_reckon 70 = .ok (.aload_n 0, 1) := by decide +kernel
theorem dX12_reckon_71 : decode cX12_reckon 71 = .ok (.iload_n 3, 1) := by decide +kernel
theorem dX12_reckon_72 : decode cX12_reckon 72 = .ok (.iload_n 2, 1) := by decide +kernel
theorem dX12_reckon_73 : decode cX12_reckon 73 = .ok (.isub, 1) := by decide +kernel
theorem dX12_reckon_74 : decode cX12_reckon 74 = .ok (.invokevirtual 708, 3) := by decide +kernel
theorem dX12_reckon_77 : decode cX12_reckon 77 = .ok (.goto 136, 3) := by decide +kernel
theorem dX12_reckon_80 : decode cX12_reckon 80 = .ok (.aload_n 0, 1) := by decide +kernel
theorem dX12_reckon_81 : decode cX12_reckon 81 = .ok (.iload_n 3, 1) := by decide +kernel
theorem dX12_reckon_82 : decode cX12_reckon 82 = .ok (.iload_n 2, 1) := by decide +kernel
theorem dX12_reckon_83 : decode cX12_reckon 83 = .ok (.imul, 1) := by decide +kernel
theorem dX12_reckon_84 : decode cX12_reckon 84 = .ok (.invokevirtual 708, 3) := by decide +kernel
theorem dX12_reckon_87 : decode cX12_reckon 87 = .ok (.goto 126, 3) := by decide +kernel
theorem dX12_reckon_90 : decode cX12_reckon 90 = .ok (.aload_n 0, 1) := by decide +kernel
theorem dX12_reckon_91 : decode cX12_reckon 91 = .ok (.iload_n 3, 1) := by decide +kernel
theorem dX12_reckon_92 : decode cX12_reckon 92 = .ok (.iload_n 2, 1) := by decide +kernel
theorem dX12_reckon_93 : decode cX12_reckon 93 = .ok (.if_icmp .ne 7, 3) := by decide +kernel
theorem dX12_reckon_96 : decode cX12_reckon 96 = .ok (.iconst 1, 1) := by decide +kernel
theorem dX12_reckon_97 : decode cX12_reckon 97 = .ok (.goto 4, 3) := by decide +kernel
theorem dX12_reckon_100 : decode cX12_reckon 100 = .ok (.iconst 0, 1) := by decide +kernel
theorem dX12_reckon_101 : decode cX12_reckon 101 = .ok (.invokevirtual 708, 3) := by decide +kernel
theorem dX12_reckon_104 : decode cX12_reckon 104 = .ok (.goto 109, 3) := by decide +kernel
theorem dX12_reckon_107 : decode cX12_reckon 107 = .ok (.aload_n 0, 1) := by decide +kernel
theorem dX12_reckon_108 : decode cX12_reckon 108 = .ok (.iload_n 3, 1) := by decide +kernel
theorem dX12_reckon_109 : decode cX12_reckon 109 = .ok (.iload_n 2, 1) := by decide +kernel
theorem dX12_reckon_110 : decode cX12_reckon 110 = .ok (.if_icmp .eq 7, 3) := by decide +kernel
theorem dX12_reckon_113 : decode cX12_reckon 113 = .ok (.iconst 1, 1) := by decide +kernel
theorem dX12_reckon_114 : decode cX12_reckon 114 = .ok (.goto 4, 3) := by decide +kernel
theorem dX12_reckon_117 : decode cX12_reckon 117 = .ok (.iconst 0, 1) := by decide +kernel
theorem dX12_reckon_118 : decode cX12_reckon 118 = .ok (.invokevirtual 708, 3) := by decide +kernel
theorem dX12_reckon_121 : decode cX12_reckon 121 = .ok (.goto 92, 3) := by decide +kernel
theorem dX12_reckon_124 : decode cX12_reckon 124 = .ok (.aload_n 0, 1) := by decide +kernel
theorem dX12_reckon_125 : decode cX12_reckon 125 = .ok (.iload_n 3, 1) := by decide +kernel
theorem dX12_reckon_126 : decode cX12_reckon 126 = .ok (.iload_n 2, 1) := by decide +kernel
theorem dX12_reckon_127 : decode cX12_reckon 127 = .ok (.if_icmp .ge 7, 3) := by decide +kernel
theorem dX12_reckon_130 : decode cX12_reckon 130 = .ok (.iconst 1, 1) := by decide +kernel
theorem dX12_reckon_131 : decode cX12_reckon 131 = .ok (.goto 4, 3) := by decide +kernel
theorem dX12_reckon_134 : decode cX12_reckon 134 = .ok (.iconst 0, 1) := by decide +kernel
theorem dX12_reckon_135 : decode cX12_reckon 135 = .ok (.invokevirtual 708, 3) := by decide +kernel
theorem dX12_reckon_138 : decode cX12_reckon 138 = .ok (.goto 75, 3) := by decide +kernel
theorem dX12_reckon_141 : decode cX12_reckon 141 = .ok (.aload_n 0, 1) := by decide +kernel
theorem dX12_reckon_142 : decode cX12_reckon 142 = .ok (.iload_n 3, 1) := by decide +kernel
theorem dX12_reckon_143 : decode cX12_reckon 143 = .ok (.iload_n 2, 1) := by decide +kernel
theorem dX12_reckon_144 : decode cX12_reckon 144 = .ok (.if_icmp .gt 7, 3) := by decide +kernel
theorem dX12_reckon_147 : decode cX12_reckon 147 = .ok (.iconst 1, 1) := by decide +kernel
theorem dX12_reckon_148 : decode cX12_reckon 148 = .ok (.goto 4, 3) := by decide +kernel
theorem dX12_reckon_151 : decode cX12_reckon 151 = .ok (.iconst 0, 1) := by decide +kernel
theorem dX12_reckon_152 : decode cX12_reckon 152 = .ok (.invokevirtual 708, 3) := by decide +kernel
theorem dX12_reckon_155 : decode cX12_reckon 155 = .ok (.goto 58, 3) := by decide +kernel
theorem dX12_reckon_158 : decode cX12_reckon 158 = .ok (.iload_n 2, 1) := by decide +kernel
theorem dX12_reckon_159 : decode cX12_reckon 159 = .ok (.ifCond .ne 11, 3) := by decide +kernel
theorem dX12_reckon_162 : decode cX12_reckon 162 = .ok (.aload_n 0, 1) := by decide +kernel
theorem dX12_reckon_163 : decode cX12_reckon 163 = .ok (.iconst 1, 1) := by decide +kernel
theorem dX12_reckon_164 : decode cX12_reckon 164 = .ok (.invokevirtual 696, 3) := by decide +kernel
theorem dX12_reckon_167 : decode cX12_reckon 167 = .ok (.goto 46, 3) := by decide +kernel
theorem dX12_reckon_170 : decode cX12_reckon 170 = .ok (.iload_n 2, 1) := by decide +kernel
theorem dX12_reckon_171 : decode cX12_reckon 171 = .ok (.iconst (-1), 1) := by decide +kernel
theorem dX12_reckon_172 : decode cX12_reckon 172 = .ok (.if_icmp .ne 22, 3) := by decide +kernel
theorem dX12_reckon_175 : decode cX12_reckon 175 = .ok (.aload_n 0, 1) := by decide +kernel
theorem dX12_reckon_176 : decode cX12_reckon 176 = .ok (.iload_n 1, 1) := by decide +kernel
theorem dX12_reckon_177 : decode cX12_reckon 177 = .ok (.bipush 10, 2) := by decide +kernel
theorem dX12_reckon_179 : decode cX12_reckon 179 = .ok (.if_icmp .ne 8, 3) := by decide +kernel
theorem dX12_reckon_182 : decode cX12_reckon 182 = .ok (.iload_n 3, 1) := by decide +kernel
theorem dX12_reckon_183 : decode cX12_reckon 183 = .ok (.ineg, 1) := by decide +kernel
theorem dX12_reckon_184 : decode cX12_reckon 184 = .ok (.goto 4, 3) := by decide +kernel
theorem dX12_reckon_187 : decode cX12_reckon 187 = .ok (.iconst 0, 1) := by decide +kernel
theorem dX12_reckon_188 : decode cX12_reckon 188 = .ok (.invokevirtual 708, 3) := by decide +kernel
theorem dX12_reckon_191 : decode cX12_reckon 191 = .ok (.goto 22, 3) := by decide +kernel
theorem dX12_reckon_194 : decode cX12_reckon 194 = .ok (.aload_n 0, 1) := by decide +kernel
theorem dX12_reckon_195 : decode cX12_reckon 195 = .ok (.iload_n 1, 1) := by decide +kernel
theorem dX12_reckon_196 : decode cX12_reckon 196 = .ok (.bipush 10, 2) := by decide +kernel
theorem dX12_reckon_198 : decode cX12_reckon 198 = .ok (.if_icmp .ne 9, 3) := by decide +kernel
theorem dX12_reckon_201 : decode cX12_reckon 201 = .ok (.iload_n 3, 1) := by decide +kernel
theorem dX12_reckon_202 : decode cX12_reckon 202 = .ok (.iload_n 2, 1) := by decide +kernel
theorem dX12_reckon_203 : decode cX12_reckon 203 = .ok (.idiv, 1) := by decide +kernel
theorem dX12_reckon_204 : decode cX12_reckon 204 = .ok (.goto 6, 3) := by decide +kernel
theorem dX12_reckon_207 : decode cX12_reckon 207 = .ok (.iload_n 3, 1) := by decide +kernel
theorem dX12_reckon_208 : decode cX12_reckon 208 = .ok (.iload_n 2, 1) := by decide +kernel
theorem dX12_reckon_209 : decode cX12_reckon 209 = .ok (.irem, 1) := by decide +kernel
theorem dX12_reckon_210 : decode cX12_reckon 210 = .ok (.invokevirtual 708, 3) := by decide +kernel
theorem dX12_reckon_213 : decode cX12_reckon 213 = .ok (.return_, 1) := by decide +kernel
def wX12_reckon_b213 (a0 : Nat) (x1 : Int32)  (Sn : kp_S) (post : kp_S → Prop) : Prop :=
  post Sn
def wX12_reckon_b210 (a0 : Nat) (x1 : Int32) (xt0 : Int32) (at1 : Nat)  (Sn : kp_S) (post : kp_S → Prop) : Prop :=
  wX12_push at1 xt0 Sn (fun T2001 =>
  wX12_reckon_b213 a0 x1   T2001 post)
def wX12_reckon_b188 (a0 : Nat) (x1 : Int32) (xt0 : Int32) (at1 : Nat)  (Sn : kp_S) (post : kp_S → Prop) : Prop :=
  wX12_push at1 xt0 Sn (fun T3001 =>
  wX12_reckon_b213 a0 x1   T3001 post)
def wX12_reckon_b158 (a0 : Nat) (x1 : Int32) (xn2 : Int32) (xn3 : Int32)  (Sn : kp_S) (post : kp_S → Prop) : Prop :=
  ((¬ xn2 = 0 →
  ((¬ xn2 = (-1) →
  ((¬ x1 = 10 →
  ¬ xn2 = 0 ∧
  wX12_reckon_b210 a0 x1 (xn3 - xn3 / xn2 * xn2) a0  Sn post) ∧ (x1 = 10 →
  ¬ xn2 = 0 ∧
  wX12_reckon_b210 a0 x1 (xn3 / xn2) a0  Sn post))) ∧ (xn2 = (-1) →
  ((¬ x1 = 10 →
  wX12_reckon_b188 a0 x1 0 a0  Sn post) ∧ (x1 = 10 →
  wX12_reckon_b188 a0 x1 (-xn3) a0  Sn post))))) ∧ (xn2 = 0 →
  wX12_trouble a0 1 Sn (fun T4004 =>
  wX12_reckon_b213 a0 x1   T4004 post)))
def wX12_reckon_b101 (a0 : Nat) (x1 : Int32) (xt0 : Int32) (at1 : Nat)  (Sn : kp_S) (post : kp_S → Prop) : Prop :=
  wX12_push at1 xt0 Sn (fun T5001 =>
  wX12_reckon_b213 a0 x1   T5001 post)
def wX12_reckon_b118 (a0 : Nat) (x1 : Int32) (xt0 : Int32) (at1 : Nat)  (Sn : kp_S) (post : kp_S → Prop) : Prop :=
  wX12_push at1 xt0 Sn (fun T6001 =>
  wX12_reckon_b213 a0 x1   T6001 post)
def wX12_reckon_b135 (a0 : Nat) (x1 : Int32) (xt0 : Int32) (at1 : Nat)  (Sn : kp_S) (post : kp_S → Prop) : Prop :=
  wX12_push at1 xt0 Sn (fun T7001 =>
  wX12_reckon_b213 a0 x1   T7001 post)
def wX12_reckon_b152 (a0 : Nat) (x1 : Int32) (xt0 : Int32) (at1 : Nat)  (Sn : kp_S) (post : kp_S → Prop) : Prop :=
  wX12_push at1 xt0 Sn (fun T8001 =>
  wX12_reckon_b213 a0 x1   T8001 post)
def wX12_reckon (a0 : Nat) (x1 : Int32) (S : kp_S) (post : kp_S → Prop) : Prop :=
  wX12_pop a0 S (fun y2 T1 =>
  wX12_pop a0 T1 (fun y4 T3 =>
  ((x1 = 7 →
  wX12_push a0 (y4 + y2) T3 (fun T6 =>
  wX12_reckon_b213 a0 x1   T6 post)) ∧ (¬ x1 = 7 →
  ((x1 = 8 →
  wX12_push a0 (y4 - y2) T3 (fun T8 =>
  wX12_reckon_b213 a0 x1   T8 post)) ∧ (¬ x1 = 8 →
  ((x1 = 9 →
  wX12_push a0 (y4 * y2) T3 (fun T10 =>
  wX12_reckon_b213 a0 x1   T10 post)) ∧ (¬ x1 = 9 →
  ((x1 = 10 →
  wX12_reckon_b158 a0 x1 y2 y4  T3 post) ∧ (¬ x1 = 10 →
  ((x1 = 11 →
  wX12_reckon_b158 a0 x1 y2 y4  T3 post) ∧ (¬ x1 = 11 →
  ((x1 = 12 →
  ((¬ y4 = y2 →
  wX12_reckon_b101 a0 x1 0 a0  T3 post) ∧ (y4 = y2 →
  wX12_reckon_b101 a0 x1 1 a0  T3 post))) ∧ (¬ x1 = 12 →
  ((x1 = 13 →
  ((y4 = y2 →
  wX12_reckon_b118 a0 x1 0 a0  T3 post) ∧ (¬ y4 = y2 →
  wX12_reckon_b118 a0 x1 1 a0  T3 post))) ∧ (¬ x1 = 13 →
  ((x1 = 14 →
  ((y2 ≤ y4 →
  wX12_reckon_b135 a0 x1 0 a0  T3 post) ∧ (¬ y2 ≤ y4 →
  wX12_reckon_b135 a0 x1 1 a0  T3 post))) ∧ (¬ x1 = 14 →
  ((x1 = 15 →
  ((y2 < y4 →
  wX12_reckon_b152 a0 x1 0 a0  T3 post) ∧ (¬ y2 < y4 →
  wX12_reckon_b152 a0 x1 1 a0  T3 post))) ∧ (¬ x1 = 15 →
  wX12_reckon_b158 a0 x1 y2 y4  T3 post))))))))))))))))))))
set_option maxHeartbeats 4000000 in
set_option maxRecDepth 100000 in
theorem c_X12_reckon (l : Launch) (D : va_G) (cy : Nat → ClassId) (ad : (Nat → Nat) × (Nat → Nat)) (S : kp_S) (a0 : Nat) (x1 : Int32) (post : kp_S → Prop) (hS : kp_ok S) (f_a0 : kp_is S a0 12) (hw : wX12_reckon a0 x1 S post) : kp_M l yX12_reckon cX12_reckon 4 none { frames := 6, cells := 0, slots := 0, locals := 130 } D cy ad S [.ref a0, .int x1] 0 0 (fun A => kp_Qv D cy A S post) := by
  refine kp_start (own := RX12) (by decide) rfl (Nat.le_of_ble_eq_true rfl) hS ?_
  intro p e s m below meth c A ls X hr hlocks hname h hl
  have hle : kp_le S S := kp_le.rf
  have hl : lv_has ls 4 [(0, .ref a0), (1, .int x1)] := hl
  have j213 : ∀  (Sn : kp_S) (H : Heap) (locs : List Loc) (ls : Array Slot), lv_has ls 4 [] → kp_H D cy A Sn s.heap H locs → kp_le S Sn → kp_is Sn a0 12 → wX12_reckon_b213 a0 x1   Sn post → W p l e { frames := 6, cells := 0, slots := 0, locals := 130 } s m ([.ref a0, .int x1] : List Value).toArray below meth c H locs 0 0 (MQ below (kp_Qv D cy A S post) ([.ref a0, .int x1] : List Value).toArray s 0 0 A) (F0 m 213 ls []) := by
    intro  Sn H locs ls hl h hle f_a0 hw
    unfold wX12_reckon_b213 at hw
    exact kp_retv X hr hlocks h hle hw dX12_reckon_213
  have j210 : ∀ (xt0 : Int32) (at1 : Nat) (Sn : kp_S) (H : Heap) (locs : List Loc) (ls : Array Slot), lv_has ls 4 [] → kp_H D cy A Sn s.heap H locs → kp_le S Sn → kp_is Sn at1 12 → kp_is Sn a0 12 → wX12_reckon_b210 a0 x1 xt0 at1  Sn post → W p l e { frames := 6, cells := 0, slots := 0, locals := 130 } s m ([.ref a0, .int x1] : List Value).toArray below meth c H locs 0 0 (MQ below (kp_Qv D cy A S post) ([.ref a0, .int x1] : List Value).toArray s 0 0 A) (F0 m 210 ls [.int xt0, .ref at1]) := by
    intro xt0 at1 Sn H locs ls hl h hle f_at1 f_a0 hw
    unfold wX12_reckon_b210 at hw
    refine kp_callv X h (kp_runV (rm := { frames := 0, cells := 0, slots := 0, locals := 0 }) (mc := 0) (ms := 0) (rest := []) (Qc := fun A => kp_Qv D cy A Sn _) X h (c_X12_push l D cy ad Sn at1 xt0 _ h.2.2.2 f_at1 hw) f_at1 cv_12_708 ⟨by decide, by decide, rfl, rfl, by decide, by decide⟩ rfl hl.1 rfl (Nat.le_of_ble_eq_true rfl) dX12_reckon_210) (fun T2001 hw l_T2001 H locs h => ?_)
    have f_at1 := l_T2001.is f_at1
    have f_a0 := l_T2001.is f_a0
    have hle := hle.tr l_T2001
    exact j213  T2001 H locs ls (lv_sub hl [] rfl) h hle f_a0 hw
  have j188 : ∀ (xt0 : Int32) (at1 : Nat) (Sn : kp_S) (H : Heap) (locs : List Loc) (ls : Array Slot), lv_has ls 4 [] → kp_H D cy A Sn s.heap H locs → kp_le S Sn → kp_is Sn at1 12 → kp_is Sn a0 12 → wX12_reckon_b188 a0 x1 xt0 at1  Sn post → W p l e { frames := 6, cells := 0, slots := 0, locals := 130 } s m ([.ref a0, .int x1] : List Value).toArray below meth c H locs 0 0 (MQ below (kp_Qv D cy A S post) ([.ref a0, .int x1] : List Value).toArray s 0 0 A) (F0 m 188 ls [.int xt0, .ref at1]) := by
    intro xt0 at1 Sn H locs ls hl h hle f_at1 f_a0 hw
    unfold wX12_reckon_b188 at hw
    refine kp_callv X h (kp_runV (rm := { frames := 0, cells := 0, slots := 0, locals := 0 }) (mc := 0) (ms := 0) (rest := []) (Qc := fun A => kp_Qv D cy A Sn _) X h (c_X12_push l D cy ad Sn at1 xt0 _ h.2.2.2 f_at1 hw) f_at1 cv_12_708 ⟨by decide, by decide, rfl, rfl, by decide, by decide⟩ rfl hl.1 rfl (Nat.le_of_ble_eq_true rfl) dX12_reckon_188) (fun T3001 hw l_T3001 H locs h => ?_)
    have f_at1 := l_T3001.is f_at1
    have f_a0 := l_T3001.is f_a0
    have hle := hle.tr l_T3001
    refine lv_goto (tgt := 213) X.1 X.2.1 dX12_reckon_191 (by decide) ?_
    exact j213  T3001 H locs ls (lv_sub hl [] rfl) h hle f_a0 hw
  have j158 : ∀ (xn2 : Int32) (xn3 : Int32) (Sn : kp_S) (H : Heap) (locs : List Loc) (ls : Array Slot), lv_has ls 4 [(0, .ref a0), (1, .int x1), (2, .int xn2), (3, .int xn3)] → kp_H D cy A Sn s.heap H locs → kp_le S Sn → kp_is Sn a0 12 → wX12_reckon_b158 a0 x1 xn2 xn3  Sn post → W p l e { frames := 6, cells := 0, slots := 0, locals := 130 } s m ([.ref a0, .int x1] : List Value).toArray below meth c H locs 0 0 (MQ below (kp_Qv D cy A S post) ([.ref a0, .int x1] : List Value).toArray s 0 0 A) (F0 m 158 ls []) := by
    intro xn2 xn3 Sn H locs ls hl h hle f_a0 hw
    unfold wX12_reckon_b158 at hw
    refine lv_iload_n X.1 X.2.1 dX12_reckon_158 rfl (lv_at hl 2 rfl) ?_
    refine lv_if_ne (tgt := 170) X.1 X.2.1 dX12_reckon_159 (by decide) (fun c4005 => ?_) (fun c4005 => ?_)
    · have hw := hw.1 c4005
      refine lv_iload_n X.1 X.2.1 dX12_reckon_170 rfl (lv_at hl 2 rfl) ?_
      refine lv_iconst (v := (-1)) X.1 X.2.1 dX12_reckon_171 (by decide) ?_
      refine lv_icmp_ne (tgt := 194) X.1 X.2.1 dX12_reckon_172 (by decide) (fun c4003 => ?_) (fun c4003 => ?_)
      · have hw := hw.1 c4003
        refine lv_aload_n X.1 X.2.1 dX12_reckon_194 rfl (lv_at hl 0 rfl) ?_
        refine lv_iload_n X.1 X.2.1 dX12_reckon_195 rfl (lv_at hl 1 rfl) ?_
        refine lv_bipush (v := 10) X.1 X.2.1 dX12_reckon_196 (by decide) ?_
        refine lv_icmp_ne (tgt := 207) X.1 X.2.1 dX12_reckon_198 (by decide) (fun c4001 => ?_) (fun c4001 => ?_)
        · have hw := hw.1 c4001
          refine lv_iload_n X.1 X.2.1 dX12_reckon_207 rfl (lv_at hl 3 rfl) ?_
          refine lv_iload_n X.1 X.2.1 dX12_reckon_208 rfl (lv_at hl 2 rfl) ?_
          obtain ⟨hz, hw⟩ := hw
          refine lv_irem X.1 X.2.1 dX12_reckon_209 hz ?_
          exact j210 (xn3 - xn3 / xn2 * xn2) a0 Sn H locs ls (lv_sub hl [] rfl) h hle f_a0 f_a0 hw
        · have hw := hw.2 c4001
          refine lv_iload_n X.1 X.2.1 dX12_reckon_201 rfl (lv_at hl 3 rfl) ?_
          refine lv_iload_n X.1 X.2.1 dX12_reckon_202 rfl (lv_at hl 2 rfl) ?_
          obtain ⟨hz, hw⟩ := hw
          refine lv_idiv X.1 X.2.1 dX12_reckon_203 hz ?_
          refine lv_goto (tgt := 210) X.1 X.2.1 dX12_reckon_204 (by decide) ?_
          exact j210 (xn3 / xn2) a0 Sn H locs ls (lv_sub hl [] rfl) h hle f_a0 f_a0 hw
      · have hw := hw.2 c4003
        refine lv_aload_n X.1 X.2.1 dX12_reckon_175 rfl (lv_at hl 0 rfl) ?_
        refine lv_iload_n X.1 X.2.1 dX12_reckon_176 rfl (lv_at hl 1 rfl) ?_
        refine lv_bipush (v := 10) X.1 X.2.1 dX12_reckon_177 (by decide) ?_
        refine lv_icmp_ne (tgt := 187) X.1 X.2.1 dX12_reckon_179 (by decide) (fun c4002 => ?_) (fun c4002 => ?_)
        · have hw := hw.1 c4002
          refine lv_iconst (v := 0) X.1 X.2.1 dX12_reckon_187 (by decide) ?_
          exact j188 0 a0 Sn H locs ls (lv_sub hl [] rfl) h hle f_a0 f_a0 hw
        · have hw := hw.2 c4002
          refine lv_iload_n X.1 X.2.1 dX12_reckon_182 rfl (lv_at hl 3 rfl) ?_
          refine lv_ineg X.1 X.2.1 dX12_reckon_183 ?_
          refine lv_goto (tgt := 188) X.1 X.2.1 dX12_reckon_184 (by decide) ?_
          exact j188 (-xn3) a0 Sn H locs ls (lv_sub hl [] rfl) h hle f_a0 f_a0 hw
    · have hw := hw.2 c4005
      refine lv_aload_n X.1 X.2.1 dX12_reckon_162 rfl (lv_at hl 0 rfl) ?_
      refine lv_iconst (v := 1) X.1 X.2.1 dX12_reckon_163 (by decide) ?_
      refine kp_callv X h (kp_runV (rm := { frames := 5, cells := 0, slots := 0, locals := 108 }) (mc := 0) (ms := 0) (rest := []) (Qc := fun A => kp_Qv D cy A Sn _) X h (c_X12_trouble l D cy ad Sn a0 1 _ h.2.2.2 f_a0 hw) f_a0 cv_12_696 ⟨by decide, by decide, rfl, rfl, by decide, by decide⟩ rfl hl.1 rfl (Nat.le_of_ble_eq_true rfl) dX12_reckon_164) (fun T4004 hw l_T4004 H locs h => ?_)
      have f_a0 := l_T4004.is f_a0
      have hle := hle.tr l_T4004
      refine lv_goto (tgt := 213) X.1 X.2.1 dX12_reckon_167 (by decide) ?_
      exact j213  T4004 H locs ls (lv_sub hl [] rfl) h hle f_a0 hw
  have j101 : ∀ (xt0 : Int32) (at1 : Nat) (Sn : kp_S) (H : Heap) (locs : List Loc) (ls : Array Slot), lv_has ls 4 [] → kp_H D cy A Sn s.heap H locs → kp_le S Sn → kp_is Sn at1 12 → kp_is Sn a0 12 → wX12_reckon_b101 a0 x1 xt0 at1  Sn post → W p l e { frames := 6, cells := 0, slots := 0, locals := 130 } s m ([.ref a0, .int x1] : List Value).toArray below meth c H locs 0 0 (MQ below (kp_Qv D cy A S post) ([.ref a0, .int x1] : List Value).toArray s 0 0 A) (F0 m 101 ls [.int xt0, .ref at1]) := by
    intro xt0 at1 Sn H locs ls hl h hle f_at1 f_a0 hw
    unfold wX12_reckon_b101 at hw
    refine kp_callv X h (kp_runV (rm := { frames := 0, cells := 0, slots := 0, locals := 0 }) (mc := 0) (ms := 0) (rest := []) (Qc := fun A => kp_Qv D cy A Sn _) X h (c_X12_push l D cy ad Sn at1 xt0 _ h.2.2.2 f_at1 hw) f_at1 cv_12_708 ⟨by decide, by decide, rfl, rfl, by decide, by decide⟩ rfl hl.1 rfl (Nat.le_of_ble_eq_true rfl) dX12_reckon_101) (fun T5001 hw l_T5001 H locs h => ?_)
    have f_at1 := l_T5001.is f_at1
    have f_a0 := l_T5001.is f_a0
    have hle := hle.tr l_T5001
    refine lv_goto (tgt := 213) X.1 X.2.1 dX12_reckon_104 (by decide) ?_
    exact j213  T5001 H locs ls (lv_sub hl [] rfl) h hle f_a0 hw
  have j118 : ∀ (xt0 : Int32) (at1 : Nat) (Sn : kp_S) (H : Heap) (locs : List Loc) (ls : Array Slot), lv_has ls 4 [] → kp_H D cy A Sn s.heap H locs → kp_le S Sn → kp_is Sn at1 12 → kp_is Sn a0 12 → wX12_reckon_b118 a0 x1 xt0 at1  Sn post → W p l e { frames := 6, cells := 0, slots := 0, locals := 130 } s m ([.ref a0, .int x1] : List Value).toArray below meth c H locs 0 0 (MQ below (kp_Qv D cy A S post) ([.ref a0, .int x1] : List Value).toArray s 0 0 A) (F0 m 118 ls [.int xt0, .ref at1]) := by
    intro xt0 at1 Sn H locs ls hl h hle f_at1 f_a0 hw
    unfold wX12_reckon_b118 at hw
    refine kp_callv X h (kp_runV (rm := { frames := 0, cells := 0, slots := 0, locals := 0 }) (mc := 0) (ms := 0) (rest := []) (Qc := fun A => kp_Qv D cy A Sn _) X h (c_X12_push l D cy ad Sn at1 xt0 _ h.2.2.2 f_at1 hw) f_at1 cv_12_708 ⟨by decide, by decide, rfl, rfl, by decide, by decide⟩ rfl hl.1 rfl (Nat.le_of_ble_eq_true rfl) dX12_reckon_118) (fun T6001 hw l_T6001 H locs h => ?_)
    have f_at1 := l_T6001.is f_at1
    have f_a0 := l_T6001.is f_a0
    have hle := hle.tr l_T6001
    refine lv_goto (tgt := 213) X.1 X.2.1 dX12_reckon_121 (by decide) ?_
    exact j213  T6001 H locs ls (lv_sub hl [] rfl) h hle f_a0 hw
  have j135 : ∀ (xt0 : Int32) (at1 : Nat) (Sn : kp_S) (H : Heap) (locs : List Loc) (ls : Array Slot), lv_has ls 4 [] → kp_H D cy A Sn s.heap H locs → kp_le S Sn → kp_is Sn at1 12 → kp_is Sn a0 12 → wX12_reckon_b135 a0 x1 xt0 at1  Sn post → W p l e { frames := 6, cells := 0, slots := 0, locals := 130 } s m ([.ref a0, .int x1] : List Value).toArray below meth c H locs 0 0 (MQ below (kp_Qv D cy A S post) ([.ref a0, .int x1] : List Value).toArray s 0 0 A) (F0 m 135 ls [.int xt0, .ref at1]) := by
    intro xt0 at1 Sn H locs ls hl h hle f_at1 f_a0 hw
    unfold wX12_reckon_b135 at hw
    refine kp_callv X h (kp_runV (rm := { frames := 0, cells := 0, slots := 0, locals := 0 }) (mc := 0) (ms := 0) (rest := []) (Qc := fun A => kp_Qv D cy A Sn _) X h (c_X12_push l D cy ad Sn at1 xt0 _ h.2.2.2 f_at1 hw) f_at1 cv_12_708 ⟨by decide, by decide, rfl, rfl, by decide, by decide⟩ rfl hl.1 rfl (Nat.le_of_ble_eq_true rfl) dX12_reckon_135) (fun T7001 hw l_T7001 H locs h => ?_)
    have f_at1 := l_T7001.is f_at1
    have f_a0 := l_T7001.is f_a0
    have hle := hle.tr l_T7001
    refine lv_goto (tgt := 213) X.1 X.2.1 dX12_reckon_138 (by decide) ?_
    exact j213  T7001 H locs ls (lv_sub hl [] rfl) h hle f_a0 hw
  have j152 : ∀ (xt0 : Int32) (at1 : Nat) (Sn : kp_S) (H : Heap) (locs : List Loc) (ls : Array Slot), lv_has ls 4 [] → kp_H D cy A Sn s.heap H locs → kp_le S Sn → kp_is Sn at1 12 → kp_is Sn a0 12 → wX12_reckon_b152 a0 x1 xt0 at1  Sn post → W p l e { frames := 6, cells := 0, slots := 0, locals := 130 } s m ([.ref a0, .int x1] : List Value).toArray below meth c H locs 0 0 (MQ below (kp_Qv D cy A S post) ([.ref a0, .int x1] : List Value).toArray s 0 0 A) (F0 m 152 ls [.int xt0, .ref at1]) := by
    intro xt0 at1 Sn H locs ls hl h hle f_at1 f_a0 hw
    unfold wX12_reckon_b152 at hw
    refine kp_callv X h (kp_runV (rm := { frames := 0, cells := 0, slots := 0, locals := 0 }) (mc := 0) (ms := 0) (rest := []) (Qc := fun A => kp_Qv D cy A Sn _) X h (c_X12_push l D cy ad Sn at1 xt0 _ h.2.2.2 f_at1 hw) f_at1 cv_12_708 ⟨by decide, by decide, rfl, rfl, by decide, by decide⟩ rfl hl.1 rfl (Nat.le_of_ble_eq_true rfl) dX12_reckon_152) (fun T8001 hw l_T8001 H locs h => ?_)
    have f_at1 := l_T8001.is f_at1
    have f_a0 := l_T8001.is f_a0
    have hle := hle.tr l_T8001
    refine lv_goto (tgt := 213) X.1 X.2.1 dX12_reckon_155 (by decide) ?_
    exact j213  T8001 H locs ls (lv_sub hl [] rfl) h hle f_a0 hw
  unfold wX12_reckon at hw
  have h : kp_H D cy A S s.heap s.heap [] := h
  revert h
  intro h
  refine lv_aload_n X.1 X.2.1 dX12_reckon_0 rfl (lv_at hl 0 rfl) ?_
  refine kp_calli X h (kp_runV (rm := { frames := 0, cells := 0, slots := 0, locals := 0 }) (mc := 0) (ms := 0) (rest := []) (Qc := fun A => kp_Qi D cy A S _) X h (c_X12_pop l D cy ad S a0 _ h.2.2.2 f_a0 hw) f_a0 cv_12_718 ⟨by decide, by decide, rfl, rfl, by decide, by decide⟩ rfl hl.1 rfl (Nat.le_of_ble_eq_true rfl) dX12_reckon_1) (fun y2 T1 hw l_T1 H locs h => ?_)
  have f_a0 := l_T1.is f_a0
  have hle := hle.tr l_T1
  refine lv_istore_n (lv' := [(2, .int y2), (0, .ref a0), (1, .int x1)]) X.1 X.2.1 dX12_reckon_4 rfl hl (by decide) rfl (fun ls hl => ?_)
  refine lv_aload_n X.1 X.2.1 dX12_reckon_5 rfl (lv_at hl 1 rfl) ?_
  refine kp_calli X h (kp_runV (rm := { frames := 0, cells := 0, slots := 0, locals := 0 }) (mc := 0) (ms := 0) (rest := []) (Qc := fun A => kp_Qi D cy A T1 _) X h (c_X12_pop l D cy ad T1 a0 _ h.2.2.2 f_a0 hw) f_a0 cv_12_718 ⟨by decide, by decide, rfl, rfl, by decide, by decide⟩ rfl hl.1 rfl (Nat.le_of_ble_eq_true rfl) dX12_reckon_6) (fun y4 T3 hw l_T3 H locs h => ?_)
  have f_a0 := l_T3.is f_a0
  have hle := hle.tr l_T3
  refine lv_istore_n (lv' := [(3, .int y4), (2, .int y2), (0, .ref a0), (1, .int x1)]) X.1 X.2.1 dX12_reckon_9 rfl hl (by decide) rfl (fun ls hl => ?_)
  refine lv_iload_n X.1 X.2.1 dX12_reckon_10 rfl (lv_at hl 3 rfl) ?_
  by_cases c5 : x1 = 7
  · have hw := hw.1 c5
    refine lv_tableIn (off := 49) (tgt := 60) X.1 X.2.1 dX12_reckon_11 (by rw [c5]; decide) (by rw [c5]; decide) (by rw [c5]; decide) (by decide) ?_
    refine lv_aload_n X.1 X.2.1 dX12_reckon_60 rfl (lv_at hl 2 rfl) ?_
    refine lv_iload_n X.1 X.2.1 dX12_reckon_61 rfl (lv_at hl 0 rfl) ?_
    refine lv_iload_n X.1 X.2.1 dX12_reckon_62 rfl (lv_at hl 1 rfl) ?_
    refine lv_iadd X.1 X.2.1 dX12_reckon_63 ?_
    refine kp_callv X h (kp_runV (rm := { frames := 0, cells := 0, slots := 0, locals := 0 }) (mc := 0) (ms := 0) (rest := []) (Qc := fun A => kp_Qv D cy A T3 _) X h (c_X12_push l D cy ad T3 a0 (y4 + y2) _ h.2.2.2 f_a0 hw) f_a0 cv_12_708 ⟨by decide, by decide, rfl, rfl, by decide, by decide⟩ rfl hl.1 rfl (Nat.le_of_ble_eq_true rfl) dX12_reckon_64) (fun T6 hw l_T6 H locs h => ?_)
    have f_a0 := l_T6.is f_a0
    have hle := hle.tr l_T6
    refine lv_goto (tgt := 213) X.1 X.2.1 dX12_reckon_67 (by decide) ?_
    exact j213  T6 _ _ ls (lv_sub hl [] rfl) h hle f_a0 hw
  have hw := hw.2 c5
  by_cases c7 : x1 = 8
  · have hw := hw.1 c7
    refine lv_tableIn (off := 59) (tgt := 70) X.1 X.2.1 dX12_reckon_11 (by rw [c7]; decide) (by rw [c7]; decide) (by rw [c7]; decide) (by decide) ?_
    refine lv_aload_n X.1 X.2.1 dX12_reckon_70 rfl (lv_at hl 2 rfl) ?_
    refine lv_iload_n X.1 X.2.1 dX12_reckon_71 rfl (lv_at hl 0 rfl) ?_
    refine lv_iload_n X.1 X.2.1 dX12_reckon_72 rfl (lv_at hl 1 rfl) ?_
    refine lv_isub X.1 X.2.1 dX12_reckon_73 ?_
    refine kp_callv X h (kp_runV (rm := { frames := 0, cells := 0, slots := 0, locals := 0 }) (mc := 0) (ms := 0) (rest := []) (Qc := fun A => kp_Qv D cy A T3 _) X h (c_X12_push l D cy ad T3 a0 (y4 - y2) _ h.2.2.2 f_a0 hw) f_a0 cv_12_708 ⟨by decide, by decide, rfl, rfl, by decide, by decide⟩ rfl hl.1 rfl (Nat.le_of_ble_eq_true rfl) dX12_reckon_74) (fun T8 hw l_T8 H locs h => ?_)
    have f_a0 := l_T8.is f_a0
    have hle := hle.tr l_T8
    refine lv_goto (tgt := 213) X.1 X.2.1 dX12_reckon_77 (by decide) ?_
    exact j213  T8 _ _ ls (lv_sub hl [] rfl) h hle f_a0 hw
  have hw := hw.2 c7
  by_cases c9 : x1 = 9
  · have hw := hw.1 c9
    refine lv_tableIn (off := 69) (tgt := 80) X.1 X.2.1 dX12_reckon_11 (by rw [c9]; decide) (by rw [c9]; decide) (by rw [c9]; decide) (by decide) ?_
    refine lv_aload_n X.1 X.2.1 dX12_reckon_80 rfl (lv_at hl 2 rfl) ?_
    refine lv_iload_n X.1 X.2.1 dX12_reckon_81 rfl (lv_at hl 0 rfl) ?_
    refine lv_iload_n X.1 X.2.1 dX12_reckon_82 rfl (lv_at hl 1 rfl) ?_
    refine lv_imul X.1 X.2.1 dX12_reckon_83 ?_
    refine kp_callv X h (kp_runV (rm := { frames := 0, cells := 0, slots := 0, locals := 0 }) (mc := 0) (ms := 0) (rest := []) (Qc := fun A => kp_Qv D cy A T3 _) X h (c_X12_push l D cy ad T3 a0 (y4 * y2) _ h.2.2.2 f_a0 hw) f_a0 cv_12_708 ⟨by decide, by decide, rfl, rfl, by decide, by decide⟩ rfl hl.1 rfl (Nat.le_of_ble_eq_true rfl) dX12_reckon_84) (fun T10 hw l_T10 H locs h => ?_)
    have f_a0 := l_T10.is f_a0
    have hle := hle.tr l_T10
    refine lv_goto (tgt := 213) X.1 X.2.1 dX12_reckon_87 (by decide) ?_
    exact j213  T10 _ _ ls (lv_sub hl [] rfl) h hle f_a0 hw
  have hw := hw.2 c9
  by_cases c11 : x1 = 10
  · have hw := hw.1 c11
    refine lv_tableIn (off := 147) (tgt := 158) X.1 X.2.1 dX12_reckon_11 (by rw [c11]; decide) (by rw [c11]; decide) (by rw [c11]; decide) (by decide) ?_
    exact j158 y2 y4 T3 _ _ ls (lv_sub hl [2, 3, 1, 0] rfl) h hle f_a0 hw
  have hw := hw.2 c11
  by_cases c12 : x1 = 11
  · have hw := hw.1 c12
    refine lv_tableIn (off := 147) (tgt := 158) X.1 X.2.1 dX12_reckon_11 (by rw [c12]; decide) (by rw [c12]; decide) (by rw [c12]; decide) (by decide) ?_
    exact j158 y2 y4 T3 _ _ ls (lv_sub hl [2, 3, 1, 0] rfl) h hle f_a0 hw
  have hw := hw.2 c12
  by_cases c13 : x1 = 12
  · have hw := hw.1 c13
    refine lv_tableIn (off := 79) (tgt := 90) X.1 X.2.1 dX12_reckon_11 (by rw [c13]; decide) (by rw [c13]; decide) (by rw [c13]; decide) (by decide) ?_
    refine lv_aload_n X.1 X.2.1 dX12_reckon_90 rfl (lv_at hl 2 rfl) ?_
    refine lv_iload_n X.1 X.2.1 dX12_reckon_91 rfl (lv_at hl 0 rfl) ?_
    refine lv_iload_n X.1 X.2.1 dX12_reckon_92 rfl (lv_at hl 1 rfl) ?_
    refine lv_icmp_ne (tgt := 100) X.1 X.2.1 dX12_reckon_93 (by decide) (fun c14 => ?_) (fun c14 => ?_)
    · have hw := hw.1 c14
      refine lv_iconst (v := 0) X.1 X.2.1 dX12_reckon_100 (by decide) ?_
      exact j101 0 a0 T3 _ _ ls (lv_sub hl [] rfl) h hle f_a0 f_a0 hw
    · have hw := hw.2 c14
      refine lv_iconst (v := 1) X.1 X.2.1 dX12_reckon_96 (by decide) ?_
      refine lv_goto (tgt := 101) X.1 X.2.1 dX12_reckon_97 (by decide) ?_
      exact j101 1 a0 T3 _ _ ls (lv_sub hl [] rfl) h hle f_a0 f_a0 hw
  have hw := hw.2 c13
  by_cases c15 : x1 = 13
  · have hw := hw.1 c15
    refine lv_tableIn (off := 96) (tgt := 107) X.1 X.2.1 dX12_reckon_11 (by rw [c15]; decide) (by rw [c15]; decide) (by rw [c15]; decide) (by decide) ?_
    refine lv_aload_n X.1 X.2.1 dX12_reckon_107 rfl (lv_at hl 2 rfl) ?_
    refine lv_iload_n X.1 X.2.1 dX12_reckon_108 rfl (lv_at hl 0 rfl) ?_
    refine lv_iload_n X.1 X.2.1 dX12_reckon_109 rfl (lv_at hl 1 rfl) ?_
    refine lv_icmp_eq (tgt := 117) X.1 X.2.1 dX12_reckon_110 (by decide) (fun c16 => ?_) (fun c16 => ?_)
    · have hw := hw.1 c16
      refine lv_iconst (v := 0) X.1 X.2.1 dX12_reckon_117 (by decide) ?_
      exact j118 0 a0 T3 _ _ ls (lv_sub hl [] rfl) h hle f_a0 f_a0 hw
    · have hw := hw.2 c16
      refine lv_iconst (v := 1) X.1 X.2.1 dX12_reckon_113 (by decide) ?_
      refine lv_goto (tgt := 118) X.1 X.2.1 dX12_reckon_114 (by decide) ?_
      exact j118 1 a0 T3 _ _ ls (lv_sub hl [] rfl) h hle f_a0 f_a0 hw
  have hw := hw.2 c15
  by_cases c17 : x1 = 14
  · have hw := hw.1 c17
    refine lv_tableIn (off := 113) (tgt := 124) X.1 X.2.1 dX12_reckon_11 (by rw [c17]; decide) (by rw [c17]; decide) (by rw [c17]; decide) (by decide) ?_
    refine lv_aload_n X.1 X.2.1 dX12_reckon_124 rfl (lv_at hl 2 rfl) ?_
    refine lv_iload_n X.1 X.2.1 dX12_reckon_125 rfl (lv_at hl 0 rfl) ?_
    refine lv_iload_n X.1 X.2.1 dX12_reckon_126 rfl (lv_at hl 1 rfl) ?_
    refine lv_icmp_ge (tgt := 134) X.1 X.2.1 dX12_reckon_127 (by decide) (fun c18 => ?_) (fun c18 => ?_)
    · have hw := hw.1 c18
      refine lv_iconst (v := 0) X.1 X.2.1 dX12_reckon_134 (by decide) ?_
      exact j135 0 a0 T3 _ _ ls (lv_sub hl [] rfl) h hle f_a0 f_a0 hw
    · have hw := hw.2 c18
      refine lv_iconst (v := 1) X.1 X.2.1 dX12_reckon_130 (by decide) ?_
      refine lv_goto (tgt := 135) X.1 X.2.1 dX12_reckon_131 (by decide) ?_
      exact j135 1 a0 T3 _ _ ls (lv_sub hl [] rfl) h hle f_a0 f_a0 hw
  have hw := hw.2 c17
  by_cases c19 : x1 = 15
  · have hw := hw.1 c19
    refine lv_tableIn (off := 130) (tgt := 141) X.1 X.2.1 dX12_reckon_11 (by rw [c19]; decide) (by rw [c19]; decide) (by rw [c19]; decide) (by decide) ?_
    refine lv_aload_n X.1 X.2.1 dX12_reckon_141 rfl (lv_at hl 2 rfl) ?_
    refine lv_iload_n X.1 X.2.1 dX12_reckon_142 rfl (lv_at hl 0 rfl) ?_
    refine lv_iload_n X.1 X.2.1 dX12_reckon_143 rfl (lv_at hl 1 rfl) ?_
    refine lv_icmp_gt (tgt := 151) X.1 X.2.1 dX12_reckon_144 (by decide) (fun c20 => ?_) (fun c20 => ?_)
    · have hw := hw.1 c20
      refine lv_iconst (v := 0) X.1 X.2.1 dX12_reckon_151 (by decide) ?_
      exact j152 0 a0 T3 _ _ ls (lv_sub hl [] rfl) h hle f_a0 f_a0 hw
    · have hw := hw.2 c20
      refine lv_iconst (v := 1) X.1 X.2.1 dX12_reckon_147 (by decide) ?_
      refine lv_goto (tgt := 152) X.1 X.2.1 dX12_reckon_148 (by decide) ?_
      exact j152 1 a0 T3 _ _ ls (lv_sub hl [] rfl) h hle f_a0 f_a0 hw
  have hw := hw.2 c19
  have t_c5 := lv_neT (a := 7) c5 (by decide)
  have t_c7 := lv_neT (a := 8) c7 (by decide)
  have t_c9 := lv_neT (a := 9) c9 (by decide)
  have t_c11 := lv_neT (a := 10) c11 (by decide)
  have t_c12 := lv_neT (a := 11) c12 (by decide)
  have t_c13 := lv_neT (a := 12) c13 (by decide)
  have t_c15 := lv_neT (a := 13) c15 (by decide)
  have t_c17 := lv_neT (a := 14) c17 (by decide)
  have t_c19 := lv_neT (a := 15) c19 (by decide)
  refine lv_tableOut (tgt := 158) X.1 X.2.1 dX12_reckon_11 (by omega) (by decide) ?_
  exact j158 y2 y4 T3 _ _ ls (lv_sub hl [2, 3, 1, 0] rfl) h hle f_a0 hw
theorem dX12_jumpIf_0 : decode cX12_jumpIf 0 = .ok (.iload_n 1, 1) := by decide +kernel
theorem dX12_jumpIf_1 : decode cX12_jumpIf 1 = .ok (.ifCond .ne 4, 3) := by decide +kernel
theorem dX12_jumpIf_4 : decode cX12_jumpIf 4 = .ok (.return_, 1) := by decide +kernel
theorem dX12_jumpIf_5 : decode cX12_jumpIf 5 = .ok (.aload_n 0, 1) := by decide +kernel
theorem dX12_jumpIf_6 : decode cX12_jumpIf 6 = .ok (.iload_n 2, 1) := by decide +kernel
theorem dX12_jumpIf_7 : decode cX12_jumpIf 7 = .ok (.invokevirtual 708, 3) := by decide +kernel
theorem dX12_jumpIf_10 : decode cX12_jumpIf 10 = .ok (.aload_n 0, 1) := by decide +kernel
theorem dX12_jumpIf_11 : decode cX12_jumpIf 11 = .ok (.iload_n 3, 1) := by decide +kernel
theorem dX12_jumpIf_12 : decode cX12_jumpIf 12 = .ok (.putfield 648, 3) := by decide +kernel
theorem dX12_jumpIf_15 : decode cX12_jumpIf 15 = .ok (.return_, 1) := by decide +kernel
def wX12_jumpIf (a0 : Nat) (x1 : Int32) (x2 : Int32) (x3 : Int32) (S : kp_S) (post : kp_S → Prop) : Prop :=
  ((¬ x1 = 0 →
  wX12_push a0 x2 S (fun T1 =>
  ∀ T2 : kp_S, T2 = kp_sI T1 2510 a0 x3 →
  post T2)) ∧ (x1 = 0 →
  post S))
set_option maxHeartbeats 4000000 in
set_option maxRecDepth 100000 in
theorem c_X12_jumpIf (l : Launch) (D : va_G) (cy : Nat → ClassId) (ad : (Nat → Nat) × (Nat → Nat)) (S : kp_S) (a0 : Nat) (x1 : Int32) (x2 : Int32) (x3 : Int32) (post : kp_S → Prop) (hS : kp_ok S) (f_a0 : kp_is S a0 12) (hw : wX12_jumpIf a0 x1 x2 x3 S post) : kp_M l yX12_jumpIf cX12_jumpIf 4 none { frames := 1, cells := 0, slots := 0, locals := 21 } D cy ad S [.ref a0, .int x1, .int x2, .int x3] 0 0 (fun A => kp_Qv D cy A S post) := by
  refine kp_start (own := RX12) (by decide) rfl (Nat.le_of_ble_eq_true rfl) hS ?_
  intro p e s m below meth c A ls X hr hlocks hname h hl
  have hle : kp_le S S := kp_le.rf
  have hl : lv_has ls 4 [(0, .ref a0), (1, .int x1), (2, .int x2), (3, .int x3)] := hl
  unfold wX12_jumpIf at hw
  have h : kp_H D cy A S s.heap s.heap [] := h
  revert h
  intro h
  refine lv_iload_n X.1 X.2.1 dX12_jumpIf_0 rfl (lv_at hl 1 rfl) ?_
  refine lv_if_ne (tgt := 5) X.1 X.2.1 dX12_jumpIf_1 (by decide) (fun c3 => ?_) (fun c3 => ?_)
  · have hw := hw.1 c3
    refine lv_aload_n X.1 X.2.1 dX12_jumpIf_5 rfl (lv_at hl 0 rfl) ?_
    refine lv_iload_n X.1 X.2.1 dX12_jumpIf_6 rfl (lv_at hl 2 rfl) ?_
    refine kp_callv X h (kp_runV (rm := { frames := 0, cells := 0, slots := 0, locals := 0 }) (mc := 0) (ms := 0) (rest := []) (Qc := fun A => kp_Qv D cy A S _) X h (c_X12_push l D cy ad S a0 x2 _ h.2.2.2 f_a0 hw) f_a0 cv_12_708 ⟨by decide, by decide, rfl, rfl, by decide, by decide⟩ rfl hl.1 rfl (Nat.le_of_ble_eq_true rfl) dX12_jumpIf_7) (fun T1 hw l_T1 H locs h => ?_)
    have f_a0 := l_T1.is f_a0
    have hle := hle.tr l_T1
    refine lv_aload_n X.1 X.2.1 dX12_jumpIf_10 rfl (lv_at hl 0 rfl) ?_
    refine lv_iload_n X.1 X.2.1 dX12_jumpIf_11 rfl (lv_at hl 3 rfl) ?_
    refine kp_putI X h f_a0 fp_12_648 rfl ⟨rfl, rfl⟩ dX12_jumpIf_12 (fun T2 e_T2 l_T2 H locs h => ?_)
    have hw := hw T2 e_T2
    have f_a0 := l_T2.is f_a0
    have hle := hle.tr l_T2
    exact kp_retv X hr hlocks h hle hw dX12_jumpIf_15
  · have hw := hw.2 c3
    exact kp_retv X hr hlocks h hle hw dX12_jumpIf_4
theorem dX12_answers_0 : decode cX12_answers 0 = .ok (.iload_n 1, 1) := by decide +kernel
theorem dX12_answers_1 : decode cX12_answers 1 = .ok (.iconst 0, 1) := by decide +kernel
theorem dX12_answers_2 : decode cX12_answers 2 = .ok (.iload_n 2, 1) := by decide +kernel
theorem dX12_answers_3 : decode cX12_answers 3 = .ok (.iconst 1, 1) := by decide +kernel
theorem dX12_answers_4 : decode cX12_answers 4 = .ok (.isub, 1) := by decide +kernel
theorem dX12_answers_5 : decode cX12_answers 5 = .ok (.invokestatic 589, 3) := by decide +kernel
theorem dX12_answers_8 : decode cX12_answers 8 = .ok (.ifCond .ne 9, 3) := by decide +kernel
theorem dX12_answers_11 : decode cX12_answers 11 = .ok (.aload_n 0, 1) := by decide +kernel
theorem dX12_answers_12 : decode cX12_answers 12 = .ok (.iconst 3, 1) := by decide +kernel
theorem dX12_answers_13 : decode cX12_answers 13 = .ok (.invokevirtual 696, 3) := by decide +kernel
theorem dX12_answers_16 : decode cX12_answers 16 = .ok (.return_, 1) := by decide +kernel
theorem dX12_answers_17 : decode cX12_answers 17 = .ok (.aload_n 0, 1) := by decide +kernel
theorem dX12_answers_18 : decode cX12_answers 18 = .ok (.iload_n 3, 1) := by decide +kernel
theorem dX12_answers_19 : decode cX12_answers 19 = .ok (.bipush 20, 2) := by decide +kernel
theorem dX12_answers_21 : decode cX12_answers 21 = .ok (.if_icmp .ne 12, 3) := by decide +kernel
theorem dX12_answers_24 : decode cX12_answers 24 = .ok (.aload_n 0, 1) := by decide +kernel
theorem dX12_answers_25 : decode cX12_answers 25 = .ok (.getfield 154, 3) := by decide +kernel
theorem dX12_answers_28 : decode cX12_answers 28 = .ok (.iload_n 1, 1) := by decide +kernel
theorem dX12_answers_29 : decode cX12_answers 29 = .ok (.iaload, 1) := by decide +kernel
theorem dX12_answers_30 : decode cX12_answers 30 = .ok (.goto 42, 3) := by decide +kernel
theorem dX12_answers_33 : decode cX12_answers 33 = .ok (.iload_n 3, 1) := by decide +kernel
theorem dX12_answers_34 : decode cX12_answers 34 = .ok (.bipush 21, 2) := by decide +kernel
theorem dX12_answers_36 : decode cX12_answers 36 = .ok (.if_icmp .ne 15, 3) := by decide +kernel
theorem dX12_answers_39 : decode cX12_answers 39 = .ok (.aload_n 0, 1) := by decide +kernel
theorem dX12_answers_40 : decode cX12_answers 40 = .ok (.getfield 164, 3) := by decide +kernel
theorem dX12_answers_43 : decode cX12_answers 43 = .ok (.iload_n 1, 1) := by decide +kernel
theorem dX12_answers_44 : decode cX12_answers 44 = .ok (.iaload, 1) := by decide +kernel
theorem dX12_answers_45 : decode cX12_answers 45 = .ok (.bipush 10, 2) := by decide +kernel
theorem dX12_answers_47 : decode cX12_answers 47 = .ok (.idiv, 1) := by decide +kernel
theorem dX12_answers_48 : decode cX12_answers 48 = .ok (.goto 24, 3) := by decide +kernel
theorem dX12_answers_51 : decode cX12_answers 51 = .ok (.iload_n 3, 1) := by decide +kernel
theorem dX12_answers_52 : decode cX12_answers 52 = .ok (.bipush 23, 2) := by decide +kernel
theorem dX12_answers_54 : decode cX12_answers 54 = .ok (.if_icmp .ne 12, 3) := by decide +kernel
theorem dX12_answers_57 : decode cX12_answers 57 = .ok (.aload_n 0, 1) := by decide +kernel
theorem dX12_answers_58 : decode cX12_answers 58 = .ok (.getfield 167, 3) := by decide +kernel
theorem dX12_answers_61 : decode cX12_answers 61 = .ok (.iload_n 1, 1) := by decide +kernel
theorem dX12_answers_62 : decode cX12_answers 62 = .ok (.iaload, 1) := by decide +kernel
theorem dX12_answers_63 : decode cX12_answers 63 = .ok (.goto 9, 3) := by decide +kernel
theorem dX12_answers_66 : decode cX12_answers 66 = .ok (.aload_n 0, 1) := by decide +kernel
theorem dX12_answers_67 : decode cX12_answers 67 = .ok (.getfield 161, 3) := by decide +kernel
theorem dX12_answers_70 : decode cX12_answers 70 = .ok (.iload_n 1, 1) := by decide +kernel
theorem dX12_answers_71 : decode cX12_answers 71 = .ok (.iaload, 1) := by decide +kernel
theorem dX12_answers_72 : decode cX12_answers 72 = .ok (.invokevirtual 708, 3) := by decide +kernel
theorem dX12_answers_75 : decode cX12_answers 75 = .ok (.return_, 1) := by decide +kernel
def wX12_answers_b72 (a0 : Nat) (x1 : Int32) (x2 : Int32) (x3 : Int32) (xt0 : Int32) (at1 : Nat)  (Sn : kp_S) (post : kp_S → Prop) : Prop :=
  wX12_push at1 xt0 Sn (fun T1001 =>
  post T1001)
def wX12_answers (a0 : Nat) (x1 : Int32) (x2 : Int32) (x3 : Int32) (S : kp_S) (post : kp_S → Prop) : Prop :=
  wX12_in x1 0 (x2 - 1) S (fun y2 T1 =>
  ((¬ y2 = 0 →
  ((¬ x3 = 20 →
  ((¬ x3 = 21 →
  ((¬ x3 = 23 →
  ∃ b3 : Nat, kp_R T1 2465 a0 = some b3 ∧
  vp_in x1 (kp_N T1 b3) ∧
  wX12_answers_b72 a0 x1 x2 x3 (kp_A T1 b3 x1.toNatClampNeg) a0  T1 post) ∧ (x3 = 23 →
  ∃ b4 : Nat, kp_R T1 2467 a0 = some b4 ∧
  vp_in x1 (kp_N T1 b4) ∧
  wX12_answers_b72 a0 x1 x2 x3 (kp_A T1 b4 x1.toNatClampNeg) a0  T1 post))) ∧ (x3 = 21 →
  ∃ b6 : Nat, kp_R T1 2466 a0 = some b6 ∧
  vp_in x1 (kp_N T1 b6) ∧
  wX12_answers_b72 a0 x1 x2 x3 ((kp_A T1 b6 x1.toNatClampNeg) / 10) a0  T1 post))) ∧ (x3 = 20 →
  ∃ b8 : Nat, kp_R T1 2463 a0 = some b8 ∧
  vp_in x1 (kp_N T1 b8) ∧
  wX12_answers_b72 a0 x1 x2 x3 (kp_A T1 b8 x1.toNatClampNeg) a0  T1 post))) ∧ (y2 = 0 →
  wX12_trouble a0 3 T1 (fun T10 =>
  post T10))))
set_option maxHeartbeats 4000000 in
set_option maxRecDepth 100000 in
theorem c_X12_answers (l : Launch) (D : va_G) (cy : Nat → ClassId) (ad : (Nat → Nat) × (Nat → Nat)) (S : kp_S) (a0 : Nat) (x1 : Int32) (x2 : Int32) (x3 : Int32) (post : kp_S → Prop) (hS : kp_ok S) (f_a0 : kp_is S a0 12) (hw : wX12_answers a0 x1 x2 x3 S post) : kp_M l yX12_answers cX12_answers 4 none { frames := 6, cells := 0, slots := 0, locals := 130 } D cy ad S [.ref a0, .int x1, .int x2, .int x3] 0 0 (fun A => kp_Qv D cy A S post) := by
  refine kp_start (own := RX12) (by decide) rfl (Nat.le_of_ble_eq_true rfl) hS ?_
  intro p e s m below meth c A ls X hr hlocks hname h hl
  have hle : kp_le S S := kp_le.rf
  have hl : lv_has ls 4 [(0, .ref a0), (1, .int x1), (2, .int x2), (3, .int x3)] := hl
  have j72 : ∀ (xt0 : Int32) (at1 : Nat) (Sn : kp_S) (H : Heap) (locs : List Loc) (ls : Array Slot), lv_has ls 4 [] → kp_H D cy A Sn s.heap H locs → kp_le S Sn → kp_is Sn at1 12 → kp_is Sn a0 12 → wX12_answers_b72 a0 x1 x2 x3 xt0 at1  Sn post → W p l e { frames := 6, cells := 0, slots := 0, locals := 130 } s m ([.ref a0, .int x1, .int x2, .int x3] : List Value).toArray below meth c H locs 0 0 (MQ below (kp_Qv D cy A S post) ([.ref a0, .int x1, .int x2, .int x3] : List Value).toArray s 0 0 A) (F0 m 72 ls [.int xt0, .ref at1]) := by
    intro xt0 at1 Sn H locs ls hl h hle f_at1 f_a0 hw
    unfold wX12_answers_b72 at hw
    refine kp_callv X h (kp_runV (rm := { frames := 0, cells := 0, slots := 0, locals := 0 }) (mc := 0) (ms := 0) (rest := []) (Qc := fun A => kp_Qv D cy A Sn _) X h (c_X12_push l D cy ad Sn at1 xt0 _ h.2.2.2 f_at1 hw) f_at1 cv_12_708 ⟨by decide, by decide, rfl, rfl, by decide, by decide⟩ rfl hl.1 rfl (Nat.le_of_ble_eq_true rfl) dX12_answers_72) (fun T1001 hw l_T1001 H locs h => ?_)
    have f_at1 := l_T1001.is f_at1
    have f_a0 := l_T1001.is f_a0
    have hle := hle.tr l_T1001
    exact kp_retv X hr hlocks h hle hw dX12_answers_75
  unfold wX12_answers at hw
  have h : kp_H D cy A S s.heap s.heap [] := h
  revert h
  intro h
  refine lv_iload_n X.1 X.2.1 dX12_answers_0 rfl (lv_at hl 1 rfl) ?_
  refine lv_iconst (v := 0) X.1 X.2.1 dX12_answers_1 (by decide) ?_
  refine lv_iload_n X.1 X.2.1 dX12_answers_2 rfl (lv_at hl 2 rfl) ?_
  refine lv_iconst (v := 1) X.1 X.2.1 dX12_answers_3 (by decide) ?_
  refine lv_isub X.1 X.2.1 dX12_answers_4 ?_
  refine kp_calli X h (kp_runS (rm := { frames := 0, cells := 0, slots := 0, locals := 0 }) (mc := 0) (ms := 0) (rest := []) (Qc := fun A => kp_Qi D cy A S _) X h (c_X12_in l D cy ad S x1 0 (x2 - 1) _ h.2.2.2  hw) cs_12_589 ⟨by decide, by decide, rfl, rfl, by decide, by decide⟩ rfl hl.1 rfl (Nat.le_of_ble_eq_true rfl) dX12_answers_5) (fun y2 T1 hw l_T1 H locs h => ?_)
  have f_a0 := l_T1.is f_a0
  have hle := hle.tr l_T1
  refine lv_if_ne (tgt := 17) X.1 X.2.1 dX12_answers_8 (by decide) (fun c11 => ?_) (fun c11 => ?_)
  · have hw := hw.1 c11
    refine lv_aload_n X.1 X.2.1 dX12_answers_17 rfl (lv_at hl 0 rfl) ?_
    refine lv_iload_n X.1 X.2.1 dX12_answers_18 rfl (lv_at hl 3 rfl) ?_
    refine lv_bipush (v := 20) X.1 X.2.1 dX12_answers_19 (by decide) ?_
    refine lv_icmp_ne (tgt := 33) X.1 X.2.1 dX12_answers_21 (by decide) (fun c9 => ?_) (fun c9 => ?_)
    · have hw := hw.1 c9
      refine lv_iload_n X.1 X.2.1 dX12_answers_33 rfl (lv_at hl 3 rfl) ?_
      refine lv_bipush (v := 21) X.1 X.2.1 dX12_answers_34 (by decide) ?_
      refine lv_icmp_ne (tgt := 51) X.1 X.2.1 dX12_answers_36 (by decide) (fun c7 => ?_) (fun c7 => ?_)
      · have hw := hw.1 c7
        refine lv_iload_n X.1 X.2.1 dX12_answers_51 rfl (lv_at hl 3 rfl) ?_
        refine lv_bipush (v := 23) X.1 X.2.1 dX12_answers_52 (by decide) ?_
        refine lv_icmp_ne (tgt := 66) X.1 X.2.1 dX12_answers_54 (by decide) (fun c5 => ?_) (fun c5 => ?_)
        · have hw := hw.1 c5
          refine lv_aload_n X.1 X.2.1 dX12_answers_66 rfl (lv_at hl 0 rfl) ?_
          obtain ⟨b3, e_b3, hw⟩ := hw
          have f_b3 := h.2.2.2.rf (c := 12) (k := 65) f_a0 (by decide) (by decide) e_b3 (t := 14) rfl
          refine kp_get X h f_a0 ff_12_161.l (v := .ref b3) (congrArg va_rf e_b3) dX12_answers_67 ?_
          refine lv_iload_n X.1 X.2.1 dX12_answers_70 rfl (lv_at hl 1 rfl) ?_
          obtain ⟨hi, hw⟩ := hw
          refine kp_iald X h f_b3 hi dX12_answers_71 ?_
          exact j72 (kp_A T1 b3 x1.toNatClampNeg) a0 T1 _ _ ls (lv_sub hl [] rfl) h hle f_a0 f_a0 hw
        · have hw := hw.2 c5
          refine lv_aload_n X.1 X.2.1 dX12_answers_57 rfl (lv_at hl 0 rfl) ?_
          obtain ⟨b4, e_b4, hw⟩ := hw
          have f_b4 := h.2.2.2.rf (c := 12) (k := 67) f_a0 (by decide) (by decide) e_b4 (t := 14) rfl
          refine kp_get X h f_a0 ff_12_167.l (v := .ref b4) (congrArg va_rf e_b4) dX12_answers_58 ?_
          refine lv_iload_n X.1 X.2.1 dX12_answers_61 rfl (lv_at hl 1 rfl) ?_
          obtain ⟨hi, hw⟩ := hw
          refine kp_iald X h f_b4 hi dX12_answers_62 ?_
          refine lv_goto (tgt := 72) X.1 X.2.1 dX12_answers_63 (by decide) ?_
          exact j72 (kp_A T1 b4 x1.toNatClampNeg) a0 T1 _ _ ls (lv_sub hl [] rfl) h hle f_a0 f_a0 hw
      · have hw := hw.2 c7
        refine lv_aload_n X.1 X.2.1 dX12_answers_39 rfl (lv_at hl 0 rfl) ?_
        obtain ⟨b6, e_b6, hw⟩ := hw
        have f_b6 := h.2.2.2.rf (c := 12) (k := 66) f_a0 (by decide) (by decide) e_b6 (t := 14) rfl
        refine kp_get X h f_a0 ff_12_164.l (v := .ref b6) (congrArg va_rf e_b6) dX12_answers_40 ?_
        refine lv_iload_n X.1 X.2.1 dX12_answers_43 rfl (lv_at hl 1 rfl) ?_
        obtain ⟨hi, hw⟩ := hw
        refine kp_iald X h f_b6 hi dX12_answers_44 ?_
        refine lv_bipush (v := 10) X.1 X.2.1 dX12_answers_45 (by decide) ?_
        refine lv_idiv X.1 X.2.1 dX12_answers_47 (by decide) ?_
        refine lv_goto (tgt := 72) X.1 X.2.1 dX12_answers_48 (by decide) ?_
        exact j72 ((kp_A T1 b6 x1.toNatClampNeg) / 10) a0 T1 _ _ ls (lv_sub hl [] rfl) h hle f_a0 f_a0 hw
    · have hw := hw.2 c9
      refine lv_aload_n X.1 X.2.1 dX12_answers_24 rfl (lv_at hl 0 rfl) ?_
      obtain ⟨b8, e_b8, hw⟩ := hw
      have f_b8 := h.2.2.2.rf (c := 12) (k := 63) f_a0 (by decide) (by decide) e_b8 (t := 14) rfl
      refine kp_get X h f_a0 ff_12_154.l (v := .ref b8) (congrArg va_rf e_b8) dX12_answers_25 ?_
      refine lv_iload_n X.1 X.2.1 dX12_answers_28 rfl (lv_at hl 1 rfl) ?_
      obtain ⟨hi, hw⟩ := hw
      refine kp_iald X h f_b8 hi dX12_answers_29 ?_
      refine lv_goto (tgt := 72) X.1 X.2.1 dX12_answers_30 (by decide) ?_
      exact j72 (kp_A T1 b8 x1.toNatClampNeg) a0 T1 _ _ ls (lv_sub hl [] rfl) h hle f_a0 f_a0 hw
  · have hw := hw.2 c11
    refine lv_aload_n X.1 X.2.1 dX12_answers_11 rfl (lv_at hl 0 rfl) ?_
    refine lv_iconst (v := 3) X.1 X.2.1 dX12_answers_12 (by decide) ?_
    refine kp_callv X h (kp_runV (rm := { frames := 5, cells := 0, slots := 0, locals := 108 }) (mc := 0) (ms := 0) (rest := []) (Qc := fun A => kp_Qv D cy A T1 _) X h (c_X12_trouble l D cy ad T1 a0 3 _ h.2.2.2 f_a0 hw) f_a0 cv_12_696 ⟨by decide, by decide, rfl, rfl, by decide, by decide⟩ rfl hl.1 rfl (Nat.le_of_ble_eq_true rfl) dX12_answers_13) (fun T10 hw l_T10 H locs h => ?_)
    have f_a0 := l_T10.is f_a0
    have hle := hle.tr l_T10
    exact kp_retv X hr hlocks h hle hw dX12_answers_16
theorem dX12_answersGate_0 : decode cX12_answersGate 0 = .ok (.aload_n 0, 1) := by decide +kernel
theorem dX12_answersGate_1 : decode cX12_answersGate 1 = .ok (.invokevirtual 718, 3) := by decide +kernel
theorem dX12_answersGate_4 : decode cX12_answersGate 4 = .ok (.istore_n 1, 1) := by decide +kernel
theorem dX12_answersGate_5 : decode cX12_answersGate 5 = .ok (.aload_n 0, 1) := by decide +kernel
theorem dX12_answersGate_6 : decode cX12_answersGate 6 = .ok (.invokevirtual 718, 3) := by decide +kernel
theorem dX12_answersGate_9 : decode cX12_answersGate 9 = .ok (.istore_n 2, 1) := by decide +kernel
theorem dX12_answersGate_10 : decode cX12_answersGate 10 = .ok (.iload_n 2, 1) := by decide +kernel
theorem dX12_answersGate_11 : decode cX12_answersGate 11 = .ok (.iconst 0, 1) := by decide +kernel
theorem dX12_answersGate_12 : decode cX12_answersGate 12 = .ok (.iconst 5, 1) := by decide +kernel
theorem dX12_answersGate_13 : decode cX12_answersGate 13 = .ok (.invokestatic 589, 3) := by decide +kernel
theorem dX12_answersGate_16 : decode cX12_answersGate 16 = .ok (.ifCond .eq 12, 3) := by decide +kernel
theorem dX12_answersGate_19 : decode cX12_answersGate 19 = .ok (.iload_n 1, 1) := by decide +kernel
theorem dX12_answersGate_20 : decode cX12_answersGate 20 = .ok (.iconst 0, 1) := by decide +kernel
theorem dX12_answersGate_21 : decode cX12_answersGate 21 = .ok (.iconst 1, 1) := by decide +kernel
theorem dX12_answersGate_22 : decode cX12_answersGate 22 = .ok (.invokestatic 589, 3) := by decide +kernel
theorem dX12_answersGate_25 : decode cX12_answersGate 25 = .ok (.ifCond .ne 9, 3) := by decide +kernel
theorem dX12_answersGate_28 : decode cX12_answersGate 28 = .ok (.aload_n 0, 1) := by decide +kernel
theorem dX12_answersGate_29 : decode cX12_answersGate 29 = .ok (.iconst 3, 1) := by decide +kernel
theorem dX12_answersGate_30 : decode cX12_answersGate 30 = .ok (.invokevirtual 696, 3) := by decide +kernel
theorem dX12_answersGate_33 : decode cX12_answersGate 33 = .ok (.return_, 1) := by decide +kernel
theorem dX12_answersGate_34 : decode cX12_answersGate 34 = .ok (.aload_n 0, 1) := by decide +kernel
theorem dX12_answersGate_35 : decode cX12_answersGate 35 = .ok (.aload_n 0, 1) := by decide +kernel
theorem dX12_answersGate_36 : decode cX12_answersGate 36 = .ok (.getfield 157, 3) := by decide +kernel
theorem dX12_answersGate_39 : decode cX12_answersGate 39 = .ok (.iconst 2, 1) := by decide +kernel
theorem dX12_answersGate_40 : decode cX12_answersGate 40 = .ok (.iload_n 2, 1) := by decide +kernel
theorem dX12_answersGate_41 : decode cX12_answersGate 41 = .ok (.imul, 1) := by decide +kernel
theorem dX12_answersGate_42 : decode cX12_answersGate 42 = .ok (.iload_n 1, 1) := by decide +kernel
theorem dX12_answersGate_43 : decode cX12_answersGate 43 = .ok (.iadd, 1) := by decide +kernel
theorem dX12_answersGate_44 : decode cX12_answersGate 44 = .ok (.baload, 1) := by decide +kernel
theorem dX12_answersGate_45 : decode cX12_answersGate 45 = .ok (.ifCond .eq 7, 3) := by decide +kernel
theorem dX12_answersGate_48 : decode cX12_answersGate 48 = .ok (.iconst 1, 1) := by decide +kernel
theorem dX12_answersGate_49 : decode cX12_answersGate 49 = .ok (.goto 4, 3) := by decide +kernel
theorem dX12_answersGate_52 : decode cX12_answersGate 52 = .ok (.iconst 0, 1) := by decide +kernel
theorem dX12_answersGate_53 : decode cX12_answersGate 53 = .ok (.invokevirtual 708, 3) := by decide +kernel
theorem dX12_answersGate_56 : decode cX12_answersGate 56 = .ok (.return_, 1) := by decide +kernel
def wX12_answersGate_b28 (a0 : Nat)  (Sn : kp_S) (post : kp_S → Prop) : Prop :=
  wX12_trouble a0 3 Sn (fun T1001 =>
  post T1001)
def wX12_answersGate_b53 (a0 : Nat) (xt0 : Int32) (at1 : Nat)  (Sn : kp_S) (post : kp_S → Prop) : Prop :=
  wX12_push at1 xt0 Sn (fun T2001 =>
  post T2001)
def wX12_answersGate (a0 : Nat) (S : kp_S) (post : kp_S → Prop) : Prop :=
  wX12_pop a0 S (fun y2 T1 =>
  wX12_pop a0 T1 (fun y4 T3 =>
  wX12_in y4 0 5 T3 (fun y6 T5 =>
  ((y6 = 0 →
  wX12_answersGate_b28 a0   T5 post) ∧ (¬ y6 = 0 →
  wX12_in y2 0 1 T5 (fun y8 T7 =>
  ((¬ y8 = 0 →
  ∃ b9 : Nat, kp_R T7 2464 a0 = some b9 ∧
  vp_in ((2 * y4) + y2) (kp_N T7 b9) ∧
  (((kp_A T7 b9 ((2 * y4) + y2).toNatClampNeg) = 0 →
  wX12_answersGate_b53 a0 0 a0  T7 post) ∧ (¬ (kp_A T7 b9 ((2 * y4) + y2).toNatClampNeg) = 0 →
  wX12_answersGate_b53 a0 1 a0  T7 post))) ∧ (y8 = 0 →
  wX12_answersGate_b28 a0   T7 post))))))))
set_option maxHeartbeats 4000000 in
set_option maxRecDepth 100000 in
theorem c_X12_answersGate (l : Launch) (D : va_G) (cy : Nat → ClassId) (ad : (Nat → Nat) × (Nat → Nat)) (S : kp_S) (a0 : Nat) (post : kp_S → Prop) (hS : kp_ok S) (f_a0 : kp_is S a0 12) (hw : wX12_answersGate a0 S post) : kp_M l yX12_answersGate cX12_answersGate 3 none { frames := 6, cells := 0, slots := 0, locals := 130 } D cy ad S [.ref a0] 0 0 (fun A => kp_Qv D cy A S post) := by
  refine kp_start (own := RX12) (by decide) rfl (Nat.le_of_ble_eq_true rfl) hS ?_
  intro p e s m below meth c A ls X hr hlocks hname h hl
  have hle : kp_le S S := kp_le.rf
  have hl : lv_has ls 3 [(0, .ref a0)] := hl
  have j28 : ∀  (Sn : kp_S) (H : Heap) (locs : List Loc) (ls : Array Slot), lv_has ls 3 [(0, .ref a0)] → kp_H D cy A Sn s.heap H locs → kp_le S Sn → kp_is Sn a0 12 → wX12_answersGate_b28 a0   Sn post → W p l e { frames := 6, cells := 0, slots := 0, locals := 130 } s m ([.ref a0] : List Value).toArray below meth c H locs 0 0 (MQ below (kp_Qv D cy A S post) ([.ref a0] : List Value).toArray s 0 0 A) (F0 m 28 ls []) := by
    intro  Sn H locs ls hl h hle f_a0 hw
    unfold wX12_answersGate_b28 at hw
    refine lv_aload_n X.1 X.2.1 dX12_answersGate_28 rfl (lv_at hl 0 rfl) ?_
    refine lv_iconst (v := 3) X.1 X.2.1 dX12_answersGate_29 (by decide) ?_
    refine kp_callv X h (kp_runV (rm := { frames := 5, cells := 0, slots := 0, locals := 108 }) (mc := 0) (ms := 0) (rest := []) (Qc := fun A => kp_Qv D cy A Sn _) X h (c_X12_trouble l D cy ad Sn a0 3 _ h.2.2.2 f_a0 hw) f_a0 cv_12_696 ⟨by decide, by decide, rfl, rfl, by decide, by decide⟩ rfl hl.1 rfl (Nat.le_of_ble_eq_true rfl) dX12_answersGate_30) (fun T1001 hw l_T1001 H locs h => ?_)
    have f_a0 := l_T1001.is f_a0
    have hle := hle.tr l_T1001
    exact kp_retv X hr hlocks h hle hw dX12_answersGate_33
  have j53 : ∀ (xt0 : Int32) (at1 : Nat) (Sn : kp_S) (H : Heap) (locs : List Loc) (ls : Array Slot), lv_has ls 3 [] → kp_H D cy A Sn s.heap H locs → kp_le S Sn → kp_is Sn at1 12 → kp_is Sn a0 12 → wX12_answersGate_b53 a0 xt0 at1  Sn post → W p l e { frames := 6, cells := 0, slots := 0, locals := 130 } s m ([.ref a0] : List Value).toArray below meth c H locs 0 0 (MQ below (kp_Qv D cy A S post) ([.ref a0] : List Value).toArray s 0 0 A) (F0 m 53 ls [.int xt0, .ref at1]) := by
    intro xt0 at1 Sn H locs ls hl h hle f_at1 f_a0 hw
    unfold wX12_answersGate_b53 at hw
    refine kp_callv X h (kp_runV (rm := { frames := 0, cells := 0, slots := 0, locals := 0 }) (mc := 0) (ms := 0) (rest := []) (Qc := fun A => kp_Qv D cy A Sn _) X h (c_X12_push l D cy ad Sn at1 xt0 _ h.2.2.2 f_at1 hw) f_at1 cv_12_708 ⟨by decide, by decide, rfl, rfl, by decide, by decide⟩ rfl hl.1 rfl (Nat.le_of_ble_eq_true rfl) dX12_answersGate_53) (fun T2001 hw l_T2001 H locs h => ?_)
    have f_at1 := l_T2001.is f_at1
    have f_a0 := l_T2001.is f_a0
    have hle := hle.tr l_T2001
    exact kp_retv X hr hlocks h hle hw dX12_answersGate_56
  unfold wX12_answersGate at hw
  have h : kp_H D cy A S s.heap s.heap [] := h
  revert h
  intro h
  refine lv_aload_n X.1 X.2.1 dX12_answersGate_0 rfl (lv_at hl 0 rfl) ?_
  refine kp_calli X h (kp_runV (rm := { frames := 0, cells := 0, slots := 0, locals := 0 }) (mc := 0) (ms := 0) (rest := []) (Qc := fun A => kp_Qi D cy A S _) X h (c_X12_pop l D cy ad S a0 _ h.2.2.2 f_a0 hw) f_a0 cv_12_718 ⟨by decide, by decide, rfl, rfl, by decide, by decide⟩ rfl hl.1 rfl (Nat.le_of_ble_eq_true rfl) dX12_answersGate_1) (fun y2 T1 hw l_T1 H locs h => ?_)
  have f_a0 := l_T1.is f_a0
  have hle := hle.tr l_T1
  refine lv_istore_n (lv' := [(1, .int y2), (0, .ref a0)]) X.1 X.2.1 dX12_answersGate_4 rfl hl (by decide) rfl (fun ls hl => ?_)
  refine lv_aload_n X.1 X.2.1 dX12_answersGate_5 rfl (lv_at hl 1 rfl) ?_
  refine kp_calli X h (kp_runV (rm := { frames := 0, cells := 0, slots := 0, locals := 0 }) (mc := 0) (ms := 0) (rest := []) (Qc := fun A => kp_Qi D cy A T1 _) X h (c_X12_pop l D cy ad T1 a0 _ h.2.2.2 f_a0 hw) f_a0 cv_12_718 ⟨by decide, by decide, rfl, rfl, by decide, by decide⟩ rfl hl.1 rfl (Nat.le_of_ble_eq_true rfl) dX12_answersGate_6) (fun y4 T3 hw l_T3 H locs h => ?_)
  have f_a0 := l_T3.is f_a0
  have hle := hle.tr l_T3
  refine lv_istore_n (lv' := [(2, .int y4), (1, .int y2), (0, .ref a0)]) X.1 X.2.1 dX12_answersGate_9 rfl hl (by decide) rfl (fun ls hl => ?_)
  refine lv_iload_n X.1 X.2.1 dX12_answersGate_10 rfl (lv_at hl 0 rfl) ?_
  refine lv_iconst (v := 0) X.1 X.2.1 dX12_answersGate_11 (by decide) ?_
  refine lv_iconst (v := 5) X.1 X.2.1 dX12_answersGate_12 (by decide) ?_
  refine kp_calli X h (kp_runS (rm := { frames := 0, cells := 0, slots := 0, locals := 0 }) (mc := 0) (ms := 0) (rest := []) (Qc := fun A => kp_Qi D cy A T3 _) X h (c_X12_in l D cy ad T3 y4 0 5 _ h.2.2.2  hw) cs_12_589 ⟨by decide, by decide, rfl, rfl, by decide, by decide⟩ rfl hl.1 rfl (Nat.le_of_ble_eq_true rfl) dX12_answersGate_13) (fun y6 T5 hw l_T5 H locs h => ?_)
  have f_a0 := l_T5.is f_a0
  have hle := hle.tr l_T5
  refine lv_if_eq (tgt := 28) X.1 X.2.1 dX12_answersGate_16 (by decide) (fun c12 => ?_) (fun c12 => ?_)
  · have hw := hw.1 c12
    exact j28  T5 _ _ ls (lv_sub hl [2] rfl) h hle f_a0 hw
  · have hw := hw.2 c12
    refine lv_iload_n X.1 X.2.1 dX12_answersGate_19 rfl (lv_at hl 1 rfl) ?_
    refine lv_iconst (v := 0) X.1 X.2.1 dX12_answersGate_20 (by decide) ?_
    refine lv_iconst (v := 1) X.1 X.2.1 dX12_answersGate_21 (by decide) ?_
    refine kp_calli X h (kp_runS (rm := { frames := 0, cells := 0, slots := 0, locals := 0 }) (mc := 0) (ms := 0) (rest := []) (Qc := fun A => kp_Qi D cy A T5 _) X h (c_X12_in l D cy ad T5 y2 0 1 _ h.2.2.2  hw) cs_12_589 ⟨by decide, by decide, rfl, rfl, by decide, by decide⟩ rfl hl.1 rfl (Nat.le_of_ble_eq_true rfl) dX12_answersGate_22) (fun y8 T7 hw l_T7 H locs h => ?_)
    have f_a0 := l_T7.is f_a0
    have hle := hle.tr l_T7
    refine lv_if_ne (tgt := 34) X.1 X.2.1 dX12_answersGate_25 (by decide) (fun c11 => ?_) (fun c11 => ?_)
    · have hw := hw.1 c11
      refine lv_aload_n X.1 X.2.1 dX12_answersGate_34 rfl (lv_at hl 2 rfl) ?_
      refine lv_aload_n X.1 X.2.1 dX12_answersGate_35 rfl (lv_at hl 2 rfl) ?_
      obtain ⟨b9, e_b9, hw⟩ := hw
      have f_b9 := h.2.2.2.rf (c := 12) (k := 64) f_a0 (by decide) (by decide) e_b9 (t := 16) rfl
      refine kp_get X h f_a0 ff_12_157.l (v := .ref b9) (congrArg va_rf e_b9) dX12_answersGate_36 ?_
      refine lv_iconst (v := 2) X.1 X.2.1 dX12_answersGate_39 (by decide) ?_
      refine lv_iload_n X.1 X.2.1 dX12_answersGate_40 rfl (lv_at hl 0 rfl) ?_
      refine lv_imul X.1 X.2.1 dX12_answersGate_41 ?_
      refine lv_iload_n X.1 X.2.1 dX12_answersGate_42 rfl (lv_at hl 1 rfl) ?_
      refine lv_iadd X.1 X.2.1 dX12_answersGate_43 ?_
      obtain ⟨hi, hw⟩ := hw
      refine kp_zald X h f_b9 hi dX12_answersGate_44 ?_
      refine lv_if_eq (tgt := 52) X.1 X.2.1 dX12_answersGate_45 (by decide) (fun c10 => ?_) (fun c10 => ?_)
      · have hw := hw.1 c10
        refine lv_iconst (v := 0) X.1 X.2.1 dX12_answersGate_52 (by decide) ?_
        exact j53 0 a0 T7 _ _ ls (lv_sub hl [] rfl) h hle f_a0 f_a0 hw
      · have hw := hw.2 c10
        refine lv_iconst (v := 1) X.1 X.2.1 dX12_answersGate_48 (by decide) ?_
        refine lv_goto (tgt := 53) X.1 X.2.1 dX12_answersGate_49 (by decide) ?_
        exact j53 1 a0 T7 _ _ ls (lv_sub hl [] rfl) h hle f_a0 f_a0 hw
    · have hw := hw.2 c11
      exact j28  T7 _ _ ls (lv_sub hl [2] rfl) h hle f_a0 hw
theorem dX12_chooses_0 : decode cX12_chooses 0 = .ok (.iload_n 1, 1) := by decide +kernel
theorem dX12_chooses_1 : decode cX12_chooses 1 = .ok (.ifCond .ne 4, 3) := by decide +kernel
theorem dX12_chooses_4 : decode cX12_chooses 4 = .ok (.return_, 1) := by decide +kernel
theorem dX12_chooses_5 : decode cX12_chooses 5 = .ok (.aload_n 0, 1) := by decide +kernel
theorem dX12_chooses_6 : decode cX12_chooses 6 = .ok (.dup, 1) := by decide +kernel
theorem dX12_chooses_7 : decode cX12_chooses 7 = .ok (.getfield 604, 3) := by decide +kernel
theorem dX12_chooses_10 : decode cX12_chooses 10 = .ok (.iconst 1, 1) := by decide +kernel
theorem dX12_chooses_11 : decode cX12_chooses 11 = .ok (.isub, 1) := by decide +kernel
theorem dX12_chooses_12 : decode cX12_chooses 12 = .ok (.putfield 604, 3) := by decide +kernel
theorem dX12_chooses_15 : decode cX12_chooses 15 = .ok (.aload_n 0, 1) := by decide +kernel
theorem dX12_chooses_16 : decode cX12_chooses 16 = .ok (.iload_n 2, 1) := by decide +kernel
theorem dX12_chooses_17 : decode cX12_chooses 17 = .ok (.putfield 648, 3) := by decide +kernel
theorem dX12_chooses_20 : decode cX12_chooses 20 = .ok (.return_, 1) := by decide +kernel
def wX12_chooses (a0 : Nat) (x1 : Int32) (x2 : Int32) (S : kp_S) (post : kp_S → Prop) : Prop :=
  ((¬ x1 = 0 →
  ∀ T1 : kp_S, T1 = kp_sI S 2516 a0 ((kp_I S 2516 a0) - 1) →
  ∀ T2 : kp_S, T2 = kp_sI T1 2510 a0 x2 →
  post T2) ∧ (x1 = 0 →
  post S))
set_option maxHeartbeats 4000000 in
set_option maxRecDepth 100000 in
theorem c_X12_chooses (l : Launch) (D : va_G) (cy : Nat → ClassId) (ad : (Nat → Nat) × (Nat → Nat)) (S : kp_S) (a0 : Nat) (x1 : Int32) (x2 : Int32) (post : kp_S → Prop) (hS : kp_ok S) (f_a0 : kp_is S a0 12) (hw : wX12_chooses a0 x1 x2 S post) : kp_M l yX12_chooses cX12_chooses 3 none { frames := 0, cells := 0, slots := 0, locals := 0 } D cy ad S [.ref a0, .int x1, .int x2] 0 0 (fun A => kp_Qv D cy A S post) := by
  refine kp_start (own := RX12) (by decide) rfl (Nat.le_of_ble_eq_true rfl) hS ?_
  intro p e s m below meth c A ls X hr hlocks hname h hl
  have hle : kp_le S S := kp_le.rf
  have hl : lv_has ls 3 [(0, .ref a0), (1, .int x1), (2, .int x2)] := hl
  unfold wX12_chooses at hw
  have h : kp_H D cy A S s.heap s.heap [] := h
  revert h
  intro h
  refine lv_iload_n X.1 X.2.1 dX12_chooses_0 rfl (lv_at hl 1 rfl) ?_
  refine lv_if_ne (tgt := 5) X.1 X.2.1 dX12_chooses_1 (by decide) (fun c3 => ?_) (fun c3 => ?_)
  · have hw := hw.1 c3
    refine lv_aload_n X.1 X.2.1 dX12_chooses_5 rfl (lv_at hl 0 rfl) ?_
    refine lv_dup X.1 X.2.1 dX12_chooses_6 rfl ?_
    refine kp_get X h f_a0 fp_12_604.l (v := .int (kp_I S 2516 a0)) rfl dX12_chooses_7 ?_
    refine lv_iconst (v := 1) X.1 X.2.1 dX12_chooses_10 (by decide) ?_
    refine lv_isub X.1 X.2.1 dX12_chooses_11 ?_
    refine kp_putI X h f_a0 fp_12_604 rfl ⟨rfl, rfl⟩ dX12_chooses_12 (fun T1 e_T1 l_T1 H locs h => ?_)
    have hw := hw T1 e_T1
    have f_a0 := l_T1.is f_a0
    have hle := hle.tr l_T1
    refine lv_aload_n X.1 X.2.1 dX12_chooses_15 rfl (lv_at hl 0 rfl) ?_
    refine lv_iload_n X.1 X.2.1 dX12_chooses_16 rfl (lv_at hl 2 rfl) ?_
    refine kp_putI X h f_a0 fp_12_648 rfl ⟨rfl, rfl⟩ dX12_chooses_17 (fun T2 e_T2 l_T2 H locs h => ?_)
    have hw := hw T2 e_T2
    have f_a0 := l_T2.is f_a0
    have hle := hle.tr l_T2
    exact kp_retv X hr hlocks h hle hw dX12_chooses_20
  · have hw := hw.2 c3
    exact kp_retv X hr hlocks h hle hw dX12_chooses_4
theorem dX12_fails_0 : decode cX12_fails 0 = .ok (.aload_n 0, 1) := by decide +kernel
theorem dX12_fails_1 : decode cX12_fails 1 = .ok (.iload_n 1, 1) := by decide +kernel
theorem dX12_fails_2 : decode cX12_fails 2 = .ok (.bipush 10, 2) := by decide +kernel
theorem dX12_fails_4 : decode cX12_fails 4 = .ok (.bipush 99, 2) := by decide +kernel
theorem dX12_fails_6 : decode cX12_fails 6 = .ok (.invokestatic 589, 3) := by decide +kernel
theorem dX12_fails_9 : decode cX12_fails 9 = .ok (.ifCond .eq 7, 3) := by decide +kernel
theorem dX12_fails_12 : decode cX12_fails 12 = .ok (.iload_n 1, 1) := by decide +kernel
theorem dX12_fails_13 : decode cX12_fails 13 = .ok (.goto 5, 3) := by decide +kernel
theorem dX12_fails_16 : decode cX12_fails 16 = .ok (.bipush 10, 2) := by decide +kernel
theorem dX12_fails_18 : decode cX12_fails 18 = .ok (.invokevirtual 696, 3) := by decide +kernel
theorem dX12_fails_21 : decode cX12_fails 21 = .ok (.return_, 1) := by decide +kernel
def wX12_fails_b18 (a0 : Nat) (x1 : Int32) (xt0 : Int32) (at1 : Nat)  (Sn : kp_S) (post : kp_S → Prop) : Prop :=
  wX12_trouble at1 xt0 Sn (fun T1001 =>
  post T1001)
def wX12_fails (a0 : Nat) (x1 : Int32) (S : kp_S) (post : kp_S → Prop) : Prop :=
  wX12_in x1 10 99 S (fun y2 T1 =>
  ((y2 = 0 →
  wX12_fails_b18 a0 x1 10 a0  T1 post) ∧ (¬ y2 = 0 →
  wX12_fails_b18 a0 x1 x1 a0  T1 post)))
set_option maxHeartbeats 4000000 in
set_option maxRecDepth 100000 in
theorem c_X12_fails (l : Launch) (D : va_G) (cy : Nat → ClassId) (ad : (Nat → Nat) × (Nat → Nat)) (S : kp_S) (a0 : Nat) (x1 : Int32) (post : kp_S → Prop) (hS : kp_ok S) (f_a0 : kp_is S a0 12) (hw : wX12_fails a0 x1 S post) : kp_M l yX12_fails cX12_fails 2 none { frames := 6, cells := 0, slots := 0, locals := 130 } D cy ad S [.ref a0, .int x1] 0 0 (fun A => kp_Qv D cy A S post) := by
  refine kp_start (own := RX12) (by decide) rfl (Nat.le_of_ble_eq_true rfl) hS ?_
  intro p e s m below meth c A ls X hr hlocks hname h hl
  have hle : kp_le S S := kp_le.rf
  have hl : lv_has ls 2 [(0, .ref a0), (1, .int x1)] := hl
  have j18 : ∀ (xt0 : Int32) (at1 : Nat) (Sn : kp_S) (H : Heap) (locs : List Loc) (ls : Array Slot), lv_has ls 2 [] → kp_H D cy A Sn s.heap H locs → kp_le S Sn → kp_is Sn at1 12 → kp_is Sn a0 12 → wX12_fails_b18 a0 x1 xt0 at1  Sn post → W p l e { frames := 6, cells := 0, slots := 0, locals := 130 } s m ([.ref a0, .int x1] : List Value).toArray below meth c H locs 0 0 (MQ below (kp_Qv D cy A S post) ([.ref a0, .int x1] : List Value).toArray s 0 0 A) (F0 m 18 ls [.int xt0, .ref at1]) := by
    intro xt0 at1 Sn H locs ls hl h hle f_at1 f_a0 hw
    unfold wX12_fails_b18 at hw
    refine kp_callv X h (kp_runV (rm := { frames := 5, cells := 0, slots := 0, locals := 108 }) (mc := 0) (ms := 0) (rest := []) (Qc := fun A => kp_Qv D cy A Sn _) X h (c_X12_trouble l D cy ad Sn at1 xt0 _ h.2.2.2 f_at1 hw) f_at1 cv_12_696 ⟨by decide, by decide, rfl, rfl, by decide, by decide⟩ rfl hl.1 rfl (Nat.le_of_ble_eq_true rfl) dX12_fails_18) (fun T1001 hw l_T1001 H locs h => ?_)
    have f_at1 := l_T1001.is f_at1
    have f_a0 := l_T1001.is f_a0
    have hle := hle.tr l_T1001
    exact kp_retv X hr hlocks h hle hw dX12_fails_21
  unfold wX12_fails at hw
  have h : kp_H D cy A S s.heap s.heap [] := h
  revert h
  intro h
  refine lv_aload_n X.1 X.2.1 dX12_fails_0 rfl (lv_at hl 0 rfl) ?_
  refine lv_iload_n X.1 X.2.1 dX12_fails_1 rfl (lv_at hl 1 rfl) ?_
  refine lv_bipush (v := 10) X.1 X.2.1 dX12_fails_2 (by decide) ?_
  refine lv_bipush (v := 99) X.1 X.2.1 dX12_fails_4 (by decide) ?_
  refine kp_calli X h (kp_runS (rm := { frames := 0, cells := 0, slots := 0, locals := 0 }) (mc := 0) (ms := 0) (rest := [.ref a0]) (Qc := fun A => kp_Qi D cy A S _) X h (c_X12_in l D cy ad S x1 10 99 _ h.2.2.2  hw) cs_12_589 ⟨by decide, by decide, rfl, rfl, by decide, by decide⟩ rfl hl.1 rfl (Nat.le_of_ble_eq_true rfl) dX12_fails_6) (fun y2 T1 hw l_T1 H locs h => ?_)
  have f_a0 := l_T1.is f_a0
  have hle := hle.tr l_T1
  refine lv_if_eq (tgt := 16) X.1 X.2.1 dX12_fails_9 (by decide) (fun c3 => ?_) (fun c3 => ?_)
  · have hw := hw.1 c3
    refine lv_bipush (v := 10) X.1 X.2.1 dX12_fails_16 (by decide) ?_
    exact j18 10 a0 T1 _ _ ls (lv_sub hl [] rfl) h hle f_a0 f_a0 hw
  · have hw := hw.2 c3
    refine lv_iload_n X.1 X.2.1 dX12_fails_12 rfl (lv_at hl 1 rfl) ?_
    refine lv_goto (tgt := 18) X.1 X.2.1 dX12_fails_13 (by decide) ?_
    exact j18 x1 a0 T1 _ _ ls (lv_sub hl [] rfl) h hle f_a0 f_a0 hw
theorem dX12_rounds_0 : decode cX12_rounds 0 = .ok (.aload_n 0, 1) := by decide +kernel
theorem dX12_rounds_1 : decode cX12_rounds 1 = .ok (.getfield 613, 3) := by decide +kernel
theorem dX12_rounds_4 : decode cX12_rounds 4 = .ok (.iconst 1, 1) := by decide +kernel
theorem dX12_rounds_5 : decode cX12_rounds 5 = .ok (.isub, 1) := by decide +kernel
theorem dX12_rounds_6 : decode cX12_rounds 6 = .ok (.istore_n 3, 1) := by decide +kernel
theorem dX12_rounds_7 : decode cX12_rounds 7 = .ok (.iload_n 2, 1) := by decide +kernel
theorem dX12_rounds_8 : decode cX12_rounds 8 = .ok (.ifCond .ne 20, 3) := by decide +kernel
theorem dX12_rounds_11 : decode cX12_rounds 11 = .ok (.aload_n 0, 1) := by decide +kernel
theorem dX12_rounds_12 : decode cX12_rounds 12 = .ok (.iload_n 3, 1) := by decide +kernel
theorem dX12_rounds_13 : decode cX12_rounds 13 = .ok (.putfield 613, 3) := by decide +kernel
theorem dX12_rounds_16 : decode cX12_rounds 16 = .ok (.aload_n 0, 1) := by decide +kernel
theorem dX12_rounds_17 : decode cX12_rounds 17 = .ok (.iload_n 3, 1) := by decide +kernel
theorem dX12_rounds_18 : decode cX12_rounds 18 = .ok (.aload_n 0, 1) := by decide +kernel
theorem dX12_rounds_19 : decode cX12_rounds 19 = .ok (.getfield 127, 3) := by decide +kernel
theorem dX12_rounds_22 : decode cX12_rounds 22 = .ok (.iload_n 1, 1) := by decide +kernel
theorem dX12_rounds_23 : decode cX12_rounds 23 = .ok (.iaload, 1) := by decide +kernel
theorem dX12_rounds_24 : decode cX12_rounds 24 = .ok (.invokevirtual 666, 3) := by decide +kernel
theorem dX12_rounds_27 : decode cX12_rounds 27 = .ok (.return_, 1) := by decide +kernel
theorem dX12_rounds_28 : decode cX12_rounds 28 = .ok (.aload_n 0, 1) := by decide +kernel
theorem dX12_rounds_29 : decode cX12_rounds 29 = .ok (.getfield 179, 3) := by decide +kernel
theorem dX12_rounds_32 : decode cX12_rounds 32 = .ok (.iload_n 3, 1) := by decide +kernel
theorem dX12_rounds_33 : decode cX12_rounds 33 = .ok (.iconst 1, 1) := by decide +kernel
theorem dX12_rounds_34 : decode cX12_rounds 34 = .ok (.iastore, 1) := by decide +kernel
theorem dX12_rounds_35 : decode cX12_rounds 35 = .ok (.aload_n 0, 1) := by decide +kernel
theorem dX12_rounds_36 : decode cX12_rounds 36 = .ok (.dup, 1) := by decide +kernel
theorem dX12_rounds_37 : decode cX12_rounds 37 = .ok (.getfield 770, 3) := by decide +kernel
theorem dX12_rounds_40 : decode cX12_rounds 40 = .ok (.aload_n 0, 1) := by decide +kernel
theorem dX12_rounds_41 : decode cX12_rounds 41 = .ok (.getfield 124, 3) := by decide +kernel
theorem dX12_rounds_44 : decode cX12_rounds 44 = .ok (.iload_n 1, 1) := by decide +kernel
theorem dX12_rounds_45 : decode cX12_rounds 45 = .ok (.iaload, 1) := by decide +kernel
theorem dX12_rounds_46 : decode cX12_rounds 46 = .ok (.iconst (-1), 1) := by decide +kernel
theorem dX12_rounds_47 : decode cX12_rounds 47 = .ok (.if_icmp .ne 7, 3) := by decide +kernel
theorem dX12_rounds_50 : decode cX12_rounds 50 = .ok (.iconst 0, 1) := by decide +kernel
theorem dX12_rounds_51 : decode cX12_rounds 51 = .ok (.goto 4, 3) := by decide +kernel
theorem dX12_rounds_54 : decode cX12_rounds 54 = .ok (.iconst 1, 1) := by decide +kernel
theorem dX12_rounds_55 : decode cX12_rounds 55 = .ok (.iadd, 1) := by decide +kernel
theorem dX12_rounds_56 : decode cX12_rounds 56 = .ok (.putfield 770, 3) := by decide +kernel
theorem dX12_rounds_59 : decode cX12_rounds 59 = .ok (.return_, 1) := by decide +kernel
def wX12_rounds_b55 (a0 : Nat) (x1 : Int32) (x2 : Int32) (xt0 : Int32) (xt1 : Int32) (at2 : Nat)  (Sn : kp_S) (post : kp_S → Prop) : Prop :=
  ∀ T1001 : kp_S, T1001 = kp_sI Sn 2473 at2 (xt1 + xt0) →
  post T1001
def wX12_rounds (a0 : Nat) (x1 : Int32) (x2 : Int32) (S : kp_S) (post : kp_S → Prop) : Prop :=
  ∀ y1 : Int32, y1 = ((kp_I S 2487 a0) - 1) →
  ((¬ x2 = 0 →
  ∃ b2 : Nat, kp_R S 2489 a0 = some b2 ∧
  vp_in y1 (kp_N S b2) ∧ ∀ T3 : kp_S, T3 = kp_sA S b2 (upd (kp_A S b2) (y1.toNatClampNeg) 1) →
  ∃ b4 : Nat, kp_R T3 2452 a0 = some b4 ∧
  vp_in x1 (kp_N T3 b4) ∧
  ((¬ (kp_A T3 b4 x1.toNatClampNeg) = (-1) →
  wX12_rounds_b55 a0 x1 x2 1 (kp_I T3 2473 a0) a0  T3 post) ∧ ((kp_A T3 b4 x1.toNatClampNeg) = (-1) →
  wX12_rounds_b55 a0 x1 x2 0 (kp_I T3 2473 a0) a0  T3 post))) ∧ (x2 = 0 →
  ∀ T6 : kp_S, T6 = kp_sI S 2487 a0 y1 →
  ∃ b7 : Nat, kp_R T6 2453 a0 = some b7 ∧
  vp_in x1 (kp_N T6 b7) ∧
  wX12_goes a0 y1 (kp_A T6 b7 x1.toNatClampNeg) T6 (fun T8 =>
  post T8)))
set_option maxHeartbeats 4000000 in
set_option maxRecDepth 100000 in
theorem c_X12_rounds (l : Launch) (D : va_G) (cy : Nat → ClassId) (ad : (Nat → Nat) × (Nat → Nat)) (S : kp_S) (a0 : Nat) (x1 : Int32) (x2 : Int32) (post : kp_S → Prop) (hS : kp_ok S) (f_a0 : kp_is S a0 12) (hw : wX12_rounds a0 x1 x2 S post) : kp_M l yX12_rounds cX12_rounds 4 none { frames := 1, cells := 0, slots := 0, locals := 22 } D cy ad S [.ref a0, .int x1, .int x2] 0 0 (fun A => kp_Qv D cy A S post) := by
  refine kp_start (own := RX12) (by decide) rfl (Nat.le_of_ble_eq_true rfl) hS ?_
  intro p e s m below meth c A ls X hr hlocks hname h hl
  have hle : kp_le S S := kp_le.rf
  have hl : lv_has ls 4 [(0, .ref a0), (1, .int x1), (2, .int x2)] := hl
  have j55 : ∀ (xt0 : Int32) (xt1 : Int32) (at2 : Nat) (Sn : kp_S) (H : Heap) (locs : List Loc) (ls : Array Slot), lv_has ls 4 [] → kp_H D cy A Sn s.heap H locs → kp_le S Sn → kp_is Sn at2 12 → kp_is Sn a0 12 → wX12_rounds_b55 a0 x1 x2 xt0 xt1 at2  Sn post → W p l e { frames := 1, cells := 0, slots := 0, locals := 22 } s m ([.ref a0, .int x1, .int x2] : List Value).toArray below meth c H locs 0 0 (MQ below (kp_Qv D cy A S post) ([.ref a0, .int x1, .int x2] : List Value).toArray s 0 0 A) (F0 m 55 ls [.int xt0, .int xt1, .ref at2]) := by
    intro xt0 xt1 at2 Sn H locs ls hl h hle f_at2 f_a0 hw
    unfold wX12_rounds_b55 at hw
    refine lv_iadd X.1 X.2.1 dX12_rounds_55 ?_
    refine kp_putI X h f_at2 fp_12_770 rfl ⟨rfl, rfl⟩ dX12_rounds_56 (fun T1001 e_T1001 l_T1001 H locs h => ?_)
    have hw := hw T1001 e_T1001
    have f_at2 := l_T1001.is f_at2
    have f_a0 := l_T1001.is f_a0
    have hle := hle.tr l_T1001
    exact kp_retv X hr hlocks h hle hw dX12_rounds_59
  unfold wX12_rounds at hw
  have h : kp_H D cy A S s.heap s.heap [] := h
  revert h
  intro h
  refine lv_aload_n X.1 X.2.1 dX12_rounds_0 rfl (lv_at hl 0 rfl) ?_
  refine kp_get X h f_a0 fp_12_613.l (v := .int (kp_I S 2487 a0)) rfl dX12_rounds_1 ?_
  refine lv_iconst (v := 1) X.1 X.2.1 dX12_rounds_4 (by decide) ?_
  refine lv_isub X.1 X.2.1 dX12_rounds_5 ?_
  refine lv_topi (fun y1 e_y1 => ?_)
  have hw := hw y1 e_y1
  refine lv_istore_n (lv' := [(3, .int y1), (0, .ref a0), (1, .int x1), (2, .int x2)]) X.1 X.2.1 dX12_rounds_6 rfl hl (by decide) rfl (fun ls hl => ?_)
  refine lv_iload_n X.1 X.2.1 dX12_rounds_7 rfl (lv_at hl 3 rfl) ?_
  refine lv_if_ne (tgt := 28) X.1 X.2.1 dX12_rounds_8 (by decide) (fun c9 => ?_) (fun c9 => ?_)
  · have hw := hw.1 c9
    refine lv_aload_n X.1 X.2.1 dX12_rounds_28 rfl (lv_at hl 1 rfl) ?_
    obtain ⟨b2, e_b2, hw⟩ := hw
    have f_b2 := h.2.2.2.rf (c := 12) (k := 89) f_a0 (by decide) (by decide) e_b2 (t := 14) rfl
    refine kp_get X h f_a0 ff_12_179.l (v := .ref b2) (congrArg va_rf e_b2) dX12_rounds_29 ?_
    refine lv_iload_n X.1 X.2.1 dX12_rounds_32 rfl (lv_at hl 0 rfl) ?_
    refine lv_iconst (v := 1) X.1 X.2.1 dX12_rounds_33 (by decide) ?_
    obtain ⟨hi, hw⟩ := hw
    refine kp_iast X h f_b2 hi dX12_rounds_34 (fun T3 e_T3 l_T3 H locs h => ?_)
    have hw := hw T3 e_T3
    have f_a0 := l_T3.is f_a0
    have f_b2 := l_T3.is f_b2
    have hle := hle.tr l_T3
    have e_b2 : kp_R T3 2489 a0 = some b2 := by rw [e_T3]; exact e_b2
    refine lv_aload_n X.1 X.2.1 dX12_rounds_35 rfl (lv_at hl 1 rfl) ?_
    refine lv_dup X.1 X.2.1 dX12_rounds_36 rfl ?_
    refine kp_get X h f_a0 fp_12_770.l (v := .int (kp_I T3 2473 a0)) rfl dX12_rounds_37 ?_
    refine lv_aload_n X.1 X.2.1 dX12_rounds_40 rfl (lv_at hl 1 rfl) ?_
    obtain ⟨b4, e_b4, hw⟩ := hw
    have f_b4 := h.2.2.2.rf (c := 12) (k := 52) f_a0 (by decide) (by decide) e_b4 (t := 14) rfl
    refine kp_get X h f_a0 ff_12_124.l (v := .ref b4) (congrArg va_rf e_b4) dX12_rounds_41 ?_
    refine lv_iload_n X.1 X.2.1 dX12_rounds_44 rfl (lv_at hl 2 rfl) ?_
    obtain ⟨hi, hw⟩ := hw
    refine kp_iald X h f_b4 hi dX12_rounds_45 ?_
    refine lv_iconst (v := (-1)) X.1 X.2.1 dX12_rounds_46 (by decide) ?_
    refine lv_icmp_ne (tgt := 54) X.1 X.2.1 dX12_rounds_47 (by decide) (fun c5 => ?_) (fun c5 => ?_)
    · have hw := hw.1 c5
      refine lv_iconst (v := 1) X.1 X.2.1 dX12_rounds_54 (by decide) ?_
      exact j55 1 (kp_I T3 2473 a0) a0 T3 _ _ ls (lv_sub hl [] rfl) h hle f_a0 f_a0 hw
    · have hw := hw.2 c5
      refine lv_iconst (v := 0) X.1 X.2.1 dX12_rounds_50 (by decide) ?_
      refine lv_goto (tgt := 55) X.1 X.2.1 dX12_rounds_51 (by decide) ?_
      exact j55 0 (kp_I T3 2473 a0) a0 T3 _ _ ls (lv_sub hl [] rfl) h hle f_a0 f_a0 hw
  · have hw := hw.2 c9
    refine lv_aload_n X.1 X.2.1 dX12_rounds_11 rfl (lv_at hl 1 rfl) ?_
    refine lv_iload_n X.1 X.2.1 dX12_rounds_12 rfl (lv_at hl 0 rfl) ?_
    refine kp_putI X h f_a0 fp_12_613 rfl ⟨rfl, rfl⟩ dX12_rounds_13 (fun T6 e_T6 l_T6 H locs h => ?_)
    have hw := hw T6 e_T6
    have f_a0 := l_T6.is f_a0
    have hle := hle.tr l_T6
    refine lv_aload_n X.1 X.2.1 dX12_rounds_16 rfl (lv_at hl 1 rfl) ?_
    refine lv_iload_n X.1 X.2.1 dX12_rounds_17 rfl (lv_at hl 0 rfl) ?_
    refine lv_aload_n X.1 X.2.1 dX12_rounds_18 rfl (lv_at hl 1 rfl) ?_
    obtain ⟨b7, e_b7, hw⟩ := hw
    have f_b7 := h.2.2.2.rf (c := 12) (k := 53) f_a0 (by decide) (by decide) e_b7 (t := 14) rfl
    refine kp_get X h f_a0 ff_12_127.l (v := .ref b7) (congrArg va_rf e_b7) dX12_rounds_19 ?_
    refine lv_iload_n X.1 X.2.1 dX12_rounds_22 rfl (lv_at hl 2 rfl) ?_
    obtain ⟨hi, hw⟩ := hw
    refine kp_iald X h f_b7 hi dX12_rounds_23 ?_
    refine kp_callv X h (kp_runV (rm := { frames := 0, cells := 0, slots := 0, locals := 0 }) (mc := 0) (ms := 0) (rest := []) (Qc := fun A => kp_Qv D cy A T6 _) X h (c_X12_goes l D cy ad T6 a0 y1 (kp_A T6 b7 x1.toNatClampNeg) _ h.2.2.2 f_a0 hw) f_a0 cv_12_666 ⟨by decide, by decide, rfl, rfl, by decide, by decide⟩ rfl hl.1 rfl (Nat.le_of_ble_eq_true rfl) dX12_rounds_24) (fun T8 hw l_T8 H locs h => ?_)
    have f_a0 := l_T8.is f_a0
    have f_b7 := l_T8.is f_b7
    have hle := hle.tr l_T8
    exact kp_retv X hr hlocks h hle hw dX12_rounds_27
theorem dX12_beginsEach_0 : decode cX12_beginsEach 0 = .ok (.aload_n 0, 1) := by decide +kernel
theorem dX12_beginsEach_1 : decode cX12_beginsEach 1 = .ok (.invokevirtual 718, 3) := by decide +kernel
theorem dX12_beginsEach_4 : decode cX12_beginsEach 4 = .ok (.istore_n 2, 1) := by decide +kernel
theorem dX12_beginsEach_5 : decode cX12_beginsEach 5 = .ok (.aload_n 0, 1) := by decide +kernel
theorem dX12_beginsEach_6 : decode cX12_beginsEach 6 = .ok (.invokevirtual 718, 3) := by decide +kernel
theorem dX12_beginsEach_9 : decode cX12_beginsEach 9 = .ok (.istore_n 3, 1) := by decide +kernel
theorem dX12_beginsEach_10 : decode cX12_beginsEach 10 = .ok (.aload_n 0, 1) := by decide +kernel
theorem dX12_beginsEach_11 : decode cX12_beginsEach 11 = .ok (.iconst 3, 1) := by decide +kernel
theorem dX12_beginsEach_12 : decode cX12_beginsEach 12 = .ok (.iconst 0, 1) := by decide +kernel
theorem dX12_beginsEach_13 : decode cX12_beginsEach 13 = .ok (.iload_n 1, 1) := by decide +kernel
theorem dX12_beginsEach_14 : decode cX12_beginsEach 14 = .ok (.invokevirtual 714, 3) := by decide +kernel
theorem dX12_beginsEach_17 : decode cX12_beginsEach 17 = .ok (.aload_n 0, 1) := by decide +kernel
theorem dX12_beginsEach_18 : decode cX12_beginsEach 18 = .ok (.getfield 191, 3) := by decide +kernel
theorem dX12_beginsEach_21 : decode cX12_beginsEach 21 = .ok (.aload_n 0, 1) := by decide +kernel
theorem dX12_beginsEach_22 : decode cX12_beginsEach 22 = .ok (.getfield 613, 3) := by decide +kernel
theorem dX12_beginsEach_25 : decode cX12_beginsEach 25 = .ok (.iconst 1, 1) := by decide +kernel
theorem dX12_beginsEach_26 : decode cX12_beginsEach 26 = .ok (.isub, 1) := by decide +kernel
theorem dX12_beginsEach_27 : decode cX12_beginsEach 27 = .ok (.iload_n 3, 1) := by decide +kernel
theorem dX12_beginsEach_28 : decode cX12_beginsEach 28 = .ok (.i2l, 1) := by decide +kernel
theorem dX12_beginsEach_29 : decode cX12_beginsEach 29 = .ok (.lastore, 1) := by decide +kernel
theorem dX12_beginsEach_30 : decode cX12_beginsEach 30 = .ok (.aload_n 0, 1) := by decide +kernel
theorem dX12_beginsEach_31 : decode cX12_beginsEach 31 = .ok (.getfield 194, 3) := by decide +kernel
theorem dX12_beginsEach_34 : decode cX12_beginsEach 34 = .ok (.aload_n 0, 1) := by decide +kernel
theorem dX12_beginsEach_35 : decode cX12_beginsEach 35 = .ok (.getfield 613, 3) := by decide +kernel
theorem dX12_beginsEach_38 : decode cX12_beginsEach 38 = .ok (.iconst 1, 1) := by decide +kernel
theorem dX12_beginsEach_39 : decode cX12_beginsEach 39 = .ok (.isub, 1) := by decide +kernel
theorem dX12_beginsEach_40 : decode cX12_beginsEach 40 = .ok (.iload_n 2, 1) := by decide +kernel
theorem dX12_beginsEach_41 : decode cX12_beginsEach 41 = .ok (.i2l, 1) := by decide +kernel
theorem dX12_beginsEach_42 : decode cX12_beginsEach 42 = .ok (.lastore, 1) := by decide +kernel
theorem dX12_beginsEach_43 : decode cX12_beginsEach 43 = .ok (.return_, 1) := by decide +kernel
def wX12_beginsEach (a0 : Nat) (x1 : Int32) (S : kp_S) (post : kp_S → Prop) : Prop :=
  wX12_pop a0 S (fun y2 T1 =>
  wX12_pop a0 T1 (fun y4 T3 =>
  wX12_opens a0 3 0 x1 T3 (fun T5 =>
  ∃ b6 : Nat, kp_R T5 2493 a0 = some b6 ∧
  vp_in ((kp_I T5 2487 a0) - 1) (kp_N T5 b6) ∧ ∀ T7 : kp_S, T7 = kp_sB T5 b6 (vp_updL (kp_B T5 b6) (((kp_I T5 2487 a0) - 1).toNatClampNeg) ((y4 : Int32).toInt64)) →
  ∃ b8 : Nat, kp_R T7 2494 a0 = some b8 ∧
  vp_in ((kp_I T7 2487 a0) - 1) (kp_N T7 b8) ∧ ∀ T9 : kp_S, T9 = kp_sB T7 b8 (vp_updL (kp_B T7 b8) (((kp_I T7 2487 a0) - 1).toNatClampNeg) ((y2 : Int32).toInt64)) →
  post T9)))
set_option maxHeartbeats 4000000 in
set_option maxRecDepth 100000 in
theorem c_X12_beginsEach (l : Launch) (D : va_G) (cy : Nat → ClassId) (ad : (Nat → Nat) × (Nat → Nat)) (S : kp_S) (a0 : Nat) (x1 : Int32) (post : kp_S → Prop) (hS : kp_ok S) (f_a0 : kp_is S a0 12) (hw : wX12_beginsEach a0 x1 S post) : kp_M l yX12_beginsEach cX12_beginsEach 4 none { frames := 1, cells := 0, slots := 0, locals := 23 } D cy ad S [.ref a0, .int x1] 0 0 (fun A => kp_Qv D cy A S post) := by
  refine kp_start (own := RX12) (by decide) rfl (Nat.le_of_ble_eq_true rfl) hS ?_
  intro p e s m below meth c A ls X hr hlocks hname h hl
  have hle : kp_le S S := kp_le.rf
  have hl : lv_has ls 4 [(0, .ref a0), (1, .int x1)] := hl
  unfold wX12_beginsEach at hw
  have h : kp_H D cy A S s.heap s.heap [] := h
  revert h
  intro h
  refine lv_aload_n X.1 X.2.1 dX12_beginsEach_0 rfl (lv_at hl 0 rfl) ?_
  refine kp_calli X h (kp_runV (rm := { frames := 0, cells := 0, slots := 0, locals := 0 }) (mc := 0) (ms := 0) (rest := []) (Qc := fun A => kp_Qi D cy A S _) X h (c_X12_pop l D cy ad S a0 _ h.2.2.2 f_a0 hw) f_a0 cv_12_718 ⟨by decide, by decide, rfl, rfl, by decide, by decide⟩ rfl hl.1 rfl (Nat.le_of_ble_eq_true rfl) dX12_beginsEach_1) (fun y2 T1 hw l_T1 H locs h => ?_)
  have f_a0 := l_T1.is f_a0
  have hle := hle.tr l_T1
  refine lv_istore_n (lv' := [(2, .int y2), (0, .ref a0), (1, .int x1)]) X.1 X.2.1 dX12_beginsEach_4 rfl hl (by decide) rfl (fun ls hl => ?_)
  refine lv_aload_n X.1 X.2.1 dX12_beginsEach_5 rfl (lv_at hl 1 rfl) ?_
  refine kp_calli X h (kp_runV (rm := { frames := 0, cells := 0, slots := 0, locals := 0 }) (mc := 0) (ms := 0) (rest := []) (Qc := fun A => kp_Qi D cy A T1 _) X h (c_X12_pop l D cy ad T1 a0 _ h.2.2.2 f_a0 hw) f_a0 cv_12_718 ⟨by decide, by decide, rfl, rfl, by decide, by decide⟩ rfl hl.1 rfl (Nat.le_of_ble_eq_true rfl) dX12_beginsEach_6) (fun y4 T3 hw l_T3 H locs h => ?_)
  have f_a0 := l_T3.is f_a0
  have hle := hle.tr l_T3
  refine lv_istore_n (lv' := [(3, .int y4), (2, .int y2), (0, .ref a0), (1, .int x1)]) X.1 X.2.1 dX12_beginsEach_9 rfl hl (by decide) rfl (fun ls hl => ?_)
  refine lv_aload_n X.1 X.2.1 dX12_beginsEach_10 rfl (lv_at hl 2 rfl) ?_
  refine lv_iconst (v := 3) X.1 X.2.1 dX12_beginsEach_11 (by decide) ?_
  refine lv_iconst (v := 0) X.1 X.2.1 dX12_beginsEach_12 (by decide) ?_
  refine lv_iload_n X.1 X.2.1 dX12_beginsEach_13 rfl (lv_at hl 3 rfl) ?_
  refine kp_callv X h (kp_runV (rm := { frames := 0, cells := 0, slots := 0, locals := 0 }) (mc := 0) (ms := 0) (rest := []) (Qc := fun A => kp_Qv D cy A T3 _) X h (c_X12_opens l D cy ad T3 a0 3 0 x1 _ h.2.2.2 f_a0 hw) f_a0 cv_12_714 ⟨by decide, by decide, rfl, rfl, by decide, by decide⟩ rfl hl.1 rfl (Nat.le_of_ble_eq_true rfl) dX12_beginsEach_14) (fun T5 hw l_T5 H locs h => ?_)
  have f_a0 := l_T5.is f_a0
  have hle := hle.tr l_T5
  refine lv_aload_n X.1 X.2.1 dX12_beginsEach_17 rfl (lv_at hl 2 rfl) ?_
  obtain ⟨b6, e_b6, hw⟩ := hw
  have f_b6 := h.2.2.2.rf (c := 12) (k := 93) f_a0 (by decide) (by decide) e_b6 (t := 15) rfl
  refine kp_get X h f_a0 ff_12_191.l (v := .ref b6) (congrArg va_rf e_b6) dX12_beginsEach_18 ?_
  refine lv_aload_n X.1 X.2.1 dX12_beginsEach_21 rfl (lv_at hl 2 rfl) ?_
  refine kp_get X h f_a0 fp_12_613.l (v := .int (kp_I T5 2487 a0)) rfl dX12_beginsEach_22 ?_
  refine lv_iconst (v := 1) X.1 X.2.1 dX12_beginsEach_25 (by decide) ?_
  refine lv_isub X.1 X.2.1 dX12_beginsEach_26 ?_
  refine lv_iload_n X.1 X.2.1 dX12_beginsEach_27 rfl (lv_at hl 0 rfl) ?_
  refine lv_i2l X.1 X.2.1 dX12_beginsEach_28 rfl ?_
  obtain ⟨hi, hw⟩ := hw
  refine kp_last X h f_b6 hi dX12_beginsEach_29 (fun T7 e_T7 l_T7 H locs h => ?_)
  have hw := hw T7 e_T7
  have f_a0 := l_T7.is f_a0
  have f_b6 := l_T7.is f_b6
  have hle := hle.tr l_T7
  have e_b6 : kp_R T7 2493 a0 = some b6 := by rw [e_T7]; exact e_b6
  refine lv_aload_n X.1 X.2.1 dX12_beginsEach_30 rfl (lv_at hl 2 rfl) ?_
  obtain ⟨b8, e_b8, hw⟩ := hw
  have f_b8 := h.2.2.2.rf (c := 12) (k := 94) f_a0 (by decide) (by decide) e_b8 (t := 15) rfl
  refine kp_get X h f_a0 ff_12_194.l (v := .ref b8) (congrArg va_rf e_b8) dX12_beginsEach_31 ?_
  refine lv_aload_n X.1 X.2.1 dX12_beginsEach_34 rfl (lv_at hl 2 rfl) ?_
  refine kp_get X h f_a0 fp_12_613.l (v := .int (kp_I T7 2487 a0)) rfl dX12_beginsEach_35 ?_
  refine lv_iconst (v := 1) X.1 X.2.1 dX12_beginsEach_38 (by decide) ?_
  refine lv_isub X.1 X.2.1 dX12_beginsEach_39 ?_
  refine lv_iload_n X.1 X.2.1 dX12_beginsEach_40 rfl (lv_at hl 1 rfl) ?_
  refine lv_i2l X.1 X.2.1 dX12_beginsEach_41 rfl ?_
  obtain ⟨hi, hw⟩ := hw
  refine kp_last X h f_b8 hi dX12_beginsEach_42 (fun T9 e_T9 l_T9 H locs h => ?_)
  have hw := hw T9 e_T9
  have f_a0 := l_T9.is f_a0
  have f_b6 := l_T9.is f_b6
  have f_b8 := l_T9.is f_b8
  have hle := hle.tr l_T9
  have e_b6 : kp_R T9 2493 a0 = some b6 := by rw [e_T9]; exact e_b6
  have e_b8 : kp_R T9 2494 a0 = some b8 := by rw [e_T9]; exact e_b8
  exact kp_retv X hr hlocks h hle hw dX12_beginsEach_43
theorem dX12_testsEach_0 : decode cX12_testsEach 0 = .ok (.aload_n 0, 1) := by decide +kernel
theorem dX12_testsEach_1 : decode cX12_testsEach 1 = .ok (.getfield 613, 3) := by decide +kernel
theorem dX12_testsEach_4 : decode cX12_testsEach 4 = .ok (.iconst 1, 1) := by decide +kernel
theorem dX12_testsEach_5 : decode cX12_testsEach 5 = .ok (.isub, 1) := by decide +kernel
theorem dX12_testsEach_6 : decode cX12_testsEach 6 = .ok (.istore_n 2, 1) := by decide +kernel
theorem dX12_testsEach_7 : decode cX12_testsEach 7 = .ok (.aload_n 0, 1) := by decide +kernel
theorem dX12_testsEach_8 : decode cX12_testsEach 8 = .ok (.getfield 191, 3) := by decide +kernel
theorem dX12_testsEach_11 : decode cX12_testsEach 11 = .ok (.iload_n 2, 1) := by decide +kernel
theorem dX12_testsEach_12 : decode cX12_testsEach 12 = .ok (.laload, 1) := by decide +kernel
theorem dX12_testsEach_13 : decode cX12_testsEach 13 = .ok (.aload_n 0, 1) := by decide +kernel
theorem dX12_testsEach_14 : decode cX12_testsEach 14 = .ok (.getfield 194, 3) := by decide +kernel
theorem dX12_testsEach_17 : decode cX12_testsEach 17 = .ok (.iload_n 2, 1) := by decide +kernel
theorem dX12_testsEach_18 : decode cX12_testsEach 18 = .ok (.laload, 1) := by decide +kernel
theorem dX12_testsEach_19 : decode cX12_testsEach 19 = .ok (.lcmp, 1) := by decide +kernel
theorem dX12_testsEach_20 : decode cX12_testsEach 20 = .ok (.ifCond .gt 7, 3) := by decide +kernel
theorem dX12_testsEach_23 : decode cX12_testsEach 23 = .ok (.iconst 1, 1) := by decide +kernel
theorem dX12_testsEach_24 : decode cX12_testsEach 24 = .ok (.goto 4, 3) := by decide +kernel
theorem dX12_testsEach_27 : decode cX12_testsEach 27 = .ok (.iconst 0, 1) := by decide +kernel
theorem dX12_testsEach_28 : decode cX12_testsEach 28 = .ok (.istore_n 3, 1) := by decide +kernel
theorem dX12_testsEach_29 : decode cX12_testsEach 29 = .ok (.iload_n 3, 1) := by decide +kernel
theorem dX12_testsEach_30 : decode cX12_testsEach 30 = .ok (.ifCond .eq 11, 3) := by decide +kernel
theorem dX12_testsEach_33 : decode cX12_testsEach 33 = .ok (.aload_n 0, 1) := by decide +kernel
theorem dX12_testsEach_34 : decode cX12_testsEach 34 = .ok (.invokevirtual 693, 3) := by decide +kernel
theorem dX12_testsEach_37 : decode cX12_testsEach 37 = .ok (.ifCond .ne 4, 3) := by decide +kernel
theorem dX12_testsEach_40 : decode cX12_testsEach 40 = .ok (.return_, 1) := by decide +kernel
theorem dX12_testsEach_41 : decode cX12_testsEach 41 = .ok (.iload_n 3, 1) := by decide +kernel
theorem dX12_testsEach_42 : decode cX12_testsEach 42 = .ok (.ifCond .eq 39, 3) := by decide +kernel
theorem dX12_testsEach_45 : decode cX12_testsEach 45 = .ok (.aload_n 0, 1) := by decide +kernel
theorem dX12_testsEach_46 : decode cX12_testsEach 46 = .ok (.getfield 236, 3) := by decide +kernel
theorem dX12_testsEach_49 : decode cX12_testsEach 49 = .ok (.bipush 24, 2) := by decide +kernel
theorem dX12_testsEach_51 : decode cX12_testsEach 51 = .ok (.aload_n 0, 1) := by decide +kernel
theorem dX12_testsEach_52 : decode cX12_testsEach 52 = .ok (.getfield 699, 3) := by decide +kernel
theorem dX12_testsEach_55 : decode cX12_testsEach 55 = .ok (.imul, 1) := by decide +kernel
theorem dX12_testsEach_56 : decode cX12_testsEach 56 = .ok (.aload_n 0, 1) := by decide +kernel
theorem dX12_testsEach_57 : decode cX12_testsEach 57 = .ok (.getfield 133, 3) := by decide +kernel
theorem dX12_testsEach_60 : decode cX12_testsEach 60 = .ok (.iload_n 1, 1) := by decide +kernel
theorem dX12_testsEach_61 : decode cX12_testsEach 61 = .ok (.iaload, 1) := by decide +kernel
theorem dX12_testsEach_62 : decode cX12_testsEach 62 = .ok (.iadd, 1) := by decide +kernel
theorem dX12_testsEach_63 : decode cX12_testsEach 63 = .ok (.aload_n 0, 1) := by decide +kernel
theorem dX12_testsEach_64 : decode cX12_testsEach 64 = .ok (.getfield 191, 3) := by decide +kernel
theorem dX12_testsEach_67 : decode cX12_testsEach 67 = .ok (.iload_n 2, 1) := by decide +kernel
theorem dX12_testsEach_68 : decode cX12_testsEach 68 = .ok (.laload, 1) := by decide +kernel
theorem dX12_testsEach_69 : decode cX12_testsEach 69 = .ok (.l2i, 1) := by decide +kernel
theorem dX12_testsEach_70 : decode cX12_testsEach 70 = .ok (.iastore, 1) := by decide +kernel
theorem dX12_testsEach_71 : decode cX12_testsEach 71 = .ok (.aload_n 0, 1) := by decide +kernel
theorem dX12_testsEach_72 : decode cX12_testsEach 72 = .ok (.getfield 191, 3) := by decide +kernel
theorem dX12_testsEach_75 : decode cX12_testsEach 75 = .ok (.iload_n 2, 1) := by decide +kernel
theorem dX12_testsEach_76 : decode cX12_testsEach 76 = .ok (.dup2, 1) := by decide +kernel
theorem dX12_testsEach_77 : decode cX12_testsEach 77 = .ok (.laload, 1) := by decide +kernel
theorem dX12_testsEach_78 : decode cX12_testsEach 78 = .ok (.lconst 1, 1) := by decide +kernel
theorem dX12_testsEach_79 : decode cX12_testsEach 79 = .ok (.ladd, 1) := by decide +kernel
theorem dX12_testsEach_80 : decode cX12_testsEach 80 = .ok (.lastore, 1) := by decide +kernel
theorem dX12_testsEach_81 : decode cX12_testsEach 81 = .ok (.aload_n 0, 1) := by decide +kernel
theorem dX12_testsEach_82 : decode cX12_testsEach 82 = .ok (.iload_n 1, 1) := by decide +kernel
theorem dX12_testsEach_83 : decode cX12_testsEach 83 = .ok (.iload_n 3, 1) := by decide +kernel
theorem dX12_testsEach_84 : decode cX12_testsEach 84 = .ok (.invokevirtual 750, 3) := by decide +kernel
theorem dX12_testsEach_87 : decode cX12_testsEach 87 = .ok (.return_, 1) := by decide +kernel
def wX12_testsEach_b81 (a0 : Nat) (x1 : Int32) (xn3 : Int32)  (Sn : kp_S) (post : kp_S → Prop) : Prop :=
  wX12_rounds a0 x1 xn3 Sn (fun T1001 =>
  post T1001)
def wX12_testsEach_b41 (a0 : Nat) (x1 : Int32) (xn2 : Int32) (xn3 : Int32)  (Sn : kp_S) (post : kp_S → Prop) : Prop :=
  ((xn3 = 0 →
  wX12_testsEach_b81 a0 x1 xn3  Sn post) ∧ (¬ xn3 = 0 →
  ∃ b2001 : Nat, kp_R Sn 2509 a0 = some b2001 ∧
  ∃ b2002 : Nat, kp_R Sn 2455 a0 = some b2002 ∧
  vp_in x1 (kp_N Sn b2002) ∧
  ∃ b2003 : Nat, kp_R Sn 2493 a0 = some b2003 ∧
  vp_in xn2 (kp_N Sn b2003) ∧
  vp_in ((24 * (kp_I Sn 2501 a0)) + (kp_A Sn b2002 x1.toNatClampNeg)) (kp_N Sn b2001) ∧ ∀ T2004 : kp_S, T2004 = kp_sA Sn b2001 (upd (kp_A Sn b2001) (((24 * (kp_I Sn 2501 a0)) + (kp_A Sn b2002 x1.toNatClampNeg)).toNatClampNeg) ((kp_B Sn b2003 xn2.toNatClampNeg : Int64).toInt32)) →
  vp_in xn2 (kp_N T2004 b2003) ∧
  vp_in xn2 (kp_N T2004 b2003) ∧ ∀ T2005 : kp_S, T2005 = kp_sB T2004 b2003 (vp_updL (kp_B T2004 b2003) (xn2.toNatClampNeg) ((kp_B T2004 b2003 xn2.toNatClampNeg) + 1)) →
  wX12_testsEach_b81 a0 x1 xn3  T2005 post))
def wX12_testsEach_b28 (a0 : Nat) (x1 : Int32) (xn2 : Int32) (xt0 : Int32)  (Sn : kp_S) (post : kp_S → Prop) : Prop :=
  ((xt0 = 0 →
  wX12_testsEach_b41 a0 x1 xn2 xt0  Sn post) ∧ (¬ xt0 = 0 →
  wX12_burns a0 Sn (fun y3002 T3001 =>
  ((¬ y3002 = 0 →
  wX12_testsEach_b41 a0 x1 xn2 xt0  T3001 post) ∧ (y3002 = 0 →
  post T3001)))))
def wX12_testsEach (a0 : Nat) (x1 : Int32) (S : kp_S) (post : kp_S → Prop) : Prop :=
  ∀ y1 : Int32, y1 = ((kp_I S 2487 a0) - 1) →
  ∃ b2 : Nat, kp_R S 2493 a0 = some b2 ∧
  vp_in y1 (kp_N S b2) ∧
  ∃ b3 : Nat, kp_R S 2494 a0 = some b3 ∧
  vp_in y1 (kp_N S b3) ∧
  ((0 < (lg_cmp (kp_B S b2 y1.toNatClampNeg) (kp_B S b3 y1.toNatClampNeg)) →
  wX12_testsEach_b28 a0 x1 y1 0  S post) ∧ (¬ 0 < (lg_cmp (kp_B S b2 y1.toNatClampNeg) (kp_B S b3 y1.toNatClampNeg)) →
  wX12_testsEach_b28 a0 x1 y1 1  S post))
set_option maxHeartbeats 4000000 in
set_option maxRecDepth 100000 in
theorem c_X12_testsEach (l : Launch) (D : va_G) (cy : Nat → ClassId) (ad : (Nat → Nat) × (Nat → Nat)) (S : kp_S) (a0 : Nat) (x1 : Int32) (post : kp_S → Prop) (hS : kp_ok S) (f_a0 : kp_is S a0 12) (hw : wX12_testsEach a0 x1 S post) : kp_M l yX12_testsEach cX12_testsEach 4 none { frames := 2, cells := 0, slots := 0, locals := 45 } D cy ad S [.ref a0, .int x1] 0 0 (fun A => kp_Qv D cy A S post) := by
  refine kp_start (own := RX12) (by decide) rfl (Nat.le_of_ble_eq_true rfl) hS ?_
  intro p e s m below meth c A ls X hr hlocks hname h hl
  have hle : kp_le S S := kp_le.rf
  have hl : lv_has ls 4 [(0, .ref a0), (1, .int x1)] := hl
  have j81 : ∀ (xn3 : Int32) (Sn : kp_S) (H : Heap) (locs : List Loc) (ls : Array Slot), lv_has ls 4 [(0, .ref a0), (1, .int x1), (3, .int xn3)] → kp_H D cy A Sn s.heap H locs → kp_le S Sn → kp_is Sn a0 12 → wX12_testsEach_b81 a0 x1 xn3  Sn post → W p l e { frames := 2, cells := 0, slots := 0, locals := 45 } s m ([.ref a0, .int x1] : List Value).toArray below meth c H locs 0 0 (MQ below (kp_Qv D cy A S post) ([.ref a0, .int x1] : List Value).toArray s 0 0 A) (F0 m 81 ls []) := by
    intro xn3 Sn H locs ls hl h hle f_a0 hw
    unfold wX12_testsEach_b81 at hw
    refine lv_aload_n X.1 X.2.1 dX12_testsEach_81 rfl (lv_at hl 0 rfl) ?_
    refine lv_iload_n X.1 X.2.1 dX12_testsEach_82 rfl (lv_at hl 1 rfl) ?_
    refine lv_iload_n X.1 X.2.1 dX12_testsEach_83 rfl (lv_at hl 2 rfl) ?_
    refine kp_callv X h (kp_runV (rm := { frames := 1, cells := 0, slots := 0, locals := 22 }) (mc := 0) (ms := 0) (rest := []) (Qc := fun A => kp_Qv D cy A Sn _) X h (c_X12_rounds l D cy ad Sn a0 x1 xn3 _ h.2.2.2 f_a0 hw) f_a0 cv_12_750 ⟨by decide, by decide, rfl, rfl, by decide, by decide⟩ rfl hl.1 rfl (Nat.le_of_ble_eq_true rfl) dX12_testsEach_84) (fun T1001 hw l_T1001 H locs h => ?_)
    have f_a0 := l_T1001.is f_a0
    have hle := hle.tr l_T1001
    exact kp_retv X hr hlocks h hle hw dX12_testsEach_87
  have j41 : ∀ (xn2 : Int32) (xn3 : Int32) (Sn : kp_S) (H : Heap) (locs : List Loc) (ls : Array Slot), lv_has ls 4 [(0, .ref a0), (1, .int x1), (2, .int xn2), (3, .int xn3)] → kp_H D cy A Sn s.heap H locs → kp_le S Sn → kp_is Sn a0 12 → wX12_testsEach_b41 a0 x1 xn2 xn3  Sn post → W p l e { frames := 2, cells := 0, slots := 0, locals := 45 } s m ([.ref a0, .int x1] : List Value).toArray below meth c H locs 0 0 (MQ below (kp_Qv D cy A S post) ([.ref a0, .int x1] : List Value).toArray s 0 0 A) (F0 m 41 ls []) := by
    intro xn2 xn3 Sn H locs ls hl h hle f_a0 hw
    unfold wX12_testsEach_b41 at hw
    refine lv_iload_n X.1 X.2.1 dX12_testsEach_41 rfl (lv_at hl 3 rfl) ?_
    refine lv_if_eq (tgt := 81) X.1 X.2.1 dX12_testsEach_42 (by decide) (fun c2006 => ?_) (fun c2006 => ?_)
    · have hw := hw.1 c2006
      exact j81 xn3 Sn H locs ls (lv_sub hl [0, 1, 3] rfl) h hle f_a0 hw
    · have hw := hw.2 c2006
      refine lv_aload_n X.1 X.2.1 dX12_testsEach_45 rfl (lv_at hl 0 rfl) ?_
      obtain ⟨b2001, e_b2001, hw⟩ := hw
      have f_b2001 := h.2.2.2.rf (c := 12) (k := 109) f_a0 (by decide) (by decide) e_b2001 (t := 14) rfl
      refine kp_get X h f_a0 ff_12_236.l (v := .ref b2001) (congrArg va_rf e_b2001) dX12_testsEach_46 ?_
      refine lv_bipush (v := 24) X.1 X.2.1 dX12_testsEach_49 (by decide) ?_
      refine lv_aload_n X.1 X.2.1 dX12_testsEach_51 rfl (lv_at hl 0 rfl) ?_
      refine kp_get X h f_a0 fp_12_699.l (v := .int (kp_I Sn 2501 a0)) rfl dX12_testsEach_52 ?_
      refine lv_imul X.1 X.2.1 dX12_testsEach_55 ?_
      refine lv_aload_n X.1 X.2.1 dX12_testsEach_56 rfl (lv_at hl 0 rfl) ?_
      obtain ⟨b2002, e_b2002, hw⟩ := hw
      have f_b2002 := h.2.2.2.rf (c := 12) (k := 55) f_a0 (by decide) (by decide) e_b2002 (t := 14) rfl
      refine kp_get X h f_a0 ff_12_133.l (v := .ref b2002) (congrArg va_rf e_b2002) dX12_testsEach_57 ?_
      refine lv_iload_n X.1 X.2.1 dX12_testsEach_60 rfl (lv_at hl 1 rfl) ?_
      obtain ⟨hi, hw⟩ := hw
      refine kp_iald X h f_b2002 hi dX12_testsEach_61 ?_
      refine lv_iadd X.1 X.2.1 dX12_testsEach_62 ?_
      refine lv_aload_n X.1 X.2.1 dX12_testsEach_63 rfl (lv_at hl 0 rfl) ?_
      obtain ⟨b2003, e_b2003, hw⟩ := hw
      have f_b2003 := h.2.2.2.rf (c := 12) (k := 93) f_a0 (by decide) (by decide) e_b2003 (t := 15) rfl
      refine kp_get X h f_a0 ff_12_191.l (v := .ref b2003) (congrArg va_rf e_b2003) dX12_testsEach_64 ?_
      refine lv_iload_n X.1 X.2.1 dX12_testsEach_67 rfl (lv_at hl 2 rfl) ?_
      obtain ⟨hi, hw⟩ := hw
      refine kp_lald X h f_b2003 hi dX12_testsEach_68 ?_
      refine lv_l2i X.1 X.2.1 dX12_testsEach_69 rfl ?_
      obtain ⟨hi, hw⟩ := hw
      refine kp_iast X h f_b2001 hi dX12_testsEach_70 (fun T2004 e_T2004 l_T2004 H locs h => ?_)
      have hw := hw T2004 e_T2004
      have f_a0 := l_T2004.is f_a0
      have f_b2001 := l_T2004.is f_b2001
      have f_b2002 := l_T2004.is f_b2002
      have f_b2003 := l_T2004.is f_b2003
      have hle := hle.tr l_T2004
      have e_b2001 : kp_R T2004 2509 a0 = some b2001 := by rw [e_T2004]; exact e_b2001
      have e_b2002 : kp_R T2004 2455 a0 = some b2002 := by rw [e_T2004]; exact e_b2002
      have e_b2003 : kp_R T2004 2493 a0 = some b2003 := by rw [e_T2004]; exact e_b2003
      refine lv_aload_n X.1 X.2.1 dX12_testsEach_71 rfl (lv_at hl 0 rfl) ?_
      refine kp_get X h f_a0 ff_12_191.l (v := .ref b2003) (congrArg va_rf e_b2003) dX12_testsEach_72 ?_
      refine lv_iload_n X.1 X.2.1 dX12_testsEach_75 rfl (lv_at hl 2 rfl) ?_
      refine lv_dup2_11 X.1 X.2.1 dX12_testsEach_76 rfl rfl ?_
      obtain ⟨hi, hw⟩ := hw
      refine kp_lald X h f_b2003 hi dX12_testsEach_77 ?_
      refine lv_lconst (v := 1) X.1 X.2.1 dX12_testsEach_78 (by decide) ?_
      refine lv_ladd X.1 X.2.1 dX12_testsEach_79 ?_
      obtain ⟨hi, hw⟩ := hw
      refine kp_last X h f_b2003 hi dX12_testsEach_80 (fun T2005 e_T2005 l_T2005 H locs h => ?_)
      have hw := hw T2005 e_T2005
      have f_a0 := l_T2005.is f_a0
      have f_b2001 := l_T2005.is f_b2001
      have f_b2002 := l_T2005.is f_b2002
      have f_b2003 := l_T2005.is f_b2003
      have hle := hle.tr l_T2005
      have e_b2001 : kp_R T2005 2509 a0 = some b2001 := by rw [e_T2005]; exact e_b2001
      have e_b2002 : kp_R T2005 2455 a0 = some b2002 := by rw [e_T2005]; exact e_b2002
      have e_b2003 : kp_R T2005 2493 a0 = some b2003 := by rw [e_T2005]; exact e_b2003
      exact j81 xn3 T2005 H locs ls (lv_sub hl [0, 1, 3] rfl) h hle f_a0 hw
  have j28 : ∀ (xn2 : Int32) (xt0 : Int32) (Sn : kp_S) (H : Heap) (locs : List Loc) (ls : Array Slot), lv_has ls 4 [(0, .ref a0), (1, .int x1), (2, .int xn2)] → kp_H D cy A Sn s.heap H locs → kp_le S Sn → kp_is Sn a0 12 → wX12_testsEach_b28 a0 x1 xn2 xt0  Sn post → W p l e { frames := 2, cells := 0, slots := 0, locals := 45 } s m ([.ref a0, .int x1] : List Value).toArray below meth c H locs 0 0 (MQ below (kp_Qv D cy A S post) ([.ref a0, .int x1] : List Value).toArray s 0 0 A) (F0 m 28 ls [.int xt0]) := by
    intro xn2 xt0 Sn H locs ls hl h hle f_a0 hw
    unfold wX12_testsEach_b28 at hw
    refine lv_istore_n (lv' := [(3, .int xt0), (0, .ref a0), (1, .int x1), (2, .int xn2)]) X.1 X.2.1 dX12_testsEach_28 rfl hl (by decide) rfl (fun ls hl => ?_)
    refine lv_iload_n X.1 X.2.1 dX12_testsEach_29 rfl (lv_at hl 0 rfl) ?_
    refine lv_if_eq (tgt := 41) X.1 X.2.1 dX12_testsEach_30 (by decide) (fun c3004 => ?_) (fun c3004 => ?_)
    · have hw := hw.1 c3004
      exact j41 xn2 xt0 Sn H locs ls (lv_sub hl [1, 2, 3, 0] rfl) h hle f_a0 hw
    · have hw := hw.2 c3004
      refine lv_aload_n X.1 X.2.1 dX12_testsEach_33 rfl (lv_at hl 1 rfl) ?_
      refine kp_calli X h (kp_runV (rm := { frames := 0, cells := 0, slots := 0, locals := 0 }) (mc := 0) (ms := 0) (rest := []) (Qc := fun A => kp_Qi D cy A Sn _) X h (c_X12_burns l D cy ad Sn a0 _ h.2.2.2 f_a0 hw) f_a0 cv_12_693 ⟨by decide, by decide, rfl, rfl, by decide, by decide⟩ rfl hl.1 rfl (Nat.le_of_ble_eq_true rfl) dX12_testsEach_34) (fun y3002 T3001 hw l_T3001 H locs h => ?_)
      have f_a0 := l_T3001.is f_a0
      have hle := hle.tr l_T3001
      refine lv_if_ne (tgt := 41) X.1 X.2.1 dX12_testsEach_37 (by decide) (fun c3003 => ?_) (fun c3003 => ?_)
      · have hw := hw.1 c3003
        exact j41 xn2 xt0 T3001 H locs ls (lv_sub hl [1, 2, 3, 0] rfl) h hle f_a0 hw
      · have hw := hw.2 c3003
        exact kp_retv X hr hlocks h hle hw dX12_testsEach_40
  unfold wX12_testsEach at hw
  have h : kp_H D cy A S s.heap s.heap [] := h
  revert h
  intro h
  refine lv_aload_n X.1 X.2.1 dX12_testsEach_0 rfl (lv_at hl 0 rfl) ?_
  refine kp_get X h f_a0 fp_12_613.l (v := .int (kp_I S 2487 a0)) rfl dX12_testsEach_1 ?_
  refine lv_iconst (v := 1) X.1 X.2.1 dX12_testsEach_4 (by decide) ?_
  refine lv_isub X.1 X.2.1 dX12_testsEach_5 ?_
  refine lv_topi (fun y1 e_y1 => ?_)
  have hw := hw y1 e_y1
  refine lv_istore_n (lv' := [(2, .int y1), (0, .ref a0), (1, .int x1)]) X.1 X.2.1 dX12_testsEach_6 rfl hl (by decide) rfl (fun ls hl => ?_)
  refine lv_aload_n X.1 X.2.1 dX12_testsEach_7 rfl (lv_at hl 1 rfl) ?_
  obtain ⟨b2, e_b2, hw⟩ := hw
  have f_b2 := h.2.2.2.rf (c := 12) (k := 93) f_a0 (by decide) (by decide) e_b2 (t := 15) rfl
  refine kp_get X h f_a0 ff_12_191.l (v := .ref b2) (congrArg va_rf e_b2) dX12_testsEach_8 ?_
  refine lv_iload_n X.1 X.2.1 dX12_testsEach_11 rfl (lv_at hl 0 rfl) ?_
  obtain ⟨hi, hw⟩ := hw
  refine kp_lald X h f_b2 hi dX12_testsEach_12 ?_
  refine lv_aload_n X.1 X.2.1 dX12_testsEach_13 rfl (lv_at hl 1 rfl) ?_
  obtain ⟨b3, e_b3, hw⟩ := hw
  have f_b3 := h.2.2.2.rf (c := 12) (k := 94) f_a0 (by decide) (by decide) e_b3 (t := 15) rfl
  refine kp_get X h f_a0 ff_12_194.l (v := .ref b3) (congrArg va_rf e_b3) dX12_testsEach_14 ?_
  refine lv_iload_n X.1 X.2.1 dX12_testsEach_17 rfl (lv_at hl 0 rfl) ?_
  obtain ⟨hi, hw⟩ := hw
  refine kp_lald X h f_b3 hi dX12_testsEach_18 ?_
  refine W.lcmp X.1 X.2.1 dX12_testsEach_19 ?_
  refine lv_if_gt (tgt := 27) X.1 X.2.1 dX12_testsEach_20 (by decide) (fun c4 => ?_) (fun c4 => ?_)
  · have hw := hw.1 c4
    refine lv_iconst (v := 0) X.1 X.2.1 dX12_testsEach_27 (by decide) ?_
    exact j28 y1 0 S _ _ ls (lv_sub hl [1, 2, 0] rfl) h hle f_a0 hw
  · have hw := hw.2 c4
    refine lv_iconst (v := 1) X.1 X.2.1 dX12_testsEach_23 (by decide) ?_
    refine lv_goto (tgt := 28) X.1 X.2.1 dX12_testsEach_24 (by decide) ?_
    exact j28 y1 1 S _ _ ls (lv_sub hl [1, 2, 0] rfl) h hle f_a0 hw
theorem dX12_takes_0 : decode cX12_takes 0 = .ok (.iload_n 1, 1) := by decide +kernel
theorem dX12_takes_1 : decode cX12_takes 1 = .ok (.iconst 0, 1) := by decide +kernel
theorem dX12_takes_2 : decode cX12_takes 2 = .ok (.iconst 5, 1) := by decide +kernel
theorem dX12_takes_3 : decode cX12_takes 3 = .ok (.invokestatic 589, 3) := by decide +kernel
theorem dX12_takes_6 : decode cX12_takes 6 = .ok (.ifCond .ne 9, 3) := by decide +kernel
theorem dX12_takes_9 : decode cX12_takes 9 = .ok (.aload_n 0, 1) := by decide +kernel
theorem dX12_takes_10 : decode cX12_takes 10 = .ok (.iconst 3, 1) := by decide +kernel
theorem dX12_takes_11 : decode cX12_takes 11 = .ok (.invokevirtual 696, 3) := by decide +kernel
theorem dX12_takes_14 : decode cX12_takes 14 = .ok (.return_, 1) := by decide +kernel
theorem dX12_takes_15 : decode cX12_takes 15 = .ok (.aload_n 0, 1) := by decide +kernel
theorem dX12_takes_16 : decode cX12_takes 16 = .ok (.getfield 161, 3) := by decide +kernel
theorem dX12_takes_19 : decode cX12_takes 19 = .ok (.iload_n 1, 1) := by decide +kernel
theorem dX12_takes_20 : decode cX12_takes 20 = .ok (.dup2, 1) := by decide +kernel
theorem dX12_takes_21 : decode cX12_takes 21 = .ok (.iaload, 1) := by decide +kernel
theorem dX12_takes_22 : decode cX12_takes 22 = .ok (.iconst 1, 1) := by decide +kernel
theorem dX12_takes_23 : decode cX12_takes 23 = .ok (.iadd, 1) := by decide +kernel
theorem dX12_takes_24 : decode cX12_takes 24 = .ok (.iastore, 1) := by decide +kernel
theorem dX12_takes_25 : decode cX12_takes 25 = .ok (.aload_n 0, 1) := by decide +kernel
theorem dX12_takes_26 : decode cX12_takes 26 = .ok (.dup, 1) := by decide +kernel
theorem dX12_takes_27 : decode cX12_takes 27 = .ok (.getfield 778, 3) := by decide +kernel
theorem dX12_takes_30 : decode cX12_takes 30 = .ok (.iconst 1, 1) := by decide +kernel
theorem dX12_takes_31 : decode cX12_takes 31 = .ok (.iadd, 1) := by decide +kernel
theorem dX12_takes_32 : decode cX12_takes 32 = .ok (.putfield 778, 3) := by decide +kernel
theorem dX12_takes_35 : decode cX12_takes 35 = .ok (.aload_n 0, 1) := by decide +kernel
theorem dX12_takes_36 : decode cX12_takes 36 = .ok (.getfield 161, 3) := by decide +kernel
theorem dX12_takes_39 : decode cX12_takes 39 = .ok (.iload_n 1, 1) := by decide +kernel
theorem dX12_takes_40 : decode cX12_takes 40 = .ok (.iaload, 1) := by decide +kernel
theorem dX12_takes_41 : decode cX12_takes 41 = .ok (.iconst 1, 1) := by decide +kernel
theorem dX12_takes_42 : decode cX12_takes 42 = .ok (.if_icmp .ne 9, 3) := by decide +kernel
theorem dX12_takes_45 : decode cX12_takes 45 = .ok (.aload_n 0, 1) := by decide +kernel
theorem dX12_takes_46 : decode cX12_takes 46 = .ok (.iconst 1, 1) := by decide +kernel
theorem dX12_takes_47 : decode cX12_takes 47 = .ok (.iload_n 1, 1) := by decide +kernel
theorem dX12_takes_48 : decode cX12_takes 48 = .ok (.invokevirtual 637, 3) := by decide +kernel
theorem dX12_takes_51 : decode cX12_takes 51 = .ok (.aload_n 0, 1) := by decide +kernel
theorem dX12_takes_52 : decode cX12_takes 52 = .ok (.iconst 2, 1) := by decide +kernel
theorem dX12_takes_53 : decode cX12_takes 53 = .ok (.iconst 0, 1) := by decide +kernel
theorem dX12_takes_54 : decode cX12_takes 54 = .ok (.iload_n 1, 1) := by decide +kernel
theorem dX12_takes_55 : decode cX12_takes 55 = .ok (.invokevirtual 714, 3) := by decide +kernel
theorem dX12_takes_58 : decode cX12_takes 58 = .ok (.aload_n 0, 1) := by decide +kernel
theorem dX12_takes_59 : decode cX12_takes 59 = .ok (.getfield 191, 3) := by decide +kernel
theorem dX12_takes_62 : decode cX12_takes 62 = .ok (.aload_n 0, 1) := by decide +kernel
theorem dX12_takes_63 : decode cX12_takes 63 = .ok (.getfield 613, 3) := by decide +kernel
theorem dX12_takes_66 : decode cX12_takes 66 = .ok (.iconst 1, 1) := by decide +kernel
theorem dX12_takes_67 : decode cX12_takes 67 = .ok (.isub, 1) := by decide +kernel
theorem dX12_takes_68 : decode cX12_takes 68 = .ok (.iload_n 2, 1) := by decide +kernel
theorem dX12_takes_69 : decode cX12_takes 69 = .ok (.i2l, 1) := by decide +kernel
theorem dX12_takes_70 : decode cX12_takes 70 = .ok (.lastore, 1) := by decide +kernel
theorem dX12_takes_71 : decode cX12_takes 71 = .ok (.return_, 1) := by decide +kernel
def wX12_takes_b51 (a0 : Nat) (x1 : Int32) (x2 : Int32)  (Sn : kp_S) (post : kp_S → Prop) : Prop :=
  wX12_opens a0 2 0 x1 Sn (fun T1001 =>
  ∃ b1002 : Nat, kp_R T1001 2493 a0 = some b1002 ∧
  vp_in ((kp_I T1001 2487 a0) - 1) (kp_N T1001 b1002) ∧ ∀ T1003 : kp_S, T1003 = kp_sB T1001 b1002 (vp_updL (kp_B T1001 b1002) (((kp_I T1001 2487 a0) - 1).toNatClampNeg) ((x2 : Int32).toInt64)) →
  post T1003)
def wX12_takes (a0 : Nat) (x1 : Int32) (x2 : Int32) (S : kp_S) (post : kp_S → Prop) : Prop :=
  wX12_in x1 0 5 S (fun y2 T1 =>
  ((¬ y2 = 0 →
  ∃ b3 : Nat, kp_R T1 2465 a0 = some b3 ∧
  vp_in x1 (kp_N T1 b3) ∧
  vp_in x1 (kp_N T1 b3) ∧ ∀ T4 : kp_S, T4 = kp_sA T1 b3 (upd (kp_A T1 b3) (x1.toNatClampNeg) ((kp_A T1 b3 x1.toNatClampNeg) + 1)) →
  ∀ T5 : kp_S, T5 = kp_sI T4 2471 a0 ((kp_I T4 2471 a0) + 1) →
  vp_in x1 (kp_N T5 b3) ∧
  ((¬ (kp_A T5 b3 x1.toNatClampNeg) = 1 →
  wX12_takes_b51 a0 x1 x2   T5 post) ∧ ((kp_A T5 b3 x1.toNatClampNeg) = 1 →
  wX12_note a0 1 x1 T5 (fun T6 =>
  wX12_takes_b51 a0 x1 x2   T6 post)))) ∧ (y2 = 0 →
  wX12_trouble a0 3 T1 (fun T8 =>
  post T8))))
set_option maxHeartbeats 4000000 in
set_option maxRecDepth 100000 in
theorem c_X12_takes (l : Launch) (D : va_G) (cy : Nat → ClassId) (ad : (Nat → Nat) × (Nat → Nat)) (S : kp_S) (a0 : Nat) (x1 : Int32) (x2 : Int32) (post : kp_S → Prop) (hS : kp_ok S) (f_a0 : kp_is S a0 12) (hw : wX12_takes a0 x1 x2 S post) : kp_M l yX12_takes cX12_takes 3 none { frames := 6, cells := 0, slots := 0, locals := 130 } D cy ad S [.ref a0, .int x1, .int x2] 0 0 (fun A => kp_Qv D cy A S post) := by
  refine kp_start (own := RX12) (by decide) rfl (Nat.le_of_ble_eq_true rfl) hS ?_
  intro p e s m below meth c A ls X hr hlocks hname h hl
  have hle : kp_le S S := kp_le.rf
  have hl : lv_has ls 3 [(0, .ref a0), (1, .int x1), (2, .int x2)] := hl
  have j51 : ∀  (Sn : kp_S) (H : Heap) (locs : List Loc) (ls : Array Slot), lv_has ls 3 [(0, .ref a0), (1, .int x1), (2, .int x2)] → kp_H D cy A Sn s.heap H locs → kp_le S Sn → kp_is Sn a0 12 → wX12_takes_b51 a0 x1 x2   Sn post → W p l e { frames := 6, cells := 0, slots := 0, locals := 130 } s m ([.ref a0, .int x1, .int x2] : List Value).toArray below meth c H locs 0 0 (MQ below (kp_Qv D cy A S post) ([.ref a0, .int x1, .int x2] : List Value).toArray s 0 0 A) (F0 m 51 ls []) := by
    intro  Sn H locs ls hl h hle f_a0 hw
    unfold wX12_takes_b51 at hw
    refine lv_aload_n X.1 X.2.1 dX12_takes_51 rfl (lv_at hl 0 rfl) ?_
    refine lv_iconst (v := 2) X.1 X.2.1 dX12_takes_52 (by decide) ?_
    refine lv_iconst (v := 0) X.1 X.2.1 dX12_takes_53 (by decide) ?_
    refine lv_iload_n X.1 X.2.1 dX12_takes_54 rfl (lv_at hl 1 rfl) ?_
    refine kp_callv X h (kp_runV (rm := { frames := 0, cells := 0, slots := 0, locals := 0 }) (mc := 0) (ms := 0) (rest := []) (Qc := fun A => kp_Qv D cy A Sn _) X h (c_X12_opens l D cy ad Sn a0 2 0 x1 _ h.2.2.2 f_a0 hw) f_a0 cv_12_714 ⟨by decide, by decide, rfl, rfl, by decide, by decide⟩ rfl hl.1 rfl (Nat.le_of_ble_eq_true rfl) dX12_takes_55) (fun T1001 hw l_T1001 H locs h => ?_)
    have f_a0 := l_T1001.is f_a0
    have hle := hle.tr l_T1001
    refine lv_aload_n X.1 X.2.1 dX12_takes_58 rfl (lv_at hl 0 rfl) ?_
    obtain ⟨b1002, e_b1002, hw⟩ := hw
    have f_b1002 := h.2.2.2.rf (c := 12) (k := 93) f_a0 (by decide) (by decide) e_b1002 (t := 15) rfl
    refine kp_get X h f_a0 ff_12_191.l (v := .ref b1002) (congrArg va_rf e_b1002) dX12_takes_59 ?_
    refine lv_aload_n X.1 X.2.1 dX12_takes_62 rfl (lv_at hl 0 rfl) ?_
    refine kp_get X h f_a0 fp_12_613.l (v := .int (kp_I T1001 2487 a0)) rfl dX12_takes_63 ?_
    refine lv_iconst (v := 1) X.1 X.2.1 dX12_takes_66 (by decide) ?_
    refine lv_isub X.1 X.2.1 dX12_takes_67 ?_
    refine lv_iload_n X.1 X.2.1 dX12_takes_68 rfl (lv_at hl 2 rfl) ?_
    refine lv_i2l X.1 X.2.1 dX12_takes_69 rfl ?_
    obtain ⟨hi, hw⟩ := hw
    refine kp_last X h f_b1002 hi dX12_takes_70 (fun T1003 e_T1003 l_T1003 H locs h => ?_)
    have hw := hw T1003 e_T1003
    have f_a0 := l_T1003.is f_a0
    have f_b1002 := l_T1003.is f_b1002
    have hle := hle.tr l_T1003
    have e_b1002 : kp_R T1003 2493 a0 = some b1002 := by rw [e_T1003]; exact e_b1002
    exact kp_retv X hr hlocks h hle hw dX12_takes_71
  unfold wX12_takes at hw
  have h : kp_H D cy A S s.heap s.heap [] := h
  revert h
  intro h
  refine lv_iload_n X.1 X.2.1 dX12_takes_0 rfl (lv_at hl 1 rfl) ?_
  refine lv_iconst (v := 0) X.1 X.2.1 dX12_takes_1 (by decide) ?_
  refine lv_iconst (v := 5) X.1 X.2.1 dX12_takes_2 (by decide) ?_
  refine kp_calli X h (kp_runS (rm := { frames := 0, cells := 0, slots := 0, locals := 0 }) (mc := 0) (ms := 0) (rest := []) (Qc := fun A => kp_Qi D cy A S _) X h (c_X12_in l D cy ad S x1 0 5 _ h.2.2.2  hw) cs_12_589 ⟨by decide, by decide, rfl, rfl, by decide, by decide⟩ rfl hl.1 rfl (Nat.le_of_ble_eq_true rfl) dX12_takes_3) (fun y2 T1 hw l_T1 H locs h => ?_)
  have f_a0 := l_T1.is f_a0
  have hle := hle.tr l_T1
  refine lv_if_ne (tgt := 15) X.1 X.2.1 dX12_takes_6 (by decide) (fun c9 => ?_) (fun c9 => ?_)
  · have hw := hw.1 c9
    refine lv_aload_n X.1 X.2.1 dX12_takes_15 rfl (lv_at hl 0 rfl) ?_
    obtain ⟨b3, e_b3, hw⟩ := hw
    have f_b3 := h.2.2.2.rf (c := 12) (k := 65) f_a0 (by decide) (by decide) e_b3 (t := 14) rfl
    refine kp_get X h f_a0 ff_12_161.l (v := .ref b3) (congrArg va_rf e_b3) dX12_takes_16 ?_
    refine lv_iload_n X.1 X.2.1 dX12_takes_19 rfl (lv_at hl 1 rfl) ?_
    refine lv_dup2_11 X.1 X.2.1 dX12_takes_20 rfl rfl ?_
    obtain ⟨hi, hw⟩ := hw
    refine kp_iald X h f_b3 hi dX12_takes_21 ?_
    refine lv_iconst (v := 1) X.1 X.2.1 dX12_takes_22 (by decide) ?_
    refine lv_iadd X.1 X.2.1 dX12_takes_23 ?_
    obtain ⟨hi, hw⟩ := hw
    refine kp_iast X h f_b3 hi dX12_takes_24 (fun T4 e_T4 l_T4 H locs h => ?_)
    have hw := hw T4 e_T4
    have f_a0 := l_T4.is f_a0
    have f_b3 := l_T4.is f_b3
    have hle := hle.tr l_T4
    have e_b3 : kp_R T4 2465 a0 = some b3 := by rw [e_T4]; exact e_b3
    refine lv_aload_n X.1 X.2.1 dX12_takes_25 rfl (lv_at hl 0 rfl) ?_
    refine lv_dup X.1 X.2.1 dX12_takes_26 rfl ?_
    refine kp_get X h f_a0 fp_12_778.l (v := .int (kp_I T4 2471 a0)) rfl dX12_takes_27 ?_
    refine lv_iconst (v := 1) X.1 X.2.1 dX12_takes_30 (by decide) ?_
    refine lv_iadd X.1 X.2.1 dX12_takes_31 ?_
    refine kp_putI X h f_a0 fp_12_778 rfl ⟨rfl, rfl⟩ dX12_takes_32 (fun T5 e_T5 l_T5 H locs h => ?_)
    have hw := hw T5 e_T5
    have f_a0 := l_T5.is f_a0
    have f_b3 := l_T5.is f_b3
    have hle := hle.tr l_T5
    have e_b3 : kp_R T5 2465 a0 = some b3 := by rw [e_T5]; exact e_b3
    refine lv_aload_n X.1 X.2.1 dX12_takes_35 rfl (lv_at hl 0 rfl) ?_
    refine kp_get X h f_a0 ff_12_161.l (v := .ref b3) (congrArg va_rf e_b3) dX12_takes_36 ?_
    refine lv_iload_n X.1 X.2.1 dX12_takes_39 rfl (lv_at hl 1 rfl) ?_
    obtain ⟨hi, hw⟩ := hw
    refine kp_iald X h f_b3 hi dX12_takes_40 ?_
    refine lv_iconst (v := 1) X.1 X.2.1 dX12_takes_41 (by decide) ?_
    refine lv_icmp_ne (tgt := 51) X.1 X.2.1 dX12_takes_42 (by decide) (fun c7 => ?_) (fun c7 => ?_)
    · have hw := hw.1 c7
      exact j51  T5 _ _ ls (lv_sub hl [0, 1, 2] rfl) h hle f_a0 hw
    · have hw := hw.2 c7
      refine lv_aload_n X.1 X.2.1 dX12_takes_45 rfl (lv_at hl 0 rfl) ?_
      refine lv_iconst (v := 1) X.1 X.2.1 dX12_takes_46 (by decide) ?_
      refine lv_iload_n X.1 X.2.1 dX12_takes_47 rfl (lv_at hl 1 rfl) ?_
      refine kp_callv X h (kp_runV (rm := { frames := 0, cells := 0, slots := 0, locals := 0 }) (mc := 0) (ms := 0) (rest := []) (Qc := fun A => kp_Qv D cy A T5 _) X h (c_X12_note l D cy ad T5 a0 1 x1 _ h.2.2.2 f_a0 hw) f_a0 cv_12_637 ⟨by decide, by decide, rfl, rfl, by decide, by decide⟩ rfl hl.1 rfl (Nat.le_of_ble_eq_true rfl) dX12_takes_48) (fun T6 hw l_T6 H locs h => ?_)
      have f_a0 := l_T6.is f_a0
      have f_b3 := l_T6.is f_b3
      have hle := hle.tr l_T6
      exact j51  T6 _ _ ls (lv_sub hl [0, 1, 2] rfl) h hle f_a0 hw
  · have hw := hw.2 c9
    refine lv_aload_n X.1 X.2.1 dX12_takes_9 rfl (lv_at hl 0 rfl) ?_
    refine lv_iconst (v := 3) X.1 X.2.1 dX12_takes_10 (by decide) ?_
    refine kp_callv X h (kp_runV (rm := { frames := 5, cells := 0, slots := 0, locals := 108 }) (mc := 0) (ms := 0) (rest := []) (Qc := fun A => kp_Qv D cy A T1 _) X h (c_X12_trouble l D cy ad T1 a0 3 _ h.2.2.2 f_a0 hw) f_a0 cv_12_696 ⟨by decide, by decide, rfl, rfl, by decide, by decide⟩ rfl hl.1 rfl (Nat.le_of_ble_eq_true rfl) dX12_takes_11) (fun T8 hw l_T8 H locs h => ?_)
    have f_a0 := l_T8.is f_a0
    have hle := hle.tr l_T8
    exact kp_retv X hr hlocks h hle hw dX12_takes_14
theorem dX12_mends_0 : decode cX12_mends 0 = .ok (.iload_n 1, 1) := by decide +kernel
theorem dX12_mends_1 : decode cX12_mends 1 = .ok (.ifCond .ne 4, 3) := by decide +kernel
theorem dX12_mends_4 : decode cX12_mends 4 = .ok (.return_, 1) := by decide +kernel
theorem dX12_mends_5 : decode cX12_mends 5 = .ok (.aload_n 0, 1) := by decide +kernel
theorem dX12_mends_6 : decode cX12_mends 6 = .ok (.getfield 613, 3) := by decide +kernel
theorem dX12_mends_9 : decode cX12_mends 9 = .ok (.iconst 1, 1) := by decide +kernel
theorem dX12_mends_10 : decode cX12_mends 10 = .ok (.isub, 1) := by decide +kernel
theorem dX12_mends_11 : decode cX12_mends 11 = .ok (.istore_n 3, 1) := by decide +kernel
theorem dX12_mends_12 : decode cX12_mends 12 = .ok (.aload_n 0, 1) := by decide +kernel
theorem dX12_mends_13 : decode cX12_mends 13 = .ok (.dup, 1) := by decide +kernel
theorem dX12_mends_14 : decode cX12_mends 14 = .ok (.getfield 781, 3) := by decide +kernel
theorem dX12_mends_17 : decode cX12_mends 17 = .ok (.iconst 1, 1) := by decide +kernel
theorem dX12_mends_18 : decode cX12_mends 18 = .ok (.iadd, 1) := by decide +kernel
theorem dX12_mends_19 : decode cX12_mends 19 = .ok (.putfield 781, 3) := by decide +kernel
theorem dX12_mends_22 : decode cX12_mends 22 = .ok (.aload_n 0, 1) := by decide +kernel
theorem dX12_mends_23 : decode cX12_mends 23 = .ok (.bipush 8, 2) := by decide +kernel
theorem dX12_mends_25 : decode cX12_mends 25 = .ok (.aload_n 0, 1) := by decide +kernel
theorem dX12_mends_26 : decode cX12_mends 26 = .ok (.getfield 206, 3) := by decide +kernel
theorem dX12_mends_29 : decode cX12_mends 29 = .ok (.iload_n 3, 1) := by decide +kernel
theorem dX12_mends_30 : decode cX12_mends 30 = .ok (.iaload, 1) := by decide +kernel
theorem dX12_mends_31 : decode cX12_mends 31 = .ok (.invokevirtual 637, 3) := by decide +kernel
theorem dX12_mends_34 : decode cX12_mends 34 = .ok (.aload_n 0, 1) := by decide +kernel
theorem dX12_mends_35 : decode cX12_mends 35 = .ok (.getfield 221, 3) := by decide +kernel
theorem dX12_mends_38 : decode cX12_mends 38 = .ok (.aload_n 0, 1) := by decide +kernel
theorem dX12_mends_39 : decode cX12_mends 39 = .ok (.getfield 699, 3) := by decide +kernel
theorem dX12_mends_42 : decode cX12_mends 42 = .ok (.aload_n 0, 1) := by decide +kernel
theorem dX12_mends_43 : decode cX12_mends 43 = .ok (.getfield 206, 3) := by decide +kernel
theorem dX12_mends_46 : decode cX12_mends 46 = .ok (.iload_n 3, 1) := by decide +kernel
theorem dX12_mends_47 : decode cX12_mends 47 = .ok (.iaload, 1) := by decide +kernel
theorem dX12_mends_48 : decode cX12_mends 48 = .ok (.iastore, 1) := by decide +kernel
theorem dX12_mends_49 : decode cX12_mends 49 = .ok (.aload_n 0, 1) := by decide +kernel
theorem dX12_mends_50 : decode cX12_mends 50 = .ok (.getfield 224, 3) := by decide +kernel
theorem dX12_mends_53 : decode cX12_mends 53 = .ok (.aload_n 0, 1) := by decide +kernel
theorem dX12_mends_54 : decode cX12_mends 54 = .ok (.getfield 699, 3) := by decide +kernel
theorem dX12_mends_57 : decode cX12_mends 57 = .ok (.aload_n 0, 1) := by decide +kernel
theorem dX12_mends_58 : decode cX12_mends 58 = .ok (.getfield 209, 3) := by decide +kernel
theorem dX12_mends_61 : decode cX12_mends 61 = .ok (.iload_n 3, 1) := by decide +kernel
theorem dX12_mends_62 : decode cX12_mends 62 = .ok (.iaload, 1) := by decide +kernel
theorem dX12_mends_63 : decode cX12_mends 63 = .ok (.iastore, 1) := by decide +kernel
theorem dX12_mends_64 : decode cX12_mends 64 = .ok (.aload_n 0, 1) := by decide +kernel
theorem dX12_mends_65 : decode cX12_mends 65 = .ok (.getfield 179, 3) := by decide +kernel
theorem dX12_mends_68 : decode cX12_mends 68 = .ok (.iload_n 3, 1) := by decide +kernel
theorem dX12_mends_69 : decode cX12_mends 69 = .ok (.iconst 5, 1) := by decide +kernel
theorem dX12_mends_70 : decode cX12_mends 70 = .ok (.iastore, 1) := by decide +kernel
theorem dX12_mends_71 : decode cX12_mends 71 = .ok (.aload_n 0, 1) := by decide +kernel
theorem dX12_mends_72 : decode cX12_mends 72 = .ok (.iload_n 3, 1) := by decide +kernel
theorem dX12_mends_73 : decode cX12_mends 73 = .ok (.iload_n 2, 1) := by decide +kernel
theorem dX12_mends_74 : decode cX12_mends 74 = .ok (.invokevirtual 666, 3) := by decide +kernel
theorem dX12_mends_77 : decode cX12_mends 77 = .ok (.return_, 1) := by decide +kernel
def wX12_mends (a0 : Nat) (x1 : Int32) (x2 : Int32) (S : kp_S) (post : kp_S → Prop) : Prop :=
  ((¬ x1 = 0 →
  ∀ y1 : Int32, y1 = ((kp_I S 2487 a0) - 1) →
  ∀ T2 : kp_S, T2 = kp_sI S 2478 a0 ((kp_I S 2478 a0) + 1) →
  ∃ b3 : Nat, kp_R T2 2498 a0 = some b3 ∧
  vp_in y1 (kp_N T2 b3) ∧
  wX12_note a0 8 (kp_A T2 b3 y1.toNatClampNeg) T2 (fun T4 =>
  ∃ b5 : Nat, kp_R T4 2504 a0 = some b5 ∧
  ∃ b6 : Nat, kp_R T4 2498 a0 = some b6 ∧
  vp_in y1 (kp_N T4 b6) ∧
  vp_in (kp_I T4 2501 a0) (kp_N T4 b5) ∧ ∀ T7 : kp_S, T7 = kp_sA T4 b5 (upd (kp_A T4 b5) ((kp_I T4 2501 a0).toNatClampNeg) (kp_A T4 b6 y1.toNatClampNeg)) →
  ∃ b8 : Nat, kp_R T7 2505 a0 = some b8 ∧
  ∃ b9 : Nat, kp_R T7 2499 a0 = some b9 ∧
  vp_in y1 (kp_N T7 b9) ∧
  vp_in (kp_I T7 2501 a0) (kp_N T7 b8) ∧ ∀ T10 : kp_S, T10 = kp_sA T7 b8 (upd (kp_A T7 b8) ((kp_I T7 2501 a0).toNatClampNeg) (kp_A T7 b9 y1.toNatClampNeg)) →
  ∃ b11 : Nat, kp_R T10 2489 a0 = some b11 ∧
  vp_in y1 (kp_N T10 b11) ∧ ∀ T12 : kp_S, T12 = kp_sA T10 b11 (upd (kp_A T10 b11) (y1.toNatClampNeg) 5) →
  wX12_goes a0 y1 x2 T12 (fun T13 =>
  post T13))) ∧ (x1 = 0 →
  post S))
set_option maxHeartbeats 4000000 in
set_option maxRecDepth 100000 in
theorem c_X12_mends (l : Launch) (D : va_G) (cy : Nat → ClassId) (ad : (Nat → Nat) × (Nat → Nat)) (S : kp_S) (a0 : Nat) (x1 : Int32) (x2 : Int32) (post : kp_S → Prop) (hS : kp_ok S) (f_a0 : kp_is S a0 12) (hw : wX12_mends a0 x1 x2 S post) : kp_M l yX12_mends cX12_mends 4 none { frames := 1, cells := 0, slots := 0, locals := 22 } D cy ad S [.ref a0, .int x1, .int x2] 0 0 (fun A => kp_Qv D cy A S post) := by
  refine kp_start (own := RX12) (by decide) rfl (Nat.le_of_ble_eq_true rfl) hS ?_
  intro p e s m below meth c A ls X hr hlocks hname h hl
  have hle : kp_le S S := kp_le.rf
  have hl : lv_has ls 4 [(0, .ref a0), (1, .int x1), (2, .int x2)] := hl
  unfold wX12_mends at hw
  have h : kp_H D cy A S s.heap s.heap [] := h
  revert h
  intro h
  refine lv_iload_n X.1 X.2.1 dX12_mends_0 rfl (lv_at hl 1 rfl) ?_
  refine lv_if_ne (tgt := 5) X.1 X.2.1 dX12_mends_1 (by decide) (fun c14 => ?_) (fun c14 => ?_)
  · have hw := hw.1 c14
    refine lv_aload_n X.1 X.2.1 dX12_mends_5 rfl (lv_at hl 0 rfl) ?_
    refine kp_get X h f_a0 fp_12_613.l (v := .int (kp_I S 2487 a0)) rfl dX12_mends_6 ?_
    refine lv_iconst (v := 1) X.1 X.2.1 dX12_mends_9 (by decide) ?_
    refine lv_isub X.1 X.2.1 dX12_mends_10 ?_
    refine lv_topi (fun y1 e_y1 => ?_)
    have hw := hw y1 e_y1
    refine lv_istore_n (lv' := [(3, .int y1), (0, .ref a0), (1, .int x1), (2, .int x2)]) X.1 X.2.1 dX12_mends_11 rfl hl (by decide) rfl (fun ls hl => ?_)
    refine lv_aload_n X.1 X.2.1 dX12_mends_12 rfl (lv_at hl 1 rfl) ?_
    refine lv_dup X.1 X.2.1 dX12_mends_13 rfl ?_
    refine kp_get X h f_a0 fp_12_781.l (v := .int (kp_I S 2478 a0)) rfl dX12_mends_14 ?_
    refine lv_iconst (v := 1) X.1 X.2.1 dX12_mends_17 (by decide) ?_
    refine lv_iadd X.1 X.2.1 dX12_mends_18 ?_
    refine kp_putI X h f_a0 fp_12_781 rfl ⟨rfl, rfl⟩ dX12_mends_19 (fun T2 e_T2 l_T2 H locs h => ?_)
    have hw := hw T2 e_T2
    have f_a0 := l_T2.is f_a0
    have hle := hle.tr l_T2
    refine lv_aload_n X.1 X.2.1 dX12_mends_22 rfl (lv_at hl 1 rfl) ?_
    refine lv_bipush (v := 8) X.1 X.2.1 dX12_mends_23 (by decide) ?_
    refine lv_aload_n X.1 X.2.1 dX12_mends_25 rfl (lv_at hl 1 rfl) ?_
    obtain ⟨b3, e_b3, hw⟩ := hw
    have f_b3 := h.2.2.2.rf (c := 12) (k := 98) f_a0 (by decide) (by decide) e_b3 (t := 14) rfl
    refine kp_get X h f_a0 ff_12_206.l (v := .ref b3) (congrArg va_rf e_b3) dX12_mends_26 ?_
    refine lv_iload_n X.1 X.2.1 dX12_mends_29 rfl (lv_at hl 0 rfl) ?_
    obtain ⟨hi, hw⟩ := hw
    refine kp_iald X h f_b3 hi dX12_mends_30 ?_
    refine kp_callv X h (kp_runV (rm := { frames := 0, cells := 0, slots := 0, locals := 0 }) (mc := 0) (ms := 0) (rest := []) (Qc := fun A => kp_Qv D cy A T2 _) X h (c_X12_note l D cy ad T2 a0 8 (kp_A T2 b3 y1.toNatClampNeg) _ h.2.2.2 f_a0 hw) f_a0 cv_12_637 ⟨by decide, by decide, rfl, rfl, by decide, by decide⟩ rfl hl.1 rfl (Nat.le_of_ble_eq_true rfl) dX12_mends_31) (fun T4 hw l_T4 H locs h => ?_)
    have f_a0 := l_T4.is f_a0
    have f_b3 := l_T4.is f_b3
    have hle := hle.tr l_T4
    refine lv_aload_n X.1 X.2.1 dX12_mends_34 rfl (lv_at hl 1 rfl) ?_
    obtain ⟨b5, e_b5, hw⟩ := hw
    have f_b5 := h.2.2.2.rf (c := 12) (k := 104) f_a0 (by decide) (by decide) e_b5 (t := 14) rfl
    refine kp_get X h f_a0 ff_12_221.l (v := .ref b5) (congrArg va_rf e_b5) dX12_mends_35 ?_
    refine lv_aload_n X.1 X.2.1 dX12_mends_38 rfl (lv_at hl 1 rfl) ?_
    refine kp_get X h f_a0 fp_12_699.l (v := .int (kp_I T4 2501 a0)) rfl dX12_mends_39 ?_
    refine lv_aload_n X.1 X.2.1 dX12_mends_42 rfl (lv_at hl 1 rfl) ?_
    obtain ⟨b6, e_b6, hw⟩ := hw
    have f_b6 := h.2.2.2.rf (c := 12) (k := 98) f_a0 (by decide) (by decide) e_b6 (t := 14) rfl
    refine kp_get X h f_a0 ff_12_206.l (v := .ref b6) (congrArg va_rf e_b6) dX12_mends_43 ?_
    refine lv_iload_n X.1 X.2.1 dX12_mends_46 rfl (lv_at hl 0 rfl) ?_
    obtain ⟨hi, hw⟩ := hw
    refine kp_iald X h f_b6 hi dX12_mends_47 ?_
    obtain ⟨hi, hw⟩ := hw
    refine kp_iast X h f_b5 hi dX12_mends_48 (fun T7 e_T7 l_T7 H locs h => ?_)
    have hw := hw T7 e_T7
    have f_a0 := l_T7.is f_a0
    have f_b3 := l_T7.is f_b3
    have f_b5 := l_T7.is f_b5
    have f_b6 := l_T7.is f_b6
    have hle := hle.tr l_T7
    have e_b5 : kp_R T7 2504 a0 = some b5 := by rw [e_T7]; exact e_b5
    have e_b6 : kp_R T7 2498 a0 = some b6 := by rw [e_T7]; exact e_b6
    refine lv_aload_n X.1 X.2.1 dX12_mends_49 rfl (lv_at hl 1 rfl) ?_
    obtain ⟨b8, e_b8, hw⟩ := hw
    have f_b8 := h.2.2.2.rf (c := 12) (k := 105) f_a0 (by decide) (by decide) e_b8 (t := 14) rfl
    refine kp_get X h f_a0 ff_12_224.l (v := .ref b8) (congrArg va_rf e_b8) dX12_mends_50 ?_
    refine lv_aload_n X.1 X.2.1 dX12_mends_53 rfl (lv_at hl 1 rfl) ?_
    refine kp_get X h f_a0 fp_12_699.l (v := .int (kp_I T7 2501 a0)) rfl dX12_mends_54 ?_
    refine lv_aload_n X.1 X.2.1 dX12_mends_57 rfl (lv_at hl 1 rfl) ?_
    obtain ⟨b9, e_b9, hw⟩ := hw
    have f_b9 := h.2.2.2.rf (c := 12) (k := 99) f_a0 (by decide) (by decide) e_b9 (t := 14) rfl
    refine kp_get X h f_a0 ff_12_209.l (v := .ref b9) (congrArg va_rf e_b9) dX12_mends_58 ?_
    refine lv_iload_n X.1 X.2.1 dX12_mends_61 rfl (lv_at hl 0 rfl) ?_
    obtain ⟨hi, hw⟩ := hw
    refine kp_iald X h f_b9 hi dX12_mends_62 ?_
    obtain ⟨hi, hw⟩ := hw
    refine kp_iast X h f_b8 hi dX12_mends_63 (fun T10 e_T10 l_T10 H locs h => ?_)
    have hw := hw T10 e_T10
    have f_a0 := l_T10.is f_a0
    have f_b3 := l_T10.is f_b3
    have f_b5 := l_T10.is f_b5
    have f_b6 := l_T10.is f_b6
    have f_b8 := l_T10.is f_b8
    have f_b9 := l_T10.is f_b9
    have hle := hle.tr l_T10
    have e_b5 : kp_R T10 2504 a0 = some b5 := by rw [e_T10]; exact e_b5
    have e_b6 : kp_R T10 2498 a0 = some b6 := by rw [e_T10]; exact e_b6
    have e_b8 : kp_R T10 2505 a0 = some b8 := by rw [e_T10]; exact e_b8
    have e_b9 : kp_R T10 2499 a0 = some b9 := by rw [e_T10]; exact e_b9
    refine lv_aload_n X.1 X.2.1 dX12_mends_64 rfl (lv_at hl 1 rfl) ?_
    obtain ⟨b11, e_b11, hw⟩ := hw
    have f_b11 := h.2.2.2.rf (c := 12) (k := 89) f_a0 (by decide) (by decide) e_b11 (t := 14) rfl
    refine kp_get X h f_a0 ff_12_179.l (v := .ref b11) (congrArg va_rf e_b11) dX12_mends_65 ?_
    refine lv_iload_n X.1 X.2.1 dX12_mends_68 rfl (lv_at hl 0 rfl) ?_
    refine lv_iconst (v := 5) X.1 X.2.1 dX12_mends_69 (by decide) ?_
    obtain ⟨hi, hw⟩ := hw
    refine kp_iast X h f_b11 hi dX12_mends_70 (fun T12 e_T12 l_T12 H locs h => ?_)
    have hw := hw T12 e_T12
    have f_a0 := l_T12.is f_a0
    have f_b3 := l_T12.is f_b3
    have f_b5 := l_T12.is f_b5
    have f_b6 := l_T12.is f_b6
    have f_b8 := l_T12.is f_b8
    have f_b9 := l_T12.is f_b9
    have f_b11 := l_T12.is f_b11
    have hle := hle.tr l_T12
    have e_b5 : kp_R T12 2504 a0 = some b5 := by rw [e_T12]; exact e_b5
    have e_b6 : kp_R T12 2498 a0 = some b6 := by rw [e_T12]; exact e_b6
    have e_b8 : kp_R T12 2505 a0 = some b8 := by rw [e_T12]; exact e_b8
    have e_b9 : kp_R T12 2499 a0 = some b9 := by rw [e_T12]; exact e_b9
    have e_b11 : kp_R T12 2489 a0 = some b11 := by rw [e_T12]; exact e_b11
    refine lv_aload_n X.1 X.2.1 dX12_mends_71 rfl (lv_at hl 1 rfl) ?_
    refine lv_iload_n X.1 X.2.1 dX12_mends_72 rfl (lv_at hl 0 rfl) ?_
    refine lv_iload_n X.1 X.2.1 dX12_mends_73 rfl (lv_at hl 3 rfl) ?_
    refine kp_callv X h (kp_runV (rm := { frames := 0, cells := 0, slots := 0, locals := 0 }) (mc := 0) (ms := 0) (rest := []) (Qc := fun A => kp_Qv D cy A T12 _) X h (c_X12_goes l D cy ad T12 a0 y1 x2 _ h.2.2.2 f_a0 hw) f_a0 cv_12_666 ⟨by decide, by decide, rfl, rfl, by decide, by decide⟩ rfl hl.1 rfl (Nat.le_of_ble_eq_true rfl) dX12_mends_74) (fun T13 hw l_T13 H locs h => ?_)
    have f_a0 := l_T13.is f_a0
    have f_b3 := l_T13.is f_b3
    have f_b5 := l_T13.is f_b5
    have f_b6 := l_T13.is f_b6
    have f_b8 := l_T13.is f_b8
    have f_b9 := l_T13.is f_b9
    have f_b11 := l_T13.is f_b11
    have hle := hle.tr l_T13
    exact kp_retv X hr hlocks h hle hw dX12_mends_77
  · have hw := hw.2 c14
    exact kp_retv X hr hlocks h hle hw dX12_mends_4
theorem dX12_pledges_0 : decode cX12_pledges 0 = .ok (.aload_n 0, 1) := by decide +kernel
theorem dX12_pledges_1 : decode cX12_pledges 1 = .ok (.getfield 227, 3) := by decide +kernel
theorem dX12_pledges_4 : decode cX12_pledges 4 = .ok (.aload_n 0, 1) := by decide +kernel
theorem dX12_pledges_5 : decode cX12_pledges 5 = .ok (.getfield 699, 3) := by decide +kernel
theorem dX12_pledges_8 : decode cX12_pledges 8 = .ok (.iaload, 1) := by decide +kernel
theorem dX12_pledges_9 : decode cX12_pledges 9 = .ok (.bipush 40, 2) := by decide +kernel
theorem dX12_pledges_11 : decode cX12_pledges 11 = .ok (.if_icmp .ne 9, 3) := by decide +kernel
theorem dX12_pledges_14 : decode cX12_pledges 14 = .ok (.aload_n 0, 1) := by decide +kernel
theorem dX12_pledges_15 : decode cX12_pledges 15 = .ok (.iconst 2, 1) := by decide +kernel
theorem dX12_pledges_16 : decode cX12_pledges 16 = .ok (.invokevirtual 696, 3) := by decide +kernel
theorem dX12_pledges_19 : decode cX12_pledges 19 = .ok (.return_, 1) := by decide +kernel
theorem dX12_pledges_20 : decode cX12_pledges 20 = .ok (.bipush 40, 2) := by decide +kernel
theorem dX12_pledges_22 : decode cX12_pledges 22 = .ok (.aload_n 0, 1) := by decide +kernel
theorem dX12_pledges_23 : decode cX12_pledges 23 = .ok (.getfield 699, 3) := by decide +kernel
theorem dX12_pledges_26 : decode cX12_pledges 26 = .ok (.imul, 1) := by decide +kernel
theorem dX12_pledges_27 : decode cX12_pledges 27 = .ok (.aload_n 0, 1) := by decide +kernel
theorem dX12_pledges_28 : decode cX12_pledges 28 = .ok (.getfield 227, 3) := by decide +kernel
theorem dX12_pledges_31 : decode cX12_pledges 31 = .ok (.aload_n 0, 1) := by decide +kernel
theorem dX12_pledges_32 : decode cX12_pledges 32 = .ok (.getfield 699, 3) := by decide +kernel
theorem dX12_pledges_35 : decode cX12_pledges 35 = .ok (.iaload, 1) := by decide +kernel
theorem dX12_pledges_36 : decode cX12_pledges 36 = .ok (.iadd, 1) := by decide +kernel
theorem dX12_pledges_37 : decode cX12_pledges 37 = .ok (.istore_n 3, 1) := by decide +kernel
theorem dX12_pledges_38 : decode cX12_pledges 38 = .ok (.aload_n 0, 1) := by decide +kernel
theorem dX12_pledges_39 : decode cX12_pledges 39 = .ok (.getfield 230, 3) := by decide +kernel
theorem dX12_pledges_42 : decode cX12_pledges 42 = .ok (.iload_n 3, 1) := by decide +kernel
theorem dX12_pledges_43 : decode cX12_pledges 43 = .ok (.iload_n 1, 1) := by decide +kernel
theorem dX12_pledges_44 : decode cX12_pledges 44 = .ok (.iastore, 1) := by decide +kernel
theorem dX12_pledges_45 : decode cX12_pledges 45 = .ok (.aload_n 0, 1) := by decide +kernel
theorem dX12_pledges_46 : decode cX12_pledges 46 = .ok (.getfield 233, 3) := by decide +kernel
theorem dX12_pledges_49 : decode cX12_pledges 49 = .ok (.iload_n 3, 1) := by decide +kernel
theorem dX12_pledges_50 : decode cX12_pledges 50 = .ok (.iload_n 2, 1) := by decide +kernel
theorem dX12_pledges_51 : decode cX12_pledges 51 = .ok (.iastore, 1) := by decide +kernel
theorem dX12_pledges_52 : decode cX12_pledges 52 = .ok (.aload_n 0, 1) := by decide +kernel
theorem dX12_pledges_53 : decode cX12_pledges 53 = .ok (.getfield 227, 3) := by decide +kernel
theorem dX12_pledges_56 : decode cX12_pledges 56 = .ok (.aload_n 0, 1) := by decide +kernel
theorem dX12_pledges_57 : decode cX12_pledges 57 = .ok (.getfield 699, 3) := by decide +kernel
theorem dX12_pledges_60 : decode cX12_pledges 60 = .ok (.dup2, 1) := by decide +kernel
theorem dX12_pledges_61 : decode cX12_pledges 61 = .ok (.iaload, 1) := by decide +kernel
theorem dX12_pledges_62 : decode cX12_pledges 62 = .ok (.iconst 1, 1) := by decide +kernel
theorem dX12_pledges_63 : decode cX12_pledges 63 = .ok (.iadd, 1) := by decide +kernel
theorem dX12_pledges_64 : decode cX12_pledges 64 = .ok (.iastore, 1) := by decide +kernel
theorem dX12_pledges_65 : decode cX12_pledges 65 = .ok (.aload_n 0, 1) := by decide +kernel
theorem dX12_pledges_66 : decode cX12_pledges 66 = .ok (.dup, 1) := by decide +kernel
theorem dX12_pledges_67 : decode cX12_pledges 67 = .ok (.getfield 784, 3) := by decide +kernel
theorem dX12_pledges_70 : decode cX12_pledges 70 = .ok (.iconst 1, 1) := by decide +kernel
theorem dX12_pledges_71 : decode cX12_pledges 71 = .ok (.iadd, 1) := by decide +kernel
theorem dX12_pledges_72 : decode cX12_pledges 72 = .ok (.putfield 784, 3) := by decide +kernel
theorem dX12_pledges_75 : decode cX12_pledges 75 = .ok (.return_, 1) := by decide +kernel
def wX12_pledges (a0 : Nat) (x1 : Int32) (x2 : Int32) (S : kp_S) (post : kp_S → Prop) : Prop :=
  ∃ b1 : Nat, kp_R S 2506 a0 = some b1 ∧
  vp_in (kp_I S 2501 a0) (kp_N S b1) ∧
  ((¬ (kp_A S b1 (kp_I S 2501 a0).toNatClampNeg) = 40 →
  vp_in (kp_I S 2501 a0) (kp_N S b1) ∧
  ∀ y2 : Int32, y2 = ((40 * (kp_I S 2501 a0)) + (kp_A S b1 (kp_I S 2501 a0).toNatClampNeg)) →
  ∃ b3 : Nat, kp_R S 2507 a0 = some b3 ∧
  vp_in y2 (kp_N S b3) ∧ ∀ T4 : kp_S, T4 = kp_sA S b3 (upd (kp_A S b3) (y2.toNatClampNeg) x1) →
  ∃ b5 : Nat, kp_R T4 2508 a0 = some b5 ∧
  vp_in y2 (kp_N T4 b5) ∧ ∀ T6 : kp_S, T6 = kp_sA T4 b5 (upd (kp_A T4 b5) (y2.toNatClampNeg) x2) →
  vp_in (kp_I T6 2501 a0) (kp_N T6 b1) ∧
  vp_in (kp_I T6 2501 a0) (kp_N T6 b1) ∧ ∀ T7 : kp_S, T7 = kp_sA T6 b1 (upd (kp_A T6 b1) ((kp_I T6 2501 a0).toNatClampNeg) ((kp_A T6 b1 (kp_I T6 2501 a0).toNatClampNeg) + 1)) →
  ∀ T8 : kp_S, T8 = kp_sI T7 2475 a0 ((kp_I T7 2475 a0) + 1) →
  post T8) ∧ ((kp_A S b1 (kp_I S 2501 a0).toNatClampNeg) = 40 →
  wX12_trouble a0 2 S (fun T9 =>
  post T9)))
set_option maxHeartbeats 4000000 in
set_option maxRecDepth 100000 in
theorem c_X12_pledges (l : Launch) (D : va_G) (cy : Nat → ClassId) (ad : (Nat → Nat) × (Nat → Nat)) (S : kp_S) (a0 : Nat) (x1 : Int32) (x2 : Int32) (post : kp_S → Prop) (hS : kp_ok S) (f_a0 : kp_is S a0 12) (hw : wX12_pledges a0 x1 x2 S post) : kp_M l yX12_pledges cX12_pledges 4 none { frames := 6, cells := 0, slots := 0, locals := 130 } D cy ad S [.ref a0, .int x1, .int x2] 0 0 (fun A => kp_Qv D cy A S post) := by
  refine kp_start (own := RX12) (by decide) rfl (Nat.le_of_ble_eq_true rfl) hS ?_
  intro p e s m below meth c A ls X hr hlocks hname h hl
  have hle : kp_le S S := kp_le.rf
  have hl : lv_has ls 4 [(0, .ref a0), (1, .int x1), (2, .int x2)] := hl
  unfold wX12_pledges at hw
  have h : kp_H D cy A S s.heap s.heap [] := h
  revert h
  intro h
  refine lv_aload_n X.1 X.2.1 dX12_pledges_0 rfl (lv_at hl 0 rfl) ?_
  obtain ⟨b1, e_b1, hw⟩ := hw
  have f_b1 := h.2.2.2.rf (c := 12) (k := 106) f_a0 (by decide) (by decide) e_b1 (t := 14) rfl
  refine kp_get X h f_a0 ff_12_227.l (v := .ref b1) (congrArg va_rf e_b1) dX12_pledges_1 ?_
  refine lv_aload_n X.1 X.2.1 dX12_pledges_4 rfl (lv_at hl 0 rfl) ?_
  refine kp_get X h f_a0 fp_12_699.l (v := .int (kp_I S 2501 a0)) rfl dX12_pledges_5 ?_
  obtain ⟨hi, hw⟩ := hw
  refine kp_iald X h f_b1 hi dX12_pledges_8 ?_
  refine lv_bipush (v := 40) X.1 X.2.1 dX12_pledges_9 (by decide) ?_
  refine lv_icmp_ne (tgt := 20) X.1 X.2.1 dX12_pledges_11 (by decide) (fun c10 => ?_) (fun c10 => ?_)
  · have hw := hw.1 c10
    refine lv_bipush (v := 40) X.1 X.2.1 dX12_pledges_20 (by decide) ?_
    refine lv_aload_n X.1 X.2.1 dX12_pledges_22 rfl (lv_at hl 0 rfl) ?_
    refine kp_get X h f_a0 fp_12_699.l (v := .int (kp_I S 2501 a0)) rfl dX12_pledges_23 ?_
    refine lv_imul X.1 X.2.1 dX12_pledges_26 ?_
    refine lv_aload_n X.1 X.2.1 dX12_pledges_27 rfl (lv_at hl 0 rfl) ?_
    refine kp_get X h f_a0 ff_12_227.l (v := .ref b1) (congrArg va_rf e_b1) dX12_pledges_28 ?_
    refine lv_aload_n X.1 X.2.1 dX12_pledges_31 rfl (lv_at hl 0 rfl) ?_
    refine kp_get X h f_a0 fp_12_699.l (v := .int (kp_I S 2501 a0)) rfl dX12_pledges_32 ?_
    obtain ⟨hi, hw⟩ := hw
    refine kp_iald X h f_b1 hi dX12_pledges_35 ?_
    refine lv_iadd X.1 X.2.1 dX12_pledges_36 ?_
    refine lv_topi (fun y2 e_y2 => ?_)
    have hw := hw y2 e_y2
    refine lv_istore_n (lv' := [(3, .int y2), (0, .ref a0), (1, .int x1), (2, .int x2)]) X.1 X.2.1 dX12_pledges_37 rfl hl (by decide) rfl (fun ls hl => ?_)
    refine lv_aload_n X.1 X.2.1 dX12_pledges_38 rfl (lv_at hl 1 rfl) ?_
    obtain ⟨b3, e_b3, hw⟩ := hw
    have f_b3 := h.2.2.2.rf (c := 12) (k := 107) f_a0 (by decide) (by decide) e_b3 (t := 14) rfl
    refine kp_get X h f_a0 ff_12_230.l (v := .ref b3) (congrArg va_rf e_b3) dX12_pledges_39 ?_
    refine lv_iload_n X.1 X.2.1 dX12_pledges_42 rfl (lv_at hl 0 rfl) ?_
    refine lv_iload_n X.1 X.2.1 dX12_pledges_43 rfl (lv_at hl 2 rfl) ?_
    obtain ⟨hi, hw⟩ := hw
    refine kp_iast X h f_b3 hi dX12_pledges_44 (fun T4 e_T4 l_T4 H locs h => ?_)
    have hw := hw T4 e_T4
    have f_a0 := l_T4.is f_a0
    have f_b1 := l_T4.is f_b1
    have f_b3 := l_T4.is f_b3
    have hle := hle.tr l_T4
    have e_b1 : kp_R T4 2506 a0 = some b1 := by rw [e_T4]; exact e_b1
    have e_b3 : kp_R T4 2507 a0 = some b3 := by rw [e_T4]; exact e_b3
    refine lv_aload_n X.1 X.2.1 dX12_pledges_45 rfl (lv_at hl 1 rfl) ?_
    obtain ⟨b5, e_b5, hw⟩ := hw
    have f_b5 := h.2.2.2.rf (c := 12) (k := 108) f_a0 (by decide) (by decide) e_b5 (t := 14) rfl
    refine kp_get X h f_a0 ff_12_233.l (v := .ref b5) (congrArg va_rf e_b5) dX12_pledges_46 ?_
    refine lv_iload_n X.1 X.2.1 dX12_pledges_49 rfl (lv_at hl 0 rfl) ?_
    refine lv_iload_n X.1 X.2.1 dX12_pledges_50 rfl (lv_at hl 3 rfl) ?_
    obtain ⟨hi, hw⟩ := hw
    refine kp_iast X h f_b5 hi dX12_pledges_51 (fun T6 e_T6 l_T6 H locs h => ?_)
    have hw := hw T6 e_T6
    have f_a0 := l_T6.is f_a0
    have f_b1 := l_T6.is f_b1
    have f_b3 := l_T6.is f_b3
    have f_b5 := l_T6.is f_b5
    have hle := hle.tr l_T6
    have e_b1 : kp_R T6 2506 a0 = some b1 := by rw [e_T6]; exact e_b1
    have e_b3 : kp_R T6 2507 a0 = some b3 := by rw [e_T6]; exact e_b3
    have e_b5 : kp_R T6 2508 a0 = some b5 := by rw [e_T6]; exact e_b5
    refine lv_aload_n X.1 X.2.1 dX12_pledges_52 rfl (lv_at hl 1 rfl) ?_
    refine kp_get X h f_a0 ff_12_227.l (v := .ref b1) (congrArg va_rf e_b1) dX12_pledges_53 ?_
    refine lv_aload_n X.1 X.2.1 dX12_pledges_56 rfl (lv_at hl 1 rfl) ?_
    refine kp_get X h f_a0 fp_12_699.l (v := .int (kp_I T6 2501 a0)) rfl dX12_pledges_57 ?_
    refine lv_dup2_11 X.1 X.2.1 dX12_pledges_60 rfl rfl ?_
    obtain ⟨hi, hw⟩ := hw
    refine kp_iald X h f_b1 hi dX12_pledges_61 ?_
    refine lv_iconst (v := 1) X.1 X.2.1 dX12_pledges_62 (by decide) ?_
    refine lv_iadd X.1 X.2.1 dX12_pledges_63 ?_
    obtain ⟨hi, hw⟩ := hw
    refine kp_iast X h f_b1 hi dX12_pledges_64 (fun T7 e_T7 l_T7 H locs h => ?_)
    have hw := hw T7 e_T7
    have f_a0 := l_T7.is f_a0
    have f_b1 := l_T7.is f_b1
    have f_b3 := l_T7.is f_b3
    have f_b5 := l_T7.is f_b5
    have hle := hle.tr l_T7
    have e_b1 : kp_R T7 2506 a0 = some b1 := by rw [e_T7]; exact e_b1
    have e_b3 : kp_R T7 2507 a0 = some b3 := by rw [e_T7]; exact e_b3
    have e_b5 : kp_R T7 2508 a0 = some b5 := by rw [e_T7]; exact e_b5
    refine lv_aload_n X.1 X.2.1 dX12_pledges_65 rfl (lv_at hl 1 rfl) ?_
    refine lv_dup X.1 X.2.1 dX12_pledges_66 rfl ?_
    refine kp_get X h f_a0 fp_12_784.l (v := .int (kp_I T7 2475 a0)) rfl dX12_pledges_67 ?_
    refine lv_iconst (v := 1) X.1 X.2.1 dX12_pledges_70 (by decide) ?_
    refine lv_iadd X.1 X.2.1 dX12_pledges_71 ?_
    refine kp_putI X h f_a0 fp_12_784 rfl ⟨rfl, rfl⟩ dX12_pledges_72 (fun T8 e_T8 l_T8 H locs h => ?_)
    have hw := hw T8 e_T8
    have f_a0 := l_T8.is f_a0
    have f_b1 := l_T8.is f_b1
    have f_b3 := l_T8.is f_b3
    have f_b5 := l_T8.is f_b5
    have hle := hle.tr l_T8
    have e_b1 : kp_R T8 2506 a0 = some b1 := by rw [e_T8]; exact e_b1
    have e_b3 : kp_R T8 2507 a0 = some b3 := by rw [e_T8]; exact e_b3
    have e_b5 : kp_R T8 2508 a0 = some b5 := by rw [e_T8]; exact e_b5
    exact kp_retv X hr hlocks h hle hw dX12_pledges_75
  · have hw := hw.2 c10
    refine lv_aload_n X.1 X.2.1 dX12_pledges_14 rfl (lv_at hl 0 rfl) ?_
    refine lv_iconst (v := 2) X.1 X.2.1 dX12_pledges_15 (by decide) ?_
    refine kp_callv X h (kp_runV (rm := { frames := 5, cells := 0, slots := 0, locals := 108 }) (mc := 0) (ms := 0) (rest := []) (Qc := fun A => kp_Qv D cy A S _) X h (c_X12_trouble l D cy ad S a0 2 _ h.2.2.2 f_a0 hw) f_a0 cv_12_696 ⟨by decide, by decide, rfl, rfl, by decide, by decide⟩ rfl hl.1 rfl (Nat.le_of_ble_eq_true rfl) dX12_pledges_16) (fun T9 hw l_T9 H locs h => ?_)
    have f_a0 := l_T9.is f_a0
    have f_b1 := l_T9.is f_b1
    have hle := hle.tr l_T9
    exact kp_retv X hr hlocks h hle hw dX12_pledges_19
theorem dX12_levelBeside_0 : decode cX12_levelBeside 0 = .ok (.aload_n 0, 1) := by decide +kernel
theorem dX12_levelBeside_1 : decode cX12_levelBeside 1 = .ok (.getfield 164, 3) := by decide +kernel
theorem dX12_levelBeside_4 : decode cX12_levelBeside 4 = .ok (.iload_n 1, 1) := by decide +kernel
theorem dX12_levelBeside_5 : decode cX12_levelBeside 5 = .ok (.iload_n 2, 1) := by decide +kernel
theorem dX12_levelBeside_6 : decode cX12_levelBeside 6 = .ok (.iadd, 1) := by decide +kernel
theorem dX12_levelBeside_7 : decode cX12_levelBeside 7 = .ok (.iaload, 1) := by decide +kernel
theorem dX12_levelBeside_8 : decode cX12_levelBeside 8 = .ok (.bipush 10, 2) := by decide +kernel
theorem dX12_levelBeside_10 : decode cX12_levelBeside 10 = .ok (.idiv, 1) := by decide +kernel
theorem dX12_levelBeside_11 : decode cX12_levelBeside 11 = .ok (.ireturn, 1) := by decide +kernel
def wX12_levelBeside (a0 : Nat) (x1 : Int32) (x2 : Int32) (S : kp_S) (post : Int32 → kp_S → Prop) : Prop :=
  ∃ b1 : Nat, kp_R S 2466 a0 = some b1 ∧
  vp_in (x1 + x2) (kp_N S b1) ∧
  post ((kp_A S b1 (x1 + x2).toNatClampNeg) / 10) S
set_option maxHeartbeats 4000000 in
set_option maxRecDepth 100000 in
theorem c_X12_levelBeside (l : Launch) (D : va_G) (cy : Nat → ClassId) (ad : (Nat → Nat) × (Nat → Nat)) (S : kp_S) (a0 : Nat) (x1 : Int32) (x2 : Int32) (post : Int32 → kp_S → Prop) (hS : kp_ok S) (f_a0 : kp_is S a0 12) (hw : wX12_levelBeside a0 x1 x2 S post) : kp_M l yX12_levelBeside cX12_levelBeside 3 (some .int) { frames := 0, cells := 0, slots := 0, locals := 0 } D cy ad S [.ref a0, .int x1, .int x2] 0 0 (fun A => kp_Qi D cy A S post) := by
  refine kp_start (own := RX12) (by decide) rfl (Nat.le_of_ble_eq_true rfl) hS ?_
  intro p e s m below meth c A ls X hr hlocks hname h hl
  have hle : kp_le S S := kp_le.rf
  have hl : lv_has ls 3 [(0, .ref a0), (1, .int x1), (2, .int x2)] := hl
  unfold wX12_levelBeside at hw
  have h : kp_H D cy A S s.heap s.heap [] := h
  revert h
  intro h
  refine lv_aload_n X.1 X.2.1 dX12_levelBeside_0 rfl (lv_at hl 0 rfl) ?_
  obtain ⟨b1, e_b1, hw⟩ := hw
  have f_b1 := h.2.2.2.rf (c := 12) (k := 66) f_a0 (by decide) (by decide) e_b1 (t := 14) rfl
  refine kp_get X h f_a0 ff_12_164.l (v := .ref b1) (congrArg va_rf e_b1) dX12_levelBeside_1 ?_
  refine lv_iload_n X.1 X.2.1 dX12_levelBeside_4 rfl (lv_at hl 1 rfl) ?_
  refine lv_iload_n X.1 X.2.1 dX12_levelBeside_5 rfl (lv_at hl 2 rfl) ?_
  refine lv_iadd X.1 X.2.1 dX12_levelBeside_6 ?_
  obtain ⟨hi, hw⟩ := hw
  refine kp_iald X h f_b1 hi dX12_levelBeside_7 ?_
  refine lv_bipush (v := 10) X.1 X.2.1 dX12_levelBeside_8 (by decide) ?_
  refine lv_idiv X.1 X.2.1 dX12_levelBeside_10 (by decide) ?_
  exact kp_reti X hr hlocks h hle rfl hw dX12_levelBeside_11
theorem dX12_wrongSide_0 : decode cX12_wrongSide 0 = .ok (.iload_n 1, 1) := by decide +kernel
theorem dX12_wrongSide_1 : decode cX12_wrongSide 1 = .ok (.iconst 0, 1) := by decide +kernel
theorem dX12_wrongSide_2 : decode cX12_wrongSide 2 = .ok (.iconst 5, 1) := by decide +kernel
theorem dX12_wrongSide_3 : decode cX12_wrongSide 3 = .ok (.invokestatic 589, 3) := by decide +kernel
theorem dX12_wrongSide_6 : decode cX12_wrongSide 6 = .ok (.ifCond .eq 12, 3) := by decide +kernel
theorem dX12_wrongSide_9 : decode cX12_wrongSide 9 = .ok (.iload_n 2, 1) := by decide +kernel
theorem dX12_wrongSide_10 : decode cX12_wrongSide 10 = .ok (.iconst 0, 1) := by decide +kernel
theorem dX12_wrongSide_11 : decode cX12_wrongSide 11 = .ok (.iconst 1, 1) := by decide +kernel
theorem dX12_wrongSide_12 : decode cX12_wrongSide 12 = .ok (.invokestatic 589, 3) := by decide +kernel
theorem dX12_wrongSide_15 : decode cX12_wrongSide 15 = .ok (.ifCond .ne 5, 3) := by decide +kernel
theorem dX12_wrongSide_18 : decode cX12_wrongSide 18 = .ok (.iconst 3, 1) := by decide +kernel
theorem dX12_wrongSide_19 : decode cX12_wrongSide 19 = .ok (.ireturn, 1) := by decide +kernel
theorem dX12_wrongSide_20 : decode cX12_wrongSide 20 = .ok (.aload_n 0, 1) := by decide +kernel
theorem dX12_wrongSide_21 : decode cX12_wrongSide 21 = .ok (.getfield 161, 3) := by decide +kernel
theorem dX12_wrongSide_24 : decode cX12_wrongSide 24 = .ok (.iload_n 1, 1) := by decide +kernel
theorem dX12_wrongSide_25 : decode cX12_wrongSide 25 = .ok (.iaload, 1) := by decide +kernel
theorem dX12_wrongSide_26 : decode cX12_wrongSide 26 = .ok (.ifCond .ne 7, 3) := by decide +kernel
theorem dX12_wrongSide_29 : decode cX12_wrongSide 29 = .ok (.iconst 4, 1) := by decide +kernel
theorem dX12_wrongSide_30 : decode cX12_wrongSide 30 = .ok (.goto 4, 3) := by decide +kernel
theorem dX12_wrongSide_33 : decode cX12_wrongSide 33 = .ok (.iconst 0, 1) := by decide +kernel
theorem dX12_wrongSide_34 : decode cX12_wrongSide 34 = .ok (.ireturn, 1) := by decide +kernel
def wX12_wrongSide_b18 (a0 : Nat) (x1 : Int32) (x2 : Int32)  (Sn : kp_S) (post : Int32 → kp_S → Prop) : Prop :=
  post 3 Sn
def wX12_wrongSide_b34 (a0 : Nat) (x1 : Int32) (x2 : Int32) (xt0 : Int32)  (Sn : kp_S) (post : Int32 → kp_S → Prop) : Prop :=
  post xt0 Sn
def wX12_wrongSide (a0 : Nat) (x1 : Int32) (x2 : Int32) (S : kp_S) (post : Int32 → kp_S → Prop) : Prop :=
  wX12_in x1 0 5 S (fun y2 T1 =>
  ((y2 = 0 →
  wX12_wrongSide_b18 a0 x1 x2   T1 post) ∧ (¬ y2 = 0 →
  wX12_in x2 0 1 T1 (fun y4 T3 =>
  ((¬ y4 = 0 →
  ∃ b5 : Nat, kp_R T3 2465 a0 = some b5 ∧
  vp_in x1 (kp_N T3 b5) ∧
  ((¬ (kp_A T3 b5 x1.toNatClampNeg) = 0 →
  wX12_wrongSide_b34 a0 x1 x2 0  T3 post) ∧ ((kp_A T3 b5 x1.toNatClampNeg) = 0 →
  wX12_wrongSide_b34 a0 x1 x2 4  T3 post))) ∧ (y4 = 0 →
  wX12_wrongSide_b18 a0 x1 x2   T3 post))))))
set_option maxHeartbeats 4000000 in
set_option maxRecDepth 100000 in
theorem c_X12_wrongSide (l : Launch) (D : va_G) (cy : Nat → ClassId) (ad : (Nat → Nat) × (Nat → Nat)) (S : kp_S) (a0 : Nat) (x1 : Int32) (x2 : Int32) (post : Int32 → kp_S → Prop) (hS : kp_ok S) (f_a0 : kp_is S a0 12) (hw : wX12_wrongSide a0 x1 x2 S post) : kp_M l yX12_wrongSide cX12_wrongSide 3 (some .int) { frames := 1, cells := 0, slots := 0, locals := 22 } D cy ad S [.ref a0, .int x1, .int x2] 0 0 (fun A => kp_Qi D cy A S post) := by
  refine kp_start (own := RX12) (by decide) rfl (Nat.le_of_ble_eq_true rfl) hS ?_
  intro p e s m below meth c A ls X hr hlocks hname h hl
  have hle : kp_le S S := kp_le.rf
  have hl : lv_has ls 3 [(0, .ref a0), (1, .int x1), (2, .int x2)] := hl
  have j18 : ∀  (Sn : kp_S) (H : Heap) (locs : List Loc) (ls : Array Slot), lv_has ls 3 [] → kp_H D cy A Sn s.heap H locs → kp_le S Sn → kp_is Sn a0 12 → wX12_wrongSide_b18 a0 x1 x2   Sn post → W p l e { frames := 1, cells := 0, slots := 0, locals := 22 } s m ([.ref a0, .int x1, .int x2] : List Value).toArray below meth c H locs 0 0 (MQ below (kp_Qi D cy A S post) ([.ref a0, .int x1, .int x2] : List Value).toArray s 0 0 A) (F0 m 18 ls []) := by
    intro  Sn H locs ls hl h hle f_a0 hw
    unfold wX12_wrongSide_b18 at hw
    refine lv_iconst (v := 3) X.1 X.2.1 dX12_wrongSide_18 (by decide) ?_
    exact kp_reti X hr hlocks h hle rfl hw dX12_wrongSide_19
  have j34 : ∀ (xt0 : Int32) (Sn : kp_S) (H : Heap) (locs : List Loc) (ls : Array Slot), lv_has ls 3 [] → kp_H D cy A Sn s.heap H locs → kp_le S Sn → kp_is Sn a0 12 → wX12_wrongSide_b34 a0 x1 x2 xt0  Sn post → W p l e { frames := 1, cells := 0, slots := 0, locals := 22 } s m ([.ref a0, .int x1, .int x2] : List Value).toArray below meth c H locs 0 0 (MQ below (kp_Qi D cy A S post) ([.ref a0, .int x1, .int x2] : List Value).toArray s 0 0 A) (F0 m 34 ls [.int xt0]) := by
    intro xt0 Sn H locs ls hl h hle f_a0 hw
    unfold wX12_wrongSide_b34 at hw
    exact kp_reti X hr hlocks h hle rfl hw dX12_wrongSide_34
  unfold wX12_wrongSide at hw
  have h : kp_H D cy A S s.heap s.heap [] := h
  revert h
  intro h
  refine lv_iload_n X.1 X.2.1 dX12_wrongSide_0 rfl (lv_at hl 1 rfl) ?_
  refine lv_iconst (v := 0) X.1 X.2.1 dX12_wrongSide_1 (by decide) ?_
  refine lv_iconst (v := 5) X.1 X.2.1 dX12_wrongSide_2 (by decide) ?_
  refine kp_calli X h (kp_runS (rm := { frames := 0, cells := 0, slots := 0, locals := 0 }) (mc := 0) (ms := 0) (rest := []) (Qc := fun A => kp_Qi D cy A S _) X h (c_X12_in l D cy ad S x1 0 5 _ h.2.2.2  hw) cs_12_589 ⟨by decide, by decide, rfl, rfl, by decide, by decide⟩ rfl hl.1 rfl (Nat.le_of_ble_eq_true rfl) dX12_wrongSide_3) (fun y2 T1 hw l_T1 H locs h => ?_)
  have f_a0 := l_T1.is f_a0
  have hle := hle.tr l_T1
  refine lv_if_eq (tgt := 18) X.1 X.2.1 dX12_wrongSide_6 (by decide) (fun c8 => ?_) (fun c8 => ?_)
  · have hw := hw.1 c8
    exact j18  T1 _ _ ls (lv_sub hl [] rfl) h hle f_a0 hw
  · have hw := hw.2 c8
    refine lv_iload_n X.1 X.2.1 dX12_wrongSide_9 rfl (lv_at hl 2 rfl) ?_
    refine lv_iconst (v := 0) X.1 X.2.1 dX12_wrongSide_10 (by decide) ?_
    refine lv_iconst (v := 1) X.1 X.2.1 dX12_wrongSide_11 (by decide) ?_
    refine kp_calli X h (kp_runS (rm := { frames := 0, cells := 0, slots := 0, locals := 0 }) (mc := 0) (ms := 0) (rest := []) (Qc := fun A => kp_Qi D cy A T1 _) X h (c_X12_in l D cy ad T1 x2 0 1 _ h.2.2.2  hw) cs_12_589 ⟨by decide, by decide, rfl, rfl, by decide, by decide⟩ rfl hl.1 rfl (Nat.le_of_ble_eq_true rfl) dX12_wrongSide_12) (fun y4 T3 hw l_T3 H locs h => ?_)
    have f_a0 := l_T3.is f_a0
    have hle := hle.tr l_T3
    refine lv_if_ne (tgt := 20) X.1 X.2.1 dX12_wrongSide_15 (by decide) (fun c7 => ?_) (fun c7 => ?_)
    · have hw := hw.1 c7
      refine lv_aload_n X.1 X.2.1 dX12_wrongSide_20 rfl (lv_at hl 0 rfl) ?_
      obtain ⟨b5, e_b5, hw⟩ := hw
      have f_b5 := h.2.2.2.rf (c := 12) (k := 65) f_a0 (by decide) (by decide) e_b5 (t := 14) rfl
      refine kp_get X h f_a0 ff_12_161.l (v := .ref b5) (congrArg va_rf e_b5) dX12_wrongSide_21 ?_
      refine lv_iload_n X.1 X.2.1 dX12_wrongSide_24 rfl (lv_at hl 1 rfl) ?_
      obtain ⟨hi, hw⟩ := hw
      refine kp_iald X h f_b5 hi dX12_wrongSide_25 ?_
      refine lv_if_ne (tgt := 33) X.1 X.2.1 dX12_wrongSide_26 (by decide) (fun c6 => ?_) (fun c6 => ?_)
      · have hw := hw.1 c6
        refine lv_iconst (v := 0) X.1 X.2.1 dX12_wrongSide_33 (by decide) ?_
        exact j34 0 T3 _ _ ls (lv_sub hl [] rfl) h hle f_a0 hw
      · have hw := hw.2 c6
        refine lv_iconst (v := 4) X.1 X.2.1 dX12_wrongSide_29 (by decide) ?_
        refine lv_goto (tgt := 34) X.1 X.2.1 dX12_wrongSide_30 (by decide) ?_
        exact j34 4 T3 _ _ ls (lv_sub hl [] rfl) h hle f_a0 hw
    · have hw := hw.2 c7
      exact j18  T3 _ _ ls (lv_sub hl [] rfl) h hle f_a0 hw
theorem dX12_moveGate_0 : decode cX12_moveGate 0 = .ok (.aload_n 0, 1) := by decide +kernel
theorem dX12_moveGate_1 : decode cX12_moveGate 1 = .ok (.invokevirtual 718, 3) := by decide +kernel
theorem dX12_moveGate_4 : decode cX12_moveGate 4 = .ok (.istore_n 2, 1) := by decide +kernel
theorem dX12_moveGate_5 : decode cX12_moveGate 5 = .ok (.aload_n 0, 1) := by decide +kernel
theorem dX12_moveGate_6 : decode cX12_moveGate 6 = .ok (.invokevirtual 718, 3) := by decide +kernel
theorem dX12_moveGate_9 : decode cX12_moveGate 9 = .ok (.istore_n 3, 1) := by decide +kernel
theorem dX12_moveGate_10 : decode cX12_moveGate 10 = .ok (.aload_n 0, 1) := by decide +kernel
theorem dX12_moveGate_11 : decode cX12_moveGate 11 = .ok (.iload_n 3, 1) := by decide +kernel
theorem dX12_moveGate_12 : decode cX12_moveGate 12 = .ok (.iload_n 2, 1) := by decide +kernel
theorem dX12_moveGate_13 : decode cX12_moveGate 13 = .ok (.invokevirtual 787, 3) := by decide +kernel
theorem dX12_moveGate_16 : decode cX12_moveGate 16 = .ok (.istore 4, 2) := by decide +kernel
theorem dX12_moveGate_18 : decode cX12_moveGate 18 = .ok (.iload 4, 2) := by decide +kernel
theorem dX12_moveGate_20 : decode cX12_moveGate 20 = .ok (.ifCond .ne 26, 3) := by decide +kernel
theorem dX12_moveGate_23 : decode cX12_moveGate 23 = .ok (.iload_n 1, 1) := by decide +kernel
theorem dX12_moveGate_24 : decode cX12_moveGate 24 = .ok (.ifCond .eq 22, 3) := by decide +kernel
theorem dX12_moveGate_27 : decode cX12_moveGate 27 = .ok (.aload_n 0, 1) := by decide +kernel
theorem dX12_moveGate_28 : decode cX12_moveGate 28 = .ok (.getfield 157, 3) := by decide +kernel
theorem dX12_moveGate_31 : decode cX12_moveGate 31 = .ok (.iconst 2, 1) := by decide +kernel
theorem dX12_moveGate_32 : decode cX12_moveGate 32 = .ok (.iload_n 3, 1) := by decide +kernel
theorem dX12_moveGate_33 : decode cX12_moveGate 33 = .ok (.imul, 1) := by decide +kernel
theorem dX12_moveGate_34 : decode cX12_moveGate 34 = .ok (.iconst 1, 1) := by decide +kernel
theorem dX12_moveGate_35 : decode cX12_moveGate 35 = .ok (.iadd, 1) := by decide +kernel
theorem dX12_moveGate_36 : decode cX12_moveGate 36 = .ok (.iload_n 2, 1) := by decide +kernel
theorem dX12_moveGate_37 : decode cX12_moveGate 37 = .ok (.isub, 1) := by decide +kernel
theorem dX12_moveGate_38 : decode cX12_moveGate 38 = .ok (.baload, 1) := by decide +kernel
theorem dX12_moveGate_39 : decode cX12_moveGate 39 = .ok (.ifCond .eq 7, 3) := by decide +kernel
theorem dX12_moveGate_42 : decode cX12_moveGate 42 = .ok (.bipush 6, 2) := by decide +kernel
theorem dX12_moveGate_44 : decode cX12_moveGate 44 = .ok (.istore 4, 2) := by decide +kernel
theorem dX12_moveGate_46 : decode cX12_moveGate 46 = .ok (.iload 4, 2) := by decide +kernel
theorem dX12_moveGate_48 : decode cX12_moveGate 48 = .ok (.ifCond .ne 41, 3) := by decide +kernel
theorem dX12_moveGate_51 : decode cX12_moveGate 51 = .ok (.iload_n 1, 1) := by decide +kernel
theorem dX12_moveGate_52 : decode cX12_moveGate 52 = .ok (.ifCond .eq 37, 3) := by decide +kernel
theorem dX12_moveGate_55 : decode cX12_moveGate 55 = .ok (.aload_n 0, 1) := by decide +kernel
theorem dX12_moveGate_56 : decode cX12_moveGate 56 = .ok (.getfield 154, 3) := by decide +kernel
theorem dX12_moveGate_59 : decode cX12_moveGate 59 = .ok (.iload_n 3, 1) := by decide +kernel
theorem dX12_moveGate_60 : decode cX12_moveGate 60 = .ok (.iaload, 1) := by decide +kernel
theorem dX12_moveGate_61 : decode cX12_moveGate 61 = .ok (.aload_n 0, 1) := by decide +kernel
theorem dX12_moveGate_62 : decode cX12_moveGate 62 = .ok (.iload_n 3, 1) := by decide +kernel
theorem dX12_moveGate_63 : decode cX12_moveGate 63 = .ok (.iload_n 2, 1) := by decide +kernel
theorem dX12_moveGate_64 : decode cX12_moveGate 64 = .ok (.invokevirtual 790, 3) := by decide +kernel
theorem dX12_moveGate_67 : decode cX12_moveGate 67 = .ok (.isub, 1) := by decide +kernel
theorem dX12_moveGate_68 : decode cX12_moveGate 68 = .ok (.istore 5, 2) := by decide +kernel
theorem dX12_moveGate_70 : decode cX12_moveGate 70 = .ok (.iload 5, 2) := by decide +kernel
theorem dX12_moveGate_72 : decode cX12_moveGate 72 = .ok (.iconst 1, 1) := by decide +kernel
theorem dX12_moveGate_73 : decode cX12_moveGate 73 = .ok (.if_icmp .gt 9, 3) := by decide +kernel
theorem dX12_moveGate_76 : decode cX12_moveGate 76 = .ok (.iload 5, 2) := by decide +kernel
theorem dX12_moveGate_78 : decode cX12_moveGate 78 = .ok (.iconst (-1), 1) := by decide +kernel
theorem dX12_moveGate_79 : decode cX12_moveGate 79 = .ok (.if_icmp .ge 7, 3) := by decide +kernel
theorem dX12_moveGate_82 : decode cX12_moveGate 82 = .ok (.iconst 5, 1) := by decide +kernel
theorem dX12_moveGate_83 : decode cX12_moveGate 83 = .ok (.goto 4, 3) := by decide +kernel
theorem dX12_moveGate_86 : decode cX12_moveGate 86 = .ok (.iconst 0, 1) := by decide +kernel
theorem dX12_moveGate_87 : decode cX12_moveGate 87 = .ok (.istore 4, 2) := by decide +kernel
theorem dX12_moveGate_89 : decode cX12_moveGate 89 = .ok (.iload 4, 2) := by decide +kernel
theorem dX12_moveGate_91 : decode cX12_moveGate 91 = .ok (.ifCond .le 10, 3) := by decide +kernel
theorem dX12_moveGate_94 : decode cX12_moveGate 94 = .ok (.aload_n 0, 1) := by decide +kernel
theorem dX12_moveGate_95 : decode cX12_moveGate 95 = .ok (.iload 4, 2) := by decide +kernel
theorem dX12_moveGate_97 : decode cX12_moveGate 97 = .ok (.invokevirtual 696, 3) := by decide +kernel
theorem dX12_moveGate_100 : decode cX12_moveGate 100 = .ok (.return_, 1) := by decide +kernel
theorem dX12_moveGate_101 : decode cX12_moveGate 101 = .ok (.aload_n 0, 1) := by decide +kernel
theorem dX12_moveGate_102 : decode cX12_moveGate 102 = .ok (.getfield 157, 3) := by decide +kernel
theorem dX12_moveGate_105 : decode cX12_moveGate 105 = .ok (.iconst 2, 1) := by decide +kernel
theorem dX12_moveGate_106 : decode cX12_moveGate 106 = .ok (.iload_n 3, 1) := by decide +kernel
theorem dX12_moveGate_107 : decode cX12_moveGate 107 = .ok (.imul, 1) := by decide +kernel
theorem dX12_moveGate_108 : decode cX12_moveGate 108 = .ok (.iload_n 2, 1) := by decide +kernel
theorem dX12_moveGate_109 : decode cX12_moveGate 109 = .ok (.iadd, 1) := by decide +kernel
theorem dX12_moveGate_110 : decode cX12_moveGate 110 = .ok (.iload_n 1, 1) := by decide +kernel
theorem dX12_moveGate_111 : decode cX12_moveGate 111 = .ok (.bastore, 1) := by decide +kernel
theorem dX12_moveGate_112 : decode cX12_moveGate 112 = .ok (.aload_n 0, 1) := by decide +kernel
theorem dX12_moveGate_113 : decode cX12_moveGate 113 = .ok (.iload_n 1, 1) := by decide +kernel
theorem dX12_moveGate_114 : decode cX12_moveGate 114 = .ok (.ifCond .eq 7, 3) := by decide +kernel
theorem dX12_moveGate_117 : decode cX12_moveGate 117 = .ok (.iconst 3, 1) := by decide +kernel
theorem dX12_moveGate_118 : decode cX12_moveGate 118 = .ok (.goto 4, 3) := by decide +kernel
theorem dX12_moveGate_121 : decode cX12_moveGate 121 = .ok (.iconst 4, 1) := by decide +kernel
theorem dX12_moveGate_122 : decode cX12_moveGate 122 = .ok (.iconst 2, 1) := by decide +kernel
theorem dX12_moveGate_123 : decode cX12_moveGate 123 = .ok (.iload_n 3, 1) := by decide +kernel
theorem dX12_moveGate_124 : decode cX12_moveGate 124 = .ok (.imul, 1) := by decide +kernel
theorem dX12_moveGate_125 : decode cX12_moveGate 125 = .ok (.iload_n 2, 1) := by decide +kernel
theorem dX12_moveGate_126 : decode cX12_moveGate 126 = .ok (.iadd, 1) := by decide +kernel
theorem dX12_moveGate_127 : decode cX12_moveGate 127 = .ok (.invokevirtual 637, 3) := by decide +kernel
theorem dX12_moveGate_130 : decode cX12_moveGate 130 = .ok (.return_, 1) := by decide +kernel
def wX12_moveGate_b122 (a0 : Nat) (x1 : Int32) (xn2 : Int32) (xn3 : Int32) (xt0 : Int32) (at1 : Nat)  (Sn : kp_S) (post : kp_S → Prop) : Prop :=
  wX12_note at1 xt0 ((2 * xn3) + xn2) Sn (fun T1001 =>
  post T1001)
def wX12_moveGate_b89 (a0 : Nat) (x1 : Int32) (xn2 : Int32) (xn3 : Int32) (xn4 : Int32)  (Sn : kp_S) (post : kp_S → Prop) : Prop :=
  ((xn4 ≤ 0 →
  ∃ b2001 : Nat, kp_R Sn 2464 a0 = some b2001 ∧
  vp_in ((2 * xn3) + xn2) (kp_N Sn b2001) ∧ ∀ T2002 : kp_S, T2002 = kp_sA Sn b2001 (upd (kp_A Sn b2001) (((2 * xn3) + xn2).toNatClampNeg) (vp_nar .boolean x1)) →
  ((x1 = 0 →
  wX12_moveGate_b122 a0 x1 xn2 xn3 4 a0  T2002 post) ∧ (¬ x1 = 0 →
  wX12_moveGate_b122 a0 x1 xn2 xn3 3 a0  T2002 post))) ∧ (¬ xn4 ≤ 0 →
  wX12_trouble a0 xn4 Sn (fun T2004 =>
  post T2004)))
def wX12_moveGate_b87 (a0 : Nat) (x1 : Int32) (xn2 : Int32) (xn3 : Int32) (xt0 : Int32)  (Sn : kp_S) (post : kp_S → Prop) : Prop :=
  wX12_moveGate_b89 a0 x1 xn2 xn3 xt0  Sn post
def wX12_moveGate_b82 (a0 : Nat) (x1 : Int32) (xn2 : Int32) (xn3 : Int32)  (Sn : kp_S) (post : kp_S → Prop) : Prop :=
  wX12_moveGate_b87 a0 x1 xn2 xn3 5  Sn post
def wX12_moveGate_b46 (a0 : Nat) (x1 : Int32) (xn2 : Int32) (xn3 : Int32) (xn4 : Int32)  (Sn : kp_S) (post : kp_S → Prop) : Prop :=
  ((¬ xn4 = 0 →
  wX12_moveGate_b89 a0 x1 xn2 xn3 xn4  Sn post) ∧ (xn4 = 0 →
  ((x1 = 0 →
  wX12_moveGate_b89 a0 x1 xn2 xn3 xn4  Sn post) ∧ (¬ x1 = 0 →
  ∃ b5001 : Nat, kp_R Sn 2463 a0 = some b5001 ∧
  vp_in xn3 (kp_N Sn b5001) ∧
  wX12_levelBeside a0 xn3 xn2 Sn (fun y5003 T5002 =>
  ∀ y5004 : Int32, y5004 = ((kp_A Sn b5001 xn3.toNatClampNeg) - y5003) →
  ((1 < y5004 →
  wX12_moveGate_b82 a0 x1 xn2 xn3  T5002 post) ∧ (¬ 1 < y5004 →
  (((-1) ≤ y5004 →
  wX12_moveGate_b87 a0 x1 xn2 xn3 0  T5002 post) ∧ (¬ (-1) ≤ y5004 →
  wX12_moveGate_b82 a0 x1 xn2 xn3  T5002 post)))))))))
def wX12_moveGate (a0 : Nat) (x1 : Int32) (S : kp_S) (post : kp_S → Prop) : Prop :=
  wX12_pop a0 S (fun y2 T1 =>
  wX12_pop a0 T1 (fun y4 T3 =>
  wX12_wrongSide a0 y4 y2 T3 (fun y6 T5 =>
  ((¬ y6 = 0 →
  wX12_moveGate_b46 a0 x1 y2 y4 y6  T5 post) ∧ (y6 = 0 →
  ((x1 = 0 →
  wX12_moveGate_b46 a0 x1 y2 y4 y6  T5 post) ∧ (¬ x1 = 0 →
  ∃ b7 : Nat, kp_R T5 2464 a0 = some b7 ∧
  vp_in (((2 * y4) + 1) - y2) (kp_N T5 b7) ∧
  (((kp_A T5 b7 (((2 * y4) + 1) - y2).toNatClampNeg) = 0 →
  wX12_moveGate_b46 a0 x1 y2 y4 y6  T5 post) ∧ (¬ (kp_A T5 b7 (((2 * y4) + 1) - y2).toNatClampNeg) = 0 →
  wX12_moveGate_b46 a0 x1 y2 y4 6  T5 post)))))))))
set_option maxHeartbeats 4000000 in
set_option maxRecDepth 100000 in
theorem c_X12_moveGate (l : Launch) (D : va_G) (cy : Nat → ClassId) (ad : (Nat → Nat) × (Nat → Nat)) (S : kp_S) (a0 : Nat) (x1 : Int32) (post : kp_S → Prop) (hS : kp_ok S) (f_a0 : kp_is S a0 12) (hw : wX12_moveGate a0 x1 S post) : kp_M l yX12_moveGate cX12_moveGate 6 none { frames := 6, cells := 0, slots := 0, locals := 130 } D cy ad S [.ref a0, .int x1] 0 0 (fun A => kp_Qv D cy A S post) := by
  refine kp_start (own := RX12) (by decide) rfl (Nat.le_of_ble_eq_true rfl) hS ?_
  intro p e s m below meth c A ls X hr hlocks hname h hl
  have hle : kp_le S S := kp_le.rf
  have hl : lv_has ls 6 [(0, .ref a0), (1, .int x1)] := hl
  have j122 : ∀ (xn2 : Int32) (xn3 : Int32) (xt0 : Int32) (at1 : Nat) (Sn : kp_S) (H : Heap) (locs : List Loc) (ls : Array Slot), lv_has ls 6 [(2, .int xn2), (3, .int xn3)] → kp_H D cy A Sn s.heap H locs → kp_le S Sn → kp_is Sn at1 12 → kp_is Sn a0 12 → wX12_moveGate_b122 a0 x1 xn2 xn3 xt0 at1  Sn post → W p l e { frames := 6, cells := 0, slots := 0, locals := 130 } s m ([.ref a0, .int x1] : List Value).toArray below meth c H locs 0 0 (MQ below (kp_Qv D cy A S post) ([.ref a0, .int x1] : List Value).toArray s 0 0 A) (F0 m 122 ls [.int xt0, .ref at1]) := by
    intro xn2 xn3 xt0 at1 Sn H locs ls hl h hle f_at1 f_a0 hw
    unfold wX12_moveGate_b122 at hw
    refine lv_iconst (v := 2) X.1 X.2.1 dX12_moveGate_122 (by decide) ?_
    refine lv_iload_n X.1 X.2.1 dX12_moveGate_123 rfl (lv_at hl 1 rfl) ?_
    refine lv_imul X.1 X.2.1 dX12_moveGate_124 ?_
    refine lv_iload_n X.1 X.2.1 dX12_moveGate_125 rfl (lv_at hl 0 rfl) ?_
    refine lv_iadd X.1 X.2.1 dX12_moveGate_126 ?_
    refine kp_callv X h (kp_runV (rm := { frames := 0, cells := 0, slots := 0, locals := 0 }) (mc := 0) (ms := 0) (rest := []) (Qc := fun A => kp_Qv D cy A Sn _) X h (c_X12_note l D cy ad Sn at1 xt0 ((2 * xn3) + xn2) _ h.2.2.2 f_at1 hw) f_at1 cv_12_637 ⟨by decide, by decide, rfl, rfl, by decide, by decide⟩ rfl hl.1 rfl (Nat.le_of_ble_eq_true rfl) dX12_moveGate_127) (fun T1001 hw l_T1001 H locs h => ?_)
    have f_at1 := l_T1001.is f_at1
    have f_a0 := l_T1001.is f_a0
    have hle := hle.tr l_T1001
    exact kp_retv X hr hlocks h hle hw dX12_moveGate_130
  have j89 : ∀ (xn2 : Int32) (xn3 : Int32) (xn4 : Int32) (Sn : kp_S) (H : Heap) (locs : List Loc) (ls : Array Slot), lv_has ls 6 [(0, .ref a0), (1, .int x1), (2, .int xn2), (3, .int xn3), (4, .int xn4)] → kp_H D cy A Sn s.heap H locs → kp_le S Sn → kp_is Sn a0 12 → wX12_moveGate_b89 a0 x1 xn2 xn3 xn4  Sn post → W p l e { frames := 6, cells := 0, slots := 0, locals := 130 } s m ([.ref a0, .int x1] : List Value).toArray below meth c H locs 0 0 (MQ below (kp_Qv D cy A S post) ([.ref a0, .int x1] : List Value).toArray s 0 0 A) (F0 m 89 ls []) := by
    intro xn2 xn3 xn4 Sn H locs ls hl h hle f_a0 hw
    unfold wX12_moveGate_b89 at hw
    refine lv_iload X.1 X.2.1 dX12_moveGate_89 (lv_at hl 4 rfl) ?_
    refine lv_if_le (tgt := 101) X.1 X.2.1 dX12_moveGate_91 (by decide) (fun c2005 => ?_) (fun c2005 => ?_)
    · have hw := hw.1 c2005
      refine lv_aload_n X.1 X.2.1 dX12_moveGate_101 rfl (lv_at hl 0 rfl) ?_
      obtain ⟨b2001, e_b2001, hw⟩ := hw
      have f_b2001 := h.2.2.2.rf (c := 12) (k := 64) f_a0 (by decide) (by decide) e_b2001 (t := 16) rfl
      refine kp_get X h f_a0 ff_12_157.l (v := .ref b2001) (congrArg va_rf e_b2001) dX12_moveGate_102 ?_
      refine lv_iconst (v := 2) X.1 X.2.1 dX12_moveGate_105 (by decide) ?_
      refine lv_iload_n X.1 X.2.1 dX12_moveGate_106 rfl (lv_at hl 3 rfl) ?_
      refine lv_imul X.1 X.2.1 dX12_moveGate_107 ?_
      refine lv_iload_n X.1 X.2.1 dX12_moveGate_108 rfl (lv_at hl 2 rfl) ?_
      refine lv_iadd X.1 X.2.1 dX12_moveGate_109 ?_
      refine lv_iload_n X.1 X.2.1 dX12_moveGate_110 rfl (lv_at hl 1 rfl) ?_
      obtain ⟨hi, hw⟩ := hw
      refine kp_zast X h f_b2001 hi dX12_moveGate_111 (fun T2002 e_T2002 l_T2002 H locs h => ?_)
      have hw := hw T2002 e_T2002
      have f_a0 := l_T2002.is f_a0
      have f_b2001 := l_T2002.is f_b2001
      have hle := hle.tr l_T2002
      have e_b2001 : kp_R T2002 2464 a0 = some b2001 := by rw [e_T2002]; exact e_b2001
      refine lv_aload_n X.1 X.2.1 dX12_moveGate_112 rfl (lv_at hl 0 rfl) ?_
      refine lv_iload_n X.1 X.2.1 dX12_moveGate_113 rfl (lv_at hl 1 rfl) ?_
      refine lv_if_eq (tgt := 121) X.1 X.2.1 dX12_moveGate_114 (by decide) (fun c2003 => ?_) (fun c2003 => ?_)
      · have hw := hw.1 c2003
        refine lv_iconst (v := 4) X.1 X.2.1 dX12_moveGate_121 (by decide) ?_
        exact j122 xn2 xn3 4 a0 T2002 H locs ls (lv_sub hl [2, 3] rfl) h hle f_a0 f_a0 hw
      · have hw := hw.2 c2003
        refine lv_iconst (v := 3) X.1 X.2.1 dX12_moveGate_117 (by decide) ?_
        refine lv_goto (tgt := 122) X.1 X.2.1 dX12_moveGate_118 (by decide) ?_
        exact j122 xn2 xn3 3 a0 T2002 H locs ls (lv_sub hl [2, 3] rfl) h hle f_a0 f_a0 hw
    · have hw := hw.2 c2005
      refine lv_aload_n X.1 X.2.1 dX12_moveGate_94 rfl (lv_at hl 0 rfl) ?_
      refine lv_iload X.1 X.2.1 dX12_moveGate_95 (lv_at hl 4 rfl) ?_
      refine kp_callv X h (kp_runV (rm := { frames := 5, cells := 0, slots := 0, locals := 108 }) (mc := 0) (ms := 0) (rest := []) (Qc := fun A => kp_Qv D cy A Sn _) X h (c_X12_trouble l D cy ad Sn a0 xn4 _ h.2.2.2 f_a0 hw) f_a0 cv_12_696 ⟨by decide, by decide, rfl, rfl, by decide, by decide⟩ rfl hl.1 rfl (Nat.le_of_ble_eq_true rfl) dX12_moveGate_97) (fun T2004 hw l_T2004 H locs h => ?_)
      have f_a0 := l_T2004.is f_a0
      have hle := hle.tr l_T2004
      exact kp_retv X hr hlocks h hle hw dX12_moveGate_100
  have j87 : ∀ (xn2 : Int32) (xn3 : Int32) (xt0 : Int32) (Sn : kp_S) (H : Heap) (locs : List Loc) (ls : Array Slot), lv_has ls 6 [(0, .ref a0), (1, .int x1), (2, .int xn2), (3, .int xn3)] → kp_H D cy A Sn s.heap H locs → kp_le S Sn → kp_is Sn a0 12 → wX12_moveGate_b87 a0 x1 xn2 xn3 xt0  Sn post → W p l e { frames := 6, cells := 0, slots := 0, locals := 130 } s m ([.ref a0, .int x1] : List Value).toArray below meth c H locs 0 0 (MQ below (kp_Qv D cy A S post) ([.ref a0, .int x1] : List Value).toArray s 0 0 A) (F0 m 87 ls [.int xt0]) := by
    intro xn2 xn3 xt0 Sn H locs ls hl h hle f_a0 hw
    unfold wX12_moveGate_b87 at hw
    refine lv_istore (lv' := [(4, .int xt0), (0, .ref a0), (1, .int x1), (2, .int xn2), (3, .int xn3)]) X.1 X.2.1 dX12_moveGate_87 hl (by decide) rfl (fun ls hl => ?_)
    exact j89 xn2 xn3 xt0 Sn H locs ls (lv_sub hl [1, 2, 3, 4, 0] rfl) h hle f_a0 hw
  have j82 : ∀ (xn2 : Int32) (xn3 : Int32) (Sn : kp_S) (H : Heap) (locs : List Loc) (ls : Array Slot), lv_has ls 6 [(0, .ref a0), (1, .int x1), (2, .int xn2), (3, .int xn3)] → kp_H D cy A Sn s.heap H locs → kp_le S Sn → kp_is Sn a0 12 → wX12_moveGate_b82 a0 x1 xn2 xn3  Sn post → W p l e { frames := 6, cells := 0, slots := 0, locals := 130 } s m ([.ref a0, .int x1] : List Value).toArray below meth c H locs 0 0 (MQ below (kp_Qv D cy A S post) ([.ref a0, .int x1] : List Value).toArray s 0 0 A) (F0 m 82 ls []) := by
    intro xn2 xn3 Sn H locs ls hl h hle f_a0 hw
    unfold wX12_moveGate_b82 at hw
    refine lv_iconst (v := 5) X.1 X.2.1 dX12_moveGate_82 (by decide) ?_
    refine lv_goto (tgt := 87) X.1 X.2.1 dX12_moveGate_83 (by decide) ?_
    exact j87 xn2 xn3 5 Sn H locs ls (lv_sub hl [0, 1, 2, 3] rfl) h hle f_a0 hw
  have j46 : ∀ (xn2 : Int32) (xn3 : Int32) (xn4 : Int32) (Sn : kp_S) (H : Heap) (locs : List Loc) (ls : Array Slot), lv_has ls 6 [(0, .ref a0), (1, .int x1), (2, .int xn2), (3, .int xn3), (4, .int xn4)] → kp_H D cy A Sn s.heap H locs → kp_le S Sn → kp_is Sn a0 12 → wX12_moveGate_b46 a0 x1 xn2 xn3 xn4  Sn post → W p l e { frames := 6, cells := 0, slots := 0, locals := 130 } s m ([.ref a0, .int x1] : List Value).toArray below meth c H locs 0 0 (MQ below (kp_Qv D cy A S post) ([.ref a0, .int x1] : List Value).toArray s 0 0 A) (F0 m 46 ls []) := by
    intro xn2 xn3 xn4 Sn H locs ls hl h hle f_a0 hw
    unfold wX12_moveGate_b46 at hw
    refine lv_iload X.1 X.2.1 dX12_moveGate_46 (lv_at hl 4 rfl) ?_
    refine lv_if_ne (tgt := 89) X.1 X.2.1 dX12_moveGate_48 (by decide) (fun c5008 => ?_) (fun c5008 => ?_)
    · have hw := hw.1 c5008
      exact j89 xn2 xn3 xn4 Sn H locs ls (lv_sub hl [0, 1, 2, 3, 4] rfl) h hle f_a0 hw
    · have hw := hw.2 c5008
      refine lv_iload_n X.1 X.2.1 dX12_moveGate_51 rfl (lv_at hl 1 rfl) ?_
      refine lv_if_eq (tgt := 89) X.1 X.2.1 dX12_moveGate_52 (by decide) (fun c5007 => ?_) (fun c5007 => ?_)
      · have hw := hw.1 c5007
        exact j89 xn2 xn3 xn4 Sn H locs ls (lv_sub hl [0, 1, 2, 3, 4] rfl) h hle f_a0 hw
      · have hw := hw.2 c5007
        refine lv_aload_n X.1 X.2.1 dX12_moveGate_55 rfl (lv_at hl 0 rfl) ?_
        obtain ⟨b5001, e_b5001, hw⟩ := hw
        have f_b5001 := h.2.2.2.rf (c := 12) (k := 63) f_a0 (by decide) (by decide) e_b5001 (t := 14) rfl
        refine kp_get X h f_a0 ff_12_154.l (v := .ref b5001) (congrArg va_rf e_b5001) dX12_moveGate_56 ?_
        refine lv_iload_n X.1 X.2.1 dX12_moveGate_59 rfl (lv_at hl 3 rfl) ?_
        obtain ⟨hi, hw⟩ := hw
        refine kp_iald X h f_b5001 hi dX12_moveGate_60 ?_
        refine lv_aload_n X.1 X.2.1 dX12_moveGate_61 rfl (lv_at hl 0 rfl) ?_
        refine lv_iload_n X.1 X.2.1 dX12_moveGate_62 rfl (lv_at hl 3 rfl) ?_
        refine lv_iload_n X.1 X.2.1 dX12_moveGate_63 rfl (lv_at hl 2 rfl) ?_
        refine kp_calli X h (kp_runV (rm := { frames := 0, cells := 0, slots := 0, locals := 0 }) (mc := 0) (ms := 0) (rest := [.int (kp_A Sn b5001 xn3.toNatClampNeg)]) (Qc := fun A => kp_Qi D cy A Sn _) X h (c_X12_levelBeside l D cy ad Sn a0 xn3 xn2 _ h.2.2.2 f_a0 hw) f_a0 cv_12_790 ⟨by decide, by decide, rfl, rfl, by decide, by decide⟩ rfl hl.1 rfl (Nat.le_of_ble_eq_true rfl) dX12_moveGate_64) (fun y5003 T5002 hw l_T5002 H locs h => ?_)
        have f_a0 := l_T5002.is f_a0
        have f_b5001 := l_T5002.is f_b5001
        have hle := hle.tr l_T5002
        refine lv_isub X.1 X.2.1 dX12_moveGate_67 ?_
        refine lv_topi (fun y5004 e_y5004 => ?_)
        have hw := hw y5004 e_y5004
        refine lv_istore (lv' := [(5, .int y5004), (0, .ref a0), (1, .int x1), (2, .int xn2), (3, .int xn3), (4, .int xn4)]) X.1 X.2.1 dX12_moveGate_68 hl (by decide) rfl (fun ls hl => ?_)
        refine lv_iload X.1 X.2.1 dX12_moveGate_70 (lv_at hl 0 rfl) ?_
        refine lv_iconst (v := 1) X.1 X.2.1 dX12_moveGate_72 (by decide) ?_
        refine lv_icmp_gt (tgt := 82) X.1 X.2.1 dX12_moveGate_73 (by decide) (fun c5006 => ?_) (fun c5006 => ?_)
        · have hw := hw.1 c5006
          exact j82 xn2 xn3 T5002 H locs ls (lv_sub hl [1, 2, 3, 4] rfl) h hle f_a0 hw
        · have hw := hw.2 c5006
          refine lv_iload X.1 X.2.1 dX12_moveGate_76 (lv_at hl 0 rfl) ?_
          refine lv_iconst (v := (-1)) X.1 X.2.1 dX12_moveGate_78 (by decide) ?_
          refine lv_icmp_ge (tgt := 86) X.1 X.2.1 dX12_moveGate_79 (by decide) (fun c5005 => ?_) (fun c5005 => ?_)
          · have hw := hw.1 c5005
            refine lv_iconst (v := 0) X.1 X.2.1 dX12_moveGate_86 (by decide) ?_
            exact j87 xn2 xn3 0 T5002 H locs ls (lv_sub hl [1, 2, 3, 4] rfl) h hle f_a0 hw
          · have hw := hw.2 c5005
            exact j82 xn2 xn3 T5002 H locs ls (lv_sub hl [1, 2, 3, 4] rfl) h hle f_a0 hw
  unfold wX12_moveGate at hw
  have h : kp_H D cy A S s.heap s.heap [] := h
  revert h
  intro h
  refine lv_aload_n X.1 X.2.1 dX12_moveGate_0 rfl (lv_at hl 0 rfl) ?_
  refine kp_calli X h (kp_runV (rm := { frames := 0, cells := 0, slots := 0, locals := 0 }) (mc := 0) (ms := 0) (rest := []) (Qc := fun A => kp_Qi D cy A S _) X h (c_X12_pop l D cy ad S a0 _ h.2.2.2 f_a0 hw) f_a0 cv_12_718 ⟨by decide, by decide, rfl, rfl, by decide, by decide⟩ rfl hl.1 rfl (Nat.le_of_ble_eq_true rfl) dX12_moveGate_1) (fun y2 T1 hw l_T1 H locs h => ?_)
  have f_a0 := l_T1.is f_a0
  have hle := hle.tr l_T1
  refine lv_istore_n (lv' := [(2, .int y2), (0, .ref a0), (1, .int x1)]) X.1 X.2.1 dX12_moveGate_4 rfl hl (by decide) rfl (fun ls hl => ?_)
  refine lv_aload_n X.1 X.2.1 dX12_moveGate_5 rfl (lv_at hl 1 rfl) ?_
  refine kp_calli X h (kp_runV (rm := { frames := 0, cells := 0, slots := 0, locals := 0 }) (mc := 0) (ms := 0) (rest := []) (Qc := fun A => kp_Qi D cy A T1 _) X h (c_X12_pop l D cy ad T1 a0 _ h.2.2.2 f_a0 hw) f_a0 cv_12_718 ⟨by decide, by decide, rfl, rfl, by decide, by decide⟩ rfl hl.1 rfl (Nat.le_of_ble_eq_true rfl) dX12_moveGate_6) (fun y4 T3 hw l_T3 H locs h => ?_)
  have f_a0 := l_T3.is f_a0
  have hle := hle.tr l_T3
  refine lv_istore_n (lv' := [(3, .int y4), (2, .int y2), (0, .ref a0), (1, .int x1)]) X.1 X.2.1 dX12_moveGate_9 rfl hl (by decide) rfl (fun ls hl => ?_)
  refine lv_aload_n X.1 X.2.1 dX12_moveGate_10 rfl (lv_at hl 2 rfl) ?_
  refine lv_iload_n X.1 X.2.1 dX12_moveGate_11 rfl (lv_at hl 0 rfl) ?_
  refine lv_iload_n X.1 X.2.1 dX12_moveGate_12 rfl (lv_at hl 1 rfl) ?_
  refine kp_calli X h (kp_runV (rm := { frames := 1, cells := 0, slots := 0, locals := 22 }) (mc := 0) (ms := 0) (rest := []) (Qc := fun A => kp_Qi D cy A T3 _) X h (c_X12_wrongSide l D cy ad T3 a0 y4 y2 _ h.2.2.2 f_a0 hw) f_a0 cv_12_787 ⟨by decide, by decide, rfl, rfl, by decide, by decide⟩ rfl hl.1 rfl (Nat.le_of_ble_eq_true rfl) dX12_moveGate_13) (fun y6 T5 hw l_T5 H locs h => ?_)
  have f_a0 := l_T5.is f_a0
  have hle := hle.tr l_T5
  refine lv_istore (lv' := [(4, .int y6), (3, .int y4), (2, .int y2), (0, .ref a0), (1, .int x1)]) X.1 X.2.1 dX12_moveGate_16 hl (by decide) rfl (fun ls hl => ?_)
  refine lv_iload X.1 X.2.1 dX12_moveGate_18 (lv_at hl 0 rfl) ?_
  refine lv_if_ne (tgt := 46) X.1 X.2.1 dX12_moveGate_20 (by decide) (fun c10 => ?_) (fun c10 => ?_)
  · have hw := hw.1 c10
    exact j46 y2 y4 y6 T5 _ _ ls (lv_sub hl [3, 4, 2, 1, 0] rfl) h hle f_a0 hw
  · have hw := hw.2 c10
    refine lv_iload_n X.1 X.2.1 dX12_moveGate_23 rfl (lv_at hl 4 rfl) ?_
    refine lv_if_eq (tgt := 46) X.1 X.2.1 dX12_moveGate_24 (by decide) (fun c9 => ?_) (fun c9 => ?_)
    · have hw := hw.1 c9
      exact j46 y2 y4 y6 T5 _ _ ls (lv_sub hl [3, 4, 2, 1, 0] rfl) h hle f_a0 hw
    · have hw := hw.2 c9
      refine lv_aload_n X.1 X.2.1 dX12_moveGate_27 rfl (lv_at hl 3 rfl) ?_
      obtain ⟨b7, e_b7, hw⟩ := hw
      have f_b7 := h.2.2.2.rf (c := 12) (k := 64) f_a0 (by decide) (by decide) e_b7 (t := 16) rfl
      refine kp_get X h f_a0 ff_12_157.l (v := .ref b7) (congrArg va_rf e_b7) dX12_moveGate_28 ?_
      refine lv_iconst (v := 2) X.1 X.2.1 dX12_moveGate_31 (by decide) ?_
      refine lv_iload_n X.1 X.2.1 dX12_moveGate_32 rfl (lv_at hl 1 rfl) ?_
      refine lv_imul X.1 X.2.1 dX12_moveGate_33 ?_
      refine lv_iconst (v := 1) X.1 X.2.1 dX12_moveGate_34 (by decide) ?_
      refine lv_iadd X.1 X.2.1 dX12_moveGate_35 ?_
      refine lv_iload_n X.1 X.2.1 dX12_moveGate_36 rfl (lv_at hl 2 rfl) ?_
      refine lv_isub X.1 X.2.1 dX12_moveGate_37 ?_
      obtain ⟨hi, hw⟩ := hw
      refine kp_zald X h f_b7 hi dX12_moveGate_38 ?_
      refine lv_if_eq (tgt := 46) X.1 X.2.1 dX12_moveGate_39 (by decide) (fun c8 => ?_) (fun c8 => ?_)
      · have hw := hw.1 c8
        exact j46 y2 y4 y6 T5 _ _ ls (lv_sub hl [3, 4, 2, 1, 0] rfl) h hle f_a0 hw
      · have hw := hw.2 c8
        refine lv_bipush (v := 6) X.1 X.2.1 dX12_moveGate_42 (by decide) ?_
        refine lv_istore (lv' := [(4, .int 6), (3, .int y4), (2, .int y2), (0, .ref a0), (1, .int x1)]) X.1 X.2.1 dX12_moveGate_44 hl (by decide) rfl (fun ls hl => ?_)
        exact j46 y2 y4 6 T5 _ _ ls (lv_sub hl [3, 4, 2, 1, 0] rfl) h hle f_a0 hw
theorem dX12_sluice_0 : decode cX12_sluice 0 = .ok (.aload_n 0, 1) := by decide +kernel
theorem dX12_sluice_1 : decode cX12_sluice 1 = .ok (.invokevirtual 718, 3) := by decide +kernel
theorem dX12_sluice_4 : decode cX12_sluice 4 = .ok (.istore_n 1, 1) := by decide +kernel
theorem dX12_sluice_5 : decode cX12_sluice 5 = .ok (.aload_n 0, 1) := by decide +kernel
theorem dX12_sluice_6 : decode cX12_sluice 6 = .ok (.invokevirtual 718, 3) := by decide +kernel
theorem dX12_sluice_9 : decode cX12_sluice 9 = .ok (.istore_n 2, 1) := by decide +kernel
theorem dX12_sluice_10 : decode cX12_sluice 10 = .ok (.aload_n 0, 1) := by decide +kernel
theorem dX12_sluice_11 : decode cX12_sluice 11 = .ok (.invokevirtual 718, 3) := by decide +kernel
theorem dX12_sluice_14 : decode cX12_sluice 14 = .ok (.istore_n 3, 1) := by decide +kernel
theorem dX12_sluice_15 : decode cX12_sluice 15 = .ok (.iload_n 1, 1) := by decide +kernel
theorem dX12_sluice_16 : decode cX12_sluice 16 = .ok (.iconst 0, 1) := by decide +kernel
theorem dX12_sluice_17 : decode cX12_sluice 17 = .ok (.sipush 1000, 3) := by decide +kernel
theorem dX12_sluice_20 : decode cX12_sluice 20 = .ok (.invokestatic 589, 3) := by decide +kernel
theorem dX12_sluice_23 : decode cX12_sluice 23 = .ok (.ifCond .eq 12, 3) := by decide +kernel
theorem dX12_sluice_26 : decode cX12_sluice 26 = .ok (.aload_n 0, 1) := by decide +kernel
theorem dX12_sluice_27 : decode cX12_sluice 27 = .ok (.iload_n 3, 1) := by decide +kernel
theorem dX12_sluice_28 : decode cX12_sluice 28 = .ok (.iload_n 2, 1) := by decide +kernel
theorem dX12_sluice_29 : decode cX12_sluice 29 = .ok (.invokevirtual 787, 3) := by decide +kernel
theorem dX12_sluice_32 : decode cX12_sluice 32 = .ok (.goto 4, 3) := by decide +kernel
theorem dX12_sluice_35 : decode cX12_sluice 35 = .ok (.iconst 3, 1) := by decide +kernel
theorem dX12_sluice_36 : decode cX12_sluice 36 = .ok (.istore 4, 2) := by decide +kernel
theorem dX12_sluice_38 : decode cX12_sluice 38 = .ok (.iload 4, 2) := by decide +kernel
theorem dX12_sluice_40 : decode cX12_sluice 40 = .ok (.ifCond .ne 22, 3) := by decide +kernel
theorem dX12_sluice_43 : decode cX12_sluice 43 = .ok (.aload_n 0, 1) := by decide +kernel
theorem dX12_sluice_44 : decode cX12_sluice 44 = .ok (.getfield 157, 3) := by decide +kernel
theorem dX12_sluice_47 : decode cX12_sluice 47 = .ok (.iconst 2, 1) := by decide +kernel
theorem dX12_sluice_48 : decode cX12_sluice 48 = .ok (.iload_n 3, 1) := by decide +kernel
theorem dX12_sluice_49 : decode cX12_sluice 49 = .ok (.imul, 1) := by decide +kernel
theorem dX12_sluice_50 : decode cX12_sluice 50 = .ok (.iconst 1, 1) := by decide +kernel
theorem dX12_sluice_51 : decode cX12_sluice 51 = .ok (.iadd, 1) := by decide +kernel
theorem dX12_sluice_52 : decode cX12_sluice 52 = .ok (.iload_n 2, 1) := by decide +kernel
theorem dX12_sluice_53 : decode cX12_sluice 53 = .ok (.isub, 1) := by decide +kernel
theorem dX12_sluice_54 : decode cX12_sluice 54 = .ok (.baload, 1) := by decide +kernel
theorem dX12_sluice_55 : decode cX12_sluice 55 = .ok (.ifCond .eq 7, 3) := by decide +kernel
theorem dX12_sluice_58 : decode cX12_sluice 58 = .ok (.bipush 6, 2) := by decide +kernel
theorem dX12_sluice_60 : decode cX12_sluice 60 = .ok (.istore 4, 2) := by decide +kernel
theorem dX12_sluice_62 : decode cX12_sluice 62 = .ok (.iload 4, 2) := by decide +kernel
theorem dX12_sluice_64 : decode cX12_sluice 64 = .ok (.ifCond .le 10, 3) := by decide +kernel
theorem dX12_sluice_67 : decode cX12_sluice 67 = .ok (.aload_n 0, 1) := by decide +kernel
theorem dX12_sluice_68 : decode cX12_sluice 68 = .ok (.iload 4, 2) := by decide +kernel
theorem dX12_sluice_70 : decode cX12_sluice 70 = .ok (.invokevirtual 696, 3) := by decide +kernel
theorem dX12_sluice_73 : decode cX12_sluice 73 = .ok (.return_, 1) := by decide +kernel
theorem dX12_sluice_74 : decode cX12_sluice 74 = .ok (.iconst 0, 1) := by decide +kernel
theorem dX12_sluice_75 : decode cX12_sluice 75 = .ok (.istore 5, 2) := by decide +kernel
theorem dX12_sluice_77 : decode cX12_sluice 77 = .ok (.aload_n 0, 1) := by decide +kernel
theorem dX12_sluice_78 : decode cX12_sluice 78 = .ok (.getfield 154, 3) := by decide +kernel
theorem dX12_sluice_81 : decode cX12_sluice 81 = .ok (.iload_n 3, 1) := by decide +kernel
theorem dX12_sluice_82 : decode cX12_sluice 82 = .ok (.iaload, 1) := by decide +kernel
theorem dX12_sluice_83 : decode cX12_sluice 83 = .ok (.aload_n 0, 1) := by decide +kernel
theorem dX12_sluice_84 : decode cX12_sluice 84 = .ok (.iload_n 3, 1) := by decide +kernel
theorem dX12_sluice_85 : decode cX12_sluice 85 = .ok (.iload_n 2, 1) := by decide +kernel
theorem dX12_sluice_86 : decode cX12_sluice 86 = .ok (.invokevirtual 790, 3) := by decide +kernel
theorem dX12_sluice_89 : decode cX12_sluice 89 = .ok (.if_icmp .le 7, 3) := by decide +kernel
theorem dX12_sluice_92 : decode cX12_sluice 92 = .ok (.iconst 1, 1) := by decide +kernel
theorem dX12_sluice_93 : decode cX12_sluice 93 = .ok (.goto 4, 3) := by decide +kernel
theorem dX12_sluice_96 : decode cX12_sluice 96 = .ok (.iconst 0, 1) := by decide +kernel
theorem dX12_sluice_97 : decode cX12_sluice 97 = .ok (.istore 6, 2) := by decide +kernel
theorem dX12_sluice_99 : decode cX12_sluice 99 = .ok (.iconst 1, 1) := by decide +kernel
theorem dX12_sluice_100 : decode cX12_sluice 100 = .ok (.istore 7, 2) := by decide +kernel
theorem dX12_sluice_102 : decode cX12_sluice 102 = .ok (.iload 7, 2) := by decide +kernel
theorem dX12_sluice_104 : decode cX12_sluice 104 = .ok (.ifCond .eq 104, 3) := by decide +kernel
theorem dX12_sluice_107 : decode cX12_sluice 107 = .ok (.iload 5, 2) := by decide +kernel
theorem dX12_sluice_109 : decode cX12_sluice 109 = .ok (.iload_n 1, 1) := by decide +kernel
theorem dX12_sluice_110 : decode cX12_sluice 110 = .ok (.if_icmp .ge 98, 3) := by decide +kernel
theorem dX12_sluice_113 : decode cX12_sluice 113 = .ok (.iload 6, 2) := by decide +kernel
theorem dX12_sluice_115 : decode cX12_sluice 115 = .ok (.ifCond .eq 21, 3) := by decide +kernel
theorem dX12_sluice_118 : decode cX12_sluice 118 = .ok (.aload_n 0, 1) := by decide +kernel
theorem dX12_sluice_119 : decode cX12_sluice 119 = .ok (.getfield 154, 3) := by decide +kernel
theorem dX12_sluice_122 : decode cX12_sluice 122 = .ok (.iload_n 3, 1) := by decide +kernel
theorem dX12_sluice_123 : decode cX12_sluice 123 = .ok (.iaload, 1) := by decide +kernel
theorem dX12_sluice_124 : decode cX12_sluice 124 = .ok (.aload_n 0, 1) := by decide +kernel
theorem dX12_sluice_125 : decode cX12_sluice 125 = .ok (.iload_n 3, 1) := by decide +kernel
theorem dX12_sluice_126 : decode cX12_sluice 126 = .ok (.iload_n 2, 1) := by decide +kernel
theorem dX12_sluice_127 : decode cX12_sluice 127 = .ok (.invokevirtual 790, 3) := by decide +kernel
theorem dX12_sluice_130 : decode cX12_sluice 130 = .ok (.if_icmp .le 78, 3) := by decide +kernel
theorem dX12_sluice_133 : decode cX12_sluice 133 = .ok (.goto 18, 3) := by decide +kernel
theorem dX12_sluice_136 : decode cX12_sluice 136 = .ok (.aload_n 0, 1) := by decide +kernel
theorem dX12_sluice_137 : decode cX12_sluice 137 = .ok (.getfield 154, 3) := by decide +kernel
theorem dX12_sluice_140 : decode cX12_sluice 140 = .ok (.iload_n 3, 1) := by decide +kernel
theorem dX12_sluice_141 : decode cX12_sluice 141 = .ok (.iaload, 1) := by decide +kernel
theorem dX12_sluice_142 : decode cX12_sluice 142 = .ok (.aload_n 0, 1) := by decide +kernel
theorem dX12_sluice_143 : decode cX12_sluice 143 = .ok (.iload_n 3, 1) := by decide +kernel
theorem dX12_sluice_144 : decode cX12_sluice 144 = .ok (.iload_n 2, 1) := by decide +kernel
theorem dX12_sluice_145 : decode cX12_sluice 145 = .ok (.invokevirtual 790, 3) := by decide +kernel
theorem dX12_sluice_148 : decode cX12_sluice 148 = .ok (.if_icmp .ge 60, 3) := by decide +kernel
theorem dX12_sluice_151 : decode cX12_sluice 151 = .ok (.aload_n 0, 1) := by decide +kernel
theorem dX12_sluice_152 : decode cX12_sluice 152 = .ok (.invokevirtual 693, 3) := by decide +kernel
theorem dX12_sluice_155 : decode cX12_sluice 155 = .ok (.istore 7, 2) := by decide +kernel
theorem dX12_sluice_157 : decode cX12_sluice 157 = .ok (.iload 7, 2) := by decide +kernel
theorem dX12_sluice_159 : decode cX12_sluice 159 = .ok (.ifCond .eq (-57), 3) := by decide +kernel
theorem dX12_sluice_162 : decode cX12_sluice 162 = .ok (.aload_n 0, 1) := by decide +kernel
theorem dX12_sluice_163 : decode cX12_sluice 163 = .ok (.getfield 154, 3) := by decide +kernel
theorem dX12_sluice_166 : decode cX12_sluice 166 = .ok (.iload_n 3, 1) := by decide +kernel
theorem dX12_sluice_167 : decode cX12_sluice 167 = .ok (.dup2, 1) := by decide +kernel
theorem dX12_sluice_168 : decode cX12_sluice 168 = .ok (.iaload, 1) := by decide +kernel
theorem dX12_sluice_169 : decode cX12_sluice 169 = .ok (.iload 6, 2) := by decide +kernel
theorem dX12_sluice_171 : decode cX12_sluice 171 = .ok (.ifCond .eq 7, 3) := by decide +kernel
theorem dX12_sluice_174 : decode cX12_sluice 174 = .ok (.iconst (-1), 1) := by decide +kernel
theorem dX12_sluice_175 : decode cX12_sluice 175 = .ok (.goto 4, 3) := by decide +kernel
theorem dX12_sluice_178 : decode cX12_sluice 178 = .ok (.iconst 1, 1) := by decide +kernel
theorem dX12_sluice_179 : decode cX12_sluice 179 = .ok (.iadd, 1) := by decide +kernel
theorem dX12_sluice_180 : decode cX12_sluice 180 = .ok (.iastore, 1) := by decide +kernel
theorem dX12_sluice_181 : decode cX12_sluice 181 = .ok (.aload_n 0, 1) := by decide +kernel
theorem dX12_sluice_182 : decode cX12_sluice 182 = .ok (.getfield 164, 3) := by decide +kernel
theorem dX12_sluice_185 : decode cX12_sluice 185 = .ok (.iload_n 3, 1) := by decide +kernel
theorem dX12_sluice_186 : decode cX12_sluice 186 = .ok (.iload_n 2, 1) := by decide +kernel
theorem dX12_sluice_187 : decode cX12_sluice 187 = .ok (.iadd, 1) := by decide +kernel
theorem dX12_sluice_188 : decode cX12_sluice 188 = .ok (.dup2, 1) := by decide +kernel
theorem dX12_sluice_189 : decode cX12_sluice 189 = .ok (.iaload, 1) := by decide +kernel
theorem dX12_sluice_190 : decode cX12_sluice 190 = .ok (.iload 6, 2) := by decide +kernel
theorem dX12_sluice_192 : decode cX12_sluice 192 = .ok (.ifCond .eq 7, 3) := by decide +kernel
theorem dX12_sluice_195 : decode cX12_sluice 195 = .ok (.iconst 1, 1) := by decide +kernel
theorem dX12_sluice_196 : decode cX12_sluice 196 = .ok (.goto 4, 3) := by decide +kernel
theorem dX12_sluice_199 : decode cX12_sluice 199 = .ok (.iconst (-1), 1) := by decide +kernel
theorem dX12_sluice_200 : decode cX12_sluice 200 = .ok (.iadd, 1) := by decide +kernel
theorem dX12_sluice_201 : decode cX12_sluice 201 = .ok (.iastore, 1) := by decide +kernel
theorem dX12_sluice_202 : decode cX12_sluice 202 = .ok (.iinc 5 1, 3) := by decide +kernel
theorem dX12_sluice_205 : decode cX12_sluice 205 = .ok (.goto (-103), 3) := by decide +kernel
theorem dX12_sluice_208 : decode cX12_sluice 208 = .ok (.aload_n 0, 1) := by decide +kernel
theorem dX12_sluice_209 : decode cX12_sluice 209 = .ok (.iconst 5, 1) := by decide +kernel
theorem dX12_sluice_210 : decode cX12_sluice 210 = .ok (.sipush 10000, 3) := by decide +kernel
theorem dX12_sluice_213 : decode cX12_sluice 213 = .ok (.iconst 2, 1) := by decide +kernel
theorem dX12_sluice_214 : decode cX12_sluice 214 = .ok (.iload_n 3, 1) := by decide +kernel
theorem dX12_sluice_215 : decode cX12_sluice 215 = .ok (.imul, 1) := by decide +kernel
theorem dX12_sluice_216 : decode cX12_sluice 216 = .ok (.iload_n 2, 1) := by decide +kernel
theorem dX12_sluice_217 : decode cX12_sluice 217 = .ok (.iadd, 1) := by decide +kernel
theorem dX12_sluice_218 : decode cX12_sluice 218 = .ok (.imul, 1) := by decide +kernel
theorem dX12_sluice_219 : decode cX12_sluice 219 = .ok (.iload 5, 2) := by decide +kernel
theorem dX12_sluice_221 : decode cX12_sluice 221 = .ok (.iadd, 1) := by decide +kernel
theorem dX12_sluice_222 : decode cX12_sluice 222 = .ok (.invokevirtual 637, 3) := by decide +kernel
theorem dX12_sluice_225 : decode cX12_sluice 225 = .ok (.return_, 1) := by decide +kernel
def wX12_sluice_b208 (a0 : Nat) (xn2 : Int32) (xn3 : Int32) (xn5 : Int32)  (Sn : kp_S) (post : kp_S → Prop) : Prop :=
  wX12_note a0 5 ((10000 * ((2 * xn3) + xn2)) + xn5) Sn (fun T1001 =>
  post T1001)
def wX12_sluice_b200 (a0 : Nat) (xn1 : Int32) (xn2 : Int32) (xn3 : Int32) (xn5 : Int32) (xn6 : Int32) (xn7 : Int32) (xt0 : Int32) (xt1 : Int32) (xt2 : Int32) (at3 : Nat) (K102 : Int32 → Int32 → Int32 → Int32 → Int32 → Int32 → kp_S → Prop) (Sn : kp_S) (post : kp_S → Prop) : Prop :=
  vp_in xt2 (kp_N Sn at3) ∧ ∀ T2001 : kp_S, T2001 = kp_sA Sn at3 (upd (kp_A Sn at3) (xt2.toNatClampNeg) (xt1 + xt0)) →
  ∀ y2002 : Int32, y2002 = xn5 + 1 →
  K102 xn1 xn2 xn3 y2002 xn6 xn7 T2001
def wX12_sluice_b179 (a0 : Nat) (xn1 : Int32) (xn2 : Int32) (xn3 : Int32) (xn5 : Int32) (xn6 : Int32) (xn7 : Int32) (xt0 : Int32) (xt1 : Int32) (xt2 : Int32) (at3 : Nat) (K102 : Int32 → Int32 → Int32 → Int32 → Int32 → Int32 → kp_S → Prop) (Sn : kp_S) (post : kp_S → Prop) : Prop :=
  vp_in xt2 (kp_N Sn at3) ∧ ∀ T3001 : kp_S, T3001 = kp_sA Sn at3 (upd (kp_A Sn at3) (xt2.toNatClampNeg) (xt1 + xt0)) →
  ∃ b3002 : Nat, kp_R T3001 2466 a0 = some b3002 ∧
  vp_in (xn3 + xn2) (kp_N T3001 b3002) ∧
  ((xn6 = 0 →
  wX12_sluice_b200 a0 xn1 xn2 xn3 xn5 xn6 xn7 (-1) (kp_A T3001 b3002 (xn3 + xn2).toNatClampNeg) (xn3 + xn2) b3002 K102 T3001 post) ∧ (¬ xn6 = 0 →
  wX12_sluice_b200 a0 xn1 xn2 xn3 xn5 xn6 xn7 1 (kp_A T3001 b3002 (xn3 + xn2).toNatClampNeg) (xn3 + xn2) b3002 K102 T3001 post))
def wX12_sluice_b151 (a0 : Nat) (xn1 : Int32) (xn2 : Int32) (xn3 : Int32) (xn5 : Int32) (xn6 : Int32) (K102 : Int32 → Int32 → Int32 → Int32 → Int32 → Int32 → kp_S → Prop) (Sn : kp_S) (post : kp_S → Prop) : Prop :=
  wX12_burns a0 Sn (fun y4002 T4001 =>
  ((y4002 = 0 →
  K102 xn1 xn2 xn3 xn5 xn6 y4002 T4001) ∧ (¬ y4002 = 0 →
  ∃ b4003 : Nat, kp_R T4001 2463 a0 = some b4003 ∧
  vp_in xn3 (kp_N T4001 b4003) ∧
  ((xn6 = 0 →
  wX12_sluice_b179 a0 xn1 xn2 xn3 xn5 xn6 y4002 1 (kp_A T4001 b4003 xn3.toNatClampNeg) xn3 b4003 K102 T4001 post) ∧ (¬ xn6 = 0 →
  wX12_sluice_b179 a0 xn1 xn2 xn3 xn5 xn6 y4002 (-1) (kp_A T4001 b4003 xn3.toNatClampNeg) xn3 b4003 K102 T4001 post)))))
def wX12_sluice_L102 (a0 : Nat)  (post : kp_S → Prop) : Nat → Int32 → Int32 → Int32 → Int32 → Int32 → Int32 → kp_S → Prop
  | 0, _, _, _, _, _, _, _ => False
  | n + 1, xn1, xn2, xn3, xn5, xn6, xn7, Sn =>
  ((xn7 = 0 →
  wX12_sluice_b208 a0 xn2 xn3 xn5  Sn post) ∧ (¬ xn7 = 0 →
  ((xn1 ≤ xn5 →
  wX12_sluice_b208 a0 xn2 xn3 xn5  Sn post) ∧ (¬ xn1 ≤ xn5 →
  ((xn6 = 0 →
  ∃ b5001 : Nat, kp_R Sn 2463 a0 = some b5001 ∧
  vp_in xn3 (kp_N Sn b5001) ∧
  wX12_levelBeside a0 xn3 xn2 Sn (fun y5003 T5002 =>
  ((y5003 ≤ (kp_A Sn b5001 xn3.toNatClampNeg) →
  wX12_sluice_b208 a0 xn2 xn3 xn5  T5002 post) ∧ (¬ y5003 ≤ (kp_A Sn b5001 xn3.toNatClampNeg) →
  wX12_sluice_b151 a0 xn1 xn2 xn3 xn5 xn6 (fun xn1_ xn2_ xn3_ xn5_ xn6_ xn7_ S_ => wX12_sluice_L102 a0  post n xn1_ xn2_ xn3_ xn5_ xn6_ xn7_ S_) T5002 post)))) ∧ (¬ xn6 = 0 →
  ∃ b5005 : Nat, kp_R Sn 2463 a0 = some b5005 ∧
  vp_in xn3 (kp_N Sn b5005) ∧
  wX12_levelBeside a0 xn3 xn2 Sn (fun y5007 T5006 =>
  (((kp_A Sn b5005 xn3.toNatClampNeg) ≤ y5007 →
  wX12_sluice_b208 a0 xn2 xn3 xn5  T5006 post) ∧ (¬ (kp_A Sn b5005 xn3.toNatClampNeg) ≤ y5007 →
  wX12_sluice_b151 a0 xn1 xn2 xn3 xn5 xn6 (fun xn1_ xn2_ xn3_ xn5_ xn6_ xn7_ S_ => wX12_sluice_L102 a0  post n xn1_ xn2_ xn3_ xn5_ xn6_ xn7_ S_) T5006 post)))))))))
def wX12_sluice_b97 (a0 : Nat) (xn1 : Int32) (xn2 : Int32) (xn3 : Int32) (xn5 : Int32) (xt0 : Int32)  (Sn : kp_S) (post : kp_S → Prop) : Prop :=
  ∃ n0 : Nat, wX12_sluice_L102 a0  post n0 xn1 xn2 xn3 xn5 xt0 1 Sn
def wX12_sluice_b62 (a0 : Nat) (xn1 : Int32) (xn2 : Int32) (xn3 : Int32) (xn4 : Int32)  (Sn : kp_S) (post : kp_S → Prop) : Prop :=
  ((xn4 ≤ 0 →
  ∃ b7001 : Nat, kp_R Sn 2463 a0 = some b7001 ∧
  vp_in xn3 (kp_N Sn b7001) ∧
  wX12_levelBeside a0 xn3 xn2 Sn (fun y7003 T7002 =>
  (((kp_A Sn b7001 xn3.toNatClampNeg) ≤ y7003 →
  wX12_sluice_b97 a0 xn1 xn2 xn3 0 0  T7002 post) ∧ (¬ (kp_A Sn b7001 xn3.toNatClampNeg) ≤ y7003 →
  wX12_sluice_b97 a0 xn1 xn2 xn3 0 1  T7002 post)))) ∧ (¬ xn4 ≤ 0 →
  wX12_trouble a0 xn4 Sn (fun T7005 =>
  post T7005)))
def wX12_sluice_b36 (a0 : Nat) (xn1 : Int32) (xn2 : Int32) (xn3 : Int32) (xt0 : Int32)  (Sn : kp_S) (post : kp_S → Prop) : Prop :=
  ((¬ xt0 = 0 →
  wX12_sluice_b62 a0 xn1 xn2 xn3 xt0  Sn post) ∧ (xt0 = 0 →
  ∃ b8001 : Nat, kp_R Sn 2464 a0 = some b8001 ∧
  vp_in (((2 * xn3) + 1) - xn2) (kp_N Sn b8001) ∧
  (((kp_A Sn b8001 (((2 * xn3) + 1) - xn2).toNatClampNeg) = 0 →
  wX12_sluice_b62 a0 xn1 xn2 xn3 xt0  Sn post) ∧ (¬ (kp_A Sn b8001 (((2 * xn3) + 1) - xn2).toNatClampNeg) = 0 →
  wX12_sluice_b62 a0 xn1 xn2 xn3 6  Sn post))))
def wX12_sluice (a0 : Nat) (S : kp_S) (post : kp_S → Prop) : Prop :=
  wX12_pop a0 S (fun y2 T1 =>
  wX12_pop a0 T1 (fun y4 T3 =>
  wX12_pop a0 T3 (fun y6 T5 =>
  wX12_in y2 0 1000 T5 (fun y8 T7 =>
  ((y8 = 0 →
  wX12_sluice_b36 a0 y2 y4 y6 3  T7 post) ∧ (¬ y8 = 0 →
  wX12_wrongSide a0 y6 y4 T7 (fun y10 T9 =>
  wX12_sluice_b36 a0 y2 y4 y6 y10  T9 post)))))))
set_option maxHeartbeats 4000000 in
set_option maxRecDepth 100000 in
theorem c_X12_sluice (l : Launch) (D : va_G) (cy : Nat → ClassId) (ad : (Nat → Nat) × (Nat → Nat)) (S : kp_S) (a0 : Nat) (post : kp_S → Prop) (hS : kp_ok S) (f_a0 : kp_is S a0 12) (hw : wX12_sluice a0 S post) : kp_M l yX12_sluice cX12_sluice 8 none { frames := 6, cells := 0, slots := 0, locals := 130 } D cy ad S [.ref a0] 0 0 (fun A => kp_Qv D cy A S post) := by
  refine kp_start (own := RX12) (by decide) rfl (Nat.le_of_ble_eq_true rfl) hS ?_
  intro p e s m below meth c A ls X hr hlocks hname h hl
  have hle : kp_le S S := kp_le.rf
  have hl : lv_has ls 8 [(0, .ref a0)] := hl
  have j208 : ∀ (xn2 : Int32) (xn3 : Int32) (xn5 : Int32) (Sn : kp_S) (H : Heap) (locs : List Loc) (ls : Array Slot), lv_has ls 8 [(0, .ref a0), (2, .int xn2), (3, .int xn3), (5, .int xn5)] → kp_H D cy A Sn s.heap H locs → kp_le S Sn → kp_is Sn a0 12 → wX12_sluice_b208 a0 xn2 xn3 xn5  Sn post → W p l e { frames := 6, cells := 0, slots := 0, locals := 130 } s m ([.ref a0] : List Value).toArray below meth c H locs 0 0 (MQ below (kp_Qv D cy A S post) ([.ref a0] : List Value).toArray s 0 0 A) (F0 m 208 ls []) := by
    intro xn2 xn3 xn5 Sn H locs ls hl h hle f_a0 hw
    unfold wX12_sluice_b208 at hw
    refine lv_aload_n X.1 X.2.1 dX12_sluice_208 rfl (lv_at hl 0 rfl) ?_
    refine lv_iconst (v := 5) X.1 X.2.1 dX12_sluice_209 (by decide) ?_
    refine lv_sipush (v := 10000) X.1 X.2.1 dX12_sluice_210 (by decide) ?_
    refine lv_iconst (v := 2) X.1 X.2.1 dX12_sluice_213 (by decide) ?_
    refine lv_iload_n X.1 X.2.1 dX12_sluice_214 rfl (lv_at hl 2 rfl) ?_
    refine lv_imul X.1 X.2.1 dX12_sluice_215 ?_
    refine lv_iload_n X.1 X.2.1 dX12_sluice_216 rfl (lv_at hl 1 rfl) ?_
    refine lv_iadd X.1 X.2.1 dX12_sluice_217 ?_
    refine lv_imul X.1 X.2.1 dX12_sluice_218 ?_
    refine lv_iload X.1 X.2.1 dX12_sluice_219 (lv_at hl 3 rfl) ?_
    refine lv_iadd X.1 X.2.1 dX12_sluice_221 ?_
    refine kp_callv X h (kp_runV (rm := { frames := 0, cells := 0, slots := 0, locals := 0 }) (mc := 0) (ms := 0) (rest := []) (Qc := fun A => kp_Qv D cy A Sn _) X h (c_X12_note l D cy ad Sn a0 5 ((10000 * ((2 * xn3) + xn2)) + xn5) _ h.2.2.2 f_a0 hw) f_a0 cv_12_637 ⟨by decide, by decide, rfl, rfl, by decide, by decide⟩ rfl hl.1 rfl (Nat.le_of_ble_eq_true rfl) dX12_sluice_222) (fun T1001 hw l_T1001 H locs h => ?_)
    have f_a0 := l_T1001.is f_a0
    have hle := hle.tr l_T1001
    exact kp_retv X hr hlocks h hle hw dX12_sluice_225
  have L102 : ∀ n102 : Nat, ∀ (xn1 : Int32) (xn2 : Int32) (xn3 : Int32) (xn5 : Int32) (xn6 : Int32) (xn7 : Int32) (Sn : kp_S) (H : Heap) (locs : List Loc) (ls : Array Slot), lv_has ls 8 [(0, .ref a0), (1, .int xn1), (2, .int xn2), (3, .int xn3), (5, .int xn5), (6, .int xn6), (7, .int xn7)] → kp_H D cy A Sn s.heap H locs → kp_le S Sn → kp_is Sn a0 12 → wX12_sluice_L102 a0  post n102 xn1 xn2 xn3 xn5 xn6 xn7 Sn → W p l e { frames := 6, cells := 0, slots := 0, locals := 130 } s m ([.ref a0] : List Value).toArray below meth c H locs 0 0 (MQ below (kp_Qv D cy A S post) ([.ref a0] : List Value).toArray s 0 0 A) (F0 m 102 ls []) := by
    intro n102
    induction n102 with
    | zero => intro xn1 xn2 xn3 xn5 xn6 xn7 Sn H locs ls hl h hle f_a0 hw; exact hw.elim
    | succ n102 ih102 =>
      have j200 : ∀ (xn1 : Int32) (xn2 : Int32) (xn3 : Int32) (xn5 : Int32) (xn6 : Int32) (xn7 : Int32) (xt0 : Int32) (xt1 : Int32) (xt2 : Int32) (at3 : Nat) (Sn : kp_S) (H : Heap) (locs : List Loc) (ls : Array Slot), lv_has ls 8 [(0, .ref a0), (1, .int xn1), (2, .int xn2), (3, .int xn3), (5, .int xn5), (6, .int xn6), (7, .int xn7)] → kp_H D cy A Sn s.heap H locs → kp_le S Sn → kp_is Sn a0 12 → kp_is Sn at3 14 → wX12_sluice_b200 a0 xn1 xn2 xn3 xn5 xn6 xn7 xt0 xt1 xt2 at3 (fun xn1_ xn2_ xn3_ xn5_ xn6_ xn7_ S_ => wX12_sluice_L102 a0  post n102 xn1_ xn2_ xn3_ xn5_ xn6_ xn7_ S_) Sn post → W p l e { frames := 6, cells := 0, slots := 0, locals := 130 } s m ([.ref a0] : List Value).toArray below meth c H locs 0 0 (MQ below (kp_Qv D cy A S post) ([.ref a0] : List Value).toArray s 0 0 A) (F0 m 200 ls [.int xt0, .int xt1, .int xt2, .ref at3]) := by
        intro xn1 xn2 xn3 xn5 xn6 xn7 xt0 xt1 xt2 at3 Sn H locs ls hl h hle f_a0 f_at3 hw
        unfold wX12_sluice_b200 at hw
        refine lv_iadd X.1 X.2.1 dX12_sluice_200 ?_
        obtain ⟨hi, hw⟩ := hw
        refine kp_iast X h f_at3 hi dX12_sluice_201 (fun T2001 e_T2001 l_T2001 H locs h => ?_)
        have hw := hw T2001 e_T2001
        have f_a0 := l_T2001.is f_a0
        have f_at3 := l_T2001.is f_at3
        have hle := hle.tr l_T2001
        obtain ⟨y2002, e_y2002⟩ : ∃ y : Int32, y = xn5 + 1 := ⟨_, rfl⟩
        have hw := hw y2002 e_y2002
        refine lv_iinc (v := y2002) (lv' := [(5, .int y2002), (0, .ref a0), (1, .int xn1), (2, .int xn2), (3, .int xn3), (6, .int xn6), (7, .int xn7)]) X.1 X.2.1 dX12_sluice_202 hl (k := 4) rfl (by rw [e_y2002]; rfl) (by decide) rfl (fun ls hl => ?_)
        refine lv_goto (tgt := 102) X.1 X.2.1 dX12_sluice_205 (by decide) ?_
        exact ih102 xn1 xn2 xn3 y2002 xn6 xn7 T2001 H locs ls (lv_sub hl [1, 2, 3, 4, 0, 5, 6] rfl) h hle f_a0 hw
      have j179 : ∀ (xn1 : Int32) (xn2 : Int32) (xn3 : Int32) (xn5 : Int32) (xn6 : Int32) (xn7 : Int32) (xt0 : Int32) (xt1 : Int32) (xt2 : Int32) (at3 : Nat) (Sn : kp_S) (H : Heap) (locs : List Loc) (ls : Array Slot), lv_has ls 8 [(0, .ref a0), (1, .int xn1), (2, .int xn2), (3, .int xn3), (5, .int xn5), (6, .int xn6), (7, .int xn7)] → kp_H D cy A Sn s.heap H locs → kp_le S Sn → kp_is Sn a0 12 → kp_is Sn at3 14 → wX12_sluice_b179 a0 xn1 xn2 xn3 xn5 xn6 xn7 xt0 xt1 xt2 at3 (fun xn1_ xn2_ xn3_ xn5_ xn6_ xn7_ S_ => wX12_sluice_L102 a0  post n102 xn1_ xn2_ xn3_ xn5_ xn6_ xn7_ S_) Sn post → W p l e { frames := 6, cells := 0, slots := 0, locals := 130 } s m ([.ref a0] : List Value).toArray below meth c H locs 0 0 (MQ below (kp_Qv D cy A S post) ([.ref a0] : List Value).toArray s 0 0 A) (F0 m 179 ls [.int xt0, .int xt1, .int xt2, .ref at3]) := by
        intro xn1 xn2 xn3 xn5 xn6 xn7 xt0 xt1 xt2 at3 Sn H locs ls hl h hle f_a0 f_at3 hw
        unfold wX12_sluice_b179 at hw
        refine lv_iadd X.1 X.2.1 dX12_sluice_179 ?_
        obtain ⟨hi, hw⟩ := hw
        refine kp_iast X h f_at3 hi dX12_sluice_180 (fun T3001 e_T3001 l_T3001 H locs h => ?_)
        have hw := hw T3001 e_T3001
        have f_a0 := l_T3001.is f_a0
        have f_at3 := l_T3001.is f_at3
        have hle := hle.tr l_T3001
        refine lv_aload_n X.1 X.2.1 dX12_sluice_181 rfl (lv_at hl 0 rfl) ?_
        obtain ⟨b3002, e_b3002, hw⟩ := hw
        have f_b3002 := h.2.2.2.rf (c := 12) (k := 66) f_a0 (by decide) (by decide) e_b3002 (t := 14) rfl
        refine kp_get X h f_a0 ff_12_164.l (v := .ref b3002) (congrArg va_rf e_b3002) dX12_sluice_182 ?_
        refine lv_iload_n X.1 X.2.1 dX12_sluice_185 rfl (lv_at hl 3 rfl) ?_
        refine lv_iload_n X.1 X.2.1 dX12_sluice_186 rfl (lv_at hl 2 rfl) ?_
        refine lv_iadd X.1 X.2.1 dX12_sluice_187 ?_
        refine lv_dup2_11 X.1 X.2.1 dX12_sluice_188 rfl rfl ?_
        obtain ⟨hi, hw⟩ := hw
        refine kp_iald X h f_b3002 hi dX12_sluice_189 ?_
        refine lv_iload X.1 X.2.1 dX12_sluice_190 (lv_at hl 5 rfl) ?_
        refine lv_if_eq (tgt := 199) X.1 X.2.1 dX12_sluice_192 (by decide) (fun c3003 => ?_) (fun c3003 => ?_)
        · have hw := hw.1 c3003
          refine lv_iconst (v := (-1)) X.1 X.2.1 dX12_sluice_199 (by decide) ?_
          exact j200 xn1 xn2 xn3 xn5 xn6 xn7 (-1) (kp_A T3001 b3002 (xn3 + xn2).toNatClampNeg) (xn3 + xn2) b3002 T3001 H locs ls (lv_sub hl [0, 1, 2, 3, 4, 5, 6] rfl) h hle f_a0 f_b3002 hw
        · have hw := hw.2 c3003
          refine lv_iconst (v := 1) X.1 X.2.1 dX12_sluice_195 (by decide) ?_
          refine lv_goto (tgt := 200) X.1 X.2.1 dX12_sluice_196 (by decide) ?_
          exact j200 xn1 xn2 xn3 xn5 xn6 xn7 1 (kp_A T3001 b3002 (xn3 + xn2).toNatClampNeg) (xn3 + xn2) b3002 T3001 H locs ls (lv_sub hl [0, 1, 2, 3, 4, 5, 6] rfl) h hle f_a0 f_b3002 hw
      have j151 : ∀ (xn1 : Int32) (xn2 : Int32) (xn3 : Int32) (xn5 : Int32) (xn6 : Int32) (Sn : kp_S) (H : Heap) (locs : List Loc) (ls : Array Slot), lv_has ls 8 [(0, .ref a0), (1, .int xn1), (2, .int xn2), (3, .int xn3), (5, .int xn5), (6, .int xn6)] → kp_H D cy A Sn s.heap H locs → kp_le S Sn → kp_is Sn a0 12 → wX12_sluice_b151 a0 xn1 xn2 xn3 xn5 xn6 (fun xn1_ xn2_ xn3_ xn5_ xn6_ xn7_ S_ => wX12_sluice_L102 a0  post n102 xn1_ xn2_ xn3_ xn5_ xn6_ xn7_ S_) Sn post → W p l e { frames := 6, cells := 0, slots := 0, locals := 130 } s m ([.ref a0] : List Value).toArray below meth c H locs 0 0 (MQ below (kp_Qv D cy A S post) ([.ref a0] : List Value).toArray s 0 0 A) (F0 m 151 ls []) := by
        intro xn1 xn2 xn3 xn5 xn6 Sn H locs ls hl h hle f_a0 hw
        unfold wX12_sluice_b151 at hw
        refine lv_aload_n X.1 X.2.1 dX12_sluice_151 rfl (lv_at hl 0 rfl) ?_
        refine kp_calli X h (kp_runV (rm := { frames := 0, cells := 0, slots := 0, locals := 0 }) (mc := 0) (ms := 0) (rest := []) (Qc := fun A => kp_Qi D cy A Sn _) X h (c_X12_burns l D cy ad Sn a0 _ h.2.2.2 f_a0 hw) f_a0 cv_12_693 ⟨by decide, by decide, rfl, rfl, by decide, by decide⟩ rfl hl.1 rfl (Nat.le_of_ble_eq_true rfl) dX12_sluice_152) (fun y4002 T4001 hw l_T4001 H locs h => ?_)
        have f_a0 := l_T4001.is f_a0
        have hle := hle.tr l_T4001
        refine lv_istore (lv' := [(7, .int y4002), (0, .ref a0), (1, .int xn1), (2, .int xn2), (3, .int xn3), (5, .int xn5), (6, .int xn6)]) X.1 X.2.1 dX12_sluice_155 hl (by decide) rfl (fun ls hl => ?_)
        refine lv_iload X.1 X.2.1 dX12_sluice_157 (lv_at hl 0 rfl) ?_
        refine lv_if_eq (tgt := 102) X.1 X.2.1 dX12_sluice_159 (by decide) (fun c4005 => ?_) (fun c4005 => ?_)
        · have hw := hw.1 c4005
          exact ih102 xn1 xn2 xn3 xn5 xn6 y4002 T4001 H locs ls (lv_sub hl [1, 2, 3, 4, 5, 6, 0] rfl) h hle f_a0 hw
        · have hw := hw.2 c4005
          refine lv_aload_n X.1 X.2.1 dX12_sluice_162 rfl (lv_at hl 1 rfl) ?_
          obtain ⟨b4003, e_b4003, hw⟩ := hw
          have f_b4003 := h.2.2.2.rf (c := 12) (k := 63) f_a0 (by decide) (by decide) e_b4003 (t := 14) rfl
          refine kp_get X h f_a0 ff_12_154.l (v := .ref b4003) (congrArg va_rf e_b4003) dX12_sluice_163 ?_
          refine lv_iload_n X.1 X.2.1 dX12_sluice_166 rfl (lv_at hl 4 rfl) ?_
          refine lv_dup2_11 X.1 X.2.1 dX12_sluice_167 rfl rfl ?_
          obtain ⟨hi, hw⟩ := hw
          refine kp_iald X h f_b4003 hi dX12_sluice_168 ?_
          refine lv_iload X.1 X.2.1 dX12_sluice_169 (lv_at hl 6 rfl) ?_
          refine lv_if_eq (tgt := 178) X.1 X.2.1 dX12_sluice_171 (by decide) (fun c4004 => ?_) (fun c4004 => ?_)
          · have hw := hw.1 c4004
            refine lv_iconst (v := 1) X.1 X.2.1 dX12_sluice_178 (by decide) ?_
            exact j179 xn1 xn2 xn3 xn5 xn6 y4002 1 (kp_A T4001 b4003 xn3.toNatClampNeg) xn3 b4003 T4001 H locs ls (lv_sub hl [1, 2, 3, 4, 5, 6, 0] rfl) h hle f_a0 f_b4003 hw
          · have hw := hw.2 c4004
            refine lv_iconst (v := (-1)) X.1 X.2.1 dX12_sluice_174 (by decide) ?_
            refine lv_goto (tgt := 179) X.1 X.2.1 dX12_sluice_175 (by decide) ?_
            exact j179 xn1 xn2 xn3 xn5 xn6 y4002 (-1) (kp_A T4001 b4003 xn3.toNatClampNeg) xn3 b4003 T4001 H locs ls (lv_sub hl [1, 2, 3, 4, 5, 6, 0] rfl) h hle f_a0 f_b4003 hw
      intro xn1 xn2 xn3 xn5 xn6 xn7 Sn H locs ls hl h hle f_a0 hw
      unfold wX12_sluice_L102 at hw
      refine lv_iload X.1 X.2.1 dX12_sluice_102 (lv_at hl 6 rfl) ?_
      refine lv_if_eq (tgt := 208) X.1 X.2.1 dX12_sluice_104 (by decide) (fun c5011 => ?_) (fun c5011 => ?_)
      · have hw := hw.1 c5011
        exact j208 xn2 xn3 xn5 Sn H locs ls (lv_sub hl [0, 2, 3, 4] rfl) h hle f_a0 hw
      · have hw := hw.2 c5011
        refine lv_iload X.1 X.2.1 dX12_sluice_107 (lv_at hl 4 rfl) ?_
        refine lv_iload_n X.1 X.2.1 dX12_sluice_109 rfl (lv_at hl 1 rfl) ?_
        refine lv_icmp_ge (tgt := 208) X.1 X.2.1 dX12_sluice_110 (by decide) (fun c5010 => ?_) (fun c5010 => ?_)
        · have hw := hw.1 c5010
          exact j208 xn2 xn3 xn5 Sn H locs ls (lv_sub hl [0, 2, 3, 4] rfl) h hle f_a0 hw
        · have hw := hw.2 c5010
          refine lv_iload X.1 X.2.1 dX12_sluice_113 (lv_at hl 5 rfl) ?_
          refine lv_if_eq (tgt := 136) X.1 X.2.1 dX12_sluice_115 (by decide) (fun c5009 => ?_) (fun c5009 => ?_)
          · have hw := hw.1 c5009
            refine lv_aload_n X.1 X.2.1 dX12_sluice_136 rfl (lv_at hl 0 rfl) ?_
            obtain ⟨b5001, e_b5001, hw⟩ := hw
            have f_b5001 := h.2.2.2.rf (c := 12) (k := 63) f_a0 (by decide) (by decide) e_b5001 (t := 14) rfl
            refine kp_get X h f_a0 ff_12_154.l (v := .ref b5001) (congrArg va_rf e_b5001) dX12_sluice_137 ?_
            refine lv_iload_n X.1 X.2.1 dX12_sluice_140 rfl (lv_at hl 3 rfl) ?_
            obtain ⟨hi, hw⟩ := hw
            refine kp_iald X h f_b5001 hi dX12_sluice_141 ?_
            refine lv_aload_n X.1 X.2.1 dX12_sluice_142 rfl (lv_at hl 0 rfl) ?_
            refine lv_iload_n X.1 X.2.1 dX12_sluice_143 rfl (lv_at hl 3 rfl) ?_
            refine lv_iload_n X.1 X.2.1 dX12_sluice_144 rfl (lv_at hl 2 rfl) ?_
            refine kp_calli X h (kp_runV (rm := { frames := 0, cells := 0, slots := 0, locals := 0 }) (mc := 0) (ms := 0) (rest := [.int (kp_A Sn b5001 xn3.toNatClampNeg)]) (Qc := fun A => kp_Qi D cy A Sn _) X h (c_X12_levelBeside l D cy ad Sn a0 xn3 xn2 _ h.2.2.2 f_a0 hw) f_a0 cv_12_790 ⟨by decide, by decide, rfl, rfl, by decide, by decide⟩ rfl hl.1 rfl (Nat.le_of_ble_eq_true rfl) dX12_sluice_145) (fun y5003 T5002 hw l_T5002 H locs h => ?_)
            have f_a0 := l_T5002.is f_a0
            have f_b5001 := l_T5002.is f_b5001
            have hle := hle.tr l_T5002
            refine lv_icmp_ge (tgt := 208) X.1 X.2.1 dX12_sluice_148 (by decide) (fun c5004 => ?_) (fun c5004 => ?_)
            · have hw := hw.1 c5004
              exact j208 xn2 xn3 xn5 T5002 H locs ls (lv_sub hl [0, 2, 3, 4] rfl) h hle f_a0 hw
            · have hw := hw.2 c5004
              exact j151 xn1 xn2 xn3 xn5 xn6 T5002 H locs ls (lv_sub hl [0, 1, 2, 3, 4, 5] rfl) h hle f_a0 hw
          · have hw := hw.2 c5009
            refine lv_aload_n X.1 X.2.1 dX12_sluice_118 rfl (lv_at hl 0 rfl) ?_
            obtain ⟨b5005, e_b5005, hw⟩ := hw
            have f_b5005 := h.2.2.2.rf (c := 12) (k := 63) f_a0 (by decide) (by decide) e_b5005 (t := 14) rfl
            refine kp_get X h f_a0 ff_12_154.l (v := .ref b5005) (congrArg va_rf e_b5005) dX12_sluice_119 ?_
            refine lv_iload_n X.1 X.2.1 dX12_sluice_122 rfl (lv_at hl 3 rfl) ?_
            obtain ⟨hi, hw⟩ := hw
            refine kp_iald X h f_b5005 hi dX12_sluice_123 ?_
            refine lv_aload_n X.1 X.2.1 dX12_sluice_124 rfl (lv_at hl 0 rfl) ?_
            refine lv_iload_n X.1 X.2.1 dX12_sluice_125 rfl (lv_at hl 3 rfl) ?_
            refine lv_iload_n X.1 X.2.1 dX12_sluice_126 rfl (lv_at hl 2 rfl) ?_
            refine kp_calli X h (kp_runV (rm := { frames := 0, cells := 0, slots := 0, locals := 0 }) (mc := 0) (ms := 0) (rest := [.int (kp_A Sn b5005 xn3.toNatClampNeg)]) (Qc := fun A => kp_Qi D cy A Sn _) X h (c_X12_levelBeside l D cy ad Sn a0 xn3 xn2 _ h.2.2.2 f_a0 hw) f_a0 cv_12_790 ⟨by decide, by decide, rfl, rfl, by decide, by decide⟩ rfl hl.1 rfl (Nat.le_of_ble_eq_true rfl) dX12_sluice_127) (fun y5007 T5006 hw l_T5006 H locs h => ?_)
            have f_a0 := l_T5006.is f_a0
            have f_b5005 := l_T5006.is f_b5005
            have hle := hle.tr l_T5006
            refine lv_icmp_le (tgt := 208) X.1 X.2.1 dX12_sluice_130 (by decide) (fun c5008 => ?_) (fun c5008 => ?_)
            · have hw := hw.1 c5008
              exact j208 xn2 xn3 xn5 T5006 H locs ls (lv_sub hl [0, 2, 3, 4] rfl) h hle f_a0 hw
            · have hw := hw.2 c5008
              refine lv_goto (tgt := 151) X.1 X.2.1 dX12_sluice_133 (by decide) ?_
              exact j151 xn1 xn2 xn3 xn5 xn6 T5006 H locs ls (lv_sub hl [0, 1, 2, 3, 4, 5] rfl) h hle f_a0 hw
  have j97 : ∀ (xn1 : Int32) (xn2 : Int32) (xn3 : Int32) (xn5 : Int32) (xt0 : Int32) (Sn : kp_S) (H : Heap) (locs : List Loc) (ls : Array Slot), lv_has ls 8 [(0, .ref a0), (1, .int xn1), (2, .int xn2), (3, .int xn3), (5, .int xn5)] → kp_H D cy A Sn s.heap H locs → kp_le S Sn → kp_is Sn a0 12 → wX12_sluice_b97 a0 xn1 xn2 xn3 xn5 xt0  Sn post → W p l e { frames := 6, cells := 0, slots := 0, locals := 130 } s m ([.ref a0] : List Value).toArray below meth c H locs 0 0 (MQ below (kp_Qv D cy A S post) ([.ref a0] : List Value).toArray s 0 0 A) (F0 m 97 ls [.int xt0]) := by
    intro xn1 xn2 xn3 xn5 xt0 Sn H locs ls hl h hle f_a0 hw
    unfold wX12_sluice_b97 at hw
    refine lv_istore (lv' := [(6, .int xt0), (0, .ref a0), (1, .int xn1), (2, .int xn2), (3, .int xn3), (5, .int xn5)]) X.1 X.2.1 dX12_sluice_97 hl (by decide) rfl (fun ls hl => ?_)
    refine lv_iconst (v := 1) X.1 X.2.1 dX12_sluice_99 (by decide) ?_
    refine lv_istore (lv' := [(7, .int 1), (6, .int xt0), (0, .ref a0), (1, .int xn1), (2, .int xn2), (3, .int xn3), (5, .int xn5)]) X.1 X.2.1 dX12_sluice_100 hl (by decide) rfl (fun ls hl => ?_)
    obtain ⟨n0, hw⟩ := hw
    exact L102 n0 xn1 xn2 xn3 xn5 xt0 1 Sn H locs ls (lv_sub hl [2, 3, 4, 5, 6, 1, 0] rfl) h hle f_a0 hw
  have j62 : ∀ (xn1 : Int32) (xn2 : Int32) (xn3 : Int32) (xn4 : Int32) (Sn : kp_S) (H : Heap) (locs : List Loc) (ls : Array Slot), lv_has ls 8 [(0, .ref a0), (1, .int xn1), (2, .int xn2), (3, .int xn3), (4, .int xn4)] → kp_H D cy A Sn s.heap H locs → kp_le S Sn → kp_is Sn a0 12 → wX12_sluice_b62 a0 xn1 xn2 xn3 xn4  Sn post → W p l e { frames := 6, cells := 0, slots := 0, locals := 130 } s m ([.ref a0] : List Value).toArray below meth c H locs 0 0 (MQ below (kp_Qv D cy A S post) ([.ref a0] : List Value).toArray s 0 0 A) (F0 m 62 ls []) := by
    intro xn1 xn2 xn3 xn4 Sn H locs ls hl h hle f_a0 hw
    unfold wX12_sluice_b62 at hw
    refine lv_iload X.1 X.2.1 dX12_sluice_62 (lv_at hl 4 rfl) ?_
    refine lv_if_le (tgt := 74) X.1 X.2.1 dX12_sluice_64 (by decide) (fun c7006 => ?_) (fun c7006 => ?_)
    · have hw := hw.1 c7006
      refine lv_iconst (v := 0) X.1 X.2.1 dX12_sluice_74 (by decide) ?_
      refine lv_istore (lv' := [(5, .int 0), (0, .ref a0), (1, .int xn1), (2, .int xn2), (3, .int xn3), (4, .int xn4)]) X.1 X.2.1 dX12_sluice_75 hl (by decide) rfl (fun ls hl => ?_)
      refine lv_aload_n X.1 X.2.1 dX12_sluice_77 rfl (lv_at hl 1 rfl) ?_
      obtain ⟨b7001, e_b7001, hw⟩ := hw
      have f_b7001 := h.2.2.2.rf (c := 12) (k := 63) f_a0 (by decide) (by decide) e_b7001 (t := 14) rfl
      refine kp_get X h f_a0 ff_12_154.l (v := .ref b7001) (congrArg va_rf e_b7001) dX12_sluice_78 ?_
      refine lv_iload_n X.1 X.2.1 dX12_sluice_81 rfl (lv_at hl 4 rfl) ?_
      obtain ⟨hi, hw⟩ := hw
      refine kp_iald X h f_b7001 hi dX12_sluice_82 ?_
      refine lv_aload_n X.1 X.2.1 dX12_sluice_83 rfl (lv_at hl 1 rfl) ?_
      refine lv_iload_n X.1 X.2.1 dX12_sluice_84 rfl (lv_at hl 4 rfl) ?_
      refine lv_iload_n X.1 X.2.1 dX12_sluice_85 rfl (lv_at hl 3 rfl) ?_
      refine kp_calli X h (kp_runV (rm := { frames := 0, cells := 0, slots := 0, locals := 0 }) (mc := 0) (ms := 0) (rest := [.int (kp_A Sn b7001 xn3.toNatClampNeg)]) (Qc := fun A => kp_Qi D cy A Sn _) X h (c_X12_levelBeside l D cy ad Sn a0 xn3 xn2 _ h.2.2.2 f_a0 hw) f_a0 cv_12_790 ⟨by decide, by decide, rfl, rfl, by decide, by decide⟩ rfl hl.1 rfl (Nat.le_of_ble_eq_true rfl) dX12_sluice_86) (fun y7003 T7002 hw l_T7002 H locs h => ?_)
      have f_a0 := l_T7002.is f_a0
      have f_b7001 := l_T7002.is f_b7001
      have hle := hle.tr l_T7002
      refine lv_icmp_le (tgt := 96) X.1 X.2.1 dX12_sluice_89 (by decide) (fun c7004 => ?_) (fun c7004 => ?_)
      · have hw := hw.1 c7004
        refine lv_iconst (v := 0) X.1 X.2.1 dX12_sluice_96 (by decide) ?_
        exact j97 xn1 xn2 xn3 0 0 T7002 H locs ls (lv_sub hl [1, 2, 3, 4, 0] rfl) h hle f_a0 hw
      · have hw := hw.2 c7004
        refine lv_iconst (v := 1) X.1 X.2.1 dX12_sluice_92 (by decide) ?_
        refine lv_goto (tgt := 97) X.1 X.2.1 dX12_sluice_93 (by decide) ?_
        exact j97 xn1 xn2 xn3 0 1 T7002 H locs ls (lv_sub hl [1, 2, 3, 4, 0] rfl) h hle f_a0 hw
    · have hw := hw.2 c7006
      refine lv_aload_n X.1 X.2.1 dX12_sluice_67 rfl (lv_at hl 0 rfl) ?_
      refine lv_iload X.1 X.2.1 dX12_sluice_68 (lv_at hl 4 rfl) ?_
      refine kp_callv X h (kp_runV (rm := { frames := 5, cells := 0, slots := 0, locals := 108 }) (mc := 0) (ms := 0) (rest := []) (Qc := fun A => kp_Qv D cy A Sn _) X h (c_X12_trouble l D cy ad Sn a0 xn4 _ h.2.2.2 f_a0 hw) f_a0 cv_12_696 ⟨by decide, by decide, rfl, rfl, by decide, by decide⟩ rfl hl.1 rfl (Nat.le_of_ble_eq_true rfl) dX12_sluice_70) (fun T7005 hw l_T7005 H locs h => ?_)
      have f_a0 := l_T7005.is f_a0
      have hle := hle.tr l_T7005
      exact kp_retv X hr hlocks h hle hw dX12_sluice_73
  have j36 : ∀ (xn1 : Int32) (xn2 : Int32) (xn3 : Int32) (xt0 : Int32) (Sn : kp_S) (H : Heap) (locs : List Loc) (ls : Array Slot), lv_has ls 8 [(0, .ref a0), (1, .int xn1), (2, .int xn2), (3, .int xn3)] → kp_H D cy A Sn s.heap H locs → kp_le S Sn → kp_is Sn a0 12 → wX12_sluice_b36 a0 xn1 xn2 xn3 xt0  Sn post → W p l e { frames := 6, cells := 0, slots := 0, locals := 130 } s m ([.ref a0] : List Value).toArray below meth c H locs 0 0 (MQ below (kp_Qv D cy A S post) ([.ref a0] : List Value).toArray s 0 0 A) (F0 m 36 ls [.int xt0]) := by
    intro xn1 xn2 xn3 xt0 Sn H locs ls hl h hle f_a0 hw
    unfold wX12_sluice_b36 at hw
    refine lv_istore (lv' := [(4, .int xt0), (0, .ref a0), (1, .int xn1), (2, .int xn2), (3, .int xn3)]) X.1 X.2.1 dX12_sluice_36 hl (by decide) rfl (fun ls hl => ?_)
    refine lv_iload X.1 X.2.1 dX12_sluice_38 (lv_at hl 0 rfl) ?_
    refine lv_if_ne (tgt := 62) X.1 X.2.1 dX12_sluice_40 (by decide) (fun c8003 => ?_) (fun c8003 => ?_)
    · have hw := hw.1 c8003
      exact j62 xn1 xn2 xn3 xt0 Sn H locs ls (lv_sub hl [1, 2, 3, 4, 0] rfl) h hle f_a0 hw
    · have hw := hw.2 c8003
      refine lv_aload_n X.1 X.2.1 dX12_sluice_43 rfl (lv_at hl 1 rfl) ?_
      obtain ⟨b8001, e_b8001, hw⟩ := hw
      have f_b8001 := h.2.2.2.rf (c := 12) (k := 64) f_a0 (by decide) (by decide) e_b8001 (t := 16) rfl
      refine kp_get X h f_a0 ff_12_157.l (v := .ref b8001) (congrArg va_rf e_b8001) dX12_sluice_44 ?_
      refine lv_iconst (v := 2) X.1 X.2.1 dX12_sluice_47 (by decide) ?_
      refine lv_iload_n X.1 X.2.1 dX12_sluice_48 rfl (lv_at hl 4 rfl) ?_
      refine lv_imul X.1 X.2.1 dX12_sluice_49 ?_
      refine lv_iconst (v := 1) X.1 X.2.1 dX12_sluice_50 (by decide) ?_
      refine lv_iadd X.1 X.2.1 dX12_sluice_51 ?_
      refine lv_iload_n X.1 X.2.1 dX12_sluice_52 rfl (lv_at hl 3 rfl) ?_
      refine lv_isub X.1 X.2.1 dX12_sluice_53 ?_
      obtain ⟨hi, hw⟩ := hw
      refine kp_zald X h f_b8001 hi dX12_sluice_54 ?_
      refine lv_if_eq (tgt := 62) X.1 X.2.1 dX12_sluice_55 (by decide) (fun c8002 => ?_) (fun c8002 => ?_)
      · have hw := hw.1 c8002
        exact j62 xn1 xn2 xn3 xt0 Sn H locs ls (lv_sub hl [1, 2, 3, 4, 0] rfl) h hle f_a0 hw
      · have hw := hw.2 c8002
        refine lv_bipush (v := 6) X.1 X.2.1 dX12_sluice_58 (by decide) ?_
        refine lv_istore (lv' := [(4, .int 6), (0, .ref a0), (1, .int xn1), (2, .int xn2), (3, .int xn3)]) X.1 X.2.1 dX12_sluice_60 hl (by decide) rfl (fun ls hl => ?_)
        exact j62 xn1 xn2 xn3 6 Sn H locs ls (lv_sub hl [1, 2, 3, 4, 0] rfl) h hle f_a0 hw
  unfold wX12_sluice at hw
  have h : kp_H D cy A S s.heap s.heap [] := h
  revert h
  intro h
  refine lv_aload_n X.1 X.2.1 dX12_sluice_0 rfl (lv_at hl 0 rfl) ?_
  refine kp_calli X h (kp_runV (rm := { frames := 0, cells := 0, slots := 0, locals := 0 }) (mc := 0) (ms := 0) (rest := []) (Qc := fun A => kp_Qi D cy A S _) X h (c_X12_pop l D cy ad S a0 _ h.2.2.2 f_a0 hw) f_a0 cv_12_718 ⟨by decide, by decide, rfl, rfl, by decide, by decide⟩ rfl hl.1 rfl (Nat.le_of_ble_eq_true rfl) dX12_sluice_1) (fun y2 T1 hw l_T1 H locs h => ?_)
  have f_a0 := l_T1.is f_a0
  have hle := hle.tr l_T1
  refine lv_istore_n (lv' := [(1, .int y2), (0, .ref a0)]) X.1 X.2.1 dX12_sluice_4 rfl hl (by decide) rfl (fun ls hl => ?_)
  refine lv_aload_n X.1 X.2.1 dX12_sluice_5 rfl (lv_at hl 1 rfl) ?_
  refine kp_calli X h (kp_runV (rm := { frames := 0, cells := 0, slots := 0, locals := 0 }) (mc := 0) (ms := 0) (rest := []) (Qc := fun A => kp_Qi D cy A T1 _) X h (c_X12_pop l D cy ad T1 a0 _ h.2.2.2 f_a0 hw) f_a0 cv_12_718 ⟨by decide, by decide, rfl, rfl, by decide, by decide⟩ rfl hl.1 rfl (Nat.le_of_ble_eq_true rfl) dX12_sluice_6) (fun y4 T3 hw l_T3 H locs h => ?_)
  have f_a0 := l_T3.is f_a0
  have hle := hle.tr l_T3
  refine lv_istore_n (lv' := [(2, .int y4), (1, .int y2), (0, .ref a0)]) X.1 X.2.1 dX12_sluice_9 rfl hl (by decide) rfl (fun ls hl => ?_)
  refine lv_aload_n X.1 X.2.1 dX12_sluice_10 rfl (lv_at hl 2 rfl) ?_
  refine kp_calli X h (kp_runV (rm := { frames := 0, cells := 0, slots := 0, locals := 0 }) (mc := 0) (ms := 0) (rest := []) (Qc := fun A => kp_Qi D cy A T3 _) X h (c_X12_pop l D cy ad T3 a0 _ h.2.2.2 f_a0 hw) f_a0 cv_12_718 ⟨by decide, by decide, rfl, rfl, by decide, by decide⟩ rfl hl.1 rfl (Nat.le_of_ble_eq_true rfl) dX12_sluice_11) (fun y6 T5 hw l_T5 H locs h => ?_)
  have f_a0 := l_T5.is f_a0
  have hle := hle.tr l_T5
  refine lv_istore_n (lv' := [(3, .int y6), (2, .int y4), (1, .int y2), (0, .ref a0)]) X.1 X.2.1 dX12_sluice_14 rfl hl (by decide) rfl (fun ls hl => ?_)
  refine lv_iload_n X.1 X.2.1 dX12_sluice_15 rfl (lv_at hl 2 rfl) ?_
  refine lv_iconst (v := 0) X.1 X.2.1 dX12_sluice_16 (by decide) ?_
  refine lv_sipush (v := 1000) X.1 X.2.1 dX12_sluice_17 (by decide) ?_
  refine kp_calli X h (kp_runS (rm := { frames := 0, cells := 0, slots := 0, locals := 0 }) (mc := 0) (ms := 0) (rest := []) (Qc := fun A => kp_Qi D cy A T5 _) X h (c_X12_in l D cy ad T5 y2 0 1000 _ h.2.2.2  hw) cs_12_589 ⟨by decide, by decide, rfl, rfl, by decide, by decide⟩ rfl hl.1 rfl (Nat.le_of_ble_eq_true rfl) dX12_sluice_20) (fun y8 T7 hw l_T7 H locs h => ?_)
  have f_a0 := l_T7.is f_a0
  have hle := hle.tr l_T7
  refine lv_if_eq (tgt := 35) X.1 X.2.1 dX12_sluice_23 (by decide) (fun c11 => ?_) (fun c11 => ?_)
  · have hw := hw.1 c11
    refine lv_iconst (v := 3) X.1 X.2.1 dX12_sluice_35 (by decide) ?_
    exact j36 y2 y4 y6 3 T7 _ _ ls (lv_sub hl [3, 2, 1, 0] rfl) h hle f_a0 hw
  · have hw := hw.2 c11
    refine lv_aload_n X.1 X.2.1 dX12_sluice_26 rfl (lv_at hl 3 rfl) ?_
    refine lv_iload_n X.1 X.2.1 dX12_sluice_27 rfl (lv_at hl 0 rfl) ?_
    refine lv_iload_n X.1 X.2.1 dX12_sluice_28 rfl (lv_at hl 1 rfl) ?_
    refine kp_calli X h (kp_runV (rm := { frames := 1, cells := 0, slots := 0, locals := 22 }) (mc := 0) (ms := 0) (rest := []) (Qc := fun A => kp_Qi D cy A T7 _) X h (c_X12_wrongSide l D cy ad T7 a0 y6 y4 _ h.2.2.2 f_a0 hw) f_a0 cv_12_787 ⟨by decide, by decide, rfl, rfl, by decide, by decide⟩ rfl hl.1 rfl (Nat.le_of_ble_eq_true rfl) dX12_sluice_29) (fun y10 T9 hw l_T9 H locs h => ?_)
    have f_a0 := l_T9.is f_a0
    have hle := hle.tr l_T9
    refine lv_goto (tgt := 36) X.1 X.2.1 dX12_sluice_32 (by decide) ?_
    exact j36 y2 y4 y6 y10 T9 _ _ ls (lv_sub hl [3, 2, 1, 0] rfl) h hle f_a0 hw
theorem dX12_sail_0 : decode cX12_sail 0 = .ok (.aload_n 0, 1) := by decide +kernel
theorem dX12_sail_1 : decode cX12_sail 1 = .ok (.invokevirtual 718, 3) := by decide +kernel
theorem dX12_sail_4 : decode cX12_sail 4 = .ok (.istore_n 1, 1) := by decide +kernel
theorem dX12_sail_5 : decode cX12_sail 5 = .ok (.aload_n 0, 1) := by decide +kernel
theorem dX12_sail_6 : decode cX12_sail 6 = .ok (.invokevirtual 718, 3) := by decide +kernel
theorem dX12_sail_9 : decode cX12_sail 9 = .ok (.istore_n 2, 1) := by decide +kernel
theorem dX12_sail_10 : decode cX12_sail 10 = .ok (.iload_n 2, 1) := by decide +kernel
theorem dX12_sail_11 : decode cX12_sail 11 = .ok (.iconst 0, 1) := by decide +kernel
theorem dX12_sail_12 : decode cX12_sail 12 = .ok (.bipush 7, 2) := by decide +kernel
theorem dX12_sail_14 : decode cX12_sail 14 = .ok (.invokestatic 589, 3) := by decide +kernel
theorem dX12_sail_17 : decode cX12_sail 17 = .ok (.ifCond .eq 12, 3) := by decide +kernel
theorem dX12_sail_20 : decode cX12_sail 20 = .ok (.iload_n 1, 1) := by decide +kernel
theorem dX12_sail_21 : decode cX12_sail 21 = .ok (.iconst 0, 1) := by decide +kernel
theorem dX12_sail_22 : decode cX12_sail 22 = .ok (.iconst 1, 1) := by decide +kernel
theorem dX12_sail_23 : decode cX12_sail 23 = .ok (.invokestatic 589, 3) := by decide +kernel
theorem dX12_sail_26 : decode cX12_sail 26 = .ok (.ifCond .ne 9, 3) := by decide +kernel
theorem dX12_sail_29 : decode cX12_sail 29 = .ok (.aload_n 0, 1) := by decide +kernel
theorem dX12_sail_30 : decode cX12_sail 30 = .ok (.iconst 3, 1) := by decide +kernel
theorem dX12_sail_31 : decode cX12_sail 31 = .ok (.invokevirtual 696, 3) := by decide +kernel
theorem dX12_sail_34 : decode cX12_sail 34 = .ok (.return_, 1) := by decide +kernel
theorem dX12_sail_35 : decode cX12_sail 35 = .ok (.aload_n 0, 1) := by decide +kernel
theorem dX12_sail_36 : decode cX12_sail 36 = .ok (.getfield 167, 3) := by decide +kernel
theorem dX12_sail_39 : decode cX12_sail 39 = .ok (.iload_n 2, 1) := by decide +kernel
theorem dX12_sail_40 : decode cX12_sail 40 = .ok (.iaload, 1) := by decide +kernel
theorem dX12_sail_41 : decode cX12_sail 41 = .ok (.iload_n 1, 1) := by decide +kernel
theorem dX12_sail_42 : decode cX12_sail 42 = .ok (.iconst 1, 1) := by decide +kernel
theorem dX12_sail_43 : decode cX12_sail 43 = .ok (.if_icmp .ne 7, 3) := by decide +kernel
theorem dX12_sail_46 : decode cX12_sail 46 = .ok (.iconst 1, 1) := by decide +kernel
theorem dX12_sail_47 : decode cX12_sail 47 = .ok (.goto 4, 3) := by decide +kernel
theorem dX12_sail_50 : decode cX12_sail 50 = .ok (.iconst (-1), 1) := by decide +kernel
theorem dX12_sail_51 : decode cX12_sail 51 = .ok (.iadd, 1) := by decide +kernel
theorem dX12_sail_52 : decode cX12_sail 52 = .ok (.istore_n 3, 1) := by decide +kernel
theorem dX12_sail_53 : decode cX12_sail 53 = .ok (.iload_n 3, 1) := by decide +kernel
theorem dX12_sail_54 : decode cX12_sail 54 = .ok (.iconst 0, 1) := by decide +kernel
theorem dX12_sail_55 : decode cX12_sail 55 = .ok (.bipush 12, 2) := by decide +kernel
theorem dX12_sail_57 : decode cX12_sail 57 = .ok (.invokestatic 589, 3) := by decide +kernel
theorem dX12_sail_60 : decode cX12_sail 60 = .ok (.ifCond .ne 10, 3) := by decide +kernel
theorem dX12_sail_63 : decode cX12_sail 63 = .ok (.aload_n 0, 1) := by decide +kernel
theorem dX12_sail_64 : decode cX12_sail 64 = .ok (.bipush 9, 2) := by decide +kernel
theorem dX12_sail_66 : decode cX12_sail 66 = .ok (.invokevirtual 696, 3) := by decide +kernel
theorem dX12_sail_69 : decode cX12_sail 69 = .ok (.return_, 1) := by decide +kernel
theorem dX12_sail_70 : decode cX12_sail 70 = .ok (.iload_n 3, 1) := by decide +kernel
theorem dX12_sail_71 : decode cX12_sail 71 = .ok (.iconst 2, 1) := by decide +kernel
theorem dX12_sail_72 : decode cX12_sail 72 = .ok (.irem, 1) := by decide +kernel
theorem dX12_sail_73 : decode cX12_sail 73 = .ok (.iconst 1, 1) := by decide +kernel
theorem dX12_sail_74 : decode cX12_sail 74 = .ok (.if_icmp .ne 7, 3) := by decide +kernel
theorem dX12_sail_77 : decode cX12_sail 77 = .ok (.iload_n 3, 1) := by decide +kernel
theorem dX12_sail_78 : decode cX12_sail 78 = .ok (.goto 9, 3) := by decide +kernel
theorem dX12_sail_81 : decode cX12_sail 81 = .ok (.aload_n 0, 1) := by decide +kernel
theorem dX12_sail_82 : decode cX12_sail 82 = .ok (.getfield 167, 3) := by decide +kernel
theorem dX12_sail_85 : decode cX12_sail 85 = .ok (.iload_n 2, 1) := by decide +kernel
theorem dX12_sail_86 : decode cX12_sail 86 = .ok (.iaload, 1) := by decide +kernel
theorem dX12_sail_87 : decode cX12_sail 87 = .ok (.istore 4, 2) := by decide +kernel
theorem dX12_sail_89 : decode cX12_sail 89 = .ok (.iload_n 3, 1) := by decide +kernel
theorem dX12_sail_90 : decode cX12_sail 90 = .ok (.iconst 2, 1) := by decide +kernel
theorem dX12_sail_91 : decode cX12_sail 91 = .ok (.irem, 1) := by decide +kernel
theorem dX12_sail_92 : decode cX12_sail 92 = .ok (.iconst 1, 1) := by decide +kernel
theorem dX12_sail_93 : decode cX12_sail 93 = .ok (.if_icmp .ne 12, 3) := by decide +kernel
theorem dX12_sail_96 : decode cX12_sail 96 = .ok (.aload_n 0, 1) := by decide +kernel
theorem dX12_sail_97 : decode cX12_sail 97 = .ok (.getfield 167, 3) := by decide +kernel
theorem dX12_sail_100 : decode cX12_sail 100 = .ok (.iload_n 2, 1) := by decide +kernel
theorem dX12_sail_101 : decode cX12_sail 101 = .ok (.iaload, 1) := by decide +kernel
theorem dX12_sail_102 : decode cX12_sail 102 = .ok (.goto 4, 3) := by decide +kernel
theorem dX12_sail_105 : decode cX12_sail 105 = .ok (.iload_n 3, 1) := by decide +kernel
theorem dX12_sail_106 : decode cX12_sail 106 = .ok (.istore 5, 2) := by decide +kernel
theorem dX12_sail_108 : decode cX12_sail 108 = .ok (.iload 4, 2) := by decide +kernel
theorem dX12_sail_110 : decode cX12_sail 110 = .ok (.iconst 1, 1) := by decide +kernel
theorem dX12_sail_111 : decode cX12_sail 111 = .ok (.isub, 1) := by decide +kernel
theorem dX12_sail_112 : decode cX12_sail 112 = .ok (.iconst 2, 1) := by decide +kernel
theorem dX12_sail_113 : decode cX12_sail 113 = .ok (.idiv, 1) := by decide +kernel
theorem dX12_sail_114 : decode cX12_sail 114 = .ok (.istore 6, 2) := by decide +kernel
theorem dX12_sail_116 : decode cX12_sail 116 = .ok (.iload 5, 2) := by decide +kernel
theorem dX12_sail_118 : decode cX12_sail 118 = .ok (.iload 4, 2) := by decide +kernel
theorem dX12_sail_120 : decode cX12_sail 120 = .ok (.if_icmp .ge 7, 3) := by decide +kernel
theorem dX12_sail_123 : decode cX12_sail 123 = .ok (.iconst 0, 1) := by decide +kernel
theorem dX12_sail_124 : decode cX12_sail 124 = .ok (.goto 4, 3) := by decide +kernel
theorem dX12_sail_127 : decode cX12_sail 127 = .ok (.iconst 1, 1) := by decide +kernel
theorem dX12_sail_128 : decode cX12_sail 128 = .ok (.istore 7, 2) := by decide +kernel
theorem dX12_sail_130 : decode cX12_sail 130 = .ok (.aload_n 0, 1) := by decide +kernel
theorem dX12_sail_131 : decode cX12_sail 131 = .ok (.getfield 161, 3) := by decide +kernel
theorem dX12_sail_134 : decode cX12_sail 134 = .ok (.iload 6, 2) := by decide +kernel
theorem dX12_sail_136 : decode cX12_sail 136 = .ok (.iaload, 1) := by decide +kernel
theorem dX12_sail_137 : decode cX12_sail 137 = .ok (.ifCond .ne 7, 3) := by decide +kernel
theorem dX12_sail_140 : decode cX12_sail 140 = .ok (.iconst 4, 1) := by decide +kernel
theorem dX12_sail_141 : decode cX12_sail 141 = .ok (.goto 44, 3) := by decide +kernel
theorem dX12_sail_144 : decode cX12_sail 144 = .ok (.aload_n 0, 1) := by decide +kernel
theorem dX12_sail_145 : decode cX12_sail 145 = .ok (.getfield 157, 3) := by decide +kernel
theorem dX12_sail_148 : decode cX12_sail 148 = .ok (.iconst 2, 1) := by decide +kernel
theorem dX12_sail_149 : decode cX12_sail 149 = .ok (.iload 6, 2) := by decide +kernel
theorem dX12_sail_151 : decode cX12_sail 151 = .ok (.imul, 1) := by decide +kernel
theorem dX12_sail_152 : decode cX12_sail 152 = .ok (.iload 7, 2) := by decide +kernel
theorem dX12_sail_154 : decode cX12_sail 154 = .ok (.iadd, 1) := by decide +kernel
theorem dX12_sail_155 : decode cX12_sail 155 = .ok (.baload, 1) := by decide +kernel
theorem dX12_sail_156 : decode cX12_sail 156 = .ok (.ifCond .ne 8, 3) := by decide +kernel
theorem dX12_sail_159 : decode cX12_sail 159 = .ok (.bipush 7, 2) := by decide +kernel
theorem dX12_sail_161 : decode cX12_sail 161 = .ok (.goto 24, 3) := by decide +kernel
theorem dX12_sail_164 : decode cX12_sail 164 = .ok (.iload_n 3, 1) := by decide +kernel
theorem dX12_sail_165 : decode cX12_sail 165 = .ok (.iload 4, 2) := by decide +kernel
theorem dX12_sail_167 : decode cX12_sail 167 = .ok (.if_icmp .ne 17, 3) := by decide +kernel
theorem dX12_sail_170 : decode cX12_sail 170 = .ok (.aload_n 0, 1) := by decide +kernel
theorem dX12_sail_171 : decode cX12_sail 171 = .ok (.iload_n 3, 1) := by decide +kernel
theorem dX12_sail_172 : decode cX12_sail 172 = .ok (.iload_n 2, 1) := by decide +kernel
theorem dX12_sail_173 : decode cX12_sail 173 = .ok (.invokevirtual 594, 3) := by decide +kernel
theorem dX12_sail_176 : decode cX12_sail 176 = .ok (.ifCond .eq 8, 3) := by decide +kernel
theorem dX12_sail_179 : decode cX12_sail 179 = .ok (.bipush 8, 2) := by decide +kernel
theorem dX12_sail_181 : decode cX12_sail 181 = .ok (.goto 4, 3) := by decide +kernel
theorem dX12_sail_184 : decode cX12_sail 184 = .ok (.iconst 0, 1) := by decide +kernel
theorem dX12_sail_185 : decode cX12_sail 185 = .ok (.istore 8, 2) := by decide +kernel
theorem dX12_sail_187 : decode cX12_sail 187 = .ok (.iload 8, 2) := by decide +kernel
theorem dX12_sail_189 : decode cX12_sail 189 = .ok (.ifCond .le 10, 3) := by decide +kernel
theorem dX12_sail_192 : decode cX12_sail 192 = .ok (.aload_n 0, 1) := by decide +kernel
theorem dX12_sail_193 : decode cX12_sail 193 = .ok (.iload 8, 2) := by decide +kernel
theorem dX12_sail_195 : decode cX12_sail 195 = .ok (.invokevirtual 696, 3) := by decide +kernel
theorem dX12_sail_198 : decode cX12_sail 198 = .ok (.return_, 1) := by decide +kernel
theorem dX12_sail_199 : decode cX12_sail 199 = .ok (.aload_n 0, 1) := by decide +kernel
theorem dX12_sail_200 : decode cX12_sail 200 = .ok (.getfield 167, 3) := by decide +kernel
theorem dX12_sail_203 : decode cX12_sail 203 = .ok (.iload_n 2, 1) := by decide +kernel
theorem dX12_sail_204 : decode cX12_sail 204 = .ok (.iload_n 3, 1) := by decide +kernel
theorem dX12_sail_205 : decode cX12_sail 205 = .ok (.iastore, 1) := by decide +kernel
theorem dX12_sail_206 : decode cX12_sail 206 = .ok (.aload_n 0, 1) := by decide +kernel
theorem dX12_sail_207 : decode cX12_sail 207 = .ok (.bipush 6, 2) := by decide +kernel
theorem dX12_sail_209 : decode cX12_sail 209 = .ok (.bipush 16, 2) := by decide +kernel
theorem dX12_sail_211 : decode cX12_sail 211 = .ok (.iload_n 2, 1) := by decide +kernel
theorem dX12_sail_212 : decode cX12_sail 212 = .ok (.imul, 1) := by decide +kernel
theorem dX12_sail_213 : decode cX12_sail 213 = .ok (.iload_n 3, 1) := by decide +kernel
theorem dX12_sail_214 : decode cX12_sail 214 = .ok (.iadd, 1) := by decide +kernel
theorem dX12_sail_215 : decode cX12_sail 215 = .ok (.invokevirtual 637, 3) := by decide +kernel
theorem dX12_sail_218 : decode cX12_sail 218 = .ok (.return_, 1) := by decide +kernel
def wX12_sail_b29 (a0 : Nat)  (Sn : kp_S) (post : kp_S → Prop) : Prop :=
  wX12_trouble a0 3 Sn (fun T1001 =>
  post T1001)
def wX12_sail_b185 (a0 : Nat) (xn2 : Int32) (xn3 : Int32) (xt0 : Int32)  (Sn : kp_S) (post : kp_S → Prop) : Prop :=
  ((xt0 ≤ 0 →
  ∃ b2001 : Nat, kp_R Sn 2467 a0 = some b2001 ∧
  vp_in xn2 (kp_N Sn b2001) ∧ ∀ T2002 : kp_S, T2002 = kp_sA Sn b2001 (upd (kp_A Sn b2001) (xn2.toNatClampNeg) xn3) →
  wX12_note a0 6 ((16 * xn2) + xn3) T2002 (fun T2003 =>
  post T2003)) ∧ (¬ xt0 ≤ 0 →
  wX12_trouble a0 xt0 Sn (fun T2004 =>
  post T2004)))
def wX12_sail_b184 (a0 : Nat) (xn2 : Int32) (xn3 : Int32)  (Sn : kp_S) (post : kp_S → Prop) : Prop :=
  wX12_sail_b185 a0 xn2 xn3 0  Sn post
def wX12_sail_b128 (a0 : Nat) (xn2 : Int32) (xn3 : Int32) (xn4 : Int32) (xn6 : Int32) (xt0 : Int32)  (Sn : kp_S) (post : kp_S → Prop) : Prop :=
  ∃ b4001 : Nat, kp_R Sn 2465 a0 = some b4001 ∧
  vp_in xn6 (kp_N Sn b4001) ∧
  ((¬ (kp_A Sn b4001 xn6.toNatClampNeg) = 0 →
  ∃ b4002 : Nat, kp_R Sn 2464 a0 = some b4002 ∧
  vp_in ((2 * xn6) + xt0) (kp_N Sn b4002) ∧
  ((¬ (kp_A Sn b4002 ((2 * xn6) + xt0).toNatClampNeg) = 0 →
  ((¬ xn3 = xn4 →
  wX12_sail_b184 a0 xn2 xn3  Sn post) ∧ (xn3 = xn4 →
  wX12_isTaken a0 xn3 xn2 Sn (fun y4004 T4003 =>
  ((y4004 = 0 →
  wX12_sail_b184 a0 xn2 xn3  T4003 post) ∧ (¬ y4004 = 0 →
  wX12_sail_b185 a0 xn2 xn3 8  T4003 post)))))) ∧ ((kp_A Sn b4002 ((2 * xn6) + xt0).toNatClampNeg) = 0 →
  wX12_sail_b185 a0 xn2 xn3 7  Sn post))) ∧ ((kp_A Sn b4001 xn6.toNatClampNeg) = 0 →
  wX12_sail_b185 a0 xn2 xn3 4  Sn post))
def wX12_sail_b106 (a0 : Nat) (xn2 : Int32) (xn3 : Int32) (xn4 : Int32) (xt0 : Int32)  (Sn : kp_S) (post : kp_S → Prop) : Prop :=
  ∀ y5001 : Int32, y5001 = ((xn4 - 1) / 2) →
  ((xn4 ≤ xt0 →
  wX12_sail_b128 a0 xn2 xn3 xn4 y5001 1  Sn post) ∧ (¬ xn4 ≤ xt0 →
  wX12_sail_b128 a0 xn2 xn3 xn4 y5001 0  Sn post))
def wX12_sail_b87 (a0 : Nat) (xn2 : Int32) (xn3 : Int32) (xt0 : Int32)  (Sn : kp_S) (post : kp_S → Prop) : Prop :=
  ((¬ (xn3 - xn3 / 2 * 2) = 1 →
  wX12_sail_b106 a0 xn2 xn3 xt0 xn3  Sn post) ∧ ((xn3 - xn3 / 2 * 2) = 1 →
  ∃ b6001 : Nat, kp_R Sn 2467 a0 = some b6001 ∧
  vp_in xn2 (kp_N Sn b6001) ∧
  wX12_sail_b106 a0 xn2 xn3 xt0 (kp_A Sn b6001 xn2.toNatClampNeg)  Sn post))
def wX12_sail_b51 (a0 : Nat) (xn2 : Int32) (xt0 : Int32) (xt1 : Int32)  (Sn : kp_S) (post : kp_S → Prop) : Prop :=
  ∀ y7001 : Int32, y7001 = (xt1 + xt0) →
  wX12_in y7001 0 12 Sn (fun y7003 T7002 =>
  ((¬ y7003 = 0 →
  ((¬ (y7001 - y7001 / 2 * 2) = 1 →
  ∃ b7004 : Nat, kp_R T7002 2467 a0 = some b7004 ∧
  vp_in xn2 (kp_N T7002 b7004) ∧
  wX12_sail_b87 a0 xn2 y7001 (kp_A T7002 b7004 xn2.toNatClampNeg)  T7002 post) ∧ ((y7001 - y7001 / 2 * 2) = 1 →
  wX12_sail_b87 a0 xn2 y7001 y7001  T7002 post))) ∧ (y7003 = 0 →
  wX12_trouble a0 9 T7002 (fun T7006 =>
  post T7006))))
def wX12_sail (a0 : Nat) (S : kp_S) (post : kp_S → Prop) : Prop :=
  wX12_pop a0 S (fun y2 T1 =>
  wX12_pop a0 T1 (fun y4 T3 =>
  wX12_in y4 0 7 T3 (fun y6 T5 =>
  ((y6 = 0 →
  wX12_sail_b29 a0   T5 post) ∧ (¬ y6 = 0 →
  wX12_in y2 0 1 T5 (fun y8 T7 =>
  ((¬ y8 = 0 →
  ∃ b9 : Nat, kp_R T7 2467 a0 = some b9 ∧
  vp_in y4 (kp_N T7 b9) ∧
  ((¬ y2 = 1 →
  wX12_sail_b51 a0 y4 (-1) (kp_A T7 b9 y4.toNatClampNeg)  T7 post) ∧ (y2 = 1 →
  wX12_sail_b51 a0 y4 1 (kp_A T7 b9 y4.toNatClampNeg)  T7 post))) ∧ (y8 = 0 →
  wX12_sail_b29 a0   T7 post))))))))
set_option maxHeartbeats 4000000 in
set_option maxRecDepth 100000 in
theorem c_X12_sail (l : Launch) (D : va_G) (cy : Nat → ClassId) (ad : (Nat → Nat) × (Nat → Nat)) (S : kp_S) (a0 : Nat) (post : kp_S → Prop) (hS : kp_ok S) (f_a0 : kp_is S a0 12) (hw : wX12_sail a0 S post) : kp_M l yX12_sail cX12_sail 9 none { frames := 6, cells := 0, slots := 0, locals := 130 } D cy ad S [.ref a0] 0 0 (fun A => kp_Qv D cy A S post) := by
  refine kp_start (own := RX12) (by decide) rfl (Nat.le_of_ble_eq_true rfl) hS ?_
  intro p e s m below meth c A ls X hr hlocks hname h hl
  have hle : kp_le S S := kp_le.rf
  have hl : lv_has ls 9 [(0, .ref a0)] := hl
  have j29 : ∀  (Sn : kp_S) (H : Heap) (locs : List Loc) (ls : Array Slot), lv_has ls 9 [(0, .ref a0)] → kp_H D cy A Sn s.heap H locs → kp_le S Sn → kp_is Sn a0 12 → wX12_sail_b29 a0   Sn post → W p l e { frames := 6, cells := 0, slots := 0, locals := 130 } s m ([.ref a0] : List Value).toArray below meth c H locs 0 0 (MQ below (kp_Qv D cy A S post) ([.ref a0] : List Value).toArray s 0 0 A) (F0 m 29 ls []) := by
    intro  Sn H locs ls hl h hle f_a0 hw
    unfold wX12_sail_b29 at hw
    refine lv_aload_n X.1 X.2.1 dX12_sail_29 rfl (lv_at hl 0 rfl) ?_
    refine lv_iconst (v := 3) X.1 X.2.1 dX12_sail_30 (by decide) ?_
    refine kp_callv X h (kp_runV (rm := { frames := 5, cells := 0, slots := 0, locals := 108 }) (mc := 0) (ms := 0) (rest := []) (Qc := fun A => kp_Qv D cy A Sn _) X h (c_X12_trouble l D cy ad Sn a0 3 _ h.2.2.2 f_a0 hw) f_a0 cv_12_696 ⟨by decide, by decide, rfl, rfl, by decide, by decide⟩ rfl hl.1 rfl (Nat.le_of_ble_eq_true rfl) dX12_sail_31) (fun T1001 hw l_T1001 H locs h => ?_)
    have f_a0 := l_T1001.is f_a0
    have hle := hle.tr l_T1001
    exact kp_retv X hr hlocks h hle hw dX12_sail_34
  have j185 : ∀ (xn2 : Int32) (xn3 : Int32) (xt0 : Int32) (Sn : kp_S) (H : Heap) (locs : List Loc) (ls : Array Slot), lv_has ls 9 [(0, .ref a0), (2, .int xn2), (3, .int xn3)] → kp_H D cy A Sn s.heap H locs → kp_le S Sn → kp_is Sn a0 12 → wX12_sail_b185 a0 xn2 xn3 xt0  Sn post → W p l e { frames := 6, cells := 0, slots := 0, locals := 130 } s m ([.ref a0] : List Value).toArray below meth c H locs 0 0 (MQ below (kp_Qv D cy A S post) ([.ref a0] : List Value).toArray s 0 0 A) (F0 m 185 ls [.int xt0]) := by
    intro xn2 xn3 xt0 Sn H locs ls hl h hle f_a0 hw
    unfold wX12_sail_b185 at hw
    refine lv_istore (lv' := [(8, .int xt0), (0, .ref a0), (2, .int xn2), (3, .int xn3)]) X.1 X.2.1 dX12_sail_185 hl (by decide) rfl (fun ls hl => ?_)
    refine lv_iload X.1 X.2.1 dX12_sail_187 (lv_at hl 0 rfl) ?_
    refine lv_if_le (tgt := 199) X.1 X.2.1 dX12_sail_189 (by decide) (fun c2005 => ?_) (fun c2005 => ?_)
    · have hw := hw.1 c2005
      refine lv_aload_n X.1 X.2.1 dX12_sail_199 rfl (lv_at hl 1 rfl) ?_
      obtain ⟨b2001, e_b2001, hw⟩ := hw
      have f_b2001 := h.2.2.2.rf (c := 12) (k := 67) f_a0 (by decide) (by decide) e_b2001 (t := 14) rfl
      refine kp_get X h f_a0 ff_12_167.l (v := .ref b2001) (congrArg va_rf e_b2001) dX12_sail_200 ?_
      refine lv_iload_n X.1 X.2.1 dX12_sail_203 rfl (lv_at hl 2 rfl) ?_
      refine lv_iload_n X.1 X.2.1 dX12_sail_204 rfl (lv_at hl 3 rfl) ?_
      obtain ⟨hi, hw⟩ := hw
      refine kp_iast X h f_b2001 hi dX12_sail_205 (fun T2002 e_T2002 l_T2002 H locs h => ?_)
      have hw := hw T2002 e_T2002
      have f_a0 := l_T2002.is f_a0
      have f_b2001 := l_T2002.is f_b2001
      have hle := hle.tr l_T2002
      have e_b2001 : kp_R T2002 2467 a0 = some b2001 := by rw [e_T2002]; exact e_b2001
      refine lv_aload_n X.1 X.2.1 dX12_sail_206 rfl (lv_at hl 1 rfl) ?_
      refine lv_bipush (v := 6) X.1 X.2.1 dX12_sail_207 (by decide) ?_
      refine lv_bipush (v := 16) X.1 X.2.1 dX12_sail_209 (by decide) ?_
      refine lv_iload_n X.1 X.2.1 dX12_sail_211 rfl (lv_at hl 2 rfl) ?_
      refine lv_imul X.1 X.2.1 dX12_sail_212 ?_
      refine lv_iload_n X.1 X.2.1 dX12_sail_213 rfl (lv_at hl 3 rfl) ?_
      refine lv_iadd X.1 X.2.1 dX12_sail_214 ?_
      refine kp_callv X h (kp_runV (rm := { frames := 0, cells := 0, slots := 0, locals := 0 }) (mc := 0) (ms := 0) (rest := []) (Qc := fun A => kp_Qv D cy A T2002 _) X h (c_X12_note l D cy ad T2002 a0 6 ((16 * xn2) + xn3) _ h.2.2.2 f_a0 hw) f_a0 cv_12_637 ⟨by decide, by decide, rfl, rfl, by decide, by decide⟩ rfl hl.1 rfl (Nat.le_of_ble_eq_true rfl) dX12_sail_215) (fun T2003 hw l_T2003 H locs h => ?_)
      have f_a0 := l_T2003.is f_a0
      have f_b2001 := l_T2003.is f_b2001
      have hle := hle.tr l_T2003
      exact kp_retv X hr hlocks h hle hw dX12_sail_218
    · have hw := hw.2 c2005
      refine lv_aload_n X.1 X.2.1 dX12_sail_192 rfl (lv_at hl 1 rfl) ?_
      refine lv_iload X.1 X.2.1 dX12_sail_193 (lv_at hl 0 rfl) ?_
      refine kp_callv X h (kp_runV (rm := { frames := 5, cells := 0, slots := 0, locals := 108 }) (mc := 0) (ms := 0) (rest := []) (Qc := fun A => kp_Qv D cy A Sn _) X h (c_X12_trouble l D cy ad Sn a0 xt0 _ h.2.2.2 f_a0 hw) f_a0 cv_12_696 ⟨by decide, by decide, rfl, rfl, by decide, by decide⟩ rfl hl.1 rfl (Nat.le_of_ble_eq_true rfl) dX12_sail_195) (fun T2004 hw l_T2004 H locs h => ?_)
      have f_a0 := l_T2004.is f_a0
      have hle := hle.tr l_T2004
      exact kp_retv X hr hlocks h hle hw dX12_sail_198
  have j184 : ∀ (xn2 : Int32) (xn3 : Int32) (Sn : kp_S) (H : Heap) (locs : List Loc) (ls : Array Slot), lv_has ls 9 [(0, .ref a0), (2, .int xn2), (3, .int xn3)] → kp_H D cy A Sn s.heap H locs → kp_le S Sn → kp_is Sn a0 12 → wX12_sail_b184 a0 xn2 xn3  Sn post → W p l e { frames := 6, cells := 0, slots := 0, locals := 130 } s m ([.ref a0] : List Value).toArray below meth c H locs 0 0 (MQ below (kp_Qv D cy A S post) ([.ref a0] : List Value).toArray s 0 0 A) (F0 m 184 ls []) := by
    intro xn2 xn3 Sn H locs ls hl h hle f_a0 hw
    unfold wX12_sail_b184 at hw
    refine lv_iconst (v := 0) X.1 X.2.1 dX12_sail_184 (by decide) ?_
    exact j185 xn2 xn3 0 Sn H locs ls (lv_sub hl [0, 1, 2] rfl) h hle f_a0 hw
  have j128 : ∀ (xn2 : Int32) (xn3 : Int32) (xn4 : Int32) (xn6 : Int32) (xt0 : Int32) (Sn : kp_S) (H : Heap) (locs : List Loc) (ls : Array Slot), lv_has ls 9 [(0, .ref a0), (2, .int xn2), (3, .int xn3), (4, .int xn4), (6, .int xn6)] → kp_H D cy A Sn s.heap H locs → kp_le S Sn → kp_is Sn a0 12 → wX12_sail_b128 a0 xn2 xn3 xn4 xn6 xt0  Sn post → W p l e { frames := 6, cells := 0, slots := 0, locals := 130 } s m ([.ref a0] : List Value).toArray below meth c H locs 0 0 (MQ below (kp_Qv D cy A S post) ([.ref a0] : List Value).toArray s 0 0 A) (F0 m 128 ls [.int xt0]) := by
    intro xn2 xn3 xn4 xn6 xt0 Sn H locs ls hl h hle f_a0 hw
    unfold wX12_sail_b128 at hw
    refine lv_istore (lv' := [(7, .int xt0), (0, .ref a0), (2, .int xn2), (3, .int xn3), (4, .int xn4), (6, .int xn6)]) X.1 X.2.1 dX12_sail_128 hl (by decide) rfl (fun ls hl => ?_)
    refine lv_aload_n X.1 X.2.1 dX12_sail_130 rfl (lv_at hl 1 rfl) ?_
    obtain ⟨b4001, e_b4001, hw⟩ := hw
    have f_b4001 := h.2.2.2.rf (c := 12) (k := 65) f_a0 (by decide) (by decide) e_b4001 (t := 14) rfl
    refine kp_get X h f_a0 ff_12_161.l (v := .ref b4001) (congrArg va_rf e_b4001) dX12_sail_131 ?_
    refine lv_iload X.1 X.2.1 dX12_sail_134 (lv_at hl 5 rfl) ?_
    obtain ⟨hi, hw⟩ := hw
    refine kp_iald X h f_b4001 hi dX12_sail_136 ?_
    refine lv_if_ne (tgt := 144) X.1 X.2.1 dX12_sail_137 (by decide) (fun c4008 => ?_) (fun c4008 => ?_)
    · have hw := hw.1 c4008
      refine lv_aload_n X.1 X.2.1 dX12_sail_144 rfl (lv_at hl 1 rfl) ?_
      obtain ⟨b4002, e_b4002, hw⟩ := hw
      have f_b4002 := h.2.2.2.rf (c := 12) (k := 64) f_a0 (by decide) (by decide) e_b4002 (t := 16) rfl
      refine kp_get X h f_a0 ff_12_157.l (v := .ref b4002) (congrArg va_rf e_b4002) dX12_sail_145 ?_
      refine lv_iconst (v := 2) X.1 X.2.1 dX12_sail_148 (by decide) ?_
      refine lv_iload X.1 X.2.1 dX12_sail_149 (lv_at hl 5 rfl) ?_
      refine lv_imul X.1 X.2.1 dX12_sail_151 ?_
      refine lv_iload X.1 X.2.1 dX12_sail_152 (lv_at hl 0 rfl) ?_
      refine lv_iadd X.1 X.2.1 dX12_sail_154 ?_
      obtain ⟨hi, hw⟩ := hw
      refine kp_zald X h f_b4002 hi dX12_sail_155 ?_
      refine lv_if_ne (tgt := 164) X.1 X.2.1 dX12_sail_156 (by decide) (fun c4007 => ?_) (fun c4007 => ?_)
      · have hw := hw.1 c4007
        refine lv_iload_n X.1 X.2.1 dX12_sail_164 rfl (lv_at hl 3 rfl) ?_
        refine lv_iload X.1 X.2.1 dX12_sail_165 (lv_at hl 4 rfl) ?_
        refine lv_icmp_ne (tgt := 184) X.1 X.2.1 dX12_sail_167 (by decide) (fun c4006 => ?_) (fun c4006 => ?_)
        · have hw := hw.1 c4006
          exact j184 xn2 xn3 Sn H locs ls (lv_sub hl [1, 2, 3] rfl) h hle f_a0 hw
        · have hw := hw.2 c4006
          refine lv_aload_n X.1 X.2.1 dX12_sail_170 rfl (lv_at hl 1 rfl) ?_
          refine lv_iload_n X.1 X.2.1 dX12_sail_171 rfl (lv_at hl 3 rfl) ?_
          refine lv_iload_n X.1 X.2.1 dX12_sail_172 rfl (lv_at hl 2 rfl) ?_
          refine kp_calli X h (kp_runV (rm := { frames := 0, cells := 0, slots := 0, locals := 0 }) (mc := 0) (ms := 0) (rest := []) (Qc := fun A => kp_Qi D cy A Sn _) X h (c_X12_isTaken l D cy ad Sn a0 xn3 xn2 _ h.2.2.2 f_a0 hw) f_a0 cv_12_594 ⟨by decide, by decide, rfl, rfl, by decide, by decide⟩ rfl hl.1 rfl (Nat.le_of_ble_eq_true rfl) dX12_sail_173) (fun y4004 T4003 hw l_T4003 H locs h => ?_)
          have f_a0 := l_T4003.is f_a0
          have f_b4001 := l_T4003.is f_b4001
          have f_b4002 := l_T4003.is f_b4002
          have hle := hle.tr l_T4003
          refine lv_if_eq (tgt := 184) X.1 X.2.1 dX12_sail_176 (by decide) (fun c4005 => ?_) (fun c4005 => ?_)
          · have hw := hw.1 c4005
            exact j184 xn2 xn3 T4003 H locs ls (lv_sub hl [1, 2, 3] rfl) h hle f_a0 hw
          · have hw := hw.2 c4005
            refine lv_bipush (v := 8) X.1 X.2.1 dX12_sail_179 (by decide) ?_
            refine lv_goto (tgt := 185) X.1 X.2.1 dX12_sail_181 (by decide) ?_
            exact j185 xn2 xn3 8 T4003 H locs ls (lv_sub hl [1, 2, 3] rfl) h hle f_a0 hw
      · have hw := hw.2 c4007
        refine lv_bipush (v := 7) X.1 X.2.1 dX12_sail_159 (by decide) ?_
        refine lv_goto (tgt := 185) X.1 X.2.1 dX12_sail_161 (by decide) ?_
        exact j185 xn2 xn3 7 Sn H locs ls (lv_sub hl [1, 2, 3] rfl) h hle f_a0 hw
    · have hw := hw.2 c4008
      refine lv_iconst (v := 4) X.1 X.2.1 dX12_sail_140 (by decide) ?_
      refine lv_goto (tgt := 185) X.1 X.2.1 dX12_sail_141 (by decide) ?_
      exact j185 xn2 xn3 4 Sn H locs ls (lv_sub hl [1, 2, 3] rfl) h hle f_a0 hw
  have j106 : ∀ (xn2 : Int32) (xn3 : Int32) (xn4 : Int32) (xt0 : Int32) (Sn : kp_S) (H : Heap) (locs : List Loc) (ls : Array Slot), lv_has ls 9 [(0, .ref a0), (2, .int xn2), (3, .int xn3), (4, .int xn4)] → kp_H D cy A Sn s.heap H locs → kp_le S Sn → kp_is Sn a0 12 → wX12_sail_b106 a0 xn2 xn3 xn4 xt0  Sn post → W p l e { frames := 6, cells := 0, slots := 0, locals := 130 } s m ([.ref a0] : List Value).toArray below meth c H locs 0 0 (MQ below (kp_Qv D cy A S post) ([.ref a0] : List Value).toArray s 0 0 A) (F0 m 106 ls [.int xt0]) := by
    intro xn2 xn3 xn4 xt0 Sn H locs ls hl h hle f_a0 hw
    unfold wX12_sail_b106 at hw
    refine lv_istore (lv' := [(5, .int xt0), (0, .ref a0), (2, .int xn2), (3, .int xn3), (4, .int xn4)]) X.1 X.2.1 dX12_sail_106 hl (by decide) rfl (fun ls hl => ?_)
    refine lv_iload X.1 X.2.1 dX12_sail_108 (lv_at hl 4 rfl) ?_
    refine lv_iconst (v := 1) X.1 X.2.1 dX12_sail_110 (by decide) ?_
    refine lv_isub X.1 X.2.1 dX12_sail_111 ?_
    refine lv_iconst (v := 2) X.1 X.2.1 dX12_sail_112 (by decide) ?_
    refine lv_idiv X.1 X.2.1 dX12_sail_113 (by decide) ?_
    refine lv_topi (fun y5001 e_y5001 => ?_)
    have hw := hw y5001 e_y5001
    refine lv_istore (lv' := [(6, .int y5001), (5, .int xt0), (0, .ref a0), (2, .int xn2), (3, .int xn3), (4, .int xn4)]) X.1 X.2.1 dX12_sail_114 hl (by decide) rfl (fun ls hl => ?_)
    refine lv_iload X.1 X.2.1 dX12_sail_116 (lv_at hl 1 rfl) ?_
    refine lv_iload X.1 X.2.1 dX12_sail_118 (lv_at hl 5 rfl) ?_
    refine lv_icmp_ge (tgt := 127) X.1 X.2.1 dX12_sail_120 (by decide) (fun c5002 => ?_) (fun c5002 => ?_)
    · have hw := hw.1 c5002
      refine lv_iconst (v := 1) X.1 X.2.1 dX12_sail_127 (by decide) ?_
      exact j128 xn2 xn3 xn4 y5001 1 Sn H locs ls (lv_sub hl [2, 3, 4, 5, 0] rfl) h hle f_a0 hw
    · have hw := hw.2 c5002
      refine lv_iconst (v := 0) X.1 X.2.1 dX12_sail_123 (by decide) ?_
      refine lv_goto (tgt := 128) X.1 X.2.1 dX12_sail_124 (by decide) ?_
      exact j128 xn2 xn3 xn4 y5001 0 Sn H locs ls (lv_sub hl [2, 3, 4, 5, 0] rfl) h hle f_a0 hw
  have j87 : ∀ (xn2 : Int32) (xn3 : Int32) (xt0 : Int32) (Sn : kp_S) (H : Heap) (locs : List Loc) (ls : Array Slot), lv_has ls 9 [(0, .ref a0), (2, .int xn2), (3, .int xn3)] → kp_H D cy A Sn s.heap H locs → kp_le S Sn → kp_is Sn a0 12 → wX12_sail_b87 a0 xn2 xn3 xt0  Sn post → W p l e { frames := 6, cells := 0, slots := 0, locals := 130 } s m ([.ref a0] : List Value).toArray below meth c H locs 0 0 (MQ below (kp_Qv D cy A S post) ([.ref a0] : List Value).toArray s 0 0 A) (F0 m 87 ls [.int xt0]) := by
    intro xn2 xn3 xt0 Sn H locs ls hl h hle f_a0 hw
    unfold wX12_sail_b87 at hw
    refine lv_istore (lv' := [(4, .int xt0), (0, .ref a0), (2, .int xn2), (3, .int xn3)]) X.1 X.2.1 dX12_sail_87 hl (by decide) rfl (fun ls hl => ?_)
    refine lv_iload_n X.1 X.2.1 dX12_sail_89 rfl (lv_at hl 3 rfl) ?_
    refine lv_iconst (v := 2) X.1 X.2.1 dX12_sail_90 (by decide) ?_
    refine lv_irem X.1 X.2.1 dX12_sail_91 (by decide) ?_
    refine lv_iconst (v := 1) X.1 X.2.1 dX12_sail_92 (by decide) ?_
    refine lv_icmp_ne (tgt := 105) X.1 X.2.1 dX12_sail_93 (by decide) (fun c6002 => ?_) (fun c6002 => ?_)
    · have hw := hw.1 c6002
      refine lv_iload_n X.1 X.2.1 dX12_sail_105 rfl (lv_at hl 3 rfl) ?_
      exact j106 xn2 xn3 xt0 xn3 Sn H locs ls (lv_sub hl [1, 2, 3, 0] rfl) h hle f_a0 hw
    · have hw := hw.2 c6002
      refine lv_aload_n X.1 X.2.1 dX12_sail_96 rfl (lv_at hl 1 rfl) ?_
      obtain ⟨b6001, e_b6001, hw⟩ := hw
      have f_b6001 := h.2.2.2.rf (c := 12) (k := 67) f_a0 (by decide) (by decide) e_b6001 (t := 14) rfl
      refine kp_get X h f_a0 ff_12_167.l (v := .ref b6001) (congrArg va_rf e_b6001) dX12_sail_97 ?_
      refine lv_iload_n X.1 X.2.1 dX12_sail_100 rfl (lv_at hl 2 rfl) ?_
      obtain ⟨hi, hw⟩ := hw
      refine kp_iald X h f_b6001 hi dX12_sail_101 ?_
      refine lv_goto (tgt := 106) X.1 X.2.1 dX12_sail_102 (by decide) ?_
      exact j106 xn2 xn3 xt0 (kp_A Sn b6001 xn2.toNatClampNeg) Sn H locs ls (lv_sub hl [1, 2, 3, 0] rfl) h hle f_a0 hw
  have j51 : ∀ (xn2 : Int32) (xt0 : Int32) (xt1 : Int32) (Sn : kp_S) (H : Heap) (locs : List Loc) (ls : Array Slot), lv_has ls 9 [(0, .ref a0), (2, .int xn2)] → kp_H D cy A Sn s.heap H locs → kp_le S Sn → kp_is Sn a0 12 → wX12_sail_b51 a0 xn2 xt0 xt1  Sn post → W p l e { frames := 6, cells := 0, slots := 0, locals := 130 } s m ([.ref a0] : List Value).toArray below meth c H locs 0 0 (MQ below (kp_Qv D cy A S post) ([.ref a0] : List Value).toArray s 0 0 A) (F0 m 51 ls [.int xt0, .int xt1]) := by
    intro xn2 xt0 xt1 Sn H locs ls hl h hle f_a0 hw
    unfold wX12_sail_b51 at hw
    refine lv_iadd X.1 X.2.1 dX12_sail_51 ?_
    refine lv_topi (fun y7001 e_y7001 => ?_)
    have hw := hw y7001 e_y7001
    refine lv_istore_n (lv' := [(3, .int y7001), (0, .ref a0), (2, .int xn2)]) X.1 X.2.1 dX12_sail_52 rfl hl (by decide) rfl (fun ls hl => ?_)
    refine lv_iload_n X.1 X.2.1 dX12_sail_53 rfl (lv_at hl 0 rfl) ?_
    refine lv_iconst (v := 0) X.1 X.2.1 dX12_sail_54 (by decide) ?_
    refine lv_bipush (v := 12) X.1 X.2.1 dX12_sail_55 (by decide) ?_
    refine kp_calli X h (kp_runS (rm := { frames := 0, cells := 0, slots := 0, locals := 0 }) (mc := 0) (ms := 0) (rest := []) (Qc := fun A => kp_Qi D cy A Sn _) X h (c_X12_in l D cy ad Sn y7001 0 12 _ h.2.2.2  hw) cs_12_589 ⟨by decide, by decide, rfl, rfl, by decide, by decide⟩ rfl hl.1 rfl (Nat.le_of_ble_eq_true rfl) dX12_sail_57) (fun y7003 T7002 hw l_T7002 H locs h => ?_)
    have f_a0 := l_T7002.is f_a0
    have hle := hle.tr l_T7002
    refine lv_if_ne (tgt := 70) X.1 X.2.1 dX12_sail_60 (by decide) (fun c7007 => ?_) (fun c7007 => ?_)
    · have hw := hw.1 c7007
      refine lv_iload_n X.1 X.2.1 dX12_sail_70 rfl (lv_at hl 0 rfl) ?_
      refine lv_iconst (v := 2) X.1 X.2.1 dX12_sail_71 (by decide) ?_
      refine lv_irem X.1 X.2.1 dX12_sail_72 (by decide) ?_
      refine lv_iconst (v := 1) X.1 X.2.1 dX12_sail_73 (by decide) ?_
      refine lv_icmp_ne (tgt := 81) X.1 X.2.1 dX12_sail_74 (by decide) (fun c7005 => ?_) (fun c7005 => ?_)
      · have hw := hw.1 c7005
        refine lv_aload_n X.1 X.2.1 dX12_sail_81 rfl (lv_at hl 1 rfl) ?_
        obtain ⟨b7004, e_b7004, hw⟩ := hw
        have f_b7004 := h.2.2.2.rf (c := 12) (k := 67) f_a0 (by decide) (by decide) e_b7004 (t := 14) rfl
        refine kp_get X h f_a0 ff_12_167.l (v := .ref b7004) (congrArg va_rf e_b7004) dX12_sail_82 ?_
        refine lv_iload_n X.1 X.2.1 dX12_sail_85 rfl (lv_at hl 2 rfl) ?_
        obtain ⟨hi, hw⟩ := hw
        refine kp_iald X h f_b7004 hi dX12_sail_86 ?_
        exact j87 xn2 y7001 (kp_A T7002 b7004 xn2.toNatClampNeg) T7002 H locs ls (lv_sub hl [1, 2, 0] rfl) h hle f_a0 hw
      · have hw := hw.2 c7005
        refine lv_iload_n X.1 X.2.1 dX12_sail_77 rfl (lv_at hl 0 rfl) ?_
        refine lv_goto (tgt := 87) X.1 X.2.1 dX12_sail_78 (by decide) ?_
        exact j87 xn2 y7001 y7001 T7002 H locs ls (lv_sub hl [1, 2, 0] rfl) h hle f_a0 hw
    · have hw := hw.2 c7007
      refine lv_aload_n X.1 X.2.1 dX12_sail_63 rfl (lv_at hl 1 rfl) ?_
      refine lv_bipush (v := 9) X.1 X.2.1 dX12_sail_64 (by decide) ?_
      refine kp_callv X h (kp_runV (rm := { frames := 5, cells := 0, slots := 0, locals := 108 }) (mc := 0) (ms := 0) (rest := []) (Qc := fun A => kp_Qv D cy A T7002 _) X h (c_X12_trouble l D cy ad T7002 a0 9 _ h.2.2.2 f_a0 hw) f_a0 cv_12_696 ⟨by decide, by decide, rfl, rfl, by decide, by decide⟩ rfl hl.1 rfl (Nat.le_of_ble_eq_true rfl) dX12_sail_66) (fun T7006 hw l_T7006 H locs h => ?_)
      have f_a0 := l_T7006.is f_a0
      have hle := hle.tr l_T7006
      exact kp_retv X hr hlocks h hle hw dX12_sail_69
  unfold wX12_sail at hw
  have h : kp_H D cy A S s.heap s.heap [] := h
  revert h
  intro h
  refine lv_aload_n X.1 X.2.1 dX12_sail_0 rfl (lv_at hl 0 rfl) ?_
  refine kp_calli X h (kp_runV (rm := { frames := 0, cells := 0, slots := 0, locals := 0 }) (mc := 0) (ms := 0) (rest := []) (Qc := fun A => kp_Qi D cy A S _) X h (c_X12_pop l D cy ad S a0 _ h.2.2.2 f_a0 hw) f_a0 cv_12_718 ⟨by decide, by decide, rfl, rfl, by decide, by decide⟩ rfl hl.1 rfl (Nat.le_of_ble_eq_true rfl) dX12_sail_1) (fun y2 T1 hw l_T1 H locs h => ?_)
  have f_a0 := l_T1.is f_a0
  have hle := hle.tr l_T1
  refine lv_istore_n (lv' := [(1, .int y2), (0, .ref a0)]) X.1 X.2.1 dX12_sail_4 rfl hl (by decide) rfl (fun ls hl => ?_)
  refine lv_aload_n X.1 X.2.1 dX12_sail_5 rfl (lv_at hl 1 rfl) ?_
  refine kp_calli X h (kp_runV (rm := { frames := 0, cells := 0, slots := 0, locals := 0 }) (mc := 0) (ms := 0) (rest := []) (Qc := fun A => kp_Qi D cy A T1 _) X h (c_X12_pop l D cy ad T1 a0 _ h.2.2.2 f_a0 hw) f_a0 cv_12_718 ⟨by decide, by decide, rfl, rfl, by decide, by decide⟩ rfl hl.1 rfl (Nat.le_of_ble_eq_true rfl) dX12_sail_6) (fun y4 T3 hw l_T3 H locs h => ?_)
  have f_a0 := l_T3.is f_a0
  have hle := hle.tr l_T3
  refine lv_istore_n (lv' := [(2, .int y4), (1, .int y2), (0, .ref a0)]) X.1 X.2.1 dX12_sail_9 rfl hl (by decide) rfl (fun ls hl => ?_)
  refine lv_iload_n X.1 X.2.1 dX12_sail_10 rfl (lv_at hl 0 rfl) ?_
  refine lv_iconst (v := 0) X.1 X.2.1 dX12_sail_11 (by decide) ?_
  refine lv_bipush (v := 7) X.1 X.2.1 dX12_sail_12 (by decide) ?_
  refine kp_calli X h (kp_runS (rm := { frames := 0, cells := 0, slots := 0, locals := 0 }) (mc := 0) (ms := 0) (rest := []) (Qc := fun A => kp_Qi D cy A T3 _) X h (c_X12_in l D cy ad T3 y4 0 7 _ h.2.2.2  hw) cs_12_589 ⟨by decide, by decide, rfl, rfl, by decide, by decide⟩ rfl hl.1 rfl (Nat.le_of_ble_eq_true rfl) dX12_sail_14) (fun y6 T5 hw l_T5 H locs h => ?_)
  have f_a0 := l_T5.is f_a0
  have hle := hle.tr l_T5
  refine lv_if_eq (tgt := 29) X.1 X.2.1 dX12_sail_17 (by decide) (fun c12 => ?_) (fun c12 => ?_)
  · have hw := hw.1 c12
    exact j29  T5 _ _ ls (lv_sub hl [2] rfl) h hle f_a0 hw
  · have hw := hw.2 c12
    refine lv_iload_n X.1 X.2.1 dX12_sail_20 rfl (lv_at hl 1 rfl) ?_
    refine lv_iconst (v := 0) X.1 X.2.1 dX12_sail_21 (by decide) ?_
    refine lv_iconst (v := 1) X.1 X.2.1 dX12_sail_22 (by decide) ?_
    refine kp_calli X h (kp_runS (rm := { frames := 0, cells := 0, slots := 0, locals := 0 }) (mc := 0) (ms := 0) (rest := []) (Qc := fun A => kp_Qi D cy A T5 _) X h (c_X12_in l D cy ad T5 y2 0 1 _ h.2.2.2  hw) cs_12_589 ⟨by decide, by decide, rfl, rfl, by decide, by decide⟩ rfl hl.1 rfl (Nat.le_of_ble_eq_true rfl) dX12_sail_23) (fun y8 T7 hw l_T7 H locs h => ?_)
    have f_a0 := l_T7.is f_a0
    have hle := hle.tr l_T7
    refine lv_if_ne (tgt := 35) X.1 X.2.1 dX12_sail_26 (by decide) (fun c11 => ?_) (fun c11 => ?_)
    · have hw := hw.1 c11
      refine lv_aload_n X.1 X.2.1 dX12_sail_35 rfl (lv_at hl 2 rfl) ?_
      obtain ⟨b9, e_b9, hw⟩ := hw
      have f_b9 := h.2.2.2.rf (c := 12) (k := 67) f_a0 (by decide) (by decide) e_b9 (t := 14) rfl
      refine kp_get X h f_a0 ff_12_167.l (v := .ref b9) (congrArg va_rf e_b9) dX12_sail_36 ?_
      refine lv_iload_n X.1 X.2.1 dX12_sail_39 rfl (lv_at hl 0 rfl) ?_
      obtain ⟨hi, hw⟩ := hw
      refine kp_iald X h f_b9 hi dX12_sail_40 ?_
      refine lv_iload_n X.1 X.2.1 dX12_sail_41 rfl (lv_at hl 1 rfl) ?_
      refine lv_iconst (v := 1) X.1 X.2.1 dX12_sail_42 (by decide) ?_
      refine lv_icmp_ne (tgt := 50) X.1 X.2.1 dX12_sail_43 (by decide) (fun c10 => ?_) (fun c10 => ?_)
      · have hw := hw.1 c10
        refine lv_iconst (v := (-1)) X.1 X.2.1 dX12_sail_50 (by decide) ?_
        exact j51 y4 (-1) (kp_A T7 b9 y4.toNatClampNeg) T7 _ _ ls (lv_sub hl [2, 0] rfl) h hle f_a0 hw
      · have hw := hw.2 c10
        refine lv_iconst (v := 1) X.1 X.2.1 dX12_sail_46 (by decide) ?_
        refine lv_goto (tgt := 51) X.1 X.2.1 dX12_sail_47 (by decide) ?_
        exact j51 y4 1 (kp_A T7 b9 y4.toNatClampNeg) T7 _ _ ls (lv_sub hl [2, 0] rfl) h hle f_a0 hw
    · have hw := hw.2 c11
      exact j29  T7 _ _ ls (lv_sub hl [2] rfl) h hle f_a0 hw
