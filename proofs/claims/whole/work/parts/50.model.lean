theorem fp_12_1 : kp_FP RX12 1 12 0 := ⟨RX12, TX12, 125, cl_12, by decide, kp_mem 1692 (by decide +kernel) (by decide +kernel), rfl⟩
theorem fp_12_330 : kp_FP RX12 330 12 2 := ⟨RX12, TX12, 125, cl_12, by decide, kp_mem 1694 (by decide +kernel) (by decide +kernel), rfl⟩
theorem ff_12_23 : kp_FF RX12 23 12 1 := ⟨RX12, TX12, 125, cl_12, by decide, kp_mem 1693 (by decide +kernel) (by decide +kernel), rfl, rfl⟩
theorem cv_12_332 : kp_CV RX12 332 yX12_putFour cX12_putFour 4 none 1 12 := ⟨⟨kp_mem 2076 (by decide +kernel) (by decide +kernel), kp_mem 220 (by decide +kernel) (by decide +kernel), by decide +kernel⟩, kp_mem 2073 (by decide +kernel) (by decide +kernel), kp_mem 2075 (by decide +kernel) (by decide +kernel), kp_mem 104 (by decide +kernel) (by decide +kernel), by decide, TX12, 125, rfl⟩
theorem ff_12_31 : kp_FF RX12 31 12 4 := ⟨RX12, TX12, 125, cl_12, by decide, kp_mem 1696 (by decide +kernel) (by decide +kernel), rfl, rfl⟩
theorem fp_12_336 : kp_FP RX12 336 12 7 := ⟨RX12, TX12, 125, cl_12, by decide, kp_mem 1699 (by decide +kernel) (by decide +kernel), rfl⟩
theorem ff_12_34 : kp_FF RX12 34 12 5 := ⟨RX12, TX12, 125, cl_12, by decide, kp_mem 1697 (by decide +kernel) (by decide +kernel), rfl, rfl⟩
theorem ff_12_37 : kp_FF RX12 37 12 6 := ⟨RX12, TX12, 125, cl_12, by decide, kp_mem 1698 (by decide +kernel) (by decide +kernel), rfl, rfl⟩
theorem cv_12_359 : kp_CV RX12 359 yX12_token cX12_token 5 none 3 12 := ⟨⟨kp_mem 2110 (by decide +kernel) (by decide +kernel), kp_mem 220 (by decide +kernel) (by decide +kernel), by decide +kernel⟩, kp_mem 2107 (by decide +kernel) (by decide +kernel), kp_mem 2109 (by decide +kernel) (by decide +kernel), kp_mem 109 (by decide +kernel) (by decide +kernel), by decide, TX12, 125, rfl⟩
theorem ff_12_27 : kp_FF RX12 27 12 3 := ⟨RX12, TX12, 125, cl_12, by decide, kp_mem 1695 (by decide +kernel) (by decide +kernel), rfl, rfl⟩
theorem cv_12_363 : kp_CV RX12 363 yX12_at cX12_at 2 (some .int) 1 12 := ⟨⟨kp_mem 2103 (by decide +kernel) (by decide +kernel), kp_mem 220 (by decide +kernel) (by decide +kernel), by decide +kernel⟩, kp_mem 2100 (by decide +kernel) (by decide +kernel), kp_mem 2102 (by decide +kernel) (by decide +kernel), kp_mem 108 (by decide +kernel) (by decide +kernel), by decide, TX12, 125, rfl⟩
theorem cs_12_343 : kp_CS RX12 343 yX12_isLetter cX12_isLetter 1 (some .boolean) 1 := ⟨⟨kp_mem 2095 (by decide +kernel) (by decide +kernel), kp_mem 220 (by decide +kernel) (by decide +kernel), by decide +kernel⟩, kp_mem 2093 (by decide +kernel) (by decide +kernel), kp_mem 2094 (by decide +kernel) (by decide +kernel)⟩
theorem cs_12_350 : kp_CS RX12 350 yX12_isDigit cX12_isDigit 1 (some .boolean) 1 := ⟨⟨kp_mem 2106 (by decide +kernel) (by decide +kernel), kp_mem 220 (by decide +kernel) (by decide +kernel), by decide +kernel⟩, kp_mem 2104 (by decide +kernel) (by decide +kernel), kp_mem 2105 (by decide +kernel) (by decide +kernel)⟩
theorem kl_12_366 : Cond.constantLong RX12 366 10 ∈ kp_tb := kp_mem 2115 (by decide +kernel) (by decide +kernel)
theorem kl_12_368 : Cond.constantLong RX12 368 48 ∈ kp_tb := kp_mem 2116 (by decide +kernel) (by decide +kernel)
theorem cv_12_339 : kp_CV RX12 339 yX12_behindBlanks cX12_behindBlanks 4 (some .int) 1 12 := ⟨⟨kp_mem 2092 (by decide +kernel) (by decide +kernel), kp_mem 220 (by decide +kernel) (by decide +kernel), by decide +kernel⟩, kp_mem 2089 (by decide +kernel) (by decide +kernel), kp_mem 2091 (by decide +kernel) (by decide +kernel), kp_mem 106 (by decide +kernel) (by decide +kernel), by decide, TX12, 125, rfl⟩
theorem cv_12_356 : kp_CV RX12 356 yX12_scanSign cX12_scanSign 5 (some .int) 1 12 := ⟨⟨kp_mem 2120 (by decide +kernel) (by decide +kernel), kp_mem 220 (by decide +kernel) (by decide +kernel), by decide +kernel⟩, kp_mem 2117 (by decide +kernel) (by decide +kernel), kp_mem 2119 (by decide +kernel) (by decide +kernel), kp_mem 111 (by decide +kernel) (by decide +kernel), by decide, TX12, 125, rfl⟩
theorem cv_12_353 : kp_CV RX12 353 yX12_scanNumber cX12_scanNumber 5 (some .int) 1 12 := ⟨⟨kp_mem 2114 (by decide +kernel) (by decide +kernel), kp_mem 220 (by decide +kernel) (by decide +kernel), by decide +kernel⟩, kp_mem 2111 (by decide +kernel) (by decide +kernel), kp_mem 2113 (by decide +kernel) (by decide +kernel), kp_mem 110 (by decide +kernel) (by decide +kernel), by decide, TX12, 125, rfl⟩
theorem cv_12_347 : kp_CV RX12 347 yX12_scanName cX12_scanName 7 (some .int) 1 12 := ⟨⟨kp_mem 2099 (by decide +kernel) (by decide +kernel), kp_mem 220 (by decide +kernel) (by decide +kernel), by decide +kernel⟩, kp_mem 2096 (by decide +kernel) (by decide +kernel), kp_mem 2098 (by decide +kernel) (by decide +kernel), kp_mem 107 (by decide +kernel) (by decide +kernel), by decide, TX12, 125, rfl⟩
theorem ff_12_43 : kp_FF RX12 43 12 14 := ⟨RX12, TX12, 125, cl_12, by decide, kp_mem 1706 (by decide +kernel) (by decide +kernel), rfl, rfl⟩
theorem fp_12_370 : kp_FP RX12 370 12 17 := ⟨RX12, TX12, 125, cl_12, by decide, kp_mem 1709 (by decide +kernel) (by decide +kernel), rfl⟩
theorem ff_12_46 : kp_FF RX12 46 12 15 := ⟨RX12, TX12, 125, cl_12, by decide, kp_mem 1707 (by decide +kernel) (by decide +kernel), rfl, rfl⟩
theorem ff_12_49 : kp_FF RX12 49 12 16 := ⟨RX12, TX12, 125, cl_12, by decide, kp_mem 1708 (by decide +kernel) (by decide +kernel), rfl, rfl⟩
theorem fp_12_373 : kp_FP RX12 373 12 8 := ⟨RX12, TX12, 125, cl_12, by decide, kp_mem 1700 (by decide +kernel) (by decide +kernel), rfl⟩
theorem fp_12_376 : kp_FP RX12 376 12 10 := ⟨RX12, TX12, 125, cl_12, by decide, kp_mem 1702 (by decide +kernel) (by decide +kernel), rfl⟩
theorem fp_12_40 : kp_FP RX12 40 12 9 := ⟨RX12, TX12, 125, cl_12, by decide, kp_mem 1701 (by decide +kernel) (by decide +kernel), rfl⟩
theorem cv_12_379 : kp_CV RX12 379 yX12_is cX12_is 2 (some .boolean) 1 12 := ⟨⟨kp_mem 2136 (by decide +kernel) (by decide +kernel), kp_mem 220 (by decide +kernel) (by decide +kernel), by decide +kernel⟩, kp_mem 2133 (by decide +kernel) (by decide +kernel), kp_mem 2135 (by decide +kernel) (by decide +kernel), kp_mem 115 (by decide +kernel) (by decide +kernel), by decide, TX12, 125, rfl⟩
theorem cv_12_382 : kp_CV RX12 382 yX12_wrong cX12_wrong 1 none 0 12 := ⟨⟨kp_mem 2140 (by decide +kernel) (by decide +kernel), kp_mem 220 (by decide +kernel) (by decide +kernel), by decide +kernel⟩, kp_mem 2137 (by decide +kernel) (by decide +kernel), kp_mem 2139 (by decide +kernel) (by decide +kernel), kp_mem 116 (by decide +kernel) (by decide +kernel), by decide, TX12, 125, rfl⟩
theorem cv_12_385 : kp_CV RX12 385 yX12_take cX12_take 2 none 1 12 := ⟨⟨kp_mem 2132 (by decide +kernel) (by decide +kernel), kp_mem 220 (by decide +kernel) (by decide +kernel), by decide +kernel⟩, kp_mem 2129 (by decide +kernel) (by decide +kernel), kp_mem 2131 (by decide +kernel) (by decide +kernel), kp_mem 114 (by decide +kernel) (by decide +kernel), by decide, TX12, 125, rfl⟩
theorem fp_12_388 : kp_FP RX12 388 12 11 := ⟨RX12, TX12, 125, cl_12, by decide, kp_mem 1703 (by decide +kernel) (by decide +kernel), rfl⟩
theorem fp_12_391 : kp_FP RX12 391 12 12 := ⟨RX12, TX12, 125, cl_12, by decide, kp_mem 1704 (by decide +kernel) (by decide +kernel), rfl⟩
theorem fp_12_394 : kp_FP RX12 394 12 13 := ⟨RX12, TX12, 125, cl_12, by decide, kp_mem 1705 (by decide +kernel) (by decide +kernel), rfl⟩
theorem ff_12_100 : kp_FF RX12 100 12 39 := ⟨RX12, TX12, 125, cl_12, by decide, kp_mem 1731 (by decide +kernel) (by decide +kernel), rfl, rfl⟩
theorem ff_12_103 : kp_FF RX12 103 12 40 := ⟨RX12, TX12, 125, cl_12, by decide, kp_mem 1732 (by decide +kernel) (by decide +kernel), rfl, rfl⟩
theorem fp_12_397 : kp_FP RX12 397 12 41 := ⟨RX12, TX12, 125, cl_12, by decide, kp_mem 1733 (by decide +kernel) (by decide +kernel), rfl⟩
theorem fp_12_400 : kp_FP RX12 400 12 42 := ⟨RX12, TX12, 125, cl_12, by decide, kp_mem 1734 (by decide +kernel) (by decide +kernel), rfl⟩
theorem fp_12_403 : kp_FP RX12 403 12 33 := ⟨RX12, TX12, 125, cl_12, by decide, kp_mem 1725 (by decide +kernel) (by decide +kernel), rfl⟩
theorem ff_12_70 : kp_FF RX12 70 12 27 := ⟨RX12, TX12, 125, cl_12, by decide, kp_mem 1719 (by decide +kernel) (by decide +kernel), rfl, rfl⟩
theorem cv_12_460 : kp_CV RX12 460 yX12_know cX12_know 3 (some .int) 1 12 := ⟨⟨kp_mem 2172 (by decide +kernel) (by decide +kernel), kp_mem 220 (by decide +kernel) (by decide +kernel), by decide +kernel⟩, kp_mem 2169 (by decide +kernel) (by decide +kernel), kp_mem 2171 (by decide +kernel) (by decide +kernel), kp_mem 124 (by decide +kernel) (by decide +kernel), by decide, TX12, 125, rfl⟩
theorem cv_12_419 : kp_CV RX12 419 yX12_bad cX12_bad 3 none 2 12 := ⟨⟨kp_mem 2152 (by decide +kernel) (by decide +kernel), kp_mem 220 (by decide +kernel) (by decide +kernel), by decide +kernel⟩, kp_mem 2149 (by decide +kernel) (by decide +kernel), kp_mem 2151 (by decide +kernel) (by decide +kernel), kp_mem 119 (by decide +kernel) (by decide +kernel), by decide, TX12, 125, rfl⟩
theorem cv_12_408 : kp_CV RX12 408 yX12_fine cX12_fine 1 (some .boolean) 0 12 := ⟨⟨kp_mem 2144 (by decide +kernel) (by decide +kernel), kp_mem 220 (by decide +kernel) (by decide +kernel), by decide +kernel⟩, kp_mem 2141 (by decide +kernel) (by decide +kernel), kp_mem 2143 (by decide +kernel) (by decide +kernel), kp_mem 117 (by decide +kernel) (by decide +kernel), by decide, TX12, 125, rfl⟩
theorem cv_12_457 : kp_CV RX12 457 yX12_known cX12_known 4 (some .int) 1 12 := ⟨⟨kp_mem 2168 (by decide +kernel) (by decide +kernel), kp_mem 220 (by decide +kernel) (by decide +kernel), by decide +kernel⟩, kp_mem 2165 (by decide +kernel) (by decide +kernel), kp_mem 2167 (by decide +kernel) (by decide +kernel), kp_mem 123 (by decide +kernel) (by decide +kernel), by decide, TX12, 125, rfl⟩
theorem fp_12_471 : kp_FP RX12 471 12 25 := ⟨RX12, TX12, 125, cl_12, by decide, kp_mem 1717 (by decide +kernel) (by decide +kernel), rfl⟩
theorem kl_12_475 : Cond.constantLong RX12 475 4 ∈ kp_tb := kp_mem 2245 (by decide +kernel) (by decide +kernel)
theorem fp_12_535 : kp_FP RX12 535 12 24 := ⟨RX12, TX12, 125, cl_12, by decide, kp_mem 1716 (by decide +kernel) (by decide +kernel), rfl⟩
theorem ff_12_61 : kp_FF RX12 61 12 21 := ⟨RX12, TX12, 125, cl_12, by decide, kp_mem 1713 (by decide +kernel) (by decide +kernel), rfl, rfl⟩
theorem ff_12_55 : kp_FF RX12 55 12 19 := ⟨RX12, TX12, 125, cl_12, by decide, kp_mem 1711 (by decide +kernel) (by decide +kernel), rfl, rfl⟩
theorem ff_12_67 : kp_FF RX12 67 12 23 := ⟨RX12, TX12, 125, cl_12, by decide, kp_mem 1715 (by decide +kernel) (by decide +kernel), rfl, rfl⟩
theorem ff_12_64 : kp_FF RX12 64 12 22 := ⟨RX12, TX12, 125, cl_12, by decide, kp_mem 1714 (by decide +kernel) (by decide +kernel), rfl, rfl⟩
theorem fp_12_586 : kp_FP RX12 586 12 62 := ⟨RX12, TX12, 125, cl_12, by decide, kp_mem 1754 (by decide +kernel) (by decide +kernel), rfl⟩
theorem ff_12_139 : kp_FF RX12 139 12 57 := ⟨RX12, TX12, 125, cl_12, by decide, kp_mem 1749 (by decide +kernel) (by decide +kernel), rfl, rfl⟩
theorem ff_12_79 : kp_FF RX12 79 12 30 := ⟨RX12, TX12, 125, cl_12, by decide, kp_mem 1722 (by decide +kernel) (by decide +kernel), rfl, rfl⟩
theorem ff_12_142 : kp_FF RX12 142 12 58 := ⟨RX12, TX12, 125, cl_12, by decide, kp_mem 1750 (by decide +kernel) (by decide +kernel), rfl, rfl⟩
theorem ff_12_73 : kp_FF RX12 73 12 28 := ⟨RX12, TX12, 125, cl_12, by decide, kp_mem 1720 (by decide +kernel) (by decide +kernel), rfl, rfl⟩
theorem ff_12_145 : kp_FF RX12 145 12 59 := ⟨RX12, TX12, 125, cl_12, by decide, kp_mem 1751 (by decide +kernel) (by decide +kernel), rfl, rfl⟩
theorem ff_12_76 : kp_FF RX12 76 12 29 := ⟨RX12, TX12, 125, cl_12, by decide, kp_mem 1721 (by decide +kernel) (by decide +kernel), rfl, rfl⟩
theorem ff_12_148 : kp_FF RX12 148 12 60 := ⟨RX12, TX12, 125, cl_12, by decide, kp_mem 1752 (by decide +kernel) (by decide +kernel), rfl, rfl⟩
theorem ff_12_82 : kp_FF RX12 82 12 31 := ⟨RX12, TX12, 125, cl_12, by decide, kp_mem 1723 (by decide +kernel) (by decide +kernel), rfl, rfl⟩
theorem ff_12_151 : kp_FF RX12 151 12 61 := ⟨RX12, TX12, 125, cl_12, by decide, kp_mem 1753 (by decide +kernel) (by decide +kernel), rfl, rfl⟩
theorem ff_12_85 : kp_FF RX12 85 12 32 := ⟨RX12, TX12, 125, cl_12, by decide, kp_mem 1724 (by decide +kernel) (by decide +kernel), rfl, rfl⟩
theorem ff_12_121 : kp_FF RX12 121 12 51 := ⟨RX12, TX12, 125, cl_12, by decide, kp_mem 1743 (by decide +kernel) (by decide +kernel), rfl, rfl⟩
theorem ff_12_52 : kp_FF RX12 52 12 18 := ⟨RX12, TX12, 125, cl_12, by decide, kp_mem 1710 (by decide +kernel) (by decide +kernel), rfl, rfl⟩
theorem ff_12_124 : kp_FF RX12 124 12 52 := ⟨RX12, TX12, 125, cl_12, by decide, kp_mem 1744 (by decide +kernel) (by decide +kernel), rfl, rfl⟩
theorem ff_12_127 : kp_FF RX12 127 12 53 := ⟨RX12, TX12, 125, cl_12, by decide, kp_mem 1745 (by decide +kernel) (by decide +kernel), rfl, rfl⟩
theorem ff_12_58 : kp_FF RX12 58 12 20 := ⟨RX12, TX12, 125, cl_12, by decide, kp_mem 1712 (by decide +kernel) (by decide +kernel), rfl, rfl⟩
theorem ff_12_130 : kp_FF RX12 130 12 54 := ⟨RX12, TX12, 125, cl_12, by decide, kp_mem 1746 (by decide +kernel) (by decide +kernel), rfl, rfl⟩
theorem ff_12_133 : kp_FF RX12 133 12 55 := ⟨RX12, TX12, 125, cl_12, by decide, kp_mem 1747 (by decide +kernel) (by decide +kernel), rfl, rfl⟩
theorem ff_12_136 : kp_FF RX12 136 12 56 := ⟨RX12, TX12, 125, cl_12, by decide, kp_mem 1748 (by decide +kernel) (by decide +kernel), rfl, rfl⟩
theorem ff_12_112 : kp_FF RX12 112 12 48 := ⟨RX12, TX12, 125, cl_12, by decide, kp_mem 1740 (by decide +kernel) (by decide +kernel), rfl, rfl⟩
theorem ff_12_115 : kp_FF RX12 115 12 49 := ⟨RX12, TX12, 125, cl_12, by decide, kp_mem 1741 (by decide +kernel) (by decide +kernel), rfl, rfl⟩
theorem ff_12_118 : kp_FF RX12 118 12 50 := ⟨RX12, TX12, 125, cl_12, by decide, kp_mem 1742 (by decide +kernel) (by decide +kernel), rfl, rfl⟩
theorem fp_12_583 : kp_FP RX12 583 12 47 := ⟨RX12, TX12, 125, cl_12, by decide, kp_mem 1739 (by decide +kernel) (by decide +kernel), rfl⟩
theorem cs_12_589 : kp_CS RX12 589 yX12_in cX12_in 3 (some .boolean) 3 := ⟨⟨kp_mem 2332 (by decide +kernel) (by decide +kernel), kp_mem 220 (by decide +kernel) (by decide +kernel), by decide +kernel⟩, kp_mem 2330 (by decide +kernel) (by decide +kernel), kp_mem 2331 (by decide +kernel) (by decide +kernel)⟩
theorem kc_12_593 : Cond.constant RX12 593 100000 ∈ kp_tb := kp_mem 2333 (by decide +kernel) (by decide +kernel)
theorem ff_12_164 : kp_FF RX12 164 12 66 := ⟨RX12, TX12, 125, cl_12, by decide, kp_mem 1758 (by decide +kernel) (by decide +kernel), rfl, rfl⟩
theorem ff_12_157 : kp_FF RX12 157 12 64 := ⟨RX12, TX12, 125, cl_12, by decide, kp_mem 1756 (by decide +kernel) (by decide +kernel), rfl, rfl⟩
theorem ff_12_154 : kp_FF RX12 154 12 63 := ⟨RX12, TX12, 125, cl_12, by decide, kp_mem 1755 (by decide +kernel) (by decide +kernel), rfl, rfl⟩
theorem ff_12_167 : kp_FF RX12 167 12 67 := ⟨RX12, TX12, 125, cl_12, by decide, kp_mem 1759 (by decide +kernel) (by decide +kernel), rfl, rfl⟩
theorem cv_12_594 : kp_CV RX12 594 yX12_isTaken cX12_isTaken 5 (some .boolean) 2 12 := ⟨⟨kp_mem 2345 (by decide +kernel) (by decide +kernel), kp_mem 220 (by decide +kernel) (by decide +kernel), by decide +kernel⟩, kp_mem 2342 (by decide +kernel) (by decide +kernel), kp_mem 2344 (by decide +kernel) (by decide +kernel), kp_mem 159 (by decide +kernel) (by decide +kernel), by decide, TX12, 125, rfl⟩
theorem ff_12_161 : kp_FF RX12 161 12 65 := ⟨RX12, TX12, 125, cl_12, by decide, kp_mem 1757 (by decide +kernel) (by decide +kernel), rfl, rfl⟩
theorem cv_12_598 : kp_CV RX12 598 yX12_allWater cX12_allWater 3 (some .int) 0 12 := ⟨⟨kp_mem 2353 (by decide +kernel) (by decide +kernel), kp_mem 220 (by decide +kernel) (by decide +kernel), by decide +kernel⟩, kp_mem 2350 (by decide +kernel) (by decide +kernel), kp_mem 2352 (by decide +kernel) (by decide +kernel), kp_mem 160 (by decide +kernel) (by decide +kernel), by decide, TX12, 125, rfl⟩
theorem fp_12_601 : kp_FP RX12 601 12 70 := ⟨RX12, TX12, 125, cl_12, by decide, kp_mem 1762 (by decide +kernel) (by decide +kernel), rfl⟩
theorem ff_12_170 : kp_FF RX12 170 12 68 := ⟨RX12, TX12, 125, cl_12, by decide, kp_mem 1760 (by decide +kernel) (by decide +kernel), rfl, rfl⟩
theorem ff_12_173 : kp_FF RX12 173 12 69 := ⟨RX12, TX12, 125, cl_12, by decide, kp_mem 1761 (by decide +kernel) (by decide +kernel), rfl, rfl⟩
theorem ff_12_239 : kp_FF RX12 239 12 115 := ⟨RX12, TX12, 125, cl_12, by decide, kp_mem 1807 (by decide +kernel) (by decide +kernel), rfl, rfl⟩
theorem fp_12_604 : kp_FP RX12 604 12 116 := ⟨RX12, TX12, 125, cl_12, by decide, kp_mem 1808 (by decide +kernel) (by decide +kernel), rfl⟩
theorem fp_12_607 : kp_FP RX12 607 12 112 := ⟨RX12, TX12, 125, cl_12, by decide, kp_mem 1804 (by decide +kernel) (by decide +kernel), rfl⟩
theorem fp_12_610 : kp_FP RX12 610 12 113 := ⟨RX12, TX12, 125, cl_12, by decide, kp_mem 1805 (by decide +kernel) (by decide +kernel), rfl⟩
theorem dX12_thrown_0 : decode cX12_thrown 0 = .ok (.aload_n 0, 1) := by decide +kernel
theorem dX12_thrown_1 : decode cX12_thrown 1 = .ok (.getfield 1, 3) := by decide +kernel
theorem dX12_thrown_4 : decode cX12_thrown 4 = .ok (.ireturn, 1) := by decide +kernel
def wX12_thrown (a0 : Nat) (S : kp_S) (post : Int32 → kp_S → Prop) : Prop :=
  post (kp_I S 2400 a0) S
set_option maxHeartbeats 4000000 in
set_option maxRecDepth 100000 in
theorem c_X12_thrown (l : Launch) (D : va_G) (cy : Nat → ClassId) (ad : (Nat → Nat) × (Nat → Nat)) (S : kp_S) (a0 : Nat) (post : Int32 → kp_S → Prop) (hS : kp_ok S) (f_a0 : kp_is S a0 12) (hw : wX12_thrown a0 S post) : kp_M l yX12_thrown cX12_thrown 1 (some .int) { frames := 0, cells := 0, slots := 0, locals := 0 } D cy ad S [.ref a0] 0 0 (fun A => kp_Qi D cy A S post) := by
  refine kp_start (own := RX12) (by decide) rfl (Nat.le_of_ble_eq_true rfl) hS ?_
  intro p e s m below meth c A ls X hr hlocks hname h hl
  have hle : kp_le S S := kp_le.rf
  have hl : lv_has ls 1 [(0, .ref a0)] := hl
  unfold wX12_thrown at hw
  have h : kp_H D cy A S s.heap s.heap [] := h
  revert h
  intro h
  refine lv_aload_n X.1 X.2.1 dX12_thrown_0 rfl (lv_at hl 0 rfl) ?_
  refine kp_get X h f_a0 fp_12_1.l (v := .int (kp_I S 2400 a0)) rfl dX12_thrown_1 ?_
  exact kp_reti X hr hlocks h hle rfl hw dX12_thrown_4
theorem dX12_putFour_0 : decode cX12_putFour 0 = .ok (.bipush 24, 2) := by decide +kernel
theorem dX12_putFour_2 : decode cX12_putFour 2 = .ok (.istore_n 2, 1) := by decide +kernel
theorem dX12_putFour_3 : decode cX12_putFour 3 = .ok (.iload_n 2, 1) := by decide +kernel
theorem dX12_putFour_4 : decode cX12_putFour 4 = .ok (.ifCond .lt 60, 3) := by decide +kernel
theorem dX12_putFour_7 : decode cX12_putFour 7 = .ok (.iload_n 1, 1) := by decide +kernel
theorem dX12_putFour_8 : decode cX12_putFour 8 = .ok (.iload_n 2, 1) := by decide +kernel
theorem dX12_putFour_9 : decode cX12_putFour 9 = .ok (.ishr, 1) := by decide +kernel
theorem dX12_putFour_10 : decode cX12_putFour 10 = .ok (.sipush 255, 3) := by decide +kernel
theorem dX12_putFour_13 : decode cX12_putFour 13 = .ok (.iand, 1) := by decide +kernel
theorem dX12_putFour_14 : decode cX12_putFour 14 = .ok (.istore_n 3, 1) := by decide +kernel
theorem dX12_putFour_15 : decode cX12_putFour 15 = .ok (.aload_n 0, 1) := by decide +kernel
theorem dX12_putFour_16 : decode cX12_putFour 16 = .ok (.getfield 23, 3) := by decide +kernel
theorem dX12_putFour_19 : decode cX12_putFour 19 = .ok (.aload_n 0, 1) := by decide +kernel
theorem dX12_putFour_20 : decode cX12_putFour 20 = .ok (.getfield 330, 3) := by decide +kernel
theorem dX12_putFour_23 : decode cX12_putFour 23 = .ok (.iload_n 3, 1) := by decide +kernel
theorem dX12_putFour_24 : decode cX12_putFour 24 = .ok (.bipush 10, 2) := by decide +kernel
theorem dX12_putFour_26 : decode cX12_putFour 26 = .ok (.if_icmp .eq 15, 3) := by decide +kernel
theorem dX12_putFour_29 : decode cX12_putFour 29 = .ok (.iload_n 3, 1) := by decide +kernel
theorem dX12_putFour_30 : decode cX12_putFour 30 = .ok (.bipush 32, 2) := by decide +kernel
theorem dX12_putFour_32 : decode cX12_putFour 32 = .ok (.if_icmp .lt 13, 3) := by decide +kernel
theorem dX12_putFour_35 : decode cX12_putFour 35 = .ok (.iload_n 3, 1) := by decide +kernel
theorem dX12_putFour_36 : decode cX12_putFour 36 = .ok (.bipush 126, 2) := by decide +kernel
theorem dX12_putFour_38 : decode cX12_putFour 38 = .ok (.if_icmp .gt 7, 3) := by decide +kernel
theorem dX12_putFour_41 : decode cX12_putFour 41 = .ok (.iload_n 3, 1) := by decide +kernel
theorem dX12_putFour_42 : decode cX12_putFour 42 = .ok (.goto 5, 3) := by decide +kernel
theorem dX12_putFour_45 : decode cX12_putFour 45 = .ok (.bipush 32, 2) := by decide +kernel
theorem dX12_putFour_47 : decode cX12_putFour 47 = .ok (.iastore, 1) := by decide +kernel
theorem dX12_putFour_48 : decode cX12_putFour 48 = .ok (.aload_n 0, 1) := by decide +kernel
theorem dX12_putFour_49 : decode cX12_putFour 49 = .ok (.dup, 1) := by decide +kernel
theorem dX12_putFour_50 : decode cX12_putFour 50 = .ok (.getfield 330, 3) := by decide +kernel
theorem dX12_putFour_53 : decode cX12_putFour 53 = .ok (.iconst 1, 1) := by decide +kernel
theorem dX12_putFour_54 : decode cX12_putFour 54 = .ok (.iadd, 1) := by decide +kernel
theorem dX12_putFour_55 : decode cX12_putFour 55 = .ok (.putfield 330, 3) := by decide +kernel
theorem dX12_putFour_58 : decode cX12_putFour 58 = .ok (.iinc 2 (-8), 3) := by decide +kernel
theorem dX12_putFour_61 : decode cX12_putFour 61 = .ok (.goto (-58), 3) := by decide +kernel
theorem dX12_putFour_64 : decode cX12_putFour 64 = .ok (.return_, 1) := by decide +kernel
def wX12_putFour_b47 (a0 : Nat) (x1 : Int32) (xn2 : Int32) (xt0 : Int32) (xt1 : Int32) (at2 : Nat) (K3 : Int32 → kp_S → Prop) (Sn : kp_S) (post : kp_S → Prop) : Prop :=
  vp_in xt1 (kp_N Sn at2) ∧ ∀ T1001 : kp_S, T1001 = kp_sA Sn at2 (upd (kp_A Sn at2) (xt1.toNatClampNeg) xt0) →
  ∀ T1002 : kp_S, T1002 = kp_sI T1001 2402 a0 ((kp_I T1001 2402 a0) + 1) →
  ∀ y1003 : Int32, y1003 = xn2 + (-8) →
  K3 y1003 T1002
def wX12_putFour_b41 (a0 : Nat) (x1 : Int32) (xn2 : Int32) (xn3 : Int32) (xt0 : Int32) (at1 : Nat) (K3 : Int32 → kp_S → Prop) (Sn : kp_S) (post : kp_S → Prop) : Prop :=
  wX12_putFour_b47 a0 x1 xn2 xn3 xt0 at1 K3 Sn post
def wX12_putFour_b45 (a0 : Nat) (x1 : Int32) (xn2 : Int32) (xt0 : Int32) (at1 : Nat) (K3 : Int32 → kp_S → Prop) (Sn : kp_S) (post : kp_S → Prop) : Prop :=
  wX12_putFour_b47 a0 x1 xn2 32 xt0 at1 K3 Sn post
def wX12_putFour_L3 (a0 : Nat) (x1 : Int32)  (post : kp_S → Prop) : Nat → Int32 → kp_S → Prop
  | 0, _, _ => False
  | n + 1, xn2, Sn =>
  ((xn2 < 0 →
  post Sn) ∧ (¬ xn2 < 0 →
  ∀ y4001 : Int32, y4001 = ((x1 >>> (xn2 &&& 31)) &&& 255) →
  ∃ b4002 : Nat, kp_R Sn 2401 a0 = some b4002 ∧
  ((y4001 = 10 →
  wX12_putFour_b41 a0 x1 xn2 y4001 (kp_I Sn 2402 a0) b4002 (fun xn2_ S_ => wX12_putFour_L3 a0 x1  post n xn2_ S_) Sn post) ∧ (¬ y4001 = 10 →
  ((y4001 < 32 →
  wX12_putFour_b45 a0 x1 xn2 (kp_I Sn 2402 a0) b4002 (fun xn2_ S_ => wX12_putFour_L3 a0 x1  post n xn2_ S_) Sn post) ∧ (¬ y4001 < 32 →
  ((126 < y4001 →
  wX12_putFour_b45 a0 x1 xn2 (kp_I Sn 2402 a0) b4002 (fun xn2_ S_ => wX12_putFour_L3 a0 x1  post n xn2_ S_) Sn post) ∧ (¬ 126 < y4001 →
  wX12_putFour_b41 a0 x1 xn2 y4001 (kp_I Sn 2402 a0) b4002 (fun xn2_ S_ => wX12_putFour_L3 a0 x1  post n xn2_ S_) Sn post))))))))
def wX12_putFour (a0 : Nat) (x1 : Int32) (S : kp_S) (post : kp_S → Prop) : Prop :=
  ∃ n0 : Nat, wX12_putFour_L3 a0 x1  post n0 24 S
set_option maxHeartbeats 4000000 in
set_option maxRecDepth 100000 in
theorem c_X12_putFour (l : Launch) (D : va_G) (cy : Nat → ClassId) (ad : (Nat → Nat) × (Nat → Nat)) (S : kp_S) (a0 : Nat) (x1 : Int32) (post : kp_S → Prop) (hS : kp_ok S) (f_a0 : kp_is S a0 12) (hw : wX12_putFour a0 x1 S post) : kp_M l yX12_putFour cX12_putFour 4 none { frames := 0, cells := 0, slots := 0, locals := 0 } D cy ad S [.ref a0, .int x1] 0 0 (fun A => kp_Qv D cy A S post) := by
  refine kp_start (own := RX12) (by decide) rfl (Nat.le_of_ble_eq_true rfl) hS ?_
  intro p e s m below meth c A ls X hr hlocks hname h hl
  have hle : kp_le S S := kp_le.rf
  have hl : lv_has ls 4 [(0, .ref a0), (1, .int x1)] := hl
  have L3 : ∀ n3 : Nat, ∀ (xn2 : Int32) (Sn : kp_S) (H : Heap) (locs : List Loc) (ls : Array Slot), lv_has ls 4 [(0, .ref a0), (1, .int x1), (2, .int xn2)] → kp_H D cy A Sn s.heap H locs → kp_le S Sn → kp_is Sn a0 12 → wX12_putFour_L3 a0 x1  post n3 xn2 Sn → W p l e { frames := 0, cells := 0, slots := 0, locals := 0 } s m ([.ref a0, .int x1] : List Value).toArray below meth c H locs 0 0 (MQ below (kp_Qv D cy A S post) ([.ref a0, .int x1] : List Value).toArray s 0 0 A) (F0 m 3 ls []) := by
    intro n3
    induction n3 with
    | zero => intro xn2 Sn H locs ls hl h hle f_a0 hw; exact hw.elim
    | succ n3 ih3 =>
      have j47 : ∀ (xn2 : Int32) (xt0 : Int32) (xt1 : Int32) (at2 : Nat) (Sn : kp_S) (H : Heap) (locs : List Loc) (ls : Array Slot), lv_has ls 4 [(0, .ref a0), (1, .int x1), (2, .int xn2)] → kp_H D cy A Sn s.heap H locs → kp_le S Sn → kp_is Sn a0 12 → kp_is Sn at2 14 → wX12_putFour_b47 a0 x1 xn2 xt0 xt1 at2 (fun xn2_ S_ => wX12_putFour_L3 a0 x1  post n3 xn2_ S_) Sn post → W p l e { frames := 0, cells := 0, slots := 0, locals := 0 } s m ([.ref a0, .int x1] : List Value).toArray below meth c H locs 0 0 (MQ below (kp_Qv D cy A S post) ([.ref a0, .int x1] : List Value).toArray s 0 0 A) (F0 m 47 ls [.int xt0, .int xt1, .ref at2]) := by
        intro xn2 xt0 xt1 at2 Sn H locs ls hl h hle f_a0 f_at2 hw
        unfold wX12_putFour_b47 at hw
        obtain ⟨hi, hw⟩ := hw
        refine kp_iast X h f_at2 hi dX12_putFour_47 (fun T1001 e_T1001 l_T1001 H locs h => ?_)
        have hw := hw T1001 e_T1001
        have f_a0 := l_T1001.is f_a0
        have f_at2 := l_T1001.is f_at2
        have hle := hle.tr l_T1001
        refine lv_aload_n X.1 X.2.1 dX12_putFour_48 rfl (lv_at hl 0 rfl) ?_
        refine lv_dup X.1 X.2.1 dX12_putFour_49 rfl ?_
        refine kp_get X h f_a0 fp_12_330.l (v := .int (kp_I T1001 2402 a0)) rfl dX12_putFour_50 ?_
        refine lv_iconst (v := 1) X.1 X.2.1 dX12_putFour_53 (by decide) ?_
        refine lv_iadd X.1 X.2.1 dX12_putFour_54 ?_
        refine kp_putI X h f_a0 fp_12_330 rfl ⟨rfl, rfl⟩ dX12_putFour_55 (fun T1002 e_T1002 l_T1002 H locs h => ?_)
        have hw := hw T1002 e_T1002
        have f_a0 := l_T1002.is f_a0
        have f_at2 := l_T1002.is f_at2
        have hle := hle.tr l_T1002
        obtain ⟨y1003, e_y1003⟩ : ∃ y : Int32, y = xn2 + (-8) := ⟨_, rfl⟩
        have hw := hw y1003 e_y1003
        refine lv_iinc (v := y1003) (lv' := [(2, .int y1003), (0, .ref a0), (1, .int x1)]) X.1 X.2.1 dX12_putFour_58 hl (k := 2) rfl (by rw [e_y1003]; rfl) (by decide) rfl (fun ls hl => ?_)
        refine lv_goto (tgt := 3) X.1 X.2.1 dX12_putFour_61 (by decide) ?_
        exact ih3 y1003 T1002 H locs ls (lv_sub hl [1, 2, 0] rfl) h hle f_a0 hw
      have j41 : ∀ (xn2 : Int32) (xn3 : Int32) (xt0 : Int32) (at1 : Nat) (Sn : kp_S) (H : Heap) (locs : List Loc) (ls : Array Slot), lv_has ls 4 [(0, .ref a0), (1, .int x1), (2, .int xn2), (3, .int xn3)] → kp_H D cy A Sn s.heap H locs → kp_le S Sn → kp_is Sn a0 12 → kp_is Sn at1 14 → wX12_putFour_b41 a0 x1 xn2 xn3 xt0 at1 (fun xn2_ S_ => wX12_putFour_L3 a0 x1  post n3 xn2_ S_) Sn post → W p l e { frames := 0, cells := 0, slots := 0, locals := 0 } s m ([.ref a0, .int x1] : List Value).toArray below meth c H locs 0 0 (MQ below (kp_Qv D cy A S post) ([.ref a0, .int x1] : List Value).toArray s 0 0 A) (F0 m 41 ls [.int xt0, .ref at1]) := by
        intro xn2 xn3 xt0 at1 Sn H locs ls hl h hle f_a0 f_at1 hw
        unfold wX12_putFour_b41 at hw
        refine lv_iload_n X.1 X.2.1 dX12_putFour_41 rfl (lv_at hl 3 rfl) ?_
        refine lv_goto (tgt := 47) X.1 X.2.1 dX12_putFour_42 (by decide) ?_
        exact j47 xn2 xn3 xt0 at1 Sn H locs ls (lv_sub hl [0, 1, 2] rfl) h hle f_a0 f_at1 hw
      have j45 : ∀ (xn2 : Int32) (xt0 : Int32) (at1 : Nat) (Sn : kp_S) (H : Heap) (locs : List Loc) (ls : Array Slot), lv_has ls 4 [(0, .ref a0), (1, .int x1), (2, .int xn2)] → kp_H D cy A Sn s.heap H locs → kp_le S Sn → kp_is Sn a0 12 → kp_is Sn at1 14 → wX12_putFour_b45 a0 x1 xn2 xt0 at1 (fun xn2_ S_ => wX12_putFour_L3 a0 x1  post n3 xn2_ S_) Sn post → W p l e { frames := 0, cells := 0, slots := 0, locals := 0 } s m ([.ref a0, .int x1] : List Value).toArray below meth c H locs 0 0 (MQ below (kp_Qv D cy A S post) ([.ref a0, .int x1] : List Value).toArray s 0 0 A) (F0 m 45 ls [.int xt0, .ref at1]) := by
        intro xn2 xt0 at1 Sn H locs ls hl h hle f_a0 f_at1 hw
        unfold wX12_putFour_b45 at hw
        refine lv_bipush (v := 32) X.1 X.2.1 dX12_putFour_45 (by decide) ?_
        exact j47 xn2 32 xt0 at1 Sn H locs ls (lv_sub hl [0, 1, 2] rfl) h hle f_a0 f_at1 hw
      intro xn2 Sn H locs ls hl h hle f_a0 hw
      unfold wX12_putFour_L3 at hw
      refine lv_iload_n X.1 X.2.1 dX12_putFour_3 rfl (lv_at hl 2 rfl) ?_
      refine lv_if_lt (tgt := 64) X.1 X.2.1 dX12_putFour_4 (by decide) (fun c4006 => ?_) (fun c4006 => ?_)
      · have hw := hw.1 c4006
        exact kp_retv X hr hlocks h hle hw dX12_putFour_64
      · have hw := hw.2 c4006
        refine lv_iload_n X.1 X.2.1 dX12_putFour_7 rfl (lv_at hl 1 rfl) ?_
        refine lv_iload_n X.1 X.2.1 dX12_putFour_8 rfl (lv_at hl 2 rfl) ?_
        refine lv_ishr X.1 X.2.1 dX12_putFour_9 ?_
        refine lv_sipush (v := 255) X.1 X.2.1 dX12_putFour_10 (by decide) ?_
        refine lv_iand X.1 X.2.1 dX12_putFour_13 ?_
        refine lv_topi (fun y4001 e_y4001 => ?_)
        have hw := hw y4001 e_y4001
        refine lv_istore_n (lv' := [(3, .int y4001), (0, .ref a0), (1, .int x1), (2, .int xn2)]) X.1 X.2.1 dX12_putFour_14 rfl hl (by decide) rfl (fun ls hl => ?_)
        refine lv_aload_n X.1 X.2.1 dX12_putFour_15 rfl (lv_at hl 1 rfl) ?_
        obtain ⟨b4002, e_b4002, hw⟩ := hw
        have f_b4002 := h.2.2.2.rf (c := 12) (k := 1) f_a0 (by decide) (by decide) e_b4002 (t := 14) rfl
        refine kp_get X h f_a0 ff_12_23.l (v := .ref b4002) (congrArg va_rf e_b4002) dX12_putFour_16 ?_
        refine lv_aload_n X.1 X.2.1 dX12_putFour_19 rfl (lv_at hl 1 rfl) ?_
        refine kp_get X h f_a0 fp_12_330.l (v := .int (kp_I Sn 2402 a0)) rfl dX12_putFour_20 ?_
        refine lv_iload_n X.1 X.2.1 dX12_putFour_23 rfl (lv_at hl 0 rfl) ?_
        refine lv_bipush (v := 10) X.1 X.2.1 dX12_putFour_24 (by decide) ?_
        refine lv_icmp_eq (tgt := 41) X.1 X.2.1 dX12_putFour_26 (by decide) (fun c4005 => ?_) (fun c4005 => ?_)
        · have hw := hw.1 c4005
          exact j41 xn2 y4001 (kp_I Sn 2402 a0) b4002 Sn H locs ls (lv_sub hl [1, 2, 3, 0] rfl) h hle f_a0 f_b4002 hw
        · have hw := hw.2 c4005
          refine lv_iload_n X.1 X.2.1 dX12_putFour_29 rfl (lv_at hl 0 rfl) ?_
          refine lv_bipush (v := 32) X.1 X.2.1 dX12_putFour_30 (by decide) ?_
          refine lv_icmp_lt (tgt := 45) X.1 X.2.1 dX12_putFour_32 (by decide) (fun c4004 => ?_) (fun c4004 => ?_)
          · have hw := hw.1 c4004
            exact j45 xn2 (kp_I Sn 2402 a0) b4002 Sn H locs ls (lv_sub hl [1, 2, 3] rfl) h hle f_a0 f_b4002 hw
          · have hw := hw.2 c4004
            refine lv_iload_n X.1 X.2.1 dX12_putFour_35 rfl (lv_at hl 0 rfl) ?_
            refine lv_bipush (v := 126) X.1 X.2.1 dX12_putFour_36 (by decide) ?_
            refine lv_icmp_gt (tgt := 45) X.1 X.2.1 dX12_putFour_38 (by decide) (fun c4003 => ?_) (fun c4003 => ?_)
            · have hw := hw.1 c4003
              exact j45 xn2 (kp_I Sn 2402 a0) b4002 Sn H locs ls (lv_sub hl [1, 2, 3] rfl) h hle f_a0 f_b4002 hw
            · have hw := hw.2 c4003
              exact j41 xn2 y4001 (kp_I Sn 2402 a0) b4002 Sn H locs ls (lv_sub hl [1, 2, 3, 0] rfl) h hle f_a0 f_b4002 hw
  unfold wX12_putFour at hw
  have h : kp_H D cy A S s.heap s.heap [] := h
  revert h
  intro h
  refine lv_bipush (v := 24) X.1 X.2.1 dX12_putFour_0 (by decide) ?_
  refine lv_istore_n (lv' := [(2, .int 24), (0, .ref a0), (1, .int x1)]) X.1 X.2.1 dX12_putFour_2 rfl hl (by decide) rfl (fun ls hl => ?_)
  obtain ⟨n0, hw⟩ := hw
  exact L3 n0 24 S _ _ ls (lv_sub hl [1, 2, 0] rfl) h hle f_a0 hw
theorem dX12_feed_0 : decode cX12_feed 0 = .ok (.aload_n 0, 1) := by decide +kernel
theorem dX12_feed_1 : decode cX12_feed 1 = .ok (.iconst 0, 1) := by decide +kernel
theorem dX12_feed_2 : decode cX12_feed 2 = .ok (.putfield 1, 3) := by decide +kernel
theorem dX12_feed_5 : decode cX12_feed 5 = .ok (.aload_n 0, 1) := by decide +kernel
theorem dX12_feed_6 : decode cX12_feed 6 = .ok (.getfield 330, 3) := by decide +kernel
theorem dX12_feed_9 : decode cX12_feed 9 = .ok (.bipush 20, 2) := by decide +kernel
theorem dX12_feed_11 : decode cX12_feed 11 = .ok (.iadd, 1) := by decide +kernel
theorem dX12_feed_12 : decode cX12_feed 12 = .ok (.sipush 3000, 3) := by decide +kernel
theorem dX12_feed_15 : decode cX12_feed 15 = .ok (.if_icmp .le 5, 3) := by decide +kernel
theorem dX12_feed_18 : decode cX12_feed 18 = .ok (.iconst 0, 1) := by decide +kernel
theorem dX12_feed_19 : decode cX12_feed 19 = .ok (.ireturn, 1) := by decide +kernel
theorem dX12_feed_20 : decode cX12_feed 20 = .ok (.aload_n 0, 1) := by decide +kernel
theorem dX12_feed_21 : decode cX12_feed 21 = .ok (.iload_n 1, 1) := by decide +kernel
theorem dX12_feed_22 : decode cX12_feed 22 = .ok (.invokevirtual 332, 3) := by decide +kernel
theorem dX12_feed_25 : decode cX12_feed 25 = .ok (.aload_n 0, 1) := by decide +kernel
theorem dX12_feed_26 : decode cX12_feed 26 = .ok (.iload_n 2, 1) := by decide +kernel
theorem dX12_feed_27 : decode cX12_feed 27 = .ok (.invokevirtual 332, 3) := by decide +kernel
theorem dX12_feed_30 : decode cX12_feed 30 = .ok (.aload_n 0, 1) := by decide +kernel
theorem dX12_feed_31 : decode cX12_feed 31 = .ok (.iload_n 3, 1) := by decide +kernel
theorem dX12_feed_32 : decode cX12_feed 32 = .ok (.invokevirtual 332, 3) := by decide +kernel
theorem dX12_feed_35 : decode cX12_feed 35 = .ok (.aload_n 0, 1) := by decide +kernel
theorem dX12_feed_36 : decode cX12_feed 36 = .ok (.iload 4, 2) := by decide +kernel
theorem dX12_feed_38 : decode cX12_feed 38 = .ok (.invokevirtual 332, 3) := by decide +kernel
theorem dX12_feed_41 : decode cX12_feed 41 = .ok (.aload_n 0, 1) := by decide +kernel
theorem dX12_feed_42 : decode cX12_feed 42 = .ok (.iload 5, 2) := by decide +kernel
theorem dX12_feed_44 : decode cX12_feed 44 = .ok (.invokevirtual 332, 3) := by decide +kernel
theorem dX12_feed_47 : decode cX12_feed 47 = .ok (.iconst 1, 1) := by decide +kernel
theorem dX12_feed_48 : decode cX12_feed 48 = .ok (.ireturn, 1) := by decide +kernel
def wX12_feed (a0 : Nat) (x1 : Int32) (x2 : Int32) (x3 : Int32) (x4 : Int32) (x5 : Int32) (S : kp_S) (post : Int32 → kp_S → Prop) : Prop :=
  ∀ T1 : kp_S, T1 = kp_sI S 2400 a0 0 →
  ((((kp_I T1 2402 a0) + 20) ≤ 3000 →
  wX12_putFour a0 x1 T1 (fun T2 =>
  wX12_putFour a0 x2 T2 (fun T3 =>
  wX12_putFour a0 x3 T3 (fun T4 =>
  wX12_putFour a0 x4 T4 (fun T5 =>
  wX12_putFour a0 x5 T5 (fun T6 =>
  post 1 T6)))))) ∧ (¬ ((kp_I T1 2402 a0) + 20) ≤ 3000 →
  post 0 T1))
set_option maxHeartbeats 4000000 in
set_option maxRecDepth 100000 in
theorem c_X12_feed (l : Launch) (D : va_G) (cy : Nat → ClassId) (ad : (Nat → Nat) × (Nat → Nat)) (S : kp_S) (a0 : Nat) (x1 : Int32) (x2 : Int32) (x3 : Int32) (x4 : Int32) (x5 : Int32) (post : Int32 → kp_S → Prop) (hS : kp_ok S) (f_a0 : kp_is S a0 12) (hw : wX12_feed a0 x1 x2 x3 x4 x5 S post) : kp_M l yX12_feed cX12_feed 6 (some .boolean) { frames := 1, cells := 0, slots := 0, locals := 23 } D cy ad S [.ref a0, .int x1, .int x2, .int x3, .int x4, .int x5] 0 0 (fun A => kp_Qi D cy A S post) := by
  refine kp_start (own := RX12) (by decide) rfl (Nat.le_of_ble_eq_true rfl) hS ?_
  intro p e s m below meth c A ls X hr hlocks hname h hl
  have hle : kp_le S S := kp_le.rf
  have hl : lv_has ls 6 [(0, .ref a0), (1, .int x1), (2, .int x2), (3, .int x3), (4, .int x4), (5, .int x5)] := hl
  unfold wX12_feed at hw
  have h : kp_H D cy A S s.heap s.heap [] := h
  revert h
  intro h
  refine lv_aload_n X.1 X.2.1 dX12_feed_0 rfl (lv_at hl 0 rfl) ?_
  refine lv_iconst (v := 0) X.1 X.2.1 dX12_feed_1 (by decide) ?_
  refine kp_putI X h f_a0 fp_12_1 rfl ⟨rfl, rfl⟩ dX12_feed_2 (fun T1 e_T1 l_T1 H locs h => ?_)
  have hw := hw T1 e_T1
  have f_a0 := l_T1.is f_a0
  have hle := hle.tr l_T1
  refine lv_aload_n X.1 X.2.1 dX12_feed_5 rfl (lv_at hl 0 rfl) ?_
  refine kp_get X h f_a0 fp_12_330.l (v := .int (kp_I T1 2402 a0)) rfl dX12_feed_6 ?_
  refine lv_bipush (v := 20) X.1 X.2.1 dX12_feed_9 (by decide) ?_
  refine lv_iadd X.1 X.2.1 dX12_feed_11 ?_
  refine lv_sipush (v := 3000) X.1 X.2.1 dX12_feed_12 (by decide) ?_
  refine lv_icmp_le (tgt := 20) X.1 X.2.1 dX12_feed_15 (by decide) (fun c7 => ?_) (fun c7 => ?_)
  · have hw := hw.1 c7
    refine lv_aload_n X.1 X.2.1 dX12_feed_20 rfl (lv_at hl 0 rfl) ?_
    refine lv_iload_n X.1 X.2.1 dX12_feed_21 rfl (lv_at hl 1 rfl) ?_
    refine kp_callv X h (kp_runV (rm := { frames := 0, cells := 0, slots := 0, locals := 0 }) (mc := 0) (ms := 0) (rest := []) (Qc := fun A => kp_Qv D cy A T1 _) X h (c_X12_putFour l D cy ad T1 a0 x1 _ h.2.2.2 f_a0 hw) f_a0 cv_12_332 ⟨by decide, by decide, rfl, rfl, by decide, by decide⟩ rfl hl.1 rfl (Nat.le_of_ble_eq_true rfl) dX12_feed_22) (fun T2 hw l_T2 H locs h => ?_)
    have f_a0 := l_T2.is f_a0
    have hle := hle.tr l_T2
    refine lv_aload_n X.1 X.2.1 dX12_feed_25 rfl (lv_at hl 0 rfl) ?_
    refine lv_iload_n X.1 X.2.1 dX12_feed_26 rfl (lv_at hl 2 rfl) ?_
    refine kp_callv X h (kp_runV (rm := { frames := 0, cells := 0, slots := 0, locals := 0 }) (mc := 0) (ms := 0) (rest := []) (Qc := fun A => kp_Qv D cy A T2 _) X h (c_X12_putFour l D cy ad T2 a0 x2 _ h.2.2.2 f_a0 hw) f_a0 cv_12_332 ⟨by decide, by decide, rfl, rfl, by decide, by decide⟩ rfl hl.1 rfl (Nat.le_of_ble_eq_true rfl) dX12_feed_27) (fun T3 hw l_T3 H locs h => ?_)
    have f_a0 := l_T3.is f_a0
    have hle := hle.tr l_T3
    refine lv_aload_n X.1 X.2.1 dX12_feed_30 rfl (lv_at hl 0 rfl) ?_
    refine lv_iload_n X.1 X.2.1 dX12_feed_31 rfl (lv_at hl 3 rfl) ?_
    refine kp_callv X h (kp_runV (rm := { frames := 0, cells := 0, slots := 0, locals := 0 }) (mc := 0) (ms := 0) (rest := []) (Qc := fun A => kp_Qv D cy A T3 _) X h (c_X12_putFour l D cy ad T3 a0 x3 _ h.2.2.2 f_a0 hw) f_a0 cv_12_332 ⟨by decide, by decide, rfl, rfl, by decide, by decide⟩ rfl hl.1 rfl (Nat.le_of_ble_eq_true rfl) dX12_feed_32) (fun T4 hw l_T4 H locs h => ?_)
    have f_a0 := l_T4.is f_a0
    have hle := hle.tr l_T4
    refine lv_aload_n X.1 X.2.1 dX12_feed_35 rfl (lv_at hl 0 rfl) ?_
    refine lv_iload X.1 X.2.1 dX12_feed_36 (lv_at hl 4 rfl) ?_
    refine kp_callv X h (kp_runV (rm := { frames := 0, cells := 0, slots := 0, locals := 0 }) (mc := 0) (ms := 0) (rest := []) (Qc := fun A => kp_Qv D cy A T4 _) X h (c_X12_putFour l D cy ad T4 a0 x4 _ h.2.2.2 f_a0 hw) f_a0 cv_12_332 ⟨by decide, by decide, rfl, rfl, by decide, by decide⟩ rfl hl.1 rfl (Nat.le_of_ble_eq_true rfl) dX12_feed_38) (fun T5 hw l_T5 H locs h => ?_)
    have f_a0 := l_T5.is f_a0
    have hle := hle.tr l_T5
    refine lv_aload_n X.1 X.2.1 dX12_feed_41 rfl (lv_at hl 0 rfl) ?_
    refine lv_iload X.1 X.2.1 dX12_feed_42 (lv_at hl 5 rfl) ?_
    refine kp_callv X h (kp_runV (rm := { frames := 0, cells := 0, slots := 0, locals := 0 }) (mc := 0) (ms := 0) (rest := []) (Qc := fun A => kp_Qv D cy A T5 _) X h (c_X12_putFour l D cy ad T5 a0 x5 _ h.2.2.2 f_a0 hw) f_a0 cv_12_332 ⟨by decide, by decide, rfl, rfl, by decide, by decide⟩ rfl hl.1 rfl (Nat.le_of_ble_eq_true rfl) dX12_feed_44) (fun T6 hw l_T6 H locs h => ?_)
    have f_a0 := l_T6.is f_a0
    have hle := hle.tr l_T6
    refine lv_iconst (v := 1) X.1 X.2.1 dX12_feed_47 (by decide) ?_
    exact kp_reti X hr hlocks h hle (by decide) hw dX12_feed_48
  · have hw := hw.2 c7
    refine lv_iconst (v := 0) X.1 X.2.1 dX12_feed_18 (by decide) ?_
    exact kp_reti X hr hlocks h hle (by decide) hw dX12_feed_19
theorem dX12_end_0 : decode cX12_end 0 = .ok (.aload_n 0, 1) := by decide +kernel
theorem dX12_end_1 : decode cX12_end 1 = .ok (.iconst 0, 1) := by decide +kernel
theorem dX12_end_2 : decode cX12_end 2 = .ok (.putfield 1, 3) := by decide +kernel
theorem dX12_end_5 : decode cX12_end 5 = .ok (.iload_n 1, 1) := by decide +kernel
theorem dX12_end_6 : decode cX12_end 6 = .ok (.ifCond .lt 11, 3) := by decide +kernel
theorem dX12_end_9 : decode cX12_end 9 = .ok (.iload_n 1, 1) := by decide +kernel
theorem dX12_end_10 : decode cX12_end 10 = .ok (.aload_n 0, 1) := by decide +kernel
theorem dX12_end_11 : decode cX12_end 11 = .ok (.getfield 330, 3) := by decide +kernel
theorem dX12_end_14 : decode cX12_end 14 = .ok (.if_icmp .le 5, 3) := by decide +kernel
theorem dX12_end_17 : decode cX12_end 17 = .ok (.iconst 0, 1) := by decide +kernel
theorem dX12_end_18 : decode cX12_end 18 = .ok (.ireturn, 1) := by decide +kernel
theorem dX12_end_19 : decode cX12_end 19 = .ok (.aload_n 0, 1) := by decide +kernel
theorem dX12_end_20 : decode cX12_end 20 = .ok (.iload_n 1, 1) := by decide +kernel
theorem dX12_end_21 : decode cX12_end 21 = .ok (.putfield 330, 3) := by decide +kernel
theorem dX12_end_24 : decode cX12_end 24 = .ok (.iconst 1, 1) := by decide +kernel
theorem dX12_end_25 : decode cX12_end 25 = .ok (.ireturn, 1) := by decide +kernel
def wX12_end_b17 (a0 : Nat) (x1 : Int32)  (Sn : kp_S) (post : Int32 → kp_S → Prop) : Prop :=
  post 0 Sn
def wX12_end (a0 : Nat) (x1 : Int32) (S : kp_S) (post : Int32 → kp_S → Prop) : Prop :=
  ∀ T1 : kp_S, T1 = kp_sI S 2400 a0 0 →
  ((x1 < 0 →
  wX12_end_b17 a0 x1   T1 post) ∧ (¬ x1 < 0 →
  ((x1 ≤ (kp_I T1 2402 a0) →
  ∀ T2 : kp_S, T2 = kp_sI T1 2402 a0 x1 →
  post 1 T2) ∧ (¬ x1 ≤ (kp_I T1 2402 a0) →
  wX12_end_b17 a0 x1   T1 post))))
set_option maxHeartbeats 4000000 in
set_option maxRecDepth 100000 in
theorem c_X12_end (l : Launch) (D : va_G) (cy : Nat → ClassId) (ad : (Nat → Nat) × (Nat → Nat)) (S : kp_S) (a0 : Nat) (x1 : Int32) (post : Int32 → kp_S → Prop) (hS : kp_ok S) (f_a0 : kp_is S a0 12) (hw : wX12_end a0 x1 S post) : kp_M l yX12_end cX12_end 2 (some .boolean) { frames := 0, cells := 0, slots := 0, locals := 0 } D cy ad S [.ref a0, .int x1] 0 0 (fun A => kp_Qi D cy A S post) := by
  refine kp_start (own := RX12) (by decide) rfl (Nat.le_of_ble_eq_true rfl) hS ?_
  intro p e s m below meth c A ls X hr hlocks hname h hl
  have hle : kp_le S S := kp_le.rf
  have hl : lv_has ls 2 [(0, .ref a0), (1, .int x1)] := hl
  have j17 : ∀  (Sn : kp_S) (H : Heap) (locs : List Loc) (ls : Array Slot), lv_has ls 2 [] → kp_H D cy A Sn s.heap H locs → kp_le S Sn → kp_is Sn a0 12 → wX12_end_b17 a0 x1   Sn post → W p l e { frames := 0, cells := 0, slots := 0, locals := 0 } s m ([.ref a0, .int x1] : List Value).toArray below meth c H locs 0 0 (MQ below (kp_Qi D cy A S post) ([.ref a0, .int x1] : List Value).toArray s 0 0 A) (F0 m 17 ls []) := by
    intro  Sn H locs ls hl h hle f_a0 hw
    unfold wX12_end_b17 at hw
    refine lv_iconst (v := 0) X.1 X.2.1 dX12_end_17 (by decide) ?_
    exact kp_reti X hr hlocks h hle (by decide) hw dX12_end_18
  unfold wX12_end at hw
  have h : kp_H D cy A S s.heap s.heap [] := h
  revert h
  intro h
  refine lv_aload_n X.1 X.2.1 dX12_end_0 rfl (lv_at hl 0 rfl) ?_
  refine lv_iconst (v := 0) X.1 X.2.1 dX12_end_1 (by decide) ?_
  refine kp_putI X h f_a0 fp_12_1 rfl ⟨rfl, rfl⟩ dX12_end_2 (fun T1 e_T1 l_T1 H locs h => ?_)
  have hw := hw T1 e_T1
  have f_a0 := l_T1.is f_a0
  have hle := hle.tr l_T1
  refine lv_iload_n X.1 X.2.1 dX12_end_5 rfl (lv_at hl 1 rfl) ?_
  refine lv_if_lt (tgt := 17) X.1 X.2.1 dX12_end_6 (by decide) (fun c4 => ?_) (fun c4 => ?_)
  · have hw := hw.1 c4
    exact j17  T1 _ _ ls (lv_sub hl [] rfl) h hle f_a0 hw
  · have hw := hw.2 c4
    refine lv_iload_n X.1 X.2.1 dX12_end_9 rfl (lv_at hl 1 rfl) ?_
    refine lv_aload_n X.1 X.2.1 dX12_end_10 rfl (lv_at hl 0 rfl) ?_
    refine kp_get X h f_a0 fp_12_330.l (v := .int (kp_I T1 2402 a0)) rfl dX12_end_11 ?_
    refine lv_icmp_le (tgt := 19) X.1 X.2.1 dX12_end_14 (by decide) (fun c3 => ?_) (fun c3 => ?_)
    · have hw := hw.1 c3
      refine lv_aload_n X.1 X.2.1 dX12_end_19 rfl (lv_at hl 0 rfl) ?_
      refine lv_iload_n X.1 X.2.1 dX12_end_20 rfl (lv_at hl 1 rfl) ?_
      refine kp_putI X h f_a0 fp_12_330 rfl ⟨rfl, rfl⟩ dX12_end_21 (fun T2 e_T2 l_T2 H locs h => ?_)
      have hw := hw T2 e_T2
      have f_a0 := l_T2.is f_a0
      have hle := hle.tr l_T2
      refine lv_iconst (v := 1) X.1 X.2.1 dX12_end_24 (by decide) ?_
      exact kp_reti X hr hlocks h hle (by decide) hw dX12_end_25
    · have hw := hw.2 c3
      exact j17  T1 _ _ ls (lv_sub hl [] rfl) h hle f_a0 hw
theorem dX12_at_0 : decode cX12_at 0 = .ok (.iload_n 1, 1) := by decide +kernel
theorem dX12_at_1 : decode cX12_at 1 = .ok (.aload_n 0, 1) := by decide +kernel
theorem dX12_at_2 : decode cX12_at 2 = .ok (.getfield 330, 3) := by decide +kernel
theorem dX12_at_5 : decode cX12_at 5 = .ok (.if_icmp .ge 12, 3) := by decide +kernel
theorem dX12_at_8 : decode cX12_at 8 = .ok (.aload_n 0, 1) := by decide +kernel
theorem dX12_at_9 : decode cX12_at 9 = .ok (.getfield 23, 3) := by decide +kernel
theorem dX12_at_12 : decode cX12_at 12 = .ok (.iload_n 1, 1) := by decide +kernel
theorem dX12_at_13 : decode cX12_at 13 = .ok (.iaload, 1) := by decide +kernel
theorem dX12_at_14 : decode cX12_at 14 = .ok (.goto 4, 3) := by decide +kernel
theorem dX12_at_17 : decode cX12_at 17 = .ok (.iconst 0, 1) := by decide +kernel
theorem dX12_at_18 : decode cX12_at 18 = .ok (.ireturn, 1) := by decide +kernel
def wX12_at_b18 (a0 : Nat) (x1 : Int32) (xt0 : Int32)  (Sn : kp_S) (post : Int32 → kp_S → Prop) : Prop :=
  post xt0 Sn
def wX12_at (a0 : Nat) (x1 : Int32) (S : kp_S) (post : Int32 → kp_S → Prop) : Prop :=
  (((kp_I S 2402 a0) ≤ x1 →
  wX12_at_b18 a0 x1 0  S post) ∧ (¬ (kp_I S 2402 a0) ≤ x1 →
  ∃ b1 : Nat, kp_R S 2401 a0 = some b1 ∧
  vp_in x1 (kp_N S b1) ∧
  wX12_at_b18 a0 x1 (kp_A S b1 x1.toNatClampNeg)  S post))
set_option maxHeartbeats 4000000 in
set_option maxRecDepth 100000 in
theorem c_X12_at (l : Launch) (D : va_G) (cy : Nat → ClassId) (ad : (Nat → Nat) × (Nat → Nat)) (S : kp_S) (a0 : Nat) (x1 : Int32) (post : Int32 → kp_S → Prop) (hS : kp_ok S) (f_a0 : kp_is S a0 12) (hw : wX12_at a0 x1 S post) : kp_M l yX12_at cX12_at 2 (some .int) { frames := 0, cells := 0, slots := 0, locals := 0 } D cy ad S [.ref a0, .int x1] 0 0 (fun A => kp_Qi D cy A S post) := by
  refine kp_start (own := RX12) (by decide) rfl (Nat.le_of_ble_eq_true rfl) hS ?_
  intro p e s m below meth c A ls X hr hlocks hname h hl
  have hle : kp_le S S := kp_le.rf
  have hl : lv_has ls 2 [(0, .ref a0), (1, .int x1)] := hl
  have j18 : ∀ (xt0 : Int32) (Sn : kp_S) (H : Heap) (locs : List Loc) (ls : Array Slot), lv_has ls 2 [] → kp_H D cy A Sn s.heap H locs → kp_le S Sn → kp_is Sn a0 12 → wX12_at_b18 a0 x1 xt0  Sn post → W p l e { frames := 0, cells := 0, slots := 0, locals := 0 } s m ([.ref a0, .int x1] : List Value).toArray below meth c H locs 0 0 (MQ below (kp_Qi D cy A S post) ([.ref a0, .int x1] : List Value).toArray s 0 0 A) (F0 m 18 ls [.int xt0]) := by
    intro xt0 Sn H locs ls hl h hle f_a0 hw
    unfold wX12_at_b18 at hw
    exact kp_reti X hr hlocks h hle rfl hw dX12_at_18
  unfold wX12_at at hw
  have h : kp_H D cy A S s.heap s.heap [] := h
  revert h
  intro h
  refine lv_iload_n X.1 X.2.1 dX12_at_0 rfl (lv_at hl 1 rfl) ?_
  refine lv_aload_n X.1 X.2.1 dX12_at_1 rfl (lv_at hl 0 rfl) ?_
  refine kp_get X h f_a0 fp_12_330.l (v := .int (kp_I S 2402 a0)) rfl dX12_at_2 ?_
  refine lv_icmp_ge (tgt := 17) X.1 X.2.1 dX12_at_5 (by decide) (fun c2 => ?_) (fun c2 => ?_)
  · have hw := hw.1 c2
    refine lv_iconst (v := 0) X.1 X.2.1 dX12_at_17 (by decide) ?_
    exact j18 0 S _ _ ls (lv_sub hl [] rfl) h hle f_a0 hw
  · have hw := hw.2 c2
    refine lv_aload_n X.1 X.2.1 dX12_at_8 rfl (lv_at hl 0 rfl) ?_
    obtain ⟨b1, e_b1, hw⟩ := hw
    have f_b1 := h.2.2.2.rf (c := 12) (k := 1) f_a0 (by decide) (by decide) e_b1 (t := 14) rfl
    refine kp_get X h f_a0 ff_12_23.l (v := .ref b1) (congrArg va_rf e_b1) dX12_at_9 ?_
    refine lv_iload_n X.1 X.2.1 dX12_at_12 rfl (lv_at hl 1 rfl) ?_
    obtain ⟨hi, hw⟩ := hw
    refine kp_iald X h f_b1 hi dX12_at_13 ?_
    refine lv_goto (tgt := 18) X.1 X.2.1 dX12_at_14 (by decide) ?_
    exact j18 (kp_A S b1 x1.toNatClampNeg) S _ _ ls (lv_sub hl [] rfl) h hle f_a0 hw
theorem dX12_isLetter_0 : decode cX12_isLetter 0 = .ok (.iload_n 0, 1) := by decide +kernel
theorem dX12_isLetter_1 : decode cX12_isLetter 1 = .ok (.bipush 97, 2) := by decide +kernel
theorem dX12_isLetter_3 : decode cX12_isLetter 3 = .ok (.if_icmp .lt 13, 3) := by decide +kernel
theorem dX12_isLetter_6 : decode cX12_isLetter 6 = .ok (.iload_n 0, 1) := by decide +kernel
theorem dX12_isLetter_7 : decode cX12_isLetter 7 = .ok (.bipush 122, 2) := by decide +kernel
theorem dX12_isLetter_9 : decode cX12_isLetter 9 = .ok (.if_icmp .gt 7, 3) := by decide +kernel
theorem dX12_isLetter_12 : decode cX12_isLetter 12 = .ok (.iconst 1, 1) := by decide +kernel
theorem dX12_isLetter_13 : decode cX12_isLetter 13 = .ok (.goto 4, 3) := by decide +kernel
theorem dX12_isLetter_16 : decode cX12_isLetter 16 = .ok (.iconst 0, 1) := by decide +kernel
theorem dX12_isLetter_17 : decode cX12_isLetter 17 = .ok (.ireturn, 1) := by decide +kernel
def wX12_isLetter_b17 (x0 : Int32) (xt0 : Int32)  (Sn : kp_S) (post : Int32 → kp_S → Prop) : Prop :=
  kp_b xt0 ∧ post xt0 Sn
def wX12_isLetter_b16 (x0 : Int32)  (Sn : kp_S) (post : Int32 → kp_S → Prop) : Prop :=
  wX12_isLetter_b17 x0 0  Sn post
def wX12_isLetter (x0 : Int32) (S : kp_S) (post : Int32 → kp_S → Prop) : Prop :=
  ((x0 < 97 →
  wX12_isLetter_b16 x0   S post) ∧ (¬ x0 < 97 →
  ((122 < x0 →
  wX12_isLetter_b16 x0   S post) ∧ (¬ 122 < x0 →
  wX12_isLetter_b17 x0 1  S post))))
set_option maxHeartbeats 4000000 in
set_option maxRecDepth 100000 in
theorem c_X12_isLetter (l : Launch) (D : va_G) (cy : Nat → ClassId) (ad : (Nat → Nat) × (Nat → Nat)) (S : kp_S) (x0 : Int32) (post : Int32 → kp_S → Prop) (hS : kp_ok S)  (hw : wX12_isLetter x0 S post) : kp_M l yX12_isLetter cX12_isLetter 1 (some .boolean) { frames := 0, cells := 0, slots := 0, locals := 0 } D cy ad S [.int x0] 0 0 (fun A => kp_Qi D cy A S post) := by
  refine kp_start (own := RX12) (by decide) rfl (Nat.le_of_ble_eq_true rfl) hS ?_
  intro p e s m below meth c A ls X hr hlocks hname h hl
  have hle : kp_le S S := kp_le.rf
  have hl : lv_has ls 1 [(0, .int x0)] := hl
  have j17 : ∀ (xt0 : Int32) (Sn : kp_S) (H : Heap) (locs : List Loc) (ls : Array Slot), lv_has ls 1 [] → kp_H D cy A Sn s.heap H locs → kp_le S Sn → wX12_isLetter_b17 x0 xt0  Sn post → W p l e { frames := 0, cells := 0, slots := 0, locals := 0 } s m ([.int x0] : List Value).toArray below meth c H locs 0 0 (MQ below (kp_Qi D cy A S post) ([.int x0] : List Value).toArray s 0 0 A) (F0 m 17 ls [.int xt0]) := by
    intro xt0 Sn H locs ls hl h hle  hw
    unfold wX12_isLetter_b17 at hw
    exact kp_reti X hr hlocks h hle (kp_bz hw.1).1 hw.2 dX12_isLetter_17
  have j16 : ∀  (Sn : kp_S) (H : Heap) (locs : List Loc) (ls : Array Slot), lv_has ls 1 [] → kp_H D cy A Sn s.heap H locs → kp_le S Sn → wX12_isLetter_b16 x0   Sn post → W p l e { frames := 0, cells := 0, slots := 0, locals := 0 } s m ([.int x0] : List Value).toArray below meth c H locs 0 0 (MQ below (kp_Qi D cy A S post) ([.int x0] : List Value).toArray s 0 0 A) (F0 m 16 ls []) := by
    intro  Sn H locs ls hl h hle  hw
    unfold wX12_isLetter_b16 at hw
    refine lv_iconst (v := 0) X.1 X.2.1 dX12_isLetter_16 (by decide) ?_
    exact j17 0 Sn H locs ls (lv_sub hl [] rfl) h hle  hw
  unfold wX12_isLetter at hw
  have h : kp_H D cy A S s.heap s.heap [] := h
  revert h
  intro h
  refine lv_iload_n X.1 X.2.1 dX12_isLetter_0 rfl (lv_at hl 0 rfl) ?_
  refine lv_bipush (v := 97) X.1 X.2.1 dX12_isLetter_1 (by decide) ?_
  refine lv_icmp_lt (tgt := 16) X.1 X.2.1 dX12_isLetter_3 (by decide) (fun c2 => ?_) (fun c2 => ?_)
  · have hw := hw.1 c2
    exact j16  S _ _ ls (lv_sub hl [] rfl) h hle  hw
  · have hw := hw.2 c2
    refine lv_iload_n X.1 X.2.1 dX12_isLetter_6 rfl (lv_at hl 0 rfl) ?_
    refine lv_bipush (v := 122) X.1 X.2.1 dX12_isLetter_7 (by decide) ?_
    refine lv_icmp_gt (tgt := 16) X.1 X.2.1 dX12_isLetter_9 (by decide) (fun c1 => ?_) (fun c1 => ?_)
    · have hw := hw.1 c1
      exact j16  S _ _ ls (lv_sub hl [] rfl) h hle  hw
    · have hw := hw.2 c1
      refine lv_iconst (v := 1) X.1 X.2.1 dX12_isLetter_12 (by decide) ?_
      refine lv_goto (tgt := 17) X.1 X.2.1 dX12_isLetter_13 (by decide) ?_
      exact j17 1 S _ _ ls (lv_sub hl [] rfl) h hle  hw
theorem dX12_isDigit_0 : decode cX12_isDigit 0 = .ok (.iload_n 0, 1) := by decide +kernel
theorem dX12_isDigit_1 : decode cX12_isDigit 1 = .ok (.bipush 48, 2) := by decide +kernel
theorem dX12_isDigit_3 : decode cX12_isDigit 3 = .ok (.if_icmp .lt 13, 3) := by decide +kernel
theorem dX12_isDigit_6 : decode cX12_isDigit 6 = .ok (.iload_n 0, 1) := by decide +kernel
theorem dX12_isDigit_7 : decode cX12_isDigit 7 = .ok (.bipush 57, 2) := by decide +kernel
theorem dX12_isDigit_9 : decode cX12_isDigit 9 = .ok (.if_icmp .gt 7, 3) := by decide +kernel
theorem dX12_isDigit_12 : decode cX12_isDigit 12 = .ok (.iconst 1, 1) := by decide +kernel
theorem dX12_isDigit_13 : decode cX12_isDigit 13 = .ok (.goto 4, 3) := by decide +kernel
theorem dX12_isDigit_16 : decode cX12_isDigit 16 = .ok (.iconst 0, 1) := by decide +kernel
theorem dX12_isDigit_17 : decode cX12_isDigit 17 = .ok (.ireturn, 1) := by decide +kernel
def wX12_isDigit_b17 (x0 : Int32) (xt0 : Int32)  (Sn : kp_S) (post : Int32 → kp_S → Prop) : Prop :=
  kp_b xt0 ∧ post xt0 Sn
def wX12_isDigit_b16 (x0 : Int32)  (Sn : kp_S) (post : Int32 → kp_S → Prop) : Prop :=
  wX12_isDigit_b17 x0 0  Sn post
def wX12_isDigit (x0 : Int32) (S : kp_S) (post : Int32 → kp_S → Prop) : Prop :=
  ((x0 < 48 →
  wX12_isDigit_b16 x0   S post) ∧ (¬ x0 < 48 →
  ((57 < x0 →
  wX12_isDigit_b16 x0   S post) ∧ (¬ 57 < x0 →
  wX12_isDigit_b17 x0 1  S post))))
set_option maxHeartbeats 4000000 in
set_option maxRecDepth 100000 in
theorem c_X12_isDigit (l : Launch) (D : va_G) (cy : Nat → ClassId) (ad : (Nat → Nat) × (Nat → Nat)) (S : kp_S) (x0 : Int32) (post : Int32 → kp_S → Prop) (hS : kp_ok S)  (hw : wX12_isDigit x0 S post) : kp_M l yX12_isDigit cX12_isDigit 1 (some .boolean) { frames := 0, cells := 0, slots := 0, locals := 0 } D cy ad S [.int x0] 0 0 (fun A => kp_Qi D cy A S post) := by
  refine kp_start (own := RX12) (by decide) rfl (Nat.le_of_ble_eq_true rfl) hS ?_
  intro p e s m below meth c A ls X hr hlocks hname h hl
  have hle : kp_le S S := kp_le.rf
  have hl : lv_has ls 1 [(0, .int x0)] := hl
  have j17 : ∀ (xt0 : Int32) (Sn : kp_S) (H : Heap) (locs : List Loc) (ls : Array Slot), lv_has ls 1 [] → kp_H D cy A Sn s.heap H locs → kp_le S Sn → wX12_isDigit_b17 x0 xt0  Sn post → W p l e { frames := 0, cells := 0, slots := 0, locals := 0 } s m ([.int x0] : List Value).toArray below meth c H locs 0 0 (MQ below (kp_Qi D cy A S post) ([.int x0] : List Value).toArray s 0 0 A) (F0 m 17 ls [.int xt0]) := by
    intro xt0 Sn H locs ls hl h hle  hw
    unfold wX12_isDigit_b17 at hw
    exact kp_reti X hr hlocks h hle (kp_bz hw.1).1 hw.2 dX12_isDigit_17
  have j16 : ∀  (Sn : kp_S) (H : Heap) (locs : List Loc) (ls : Array Slot), lv_has ls 1 [] → kp_H D cy A Sn s.heap H locs → kp_le S Sn → wX12_isDigit_b16 x0   Sn post → W p l e { frames := 0, cells := 0, slots := 0, locals := 0 } s m ([.int x0] : List Value).toArray below meth c H locs 0 0 (MQ below (kp_Qi D cy A S post) ([.int x0] : List Value).toArray s 0 0 A) (F0 m 16 ls []) := by
    intro  Sn H locs ls hl h hle  hw
    unfold wX12_isDigit_b16 at hw
    refine lv_iconst (v := 0) X.1 X.2.1 dX12_isDigit_16 (by decide) ?_
    exact j17 0 Sn H locs ls (lv_sub hl [] rfl) h hle  hw
  unfold wX12_isDigit at hw
  have h : kp_H D cy A S s.heap s.heap [] := h
  revert h
  intro h
  refine lv_iload_n X.1 X.2.1 dX12_isDigit_0 rfl (lv_at hl 0 rfl) ?_
  refine lv_bipush (v := 48) X.1 X.2.1 dX12_isDigit_1 (by decide) ?_
  refine lv_icmp_lt (tgt := 16) X.1 X.2.1 dX12_isDigit_3 (by decide) (fun c2 => ?_) (fun c2 => ?_)
  · have hw := hw.1 c2
    exact j16  S _ _ ls (lv_sub hl [] rfl) h hle  hw
  · have hw := hw.2 c2
    refine lv_iload_n X.1 X.2.1 dX12_isDigit_6 rfl (lv_at hl 0 rfl) ?_
    refine lv_bipush (v := 57) X.1 X.2.1 dX12_isDigit_7 (by decide) ?_
    refine lv_icmp_gt (tgt := 16) X.1 X.2.1 dX12_isDigit_9 (by decide) (fun c1 => ?_) (fun c1 => ?_)
    · have hw := hw.1 c1
      exact j16  S _ _ ls (lv_sub hl [] rfl) h hle  hw
    · have hw := hw.2 c1
      refine lv_iconst (v := 1) X.1 X.2.1 dX12_isDigit_12 (by decide) ?_
      refine lv_goto (tgt := 17) X.1 X.2.1 dX12_isDigit_13 (by decide) ?_
      exact j17 1 S _ _ ls (lv_sub hl [] rfl) h hle  hw
theorem dX12_behindBlanks_0 : decode cX12_behindBlanks 0 = .ok (.iload_n 1, 1) := by decide +kernel
theorem dX12_behindBlanks_1 : decode cX12_behindBlanks 1 = .ok (.istore_n 2, 1) := by decide +kernel
theorem dX12_behindBlanks_2 : decode cX12_behindBlanks 2 = .ok (.iconst 0, 1) := by decide +kernel
theorem dX12_behindBlanks_3 : decode cX12_behindBlanks 3 = .ok (.istore_n 3, 1) := by decide +kernel
theorem dX12_behindBlanks_4 : decode cX12_behindBlanks 4 = .ok (.iload_n 2, 1) := by decide +kernel
theorem dX12_behindBlanks_5 : decode cX12_behindBlanks 5 = .ok (.aload_n 0, 1) := by decide +kernel
theorem dX12_behindBlanks_6 : decode cX12_behindBlanks 6 = .ok (.getfield 330, 3) := by decide +kernel
theorem dX12_behindBlanks_9 : decode cX12_behindBlanks 9 = .ok (.if_icmp .ge 78, 3) := by decide +kernel
theorem dX12_behindBlanks_12 : decode cX12_behindBlanks 12 = .ok (.iload_n 3, 1) := by decide +kernel
theorem dX12_behindBlanks_13 : decode cX12_behindBlanks 13 = .ok (.ifCond .ne 36, 3) := by decide +kernel
theorem dX12_behindBlanks_16 : decode cX12_behindBlanks 16 = .ok (.aload_n 0, 1) := by decide +kernel
theorem dX12_behindBlanks_17 : decode cX12_behindBlanks 17 = .ok (.getfield 23, 3) := by decide +kernel
theorem dX12_behindBlanks_20 : decode cX12_behindBlanks 20 = .ok (.iload_n 2, 1) := by decide +kernel
theorem dX12_behindBlanks_21 : decode cX12_behindBlanks 21 = .ok (.iaload, 1) := by decide +kernel
theorem dX12_behindBlanks_22 : decode cX12_behindBlanks 22 = .ok (.bipush 10, 2) := by decide +kernel
theorem dX12_behindBlanks_24 : decode cX12_behindBlanks 24 = .ok (.if_icmp .eq 25, 3) := by decide +kernel
theorem dX12_behindBlanks_27 : decode cX12_behindBlanks 27 = .ok (.aload_n 0, 1) := by decide +kernel
theorem dX12_behindBlanks_28 : decode cX12_behindBlanks 28 = .ok (.getfield 23, 3) := by decide +kernel
theorem dX12_behindBlanks_31 : decode cX12_behindBlanks 31 = .ok (.iload_n 2, 1) := by decide +kernel
theorem dX12_behindBlanks_32 : decode cX12_behindBlanks 32 = .ok (.iaload, 1) := by decide +kernel
theorem dX12_behindBlanks_33 : decode cX12_behindBlanks 33 = .ok (.bipush 32, 2) := by decide +kernel
theorem dX12_behindBlanks_35 : decode cX12_behindBlanks 35 = .ok (.if_icmp .eq 14, 3) := by decide +kernel
theorem dX12_behindBlanks_38 : decode cX12_behindBlanks 38 = .ok (.aload_n 0, 1) := by decide +kernel
theorem dX12_behindBlanks_39 : decode cX12_behindBlanks 39 = .ok (.getfield 23, 3) := by decide +kernel
theorem dX12_behindBlanks_42 : decode cX12_behindBlanks 42 = .ok (.iload_n 2, 1) := by decide +kernel
theorem dX12_behindBlanks_43 : decode cX12_behindBlanks 43 = .ok (.iaload, 1) := by decide +kernel
theorem dX12_behindBlanks_44 : decode cX12_behindBlanks 44 = .ok (.bipush 35, 2) := by decide +kernel
theorem dX12_behindBlanks_46 : decode cX12_behindBlanks 46 = .ok (.if_icmp .ne 41, 3) := by decide +kernel
theorem dX12_behindBlanks_49 : decode cX12_behindBlanks 49 = .ok (.aload_n 0, 1) := by decide +kernel
theorem dX12_behindBlanks_50 : decode cX12_behindBlanks 50 = .ok (.getfield 23, 3) := by decide +kernel
theorem dX12_behindBlanks_53 : decode cX12_behindBlanks 53 = .ok (.iload_n 2, 1) := by decide +kernel
theorem dX12_behindBlanks_54 : decode cX12_behindBlanks 54 = .ok (.iaload, 1) := by decide +kernel
theorem dX12_behindBlanks_55 : decode cX12_behindBlanks 55 = .ok (.bipush 10, 2) := by decide +kernel
theorem dX12_behindBlanks_57 : decode cX12_behindBlanks 57 = .ok (.if_icmp .eq 22, 3) := by decide +kernel
theorem dX12_behindBlanks_60 : decode cX12_behindBlanks 60 = .ok (.iload_n 3, 1) := by decide +kernel
theorem dX12_behindBlanks_61 : decode cX12_behindBlanks 61 = .ok (.ifCond .ne 14, 3) := by decide +kernel
theorem dX12_behindBlanks_64 : decode cX12_behindBlanks 64 = .ok (.aload_n 0, 1) := by decide +kernel
theorem dX12_behindBlanks_65 : decode cX12_behindBlanks 65 = .ok (.getfield 23, 3) := by decide +kernel
theorem dX12_behindBlanks_68 : decode cX12_behindBlanks 68 = .ok (.iload_n 2, 1) := by decide +kernel
theorem dX12_behindBlanks_69 : decode cX12_behindBlanks 69 = .ok (.iaload, 1) := by decide +kernel
theorem dX12_behindBlanks_70 : decode cX12_behindBlanks 70 = .ok (.bipush 35, 2) := by decide +kernel
theorem dX12_behindBlanks_72 : decode cX12_behindBlanks 72 = .ok (.if_icmp .ne 7, 3) := by decide +kernel
theorem dX12_behindBlanks_75 : decode cX12_behindBlanks 75 = .ok (.iconst 1, 1) := by decide +kernel
theorem dX12_behindBlanks_76 : decode cX12_behindBlanks 76 = .ok (.goto 4, 3) := by decide +kernel
theorem dX12_behindBlanks_79 : decode cX12_behindBlanks 79 = .ok (.iconst 0, 1) := by decide +kernel
theorem dX12_behindBlanks_80 : decode cX12_behindBlanks 80 = .ok (.istore_n 3, 1) := by decide +kernel
theorem dX12_behindBlanks_81 : decode cX12_behindBlanks 81 = .ok (.iinc 2 1, 3) := by decide +kernel
theorem dX12_behindBlanks_84 : decode cX12_behindBlanks 84 = .ok (.goto (-80), 3) := by decide +kernel
theorem dX12_behindBlanks_87 : decode cX12_behindBlanks 87 = .ok (.iload_n 2, 1) := by decide +kernel
theorem dX12_behindBlanks_88 : decode cX12_behindBlanks 88 = .ok (.ireturn, 1) := by decide +kernel
def wX12_behindBlanks_b87 (a0 : Nat) (x1 : Int32) (xn2 : Int32)  (Sn : kp_S) (post : Int32 → kp_S → Prop) : Prop :=
  post xn2 Sn
def wX12_behindBlanks_b80 (a0 : Nat) (x1 : Int32) (xn2 : Int32) (xt0 : Int32) (K4 : Int32 → Int32 → kp_S → Prop) (Sn : kp_S) (post : Int32 → kp_S → Prop) : Prop :=
  ∀ y2001 : Int32, y2001 = xn2 + 1 →
  K4 y2001 xt0 Sn
def wX12_behindBlanks_b79 (a0 : Nat) (x1 : Int32) (xn2 : Int32) (K4 : Int32 → Int32 → kp_S → Prop) (Sn : kp_S) (post : Int32 → kp_S → Prop) : Prop :=
  wX12_behindBlanks_b80 a0 x1 xn2 0 K4 Sn post
def wX12_behindBlanks_b75 (a0 : Nat) (x1 : Int32) (xn2 : Int32) (K4 : Int32 → Int32 → kp_S → Prop) (Sn : kp_S) (post : Int32 → kp_S → Prop) : Prop :=
  wX12_behindBlanks_b80 a0 x1 xn2 1 K4 Sn post
def wX12_behindBlanks_b49 (a0 : Nat) (x1 : Int32) (xn2 : Int32) (xn3 : Int32) (K4 : Int32 → Int32 → kp_S → Prop) (Sn : kp_S) (post : Int32 → kp_S → Prop) : Prop :=
  ∃ b5001 : Nat, kp_R Sn 2401 a0 = some b5001 ∧
  vp_in xn2 (kp_N Sn b5001) ∧
  (((kp_A Sn b5001 xn2.toNatClampNeg) = 10 →
  wX12_behindBlanks_b79 a0 x1 xn2 K4 Sn post) ∧ (¬ (kp_A Sn b5001 xn2.toNatClampNeg) = 10 →
  ((¬ xn3 = 0 →
  wX12_behindBlanks_b75 a0 x1 xn2 K4 Sn post) ∧ (xn3 = 0 →
  vp_in xn2 (kp_N Sn b5001) ∧
  ((¬ (kp_A Sn b5001 xn2.toNatClampNeg) = 35 →
  wX12_behindBlanks_b79 a0 x1 xn2 K4 Sn post) ∧ ((kp_A Sn b5001 xn2.toNatClampNeg) = 35 →
  wX12_behindBlanks_b75 a0 x1 xn2 K4 Sn post))))))
def wX12_behindBlanks_L4 (a0 : Nat) (x1 : Int32)  (post : Int32 → kp_S → Prop) : Nat → Int32 → Int32 → kp_S → Prop
  | 0, _, _, _ => False
  | n + 1, xn2, xn3, Sn =>
  (((kp_I Sn 2402 a0) ≤ xn2 →
  wX12_behindBlanks_b87 a0 x1 xn2  Sn post) ∧ (¬ (kp_I Sn 2402 a0) ≤ xn2 →
  ((¬ xn3 = 0 →
  wX12_behindBlanks_b49 a0 x1 xn2 xn3 (fun xn2_ xn3_ S_ => wX12_behindBlanks_L4 a0 x1  post n xn2_ xn3_ S_) Sn post) ∧ (xn3 = 0 →
  ∃ b6001 : Nat, kp_R Sn 2401 a0 = some b6001 ∧
  vp_in xn2 (kp_N Sn b6001) ∧
  (((kp_A Sn b6001 xn2.toNatClampNeg) = 10 →
  wX12_behindBlanks_b49 a0 x1 xn2 xn3 (fun xn2_ xn3_ S_ => wX12_behindBlanks_L4 a0 x1  post n xn2_ xn3_ S_) Sn post) ∧ (¬ (kp_A Sn b6001 xn2.toNatClampNeg) = 10 →
  vp_in xn2 (kp_N Sn b6001) ∧
  (((kp_A Sn b6001 xn2.toNatClampNeg) = 32 →
  wX12_behindBlanks_b49 a0 x1 xn2 xn3 (fun xn2_ xn3_ S_ => wX12_behindBlanks_L4 a0 x1  post n xn2_ xn3_ S_) Sn post) ∧ (¬ (kp_A Sn b6001 xn2.toNatClampNeg) = 32 →
  vp_in xn2 (kp_N Sn b6001) ∧
  ((¬ (kp_A Sn b6001 xn2.toNatClampNeg) = 35 →
  wX12_behindBlanks_b87 a0 x1 xn2  Sn post) ∧ ((kp_A Sn b6001 xn2.toNatClampNeg) = 35 →
  wX12_behindBlanks_b49 a0 x1 xn2 xn3 (fun xn2_ xn3_ S_ => wX12_behindBlanks_L4 a0 x1  post n xn2_ xn3_ S_) Sn post))))))))))
def wX12_behindBlanks (a0 : Nat) (x1 : Int32) (S : kp_S) (post : Int32 → kp_S → Prop) : Prop :=
  ∃ n0 : Nat, wX12_behindBlanks_L4 a0 x1  post n0 x1 0 S
set_option maxHeartbeats 4000000 in
set_option maxRecDepth 100000 in
theorem c_X12_behindBlanks (l : Launch) (D : va_G) (cy : Nat → ClassId) (ad : (Nat → Nat) × (Nat → Nat)) (S : kp_S) (a0 : Nat) (x1 : Int32) (post : Int32 → kp_S → Prop) (hS : kp_ok S) (f_a0 : kp_is S a0 12) (hw : wX12_behindBlanks a0 x1 S post) : kp_M l yX12_behindBlanks cX12_behindBlanks 4 (some .int) { frames := 0, cells := 0, slots := 0, locals := 0 } D cy ad S [.ref a0, .int x1] 0 0 (fun A => kp_Qi D cy A S post) := by
  refine kp_start (own := RX12) (by decide) rfl (Nat.le_of_ble_eq_true rfl) hS ?_
  intro p e s m below meth c A ls X hr hlocks hname h hl
  have hle : kp_le S S := kp_le.rf
  have hl : lv_has ls 4 [(0, .ref a0), (1, .int x1)] := hl
  have j87 : ∀ (xn2 : Int32) (Sn : kp_S) (H : Heap) (locs : List Loc) (ls : Array Slot), lv_has ls 4 [(2, .int xn2)] → kp_H D cy A Sn s.heap H locs → kp_le S Sn → kp_is Sn a0 12 → wX12_behindBlanks_b87 a0 x1 xn2  Sn post → W p l e { frames := 0, cells := 0, slots := 0, locals := 0 } s m ([.ref a0, .int x1] : List Value).toArray below meth c H locs 0 0 (MQ below (kp_Qi D cy A S post) ([.ref a0, .int x1] : List Value).toArray s 0 0 A) (F0 m 87 ls []) := by
    intro xn2 Sn H locs ls hl h hle f_a0 hw
    unfold wX12_behindBlanks_b87 at hw
    refine lv_iload_n X.1 X.2.1 dX12_behindBlanks_87 rfl (lv_at hl 0 rfl) ?_
    exact kp_reti X hr hlocks h hle rfl hw dX12_behindBlanks_88
  have L4 : ∀ n4 : Nat, ∀ (xn2 : Int32) (xn3 : Int32) (Sn : kp_S) (H : Heap) (locs : List Loc) (ls : Array Slot), lv_has ls 4 [(0, .ref a0), (2, .int xn2), (3, .int xn3)] → kp_H D cy A Sn s.heap H locs → kp_le S Sn → kp_is Sn a0 12 → wX12_behindBlanks_L4 a0 x1  post n4 xn2 xn3 Sn → W p l e { frames := 0, cells := 0, slots := 0, locals := 0 } s m ([.ref a0, .int x1] : List Value).toArray below meth c H locs 0 0 (MQ below (kp_Qi D cy A S post) ([.ref a0, .int x1] : List Value).toArray s 0 0 A) (F0 m 4 ls []) := by
    intro n4
    induction n4 with
    | zero => intro xn2 xn3 Sn H locs ls hl h hle f_a0 hw; exact hw.elim
    | succ n4 ih4 =>
      have j80 : ∀ (xn2 : Int32) (xt0 : Int32) (Sn : kp_S) (H : Heap) (locs : List Loc) (ls : Array Slot), lv_has ls 4 [(0, .ref a0), (2, .int xn2)] → kp_H D cy A Sn s.heap H locs → kp_le S Sn → kp_is Sn a0 12 → wX12_behindBlanks_b80 a0 x1 xn2 xt0 (fun xn2_ xn3_ S_ => wX12_behindBlanks_L4 a0 x1  post n4 xn2_ xn3_ S_) Sn post → W p l e { frames := 0, cells := 0, slots := 0, locals := 0 } s m ([.ref a0, .int x1] : List Value).toArray below meth c H locs 0 0 (MQ below (kp_Qi D cy A S post) ([.ref a0, .int x1] : List Value).toArray s 0 0 A) (F0 m 80 ls [.int xt0]) := by
        intro xn2 xt0 Sn H locs ls hl h hle f_a0 hw
        unfold wX12_behindBlanks_b80 at hw
        refine lv_istore_n (lv' := [(3, .int xt0), (0, .ref a0), (2, .int xn2)]) X.1 X.2.1 dX12_behindBlanks_80 rfl hl (by decide) rfl (fun ls hl => ?_)
        obtain ⟨y2001, e_y2001⟩ : ∃ y : Int32, y = xn2 + 1 := ⟨_, rfl⟩
        have hw := hw y2001 e_y2001
        refine lv_iinc (v := y2001) (lv' := [(2, .int y2001), (3, .int xt0), (0, .ref a0)]) X.1 X.2.1 dX12_behindBlanks_81 hl (k := 2) rfl (by rw [e_y2001]; rfl) (by decide) rfl (fun ls hl => ?_)
        refine lv_goto (tgt := 4) X.1 X.2.1 dX12_behindBlanks_84 (by decide) ?_
        exact ih4 y2001 xt0 Sn H locs ls (lv_sub hl [2, 0, 1] rfl) h hle f_a0 hw
      have j79 : ∀ (xn2 : Int32) (Sn : kp_S) (H : Heap) (locs : List Loc) (ls : Array Slot), lv_has ls 4 [(0, .ref a0), (2, .int xn2)] → kp_H D cy A Sn s.heap H locs → kp_le S Sn → kp_is Sn a0 12 → wX12_behindBlanks_b79 a0 x1 xn2 (fun xn2_ xn3_ S_ => wX12_behindBlanks_L4 a0 x1  post n4 xn2_ xn3_ S_) Sn post → W p l e { frames := 0, cells := 0, slots := 0, locals := 0 } s m ([.ref a0, .int x1] : List Value).toArray below meth c H locs 0 0 (MQ below (kp_Qi D cy A S post) ([.ref a0, .int x1] : List Value).toArray s 0 0 A) (F0 m 79 ls []) := by
        intro xn2 Sn H locs ls hl h hle f_a0 hw
        unfold wX12_behindBlanks_b79 at hw
        refine lv_iconst (v := 0) X.1 X.2.1 dX12_behindBlanks_79 (by decide) ?_
        exact j80 xn2 0 Sn H locs ls (lv_sub hl [0, 1] rfl) h hle f_a0 hw
      have j75 : ∀ (xn2 : Int32) (Sn : kp_S) (H : Heap) (locs : List Loc) (ls : Array Slot), lv_has ls 4 [(0, .ref a0), (2, .int xn2)] → kp_H D cy A Sn s.heap H locs → kp_le S Sn → kp_is Sn a0 12 → wX12_behindBlanks_b75 a0 x1 xn2 (fun xn2_ xn3_ S_ => wX12_behindBlanks_L4 a0 x1  post n4 xn2_ xn3_ S_) Sn post → W p l e { frames := 0, cells := 0, slots := 0, locals := 0 } s m ([.ref a0, .int x1] : List Value).toArray below meth c H locs 0 0 (MQ below (kp_Qi D cy A S post) ([.ref a0, .int x1] : List Value).toArray s 0 0 A) (F0 m 75 ls []) := by
        intro xn2 Sn H locs ls hl h hle f_a0 hw
        unfold wX12_behindBlanks_b75 at hw
        refine lv_iconst (v := 1) X.1 X.2.1 dX12_behindBlanks_75 (by decide) ?_
        refine lv_goto (tgt := 80) X.1 X.2.1 dX12_behindBlanks_76 (by decide) ?_
        exact j80 xn2 1 Sn H locs ls (lv_sub hl [0, 1] rfl) h hle f_a0 hw
      have j49 : ∀ (xn2 : Int32) (xn3 : Int32) (Sn : kp_S) (H : Heap) (locs : List Loc) (ls : Array Slot), lv_has ls 4 [(0, .ref a0), (2, .int xn2), (3, .int xn3)] → kp_H D cy A Sn s.heap H locs → kp_le S Sn → kp_is Sn a0 12 → wX12_behindBlanks_b49 a0 x1 xn2 xn3 (fun xn2_ xn3_ S_ => wX12_behindBlanks_L4 a0 x1  post n4 xn2_ xn3_ S_) Sn post → W p l e { frames := 0, cells := 0, slots := 0, locals := 0 } s m ([.ref a0, .int x1] : List Value).toArray below meth c H locs 0 0 (MQ below (kp_Qi D cy A S post) ([.ref a0, .int x1] : List Value).toArray s 0 0 A) (F0 m 49 ls []) := by
        intro xn2 xn3 Sn H locs ls hl h hle f_a0 hw
        unfold wX12_behindBlanks_b49 at hw
        refine lv_aload_n X.1 X.2.1 dX12_behindBlanks_49 rfl (lv_at hl 0 rfl) ?_
        obtain ⟨b5001, e_b5001, hw⟩ := hw
        have f_b5001 := h.2.2.2.rf (c := 12) (k := 1) f_a0 (by decide) (by decide) e_b5001 (t := 14) rfl
        refine kp_get X h f_a0 ff_12_23.l (v := .ref b5001) (congrArg va_rf e_b5001) dX12_behindBlanks_50 ?_
        refine lv_iload_n X.1 X.2.1 dX12_behindBlanks_53 rfl (lv_at hl 1 rfl) ?_
        obtain ⟨hi, hw⟩ := hw
        refine kp_iald X h f_b5001 hi dX12_behindBlanks_54 ?_
        refine lv_bipush (v := 10) X.1 X.2.1 dX12_behindBlanks_55 (by decide) ?_
        refine lv_icmp_eq (tgt := 79) X.1 X.2.1 dX12_behindBlanks_57 (by decide) (fun c5004 => ?_) (fun c5004 => ?_)
        · have hw := hw.1 c5004
          exact j79 xn2 Sn H locs ls (lv_sub hl [0, 1] rfl) h hle f_a0 hw
        · have hw := hw.2 c5004
          refine lv_iload_n X.1 X.2.1 dX12_behindBlanks_60 rfl (lv_at hl 2 rfl) ?_
          refine lv_if_ne (tgt := 75) X.1 X.2.1 dX12_behindBlanks_61 (by decide) (fun c5003 => ?_) (fun c5003 => ?_)
          · have hw := hw.1 c5003
            exact j75 xn2 Sn H locs ls (lv_sub hl [0, 1] rfl) h hle f_a0 hw
          · have hw := hw.2 c5003
            refine lv_aload_n X.1 X.2.1 dX12_behindBlanks_64 rfl (lv_at hl 0 rfl) ?_
            refine kp_get X h f_a0 ff_12_23.l (v := .ref b5001) (congrArg va_rf e_b5001) dX12_behindBlanks_65 ?_
            refine lv_iload_n X.1 X.2.1 dX12_behindBlanks_68 rfl (lv_at hl 1 rfl) ?_
            obtain ⟨hi, hw⟩ := hw
            refine kp_iald X h f_b5001 hi dX12_behindBlanks_69 ?_
            refine lv_bipush (v := 35) X.1 X.2.1 dX12_behindBlanks_70 (by decide) ?_
            refine lv_icmp_ne (tgt := 79) X.1 X.2.1 dX12_behindBlanks_72 (by decide) (fun c5002 => ?_) (fun c5002 => ?_)
            · have hw := hw.1 c5002
              exact j79 xn2 Sn H locs ls (lv_sub hl [0, 1] rfl) h hle f_a0 hw
            · have hw := hw.2 c5002
              exact j75 xn2 Sn H locs ls (lv_sub hl [0, 1] rfl) h hle f_a0 hw
      intro xn2 xn3 Sn H locs ls hl h hle f_a0 hw
      unfold wX12_behindBlanks_L4 at hw
      refine lv_iload_n X.1 X.2.1 dX12_behindBlanks_4 rfl (lv_at hl 1 rfl) ?_
      refine lv_aload_n X.1 X.2.1 dX12_behindBlanks_5 rfl (lv_at hl 0 rfl) ?_
      refine kp_get X h f_a0 fp_12_330.l (v := .int (kp_I Sn 2402 a0)) rfl dX12_behindBlanks_6 ?_
      refine lv_icmp_ge (tgt := 87) X.1 X.2.1 dX12_behindBlanks_9 (by decide) (fun c6006 => ?_) (fun c6006 => ?_)
      · have hw := hw.1 c6006
        exact j87 xn2 Sn H locs ls (lv_sub hl [1] rfl) h hle f_a0 hw
      · have hw := hw.2 c6006
        refine lv_iload_n X.1 X.2.1 dX12_behindBlanks_12 rfl (lv_at hl 2 rfl) ?_
        refine lv_if_ne (tgt := 49) X.1 X.2.1 dX12_behindBlanks_13 (by decide) (fun c6005 => ?_) (fun c6005 => ?_)
        · have hw := hw.1 c6005
          exact j49 xn2 xn3 Sn H locs ls (lv_sub hl [0, 1, 2] rfl) h hle f_a0 hw
        · have hw := hw.2 c6005
          refine lv_aload_n X.1 X.2.1 dX12_behindBlanks_16 rfl (lv_at hl 0 rfl) ?_
          obtain ⟨b6001, e_b6001, hw⟩ := hw
          have f_b6001 := h.2.2.2.rf (c := 12) (k := 1) f_a0 (by decide) (by decide) e_b6001 (t := 14) rfl
          refine kp_get X h f_a0 ff_12_23.l (v := .ref b6001) (congrArg va_rf e_b6001) dX12_behindBlanks_17 ?_
          refine lv_iload_n X.1 X.2.1 dX12_behindBlanks_20 rfl (lv_at hl 1 rfl) ?_
          obtain ⟨hi, hw⟩ := hw
          refine kp_iald X h f_b6001 hi dX12_behindBlanks_21 ?_
          refine lv_bipush (v := 10) X.1 X.2.1 dX12_behindBlanks_22 (by decide) ?_
          refine lv_icmp_eq (tgt := 49) X.1 X.2.1 dX12_behindBlanks_24 (by decide) (fun c6004 => ?_) (fun c6004 => ?_)
          · have hw := hw.1 c6004
            exact j49 xn2 xn3 Sn H locs ls (lv_sub hl [0, 1, 2] rfl) h hle f_a0 hw
          · have hw := hw.2 c6004
            refine lv_aload_n X.1 X.2.1 dX12_behindBlanks_27 rfl (lv_at hl 0 rfl) ?_
            refine kp_get X h f_a0 ff_12_23.l (v := .ref b6001) (congrArg va_rf e_b6001) dX12_behindBlanks_28 ?_
            refine lv_iload_n X.1 X.2.1 dX12_behindBlanks_31 rfl (lv_at hl 1 rfl) ?_
            obtain ⟨hi, hw⟩ := hw
            refine kp_iald X h f_b6001 hi dX12_behindBlanks_32 ?_
            refine lv_bipush (v := 32) X.1 X.2.1 dX12_behindBlanks_33 (by decide) ?_
            refine lv_icmp_eq (tgt := 49) X.1 X.2.1 dX12_behindBlanks_35 (by decide) (fun c6003 => ?_) (fun c6003 => ?_)
            · have hw := hw.1 c6003
              exact j49 xn2 xn3 Sn H locs ls (lv_sub hl [0, 1, 2] rfl) h hle f_a0 hw
            · have hw := hw.2 c6003
              refine lv_aload_n X.1 X.2.1 dX12_behindBlanks_38 rfl (lv_at hl 0 rfl) ?_
              refine kp_get X h f_a0 ff_12_23.l (v := .ref b6001) (congrArg va_rf e_b6001) dX12_behindBlanks_39 ?_
              refine lv_iload_n X.1 X.2.1 dX12_behindBlanks_42 rfl (lv_at hl 1 rfl) ?_
              obtain ⟨hi, hw⟩ := hw
              refine kp_iald X h f_b6001 hi dX12_behindBlanks_43 ?_
              refine lv_bipush (v := 35) X.1 X.2.1 dX12_behindBlanks_44 (by decide) ?_
              refine lv_icmp_ne (tgt := 87) X.1 X.2.1 dX12_behindBlanks_46 (by decide) (fun c6002 => ?_) (fun c6002 => ?_)
              · have hw := hw.1 c6002
                exact j87 xn2 Sn H locs ls (lv_sub hl [1] rfl) h hle f_a0 hw
              · have hw := hw.2 c6002
                exact j49 xn2 xn3 Sn H locs ls (lv_sub hl [0, 1, 2] rfl) h hle f_a0 hw
  unfold wX12_behindBlanks at hw
  have h : kp_H D cy A S s.heap s.heap [] := h
  revert h
  intro h
  refine lv_iload_n X.1 X.2.1 dX12_behindBlanks_0 rfl (lv_at hl 1 rfl) ?_
  refine lv_istore_n (lv' := [(2, .int x1), (0, .ref a0), (1, .int x1)]) X.1 X.2.1 dX12_behindBlanks_1 rfl hl (by decide) rfl (fun ls hl => ?_)
  refine lv_iconst (v := 0) X.1 X.2.1 dX12_behindBlanks_2 (by decide) ?_
  refine lv_istore_n (lv' := [(3, .int 0), (2, .int x1), (0, .ref a0), (1, .int x1)]) X.1 X.2.1 dX12_behindBlanks_3 rfl hl (by decide) rfl (fun ls hl => ?_)
  obtain ⟨n0, hw⟩ := hw
  exact L4 n0 x1 0 S _ _ ls (lv_sub hl [2, 1, 0] rfl) h hle f_a0 hw
theorem dX12_token_0 : decode cX12_token 0 = .ok (.aload_n 0, 1) := by decide +kernel
theorem dX12_token_1 : decode cX12_token 1 = .ok (.getfield 31, 3) := by decide +kernel
theorem dX12_token_4 : decode cX12_token 4 = .ok (.aload_n 0, 1) := by decide +kernel
theorem dX12_token_5 : decode cX12_token 5 = .ok (.getfield 336, 3) := by decide +kernel
theorem dX12_token_8 : decode cX12_token 8 = .ok (.iload_n 1, 1) := by decide +kernel
theorem dX12_token_9 : decode cX12_token 9 = .ok (.iastore, 1) := by decide +kernel
theorem dX12_token_10 : decode cX12_token 10 = .ok (.aload_n 0, 1) := by decide +kernel
theorem dX12_token_11 : decode cX12_token 11 = .ok (.getfield 34, 3) := by decide +kernel
theorem dX12_token_14 : decode cX12_token 14 = .ok (.aload_n 0, 1) := by decide +kernel
theorem dX12_token_15 : decode cX12_token 15 = .ok (.getfield 336, 3) := by decide +kernel
theorem dX12_token_18 : decode cX12_token 18 = .ok (.iload_n 2, 1) := by decide +kernel
theorem dX12_token_19 : decode cX12_token 19 = .ok (.iastore, 1) := by decide +kernel
theorem dX12_token_20 : decode cX12_token 20 = .ok (.aload_n 0, 1) := by decide +kernel
theorem dX12_token_21 : decode cX12_token 21 = .ok (.getfield 37, 3) := by decide +kernel
theorem dX12_token_24 : decode cX12_token 24 = .ok (.aload_n 0, 1) := by decide +kernel
theorem dX12_token_25 : decode cX12_token 25 = .ok (.getfield 336, 3) := by decide +kernel
theorem dX12_token_28 : decode cX12_token 28 = .ok (.lload_n 3, 1) := by decide +kernel
theorem dX12_token_29 : decode cX12_token 29 = .ok (.lastore, 1) := by decide +kernel
theorem dX12_token_30 : decode cX12_token 30 = .ok (.aload_n 0, 1) := by decide +kernel
theorem dX12_token_31 : decode cX12_token 31 = .ok (.dup, 1) := by decide +kernel
theorem dX12_token_32 : decode cX12_token 32 = .ok (.getfield 336, 3) := by decide +kernel
theorem dX12_token_35 : decode cX12_token 35 = .ok (.iconst 1, 1) := by decide +kernel
theorem dX12_token_36 : decode cX12_token 36 = .ok (.iadd, 1) := by decide +kernel
theorem dX12_token_37 : decode cX12_token 37 = .ok (.putfield 336, 3) := by decide +kernel
theorem dX12_token_40 : decode cX12_token 40 = .ok (.return_, 1) := by decide +kernel
def wX12_token (a0 : Nat) (x1 : Int32) (x2 : Int32) (w3 : Int64) (S : kp_S) (post : kp_S → Prop) : Prop :=
  ∃ b1 : Nat, kp_R S 2404 a0 = some b1 ∧
  vp_in (kp_I S 2407 a0) (kp_N S b1) ∧ ∀ T2 : kp_S, T2 = kp_sA S b1 (upd (kp_A S b1) ((kp_I S 2407 a0).toNatClampNeg) x1) →
  ∃ b3 : Nat, kp_R T2 2405 a0 = some b3 ∧
  vp_in (kp_I T2 2407 a0) (kp_N T2 b3) ∧ ∀ T4 : kp_S, T4 = kp_sA T2 b3 (upd (kp_A T2 b3) ((kp_I T2 2407 a0).toNatClampNeg) x2) →
  ∃ b5 : Nat, kp_R T4 2406 a0 = some b5 ∧
  vp_in (kp_I T4 2407 a0) (kp_N T4 b5) ∧ ∀ T6 : kp_S, T6 = kp_sB T4 b5 (vp_updL (kp_B T4 b5) ((kp_I T4 2407 a0).toNatClampNeg) w3) →
  ∀ T7 : kp_S, T7 = kp_sI T6 2407 a0 ((kp_I T6 2407 a0) + 1) →
  post T7
set_option maxHeartbeats 4000000 in
set_option maxRecDepth 100000 in
theorem c_X12_token (l : Launch) (D : va_G) (cy : Nat → ClassId) (ad : (Nat → Nat) × (Nat → Nat)) (S : kp_S) (a0 : Nat) (x1 : Int32) (x2 : Int32) (w3 : Int64) (post : kp_S → Prop) (hS : kp_ok S) (f_a0 : kp_is S a0 12) (hw : wX12_token a0 x1 x2 w3 S post) : kp_M l yX12_token cX12_token 5 none { frames := 0, cells := 0, slots := 0, locals := 0 } D cy ad S [.ref a0, .int x1, .int x2, .long w3] 0 0 (fun A => kp_Qv D cy A S post) := by
  refine kp_start (own := RX12) (by decide) rfl (Nat.le_of_ble_eq_true rfl) hS ?_
  intro p e s m below meth c A ls X hr hlocks hname h hl
  have hle : kp_le S S := kp_le.rf
  have hl : lv_has ls 5 [(0, .ref a0), (1, .int x1), (2, .int x2), (3, .long w3)] := hl
  unfold wX12_token at hw
  have h : kp_H D cy A S s.heap s.heap [] := h
  revert h
  intro h
  refine lv_aload_n X.1 X.2.1 dX12_token_0 rfl (lv_at hl 0 rfl) ?_
  obtain ⟨b1, e_b1, hw⟩ := hw
  have f_b1 := h.2.2.2.rf (c := 12) (k := 4) f_a0 (by decide) (by decide) e_b1 (t := 14) rfl
  refine kp_get X h f_a0 ff_12_31.l (v := .ref b1) (congrArg va_rf e_b1) dX12_token_1 ?_
  refine lv_aload_n X.1 X.2.1 dX12_token_4 rfl (lv_at hl 0 rfl) ?_
  refine kp_get X h f_a0 fp_12_336.l (v := .int (kp_I S 2407 a0)) rfl dX12_token_5 ?_
  refine lv_iload_n X.1 X.2.1 dX12_token_8 rfl (lv_at hl 1 rfl) ?_
  obtain ⟨hi, hw⟩ := hw
  refine kp_iast X h f_b1 hi dX12_token_9 (fun T2 e_T2 l_T2 H locs h => ?_)
  have hw := hw T2 e_T2
  have f_a0 := l_T2.is f_a0
  have f_b1 := l_T2.is f_b1
  have hle := hle.tr l_T2
  have e_b1 : kp_R T2 2404 a0 = some b1 := by rw [e_T2]; exact e_b1
  refine lv_aload_n X.1 X.2.1 dX12_token_10 rfl (lv_at hl 0 rfl) ?_
  obtain ⟨b3, e_b3, hw⟩ := hw
  have f_b3 := h.2.2.2.rf (c := 12) (k := 5) f_a0 (by decide) (by decide) e_b3 (t := 14) rfl
  refine kp_get X h f_a0 ff_12_34.l (v := .ref b3) (congrArg va_rf e_b3) dX12_token_11 ?_
  refine lv_aload_n X.1 X.2.1 dX12_token_14 rfl (lv_at hl 0 rfl) ?_
  refine kp_get X h f_a0 fp_12_336.l (v := .int (kp_I T2 2407 a0)) rfl dX12_token_15 ?_
  refine lv_iload_n X.1 X.2.1 dX12_token_18 rfl (lv_at hl 2 rfl) ?_
  obtain ⟨hi, hw⟩ := hw
  refine kp_iast X h f_b3 hi dX12_token_19 (fun T4 e_T4 l_T4 H locs h => ?_)
  have hw := hw T4 e_T4
  have f_a0 := l_T4.is f_a0
  have f_b1 := l_T4.is f_b1
  have f_b3 := l_T4.is f_b3
  have hle := hle.tr l_T4
  have e_b1 : kp_R T4 2404 a0 = some b1 := by rw [e_T4]; exact e_b1
  have e_b3 : kp_R T4 2405 a0 = some b3 := by rw [e_T4]; exact e_b3
  refine lv_aload_n X.1 X.2.1 dX12_token_20 rfl (lv_at hl 0 rfl) ?_
  obtain ⟨b5, e_b5, hw⟩ := hw
  have f_b5 := h.2.2.2.rf (c := 12) (k := 6) f_a0 (by decide) (by decide) e_b5 (t := 15) rfl
  refine kp_get X h f_a0 ff_12_37.l (v := .ref b5) (congrArg va_rf e_b5) dX12_token_21 ?_
  refine lv_aload_n X.1 X.2.1 dX12_token_24 rfl (lv_at hl 0 rfl) ?_
  refine kp_get X h f_a0 fp_12_336.l (v := .int (kp_I T4 2407 a0)) rfl dX12_token_25 ?_
  refine lv_lload_n X.1 X.2.1 dX12_token_28 rfl (lv_at hl 3 rfl) ?_
  obtain ⟨hi, hw⟩ := hw
  refine kp_last X h f_b5 hi dX12_token_29 (fun T6 e_T6 l_T6 H locs h => ?_)
  have hw := hw T6 e_T6
  have f_a0 := l_T6.is f_a0
  have f_b1 := l_T6.is f_b1
  have f_b3 := l_T6.is f_b3
  have f_b5 := l_T6.is f_b5
  have hle := hle.tr l_T6
  have e_b1 : kp_R T6 2404 a0 = some b1 := by rw [e_T6]; exact e_b1
  have e_b3 : kp_R T6 2405 a0 = some b3 := by rw [e_T6]; exact e_b3
  have e_b5 : kp_R T6 2406 a0 = some b5 := by rw [e_T6]; exact e_b5
  refine lv_aload_n X.1 X.2.1 dX12_token_30 rfl (lv_at hl 0 rfl) ?_
  refine lv_dup X.1 X.2.1 dX12_token_31 rfl ?_
  refine kp_get X h f_a0 fp_12_336.l (v := .int (kp_I T6 2407 a0)) rfl dX12_token_32 ?_
  refine lv_iconst (v := 1) X.1 X.2.1 dX12_token_35 (by decide) ?_
  refine lv_iadd X.1 X.2.1 dX12_token_36 ?_
  refine kp_putI X h f_a0 fp_12_336 rfl ⟨rfl, rfl⟩ dX12_token_37 (fun T7 e_T7 l_T7 H locs h => ?_)
  have hw := hw T7 e_T7
  have f_a0 := l_T7.is f_a0
  have f_b1 := l_T7.is f_b1
  have f_b3 := l_T7.is f_b3
  have f_b5 := l_T7.is f_b5
  have hle := hle.tr l_T7
  have e_b1 : kp_R T7 2404 a0 = some b1 := by rw [e_T7]; exact e_b1
  have e_b3 : kp_R T7 2405 a0 = some b3 := by rw [e_T7]; exact e_b3
  have e_b5 : kp_R T7 2406 a0 = some b5 := by rw [e_T7]; exact e_b5
  exact kp_retv X hr hlocks h hle hw dX12_token_40
theorem dX12_scanName_0 : decode cX12_scanName 0 = .ok (.iload_n 1, 1) := by decide +kernel
theorem dX12_scanName_1 : decode cX12_scanName 1 = .ok (.istore_n 2, 1) := by decide +kernel
theorem dX12_scanName_2 : decode cX12_scanName 2 = .ok (.lconst 0, 1) := by decide +kernel
theorem dX12_scanName_3 : decode cX12_scanName 3 = .ok (.lstore_n 3, 1) := by decide +kernel
theorem dX12_scanName_4 : decode cX12_scanName 4 = .ok (.aload_n 0, 1) := by decide +kernel
theorem dX12_scanName_5 : decode cX12_scanName 5 = .ok (.iload_n 2, 1) := by decide +kernel
theorem dX12_scanName_6 : decode cX12_scanName 6 = .ok (.invokevirtual 363, 3) := by decide +kernel
theorem dX12_scanName_9 : decode cX12_scanName 9 = .ok (.invokestatic 343, 3) := by decide +kernel
theorem dX12_scanName_12 : decode cX12_scanName 12 = .ok (.ifCond .ne 14, 3) := by decide +kernel
theorem dX12_scanName_15 : decode cX12_scanName 15 = .ok (.aload_n 0, 1) := by decide +kernel
theorem dX12_scanName_16 : decode cX12_scanName 16 = .ok (.iload_n 2, 1) := by decide +kernel
theorem dX12_scanName_17 : decode cX12_scanName 17 = .ok (.invokevirtual 363, 3) := by decide +kernel
theorem dX12_scanName_20 : decode cX12_scanName 20 = .ok (.invokestatic 350, 3) := by decide +kernel
theorem dX12_scanName_23 : decode cX12_scanName 23 = .ok (.ifCond .eq 34, 3) := by decide +kernel
theorem dX12_scanName_26 : decode cX12_scanName 26 = .ok (.iload_n 2, 1) := by decide +kernel
theorem dX12_scanName_27 : decode cX12_scanName 27 = .ok (.iload_n 1, 1) := by decide +kernel
theorem dX12_scanName_28 : decode cX12_scanName 28 = .ok (.isub, 1) := by decide +kernel
theorem dX12_scanName_29 : decode cX12_scanName 29 = .ok (.bipush 8, 2) := by decide +kernel
theorem dX12_scanName_31 : decode cX12_scanName 31 = .ok (.if_icmp .ge 18, 3) := by decide +kernel
theorem dX12_scanName_34 : decode cX12_scanName 34 = .ok (.lload_n 3, 1) := by decide +kernel
theorem dX12_scanName_35 : decode cX12_scanName 35 = .ok (.bipush 8, 2) := by decide +kernel
theorem dX12_scanName_37 : decode cX12_scanName 37 = .ok (.lshl, 1) := by decide +kernel
theorem dX12_scanName_38 : decode cX12_scanName 38 = .ok (.aload_n 0, 1) := by decide +kernel
theorem dX12_scanName_39 : decode cX12_scanName 39 = .ok (.getfield 23, 3) := by decide +kernel
theorem dX12_scanName_42 : decode cX12_scanName 42 = .ok (.iload_n 2, 1) := by decide +kernel
theorem dX12_scanName_43 : decode cX12_scanName 43 = .ok (.iaload, 1) := by decide +kernel
theorem dX12_scanName_44 : decode cX12_scanName 44 = .ok (.i2l, 1) := by decide +kernel
theorem dX12_scanName_45 : decode cX12_scanName 45 = .ok (.lor, 1) := by decide +kernel
theorem dX12_scanName_46 : decode cX12_scanName 46 = .ok (.goto 4, 3) := by decide +kernel
theorem dX12_scanName_49 : decode cX12_scanName 49 = .ok (.lload_n 3, 1) := by decide +kernel
theorem dX12_scanName_50 : decode cX12_scanName 50 = .ok (.lstore_n 3, 1) := by decide +kernel
theorem dX12_scanName_51 : decode cX12_scanName 51 = .ok (.iinc 2 1, 3) := by decide +kernel
theorem dX12_scanName_54 : decode cX12_scanName 54 = .ok (.goto (-50), 3) := by decide +kernel
theorem dX12_scanName_57 : decode cX12_scanName 57 = .ok (.iload_n 2, 1) := by decide +kernel
theorem dX12_scanName_58 : decode cX12_scanName 58 = .ok (.iload_n 1, 1) := by decide +kernel
theorem dX12_scanName_59 : decode cX12_scanName 59 = .ok (.isub, 1) := by decide +kernel
theorem dX12_scanName_60 : decode cX12_scanName 60 = .ok (.bipush 8, 2) := by decide +kernel
theorem dX12_scanName_62 : decode cX12_scanName 62 = .ok (.if_icmp .le 7, 3) := by decide +kernel
theorem dX12_scanName_65 : decode cX12_scanName 65 = .ok (.iconst 1, 1) := by decide +kernel
theorem dX12_scanName_66 : decode cX12_scanName 66 = .ok (.goto 4, 3) := by decide +kernel
theorem dX12_scanName_69 : decode cX12_scanName 69 = .ok (.iconst 2, 1) := by decide +kernel
theorem dX12_scanName_70 : decode cX12_scanName 70 = .ok (.istore 5, 2) := by decide +kernel
theorem dX12_scanName_72 : decode cX12_scanName 72 = .ok (.bipush 10, 2) := by decide +kernel
theorem dX12_scanName_74 : decode cX12_scanName 74 = .ok (.istore 6, 2) := by decide +kernel
theorem dX12_scanName_76 : decode cX12_scanName 76 = .ok (.iload 6, 2) := by decide +kernel
theorem dX12_scanName_78 : decode cX12_scanName 78 = .ok (.bipush 49, 2) := by decide +kernel
theorem dX12_scanName_80 : decode cX12_scanName 80 = .ok (.if_icmp .gt 36, 3) := by decide +kernel
theorem dX12_scanName_83 : decode cX12_scanName 83 = .ok (.iload 5, 2) := by decide +kernel
theorem dX12_scanName_85 : decode cX12_scanName 85 = .ok (.iconst 2, 1) := by decide +kernel
theorem dX12_scanName_86 : decode cX12_scanName 86 = .ok (.if_icmp .ne 20, 3) := by decide +kernel
theorem dX12_scanName_89 : decode cX12_scanName 89 = .ok (.aload_n 0, 1) := by decide +kernel
theorem dX12_scanName_90 : decode cX12_scanName 90 = .ok (.getfield 27, 3) := by decide +kernel
theorem dX12_scanName_93 : decode cX12_scanName 93 = .ok (.iload 6, 2) := by decide +kernel
theorem dX12_scanName_95 : decode cX12_scanName 95 = .ok (.laload, 1) := by decide +kernel
theorem dX12_scanName_96 : decode cX12_scanName 96 = .ok (.lload_n 3, 1) := by decide +kernel
theorem dX12_scanName_97 : decode cX12_scanName 97 = .ok (.lcmp, 1) := by decide +kernel
theorem dX12_scanName_98 : decode cX12_scanName 98 = .ok (.ifCond .ne 8, 3) := by decide +kernel
theorem dX12_scanName_101 : decode cX12_scanName 101 = .ok (.iload 6, 2) := by decide +kernel
theorem dX12_scanName_103 : decode cX12_scanName 103 = .ok (.goto 5, 3) := by decide +kernel
theorem dX12_scanName_106 : decode cX12_scanName 106 = .ok (.iload 5, 2) := by decide +kernel
theorem dX12_scanName_108 : decode cX12_scanName 108 = .ok (.istore 5, 2) := by decide +kernel
theorem dX12_scanName_110 : decode cX12_scanName 110 = .ok (.iinc 6 1, 3) := by decide +kernel
theorem dX12_scanName_113 : decode cX12_scanName 113 = .ok (.goto (-37), 3) := by decide +kernel
theorem dX12_scanName_116 : decode cX12_scanName 116 = .ok (.aload_n 0, 1) := by decide +kernel
theorem dX12_scanName_117 : decode cX12_scanName 117 = .ok (.iload 5, 2) := by decide +kernel
theorem dX12_scanName_119 : decode cX12_scanName 119 = .ok (.iload_n 1, 1) := by decide +kernel
theorem dX12_scanName_120 : decode cX12_scanName 120 = .ok (.lload_n 3, 1) := by decide +kernel
theorem dX12_scanName_121 : decode cX12_scanName 121 = .ok (.invokevirtual 359, 3) := by decide +kernel
theorem dX12_scanName_124 : decode cX12_scanName 124 = .ok (.iload_n 2, 1) := by decide +kernel
theorem dX12_scanName_125 : decode cX12_scanName 125 = .ok (.ireturn, 1) := by decide +kernel
def wX12_scanName_b50 (a0 : Nat) (x1 : Int32) (xn2 : Int32) (wt0 : Int64) (K4 : Int32 → Int64 → kp_S → Prop) (Sn : kp_S) (post : Int32 → kp_S → Prop) : Prop :=
  ∀ y1001 : Int32, y1001 = xn2 + 1 →
  K4 y1001 wt0 Sn
def wX12_scanName_b26 (a0 : Nat) (x1 : Int32) (xn2 : Int32) (wn3 : Int64) (K4 : Int32 → Int64 → kp_S → Prop) (Sn : kp_S) (post : Int32 → kp_S → Prop) : Prop :=
  ((8 ≤ (xn2 - x1) →
  wX12_scanName_b50 a0 x1 xn2 wn3 K4 Sn post) ∧ (¬ 8 ≤ (xn2 - x1) →
  ∃ b2001 : Nat, kp_R Sn 2401 a0 = some b2001 ∧
  vp_in xn2 (kp_N Sn b2001) ∧
  wX12_scanName_b50 a0 x1 xn2 (((wn3 : Int64) <<< ((8 : Int32).toInt64 &&& 63)) ||| ((kp_A Sn b2001 xn2.toNatClampNeg : Int32).toInt64)) K4 Sn post))
def wX12_scanName_b108 (a0 : Nat) (x1 : Int32) (xn2 : Int32) (wn3 : Int64) (xn6 : Int32) (xt0 : Int32) (K76 : Int32 → Int64 → Int32 → Int32 → kp_S → Prop) (Sn : kp_S) (post : Int32 → kp_S → Prop) : Prop :=
  ∀ y3001 : Int32, y3001 = xn6 + 1 →
  K76 xn2 wn3 xt0 y3001 Sn
def wX12_scanName_b106 (a0 : Nat) (x1 : Int32) (xn2 : Int32) (wn3 : Int64) (xn5 : Int32) (xn6 : Int32) (K76 : Int32 → Int64 → Int32 → Int32 → kp_S → Prop) (Sn : kp_S) (post : Int32 → kp_S → Prop) : Prop :=
  wX12_scanName_b108 a0 x1 xn2 wn3 xn6 xn5 K76 Sn post
def wX12_scanName_L76 (a0 : Nat) (x1 : Int32)  (post : Int32 → kp_S → Prop) : Nat → Int32 → Int64 → Int32 → Int32 → kp_S → Prop
  | 0, _, _, _, _, _ => False
  | n + 1, xn2, wn3, xn5, xn6, Sn =>
  ((49 < xn6 →
  wX12_token a0 xn5 x1 wn3 Sn (fun T5001 =>
  post xn2 T5001)) ∧ (¬ 49 < xn6 →
  ((¬ xn5 = 2 →
  wX12_scanName_b106 a0 x1 xn2 wn3 xn5 xn6 (fun xn2_ wn3_ xn5_ xn6_ S_ => wX12_scanName_L76 a0 x1  post n xn2_ wn3_ xn5_ xn6_ S_) Sn post) ∧ (xn5 = 2 →
  ∃ b5002 : Nat, kp_R Sn 2403 a0 = some b5002 ∧
  vp_in xn6 (kp_N Sn b5002) ∧
  ((¬ (lg_cmp (kp_B Sn b5002 xn6.toNatClampNeg) wn3) = 0 →
  wX12_scanName_b106 a0 x1 xn2 wn3 xn5 xn6 (fun xn2_ wn3_ xn5_ xn6_ S_ => wX12_scanName_L76 a0 x1  post n xn2_ wn3_ xn5_ xn6_ S_) Sn post) ∧ ((lg_cmp (kp_B Sn b5002 xn6.toNatClampNeg) wn3) = 0 →
  wX12_scanName_b108 a0 x1 xn2 wn3 xn6 xn6 (fun xn2_ wn3_ xn5_ xn6_ S_ => wX12_scanName_L76 a0 x1  post n xn2_ wn3_ xn5_ xn6_ S_) Sn post))))))
def wX12_scanName_b70 (a0 : Nat) (x1 : Int32) (xn2 : Int32) (wn3 : Int64) (xt0 : Int32)  (Sn : kp_S) (post : Int32 → kp_S → Prop) : Prop :=
  ∃ n0 : Nat, wX12_scanName_L76 a0 x1  post n0 xn2 wn3 xt0 10 Sn
def wX12_scanName_L4 (a0 : Nat) (x1 : Int32)  (post : Int32 → kp_S → Prop) : Nat → Int32 → Int64 → kp_S → Prop
  | 0, _, _, _ => False
  | n + 1, xn2, wn3, Sn =>
  wX12_at a0 xn2 Sn (fun y7002 T7001 =>
  wX12_isLetter y7002 T7001 (fun y7004 T7003 =>
  ((¬ y7004 = 0 →
  wX12_scanName_b26 a0 x1 xn2 wn3 (fun xn2_ wn3_ S_ => wX12_scanName_L4 a0 x1  post n xn2_ wn3_ S_) T7003 post) ∧ (y7004 = 0 →
  wX12_at a0 xn2 T7003 (fun y7006 T7005 =>
  wX12_isDigit y7006 T7005 (fun y7008 T7007 =>
  ((y7008 = 0 →
  (((xn2 - x1) ≤ 8 →
  wX12_scanName_b70 a0 x1 xn2 wn3 2  T7007 post) ∧ (¬ (xn2 - x1) ≤ 8 →
  wX12_scanName_b70 a0 x1 xn2 wn3 1  T7007 post))) ∧ (¬ y7008 = 0 →
  wX12_scanName_b26 a0 x1 xn2 wn3 (fun xn2_ wn3_ S_ => wX12_scanName_L4 a0 x1  post n xn2_ wn3_ S_) T7007 post))))))))
def wX12_scanName (a0 : Nat) (x1 : Int32) (S : kp_S) (post : Int32 → kp_S → Prop) : Prop :=
  ∃ n0 : Nat, wX12_scanName_L4 a0 x1  post n0 x1 0 S
set_option maxHeartbeats 4000000 in
set_option maxRecDepth 100000 in
theorem c_X12_scanName (l : Launch) (D : va_G) (cy : Nat → ClassId) (ad : (Nat → Nat) × (Nat → Nat)) (S : kp_S) (a0 : Nat) (x1 : Int32) (post : Int32 → kp_S → Prop) (hS : kp_ok S) (f_a0 : kp_is S a0 12) (hw : wX12_scanName a0 x1 S post) : kp_M l yX12_scanName cX12_scanName 7 (some .int) { frames := 1, cells := 0, slots := 0, locals := 24 } D cy ad S [.ref a0, .int x1] 0 0 (fun A => kp_Qi D cy A S post) := by
  refine kp_start (own := RX12) (by decide) rfl (Nat.le_of_ble_eq_true rfl) hS ?_
  intro p e s m below meth c A ls X hr hlocks hname h hl
  have hle : kp_le S S := kp_le.rf
  have hl : lv_has ls 7 [(0, .ref a0), (1, .int x1)] := hl
  have L76 : ∀ n76 : Nat, ∀ (xn2 : Int32) (wn3 : Int64) (xn5 : Int32) (xn6 : Int32) (Sn : kp_S) (H : Heap) (locs : List Loc) (ls : Array Slot), lv_has ls 7 [(0, .ref a0), (1, .int x1), (2, .int xn2), (3, .long wn3), (5, .int xn5), (6, .int xn6)] → kp_H D cy A Sn s.heap H locs → kp_le S Sn → kp_is Sn a0 12 → wX12_scanName_L76 a0 x1  post n76 xn2 wn3 xn5 xn6 Sn → W p l e { frames := 1, cells := 0, slots := 0, locals := 24 } s m ([.ref a0, .int x1] : List Value).toArray below meth c H locs 0 0 (MQ below (kp_Qi D cy A S post) ([.ref a0, .int x1] : List Value).toArray s 0 0 A) (F0 m 76 ls []) := by
    intro n76
    induction n76 with
    | zero => intro xn2 wn3 xn5 xn6 Sn H locs ls hl h hle f_a0 hw; exact hw.elim
    | succ n76 ih76 =>
      have j108 : ∀ (xn2 : Int32) (wn3 : Int64) (xn6 : Int32) (xt0 : Int32) (Sn : kp_S) (H : Heap) (locs : List Loc) (ls : Array Slot), lv_has ls 7 [(0, .ref a0), (1, .int x1), (2, .int xn2), (3, .long wn3), (6, .int xn6)] → kp_H D cy A Sn s.heap H locs → kp_le S Sn → kp_is Sn a0 12 → wX12_scanName_b108 a0 x1 xn2 wn3 xn6 xt0 (fun xn2_ wn3_ xn5_ xn6_ S_ => wX12_scanName_L76 a0 x1  post n76 xn2_ wn3_ xn5_ xn6_ S_) Sn post → W p l e { frames := 1, cells := 0, slots := 0, locals := 24 } s m ([.ref a0, .int x1] : List Value).toArray below meth c H locs 0 0 (MQ below (kp_Qi D cy A S post) ([.ref a0, .int x1] : List Value).toArray s 0 0 A) (F0 m 108 ls [.int xt0]) := by
        intro xn2 wn3 xn6 xt0 Sn H locs ls hl h hle f_a0 hw
        unfold wX12_scanName_b108 at hw
        refine lv_istore (lv' := [(5, .int xt0), (0, .ref a0), (1, .int x1), (2, .int xn2), (3, .long wn3), (6, .int xn6)]) X.1 X.2.1 dX12_scanName_108 hl (by decide) rfl (fun ls hl => ?_)
        obtain ⟨y3001, e_y3001⟩ : ∃ y : Int32, y = xn6 + 1 := ⟨_, rfl⟩
        have hw := hw y3001 e_y3001
        refine lv_iinc (v := y3001) (lv' := [(6, .int y3001), (5, .int xt0), (0, .ref a0), (1, .int x1), (2, .int xn2), (3, .long wn3)]) X.1 X.2.1 dX12_scanName_110 hl (k := 5) rfl (by rw [e_y3001]; rfl) (by decide) rfl (fun ls hl => ?_)
        refine lv_goto (tgt := 76) X.1 X.2.1 dX12_scanName_113 (by decide) ?_
        exact ih76 xn2 wn3 xt0 y3001 Sn H locs ls (lv_sub hl [2, 3, 4, 5, 1, 0] rfl) h hle f_a0 hw
      have j106 : ∀ (xn2 : Int32) (wn3 : Int64) (xn5 : Int32) (xn6 : Int32) (Sn : kp_S) (H : Heap) (locs : List Loc) (ls : Array Slot), lv_has ls 7 [(0, .ref a0), (1, .int x1), (2, .int xn2), (3, .long wn3), (5, .int xn5), (6, .int xn6)] → kp_H D cy A Sn s.heap H locs → kp_le S Sn → kp_is Sn a0 12 → wX12_scanName_b106 a0 x1 xn2 wn3 xn5 xn6 (fun xn2_ wn3_ xn5_ xn6_ S_ => wX12_scanName_L76 a0 x1  post n76 xn2_ wn3_ xn5_ xn6_ S_) Sn post → W p l e { frames := 1, cells := 0, slots := 0, locals := 24 } s m ([.ref a0, .int x1] : List Value).toArray below meth c H locs 0 0 (MQ below (kp_Qi D cy A S post) ([.ref a0, .int x1] : List Value).toArray s 0 0 A) (F0 m 106 ls []) := by
        intro xn2 wn3 xn5 xn6 Sn H locs ls hl h hle f_a0 hw
        unfold wX12_scanName_b106 at hw
        refine lv_iload X.1 X.2.1 dX12_scanName_106 (lv_at hl 4 rfl) ?_
        exact j108 xn2 wn3 xn6 xn5 Sn H locs ls (lv_sub hl [0, 1, 2, 3, 5] rfl) h hle f_a0 hw
      intro xn2 wn3 xn5 xn6 Sn H locs ls hl h hle f_a0 hw
      unfold wX12_scanName_L76 at hw
      refine lv_iload X.1 X.2.1 dX12_scanName_76 (lv_at hl 5 rfl) ?_
      refine lv_bipush (v := 49) X.1 X.2.1 dX12_scanName_78 (by decide) ?_
      refine lv_icmp_gt (tgt := 116) X.1 X.2.1 dX12_scanName_80 (by decide) (fun c5005 => ?_) (fun c5005 => ?_)
      · have hw := hw.1 c5005
        refine lv_aload_n X.1 X.2.1 dX12_scanName_116 rfl (lv_at hl 0 rfl) ?_
        refine lv_iload X.1 X.2.1 dX12_scanName_117 (lv_at hl 4 rfl) ?_
        refine lv_iload_n X.1 X.2.1 dX12_scanName_119 rfl (lv_at hl 1 rfl) ?_
        refine lv_lload_n X.1 X.2.1 dX12_scanName_120 rfl (lv_at hl 3 rfl) ?_
        refine kp_callv X h (kp_runV (rm := { frames := 0, cells := 0, slots := 0, locals := 0 }) (mc := 0) (ms := 0) (rest := []) (Qc := fun A => kp_Qv D cy A Sn _) X h (c_X12_token l D cy ad Sn a0 xn5 x1 wn3 _ h.2.2.2 f_a0 hw) f_a0 cv_12_359 ⟨by decide, by decide, rfl, rfl, by decide, by decide⟩ rfl hl.1 rfl (Nat.le_of_ble_eq_true rfl) dX12_scanName_121) (fun T5001 hw l_T5001 H locs h => ?_)
        have f_a0 := l_T5001.is f_a0
        have hle := hle.tr l_T5001
        refine lv_iload_n X.1 X.2.1 dX12_scanName_124 rfl (lv_at hl 2 rfl) ?_
        exact kp_reti X hr hlocks h hle rfl hw dX12_scanName_125
      · have hw := hw.2 c5005
        refine lv_iload X.1 X.2.1 dX12_scanName_83 (lv_at hl 4 rfl) ?_
        refine lv_iconst (v := 2) X.1 X.2.1 dX12_scanName_85 (by decide) ?_
        refine lv_icmp_ne (tgt := 106) X.1 X.2.1 dX12_scanName_86 (by decide) (fun c5004 => ?_) (fun c5004 => ?_)
        · have hw := hw.1 c5004
          exact j106 xn2 wn3 xn5 xn6 Sn H locs ls (lv_sub hl [0, 1, 2, 3, 4, 5] rfl) h hle f_a0 hw
        · have hw := hw.2 c5004
          refine lv_aload_n X.1 X.2.1 dX12_scanName_89 rfl (lv_at hl 0 rfl) ?_
          obtain ⟨b5002, e_b5002, hw⟩ := hw
          have f_b5002 := h.2.2.2.rf (c := 12) (k := 3) f_a0 (by decide) (by decide) e_b5002 (t := 15) rfl
          refine kp_get X h f_a0 ff_12_27.l (v := .ref b5002) (congrArg va_rf e_b5002) dX12_scanName_90 ?_
          refine lv_iload X.1 X.2.1 dX12_scanName_93 (lv_at hl 5 rfl) ?_
          obtain ⟨hi, hw⟩ := hw
          refine kp_lald X h f_b5002 hi dX12_scanName_95 ?_
          refine lv_lload_n X.1 X.2.1 dX12_scanName_96 rfl (lv_at hl 3 rfl) ?_
          refine W.lcmp X.1 X.2.1 dX12_scanName_97 ?_
          refine lv_if_ne (tgt := 106) X.1 X.2.1 dX12_scanName_98 (by decide) (fun c5003 => ?_) (fun c5003 => ?_)
          · have hw := hw.1 c5003
            exact j106 xn2 wn3 xn5 xn6 Sn H locs ls (lv_sub hl [0, 1, 2, 3, 4, 5] rfl) h hle f_a0 hw
          · have hw := hw.2 c5003
            refine lv_iload X.1 X.2.1 dX12_scanName_101 (lv_at hl 5 rfl) ?_
            refine lv_goto (tgt := 108) X.1 X.2.1 dX12_scanName_103 (by decide) ?_
            exact j108 xn2 wn3 xn6 xn6 Sn H locs ls (lv_sub hl [0, 1, 2, 3, 5] rfl) h hle f_a0 hw
  have j70 : ∀ (xn2 : Int32) (wn3 : Int64) (xt0 : Int32) (Sn : kp_S) (H : Heap) (locs : List Loc) (ls : Array Slot), lv_has ls 7 [(0, .ref a0), (1, .int x1), (2, .int xn2), (3, .long wn3)] → kp_H D cy A Sn s.heap H locs → kp_le S Sn → kp_is Sn a0 12 → wX12_scanName_b70 a0 x1 xn2 wn3 xt0  Sn post → W p l e { frames := 1, cells := 0, slots := 0, locals := 24 } s m ([.ref a0, .int x1] : List Value).toArray below meth c H locs 0 0 (MQ below (kp_Qi D cy A S post) ([.ref a0, .int x1] : List Value).toArray s 0 0 A) (F0 m 70 ls [.int xt0]) := by
    intro xn2 wn3 xt0 Sn H locs ls hl h hle f_a0 hw
    unfold wX12_scanName_b70 at hw
    refine lv_istore (lv' := [(5, .int xt0), (0, .ref a0), (1, .int x1), (2, .int xn2), (3, .long wn3)]) X.1 X.2.1 dX12_scanName_70 hl (by decide) rfl (fun ls hl => ?_)
    refine lv_bipush (v := 10) X.1 X.2.1 dX12_scanName_72 (by decide) ?_
    refine lv_istore (lv' := [(6, .int 10), (5, .int xt0), (0, .ref a0), (1, .int x1), (2, .int xn2), (3, .long wn3)]) X.1 X.2.1 dX12_scanName_74 hl (by decide) rfl (fun ls hl => ?_)
    obtain ⟨n0, hw⟩ := hw
    exact L76 n0 xn2 wn3 xt0 10 Sn H locs ls (lv_sub hl [2, 3, 4, 5, 1, 0] rfl) h hle f_a0 hw
  have L4 : ∀ n4 : Nat, ∀ (xn2 : Int32) (wn3 : Int64) (Sn : kp_S) (H : Heap) (locs : List Loc) (ls : Array Slot), lv_has ls 7 [(0, .ref a0), (1, .int x1), (2, .int xn2), (3, .long wn3)] → kp_H D cy A Sn s.heap H locs → kp_le S Sn → kp_is Sn a0 12 → wX12_scanName_L4 a0 x1  post n4 xn2 wn3 Sn → W p l e { frames := 1, cells := 0, slots := 0, locals := 24 } s m ([.ref a0, .int x1] : List Value).toArray below meth c H locs 0 0 (MQ below (kp_Qi D cy A S post) ([.ref a0, .int x1] : List Value).toArray s 0 0 A) (F0 m 4 ls []) := by
    intro n4
    induction n4 with
    | zero => intro xn2 wn3 Sn H locs ls hl h hle f_a0 hw; exact hw.elim
    | succ n4 ih4 =>
      have j50 : ∀ (xn2 : Int32) (wt0 : Int64) (Sn : kp_S) (H : Heap) (locs : List Loc) (ls : Array Slot), lv_has ls 7 [(0, .ref a0), (1, .int x1), (2, .int xn2)] → kp_H D cy A Sn s.heap H locs → kp_le S Sn → kp_is Sn a0 12 → wX12_scanName_b50 a0 x1 xn2 wt0 (fun xn2_ wn3_ S_ => wX12_scanName_L4 a0 x1  post n4 xn2_ wn3_ S_) Sn post → W p l e { frames := 1, cells := 0, slots := 0, locals := 24 } s m ([.ref a0, .int x1] : List Value).toArray below meth c H locs 0 0 (MQ below (kp_Qi D cy A S post) ([.ref a0, .int x1] : List Value).toArray s 0 0 A) (F0 m 50 ls [.long wt0]) := by
        intro xn2 wt0 Sn H locs ls hl h hle f_a0 hw
        unfold wX12_scanName_b50 at hw
        refine lv_lstore_n (lv' := [(3, .long wt0), (0, .ref a0), (1, .int x1), (2, .int xn2)]) X.1 X.2.1 dX12_scanName_50 rfl hl (by decide) rfl (fun ls hl => ?_)
        obtain ⟨y1001, e_y1001⟩ : ∃ y : Int32, y = xn2 + 1 := ⟨_, rfl⟩
        have hw := hw y1001 e_y1001
        refine lv_iinc (v := y1001) (lv' := [(2, .int y1001), (3, .long wt0), (0, .ref a0), (1, .int x1)]) X.1 X.2.1 dX12_scanName_51 hl (k := 3) rfl (by rw [e_y1001]; rfl) (by decide) rfl (fun ls hl => ?_)
        refine lv_goto (tgt := 4) X.1 X.2.1 dX12_scanName_54 (by decide) ?_
        exact ih4 y1001 wt0 Sn H locs ls (lv_sub hl [2, 3, 0, 1] rfl) h hle f_a0 hw
      have j26 : ∀ (xn2 : Int32) (wn3 : Int64) (Sn : kp_S) (H : Heap) (locs : List Loc) (ls : Array Slot), lv_has ls 7 [(0, .ref a0), (1, .int x1), (2, .int xn2), (3, .long wn3)] → kp_H D cy A Sn s.heap H locs → kp_le S Sn → kp_is Sn a0 12 → wX12_scanName_b26 a0 x1 xn2 wn3 (fun xn2_ wn3_ S_ => wX12_scanName_L4 a0 x1  post n4 xn2_ wn3_ S_) Sn post → W p l e { frames := 1, cells := 0, slots := 0, locals := 24 } s m ([.ref a0, .int x1] : List Value).toArray below meth c H locs 0 0 (MQ below (kp_Qi D cy A S post) ([.ref a0, .int x1] : List Value).toArray s 0 0 A) (F0 m 26 ls []) := by
        intro xn2 wn3 Sn H locs ls hl h hle f_a0 hw
        unfold wX12_scanName_b26 at hw
        refine lv_iload_n X.1 X.2.1 dX12_scanName_26 rfl (lv_at hl 2 rfl) ?_
        refine lv_iload_n X.1 X.2.1 dX12_scanName_27 rfl (lv_at hl 1 rfl) ?_
        refine lv_isub X.1 X.2.1 dX12_scanName_28 ?_
        refine lv_bipush (v := 8) X.1 X.2.1 dX12_scanName_29 (by decide) ?_
        refine lv_icmp_ge (tgt := 49) X.1 X.2.1 dX12_scanName_31 (by decide) (fun c2002 => ?_) (fun c2002 => ?_)
        · have hw := hw.1 c2002
          refine lv_lload_n X.1 X.2.1 dX12_scanName_49 rfl (lv_at hl 3 rfl) ?_
          exact j50 xn2 wn3 Sn H locs ls (lv_sub hl [0, 1, 2] rfl) h hle f_a0 hw
        · have hw := hw.2 c2002
          refine lv_lload_n X.1 X.2.1 dX12_scanName_34 rfl (lv_at hl 3 rfl) ?_
          refine lv_bipush (v := 8) X.1 X.2.1 dX12_scanName_35 (by decide) ?_
          refine lv_lshl X.1 X.2.1 dX12_scanName_37 rfl ?_
          refine lv_aload_n X.1 X.2.1 dX12_scanName_38 rfl (lv_at hl 0 rfl) ?_
          obtain ⟨b2001, e_b2001, hw⟩ := hw
          have f_b2001 := h.2.2.2.rf (c := 12) (k := 1) f_a0 (by decide) (by decide) e_b2001 (t := 14) rfl
          refine kp_get X h f_a0 ff_12_23.l (v := .ref b2001) (congrArg va_rf e_b2001) dX12_scanName_39 ?_
          refine lv_iload_n X.1 X.2.1 dX12_scanName_42 rfl (lv_at hl 2 rfl) ?_
          obtain ⟨hi, hw⟩ := hw
          refine kp_iald X h f_b2001 hi dX12_scanName_43 ?_
          refine lv_i2l X.1 X.2.1 dX12_scanName_44 rfl ?_
          refine lv_lor X.1 X.2.1 dX12_scanName_45 ?_
          refine lv_goto (tgt := 50) X.1 X.2.1 dX12_scanName_46 (by decide) ?_
          exact j50 xn2 (((wn3 : Int64) <<< ((8 : Int32).toInt64 &&& 63)) ||| ((kp_A Sn b2001 xn2.toNatClampNeg : Int32).toInt64)) Sn H locs ls (lv_sub hl [0, 1, 2] rfl) h hle f_a0 hw
      intro xn2 wn3 Sn H locs ls hl h hle f_a0 hw
      unfold wX12_scanName_L4 at hw
      refine lv_aload_n X.1 X.2.1 dX12_scanName_4 rfl (lv_at hl 0 rfl) ?_
      refine lv_iload_n X.1 X.2.1 dX12_scanName_5 rfl (lv_at hl 2 rfl) ?_
      refine kp_calli X h (kp_runV (rm := { frames := 0, cells := 0, slots := 0, locals := 0 }) (mc := 0) (ms := 0) (rest := []) (Qc := fun A => kp_Qi D cy A Sn _) X h (c_X12_at l D cy ad Sn a0 xn2 _ h.2.2.2 f_a0 hw) f_a0 cv_12_363 ⟨by decide, by decide, rfl, rfl, by decide, by decide⟩ rfl hl.1 rfl (Nat.le_of_ble_eq_true rfl) dX12_scanName_6) (fun y7002 T7001 hw l_T7001 H locs h => ?_)
      have f_a0 := l_T7001.is f_a0
      have hle := hle.tr l_T7001
      refine kp_calli X h (kp_runS (rm := { frames := 0, cells := 0, slots := 0, locals := 0 }) (mc := 0) (ms := 0) (rest := []) (Qc := fun A => kp_Qi D cy A T7001 _) X h (c_X12_isLetter l D cy ad T7001 y7002 _ h.2.2.2  hw) cs_12_343 ⟨by decide, by decide, rfl, rfl, by decide, by decide⟩ rfl hl.1 rfl (Nat.le_of_ble_eq_true rfl) dX12_scanName_9) (fun y7004 T7003 hw l_T7003 H locs h => ?_)
      have f_a0 := l_T7003.is f_a0
      have hle := hle.tr l_T7003
      refine lv_if_ne (tgt := 26) X.1 X.2.1 dX12_scanName_12 (by decide) (fun c7011 => ?_) (fun c7011 => ?_)
      · have hw := hw.1 c7011
        exact j26 xn2 wn3 T7003 H locs ls (lv_sub hl [0, 1, 2, 3] rfl) h hle f_a0 hw
      · have hw := hw.2 c7011
        refine lv_aload_n X.1 X.2.1 dX12_scanName_15 rfl (lv_at hl 0 rfl) ?_
        refine lv_iload_n X.1 X.2.1 dX12_scanName_16 rfl (lv_at hl 2 rfl) ?_
        refine kp_calli X h (kp_runV (rm := { frames := 0, cells := 0, slots := 0, locals := 0 }) (mc := 0) (ms := 0) (rest := []) (Qc := fun A => kp_Qi D cy A T7003 _) X h (c_X12_at l D cy ad T7003 a0 xn2 _ h.2.2.2 f_a0 hw) f_a0 cv_12_363 ⟨by decide, by decide, rfl, rfl, by decide, by decide⟩ rfl hl.1 rfl (Nat.le_of_ble_eq_true rfl) dX12_scanName_17) (fun y7006 T7005 hw l_T7005 H locs h => ?_)
        have f_a0 := l_T7005.is f_a0
        have hle := hle.tr l_T7005
        refine kp_calli X h (kp_runS (rm := { frames := 0, cells := 0, slots := 0, locals := 0 }) (mc := 0) (ms := 0) (rest := []) (Qc := fun A => kp_Qi D cy A T7005 _) X h (c_X12_isDigit l D cy ad T7005 y7006 _ h.2.2.2  hw) cs_12_350 ⟨by decide, by decide, rfl, rfl, by decide, by decide⟩ rfl hl.1 rfl (Nat.le_of_ble_eq_true rfl) dX12_scanName_20) (fun y7008 T7007 hw l_T7007 H locs h => ?_)
        have f_a0 := l_T7007.is f_a0
        have hle := hle.tr l_T7007
        refine lv_if_eq (tgt := 57) X.1 X.2.1 dX12_scanName_23 (by decide) (fun c7010 => ?_) (fun c7010 => ?_)
        · have hw := hw.1 c7010
          refine lv_iload_n X.1 X.2.1 dX12_scanName_57 rfl (lv_at hl 2 rfl) ?_
          refine lv_iload_n X.1 X.2.1 dX12_scanName_58 rfl (lv_at hl 1 rfl) ?_
          refine lv_isub X.1 X.2.1 dX12_scanName_59 ?_
          refine lv_bipush (v := 8) X.1 X.2.1 dX12_scanName_60 (by decide) ?_
          refine lv_icmp_le (tgt := 69) X.1 X.2.1 dX12_scanName_62 (by decide) (fun c7009 => ?_) (fun c7009 => ?_)
          · have hw := hw.1 c7009
            refine lv_iconst (v := 2) X.1 X.2.1 dX12_scanName_69 (by decide) ?_
            exact j70 xn2 wn3 2 T7007 H locs ls (lv_sub hl [0, 1, 2, 3] rfl) h hle f_a0 hw
          · have hw := hw.2 c7009
            refine lv_iconst (v := 1) X.1 X.2.1 dX12_scanName_65 (by decide) ?_
            refine lv_goto (tgt := 70) X.1 X.2.1 dX12_scanName_66 (by decide) ?_
            exact j70 xn2 wn3 1 T7007 H locs ls (lv_sub hl [0, 1, 2, 3] rfl) h hle f_a0 hw
        · have hw := hw.2 c7010
          exact j26 xn2 wn3 T7007 H locs ls (lv_sub hl [0, 1, 2, 3] rfl) h hle f_a0 hw
  unfold wX12_scanName at hw
  have h : kp_H D cy A S s.heap s.heap [] := h
  revert h
  intro h
  refine lv_iload_n X.1 X.2.1 dX12_scanName_0 rfl (lv_at hl 1 rfl) ?_
  refine lv_istore_n (lv' := [(2, .int x1), (0, .ref a0), (1, .int x1)]) X.1 X.2.1 dX12_scanName_1 rfl hl (by decide) rfl (fun ls hl => ?_)
  refine lv_lconst (v := 0) X.1 X.2.1 dX12_scanName_2 (by decide) ?_
  refine lv_lstore_n (lv' := [(3, .long 0), (2, .int x1), (0, .ref a0), (1, .int x1)]) X.1 X.2.1 dX12_scanName_3 rfl hl (by decide) rfl (fun ls hl => ?_)
  obtain ⟨n0, hw⟩ := hw
  exact L4 n0 x1 0 S _ _ ls (lv_sub hl [2, 3, 1, 0] rfl) h hle f_a0 hw
theorem dX12_scanNumber_0 : decode cX12_scanNumber 0 = .ok (.iload_n 1, 1) := by decide +kernel
theorem dX12_scanNumber_1 : decode cX12_scanNumber 1 = .ok (.istore_n 2, 1) := by decide +kernel
theorem dX12_scanNumber_2 : decode cX12_scanNumber 2 = .ok (.lconst 0, 1) := by decide +kernel
theorem dX12_scanNumber_3 : decode cX12_scanNumber 3 = .ok (.lstore_n 3, 1) := by decide +kernel
theorem dX12_scanNumber_4 : decode cX12_scanNumber 4 = .ok (.aload_n 0, 1) := by decide +kernel
theorem dX12_scanNumber_5 : decode cX12_scanNumber 5 = .ok (.iload_n 2, 1) := by decide +kernel
theorem dX12_scanNumber_6 : decode cX12_scanNumber 6 = .ok (.invokevirtual 363, 3) := by decide +kernel
theorem dX12_scanNumber_9 : decode cX12_scanNumber 9 = .ok (.invokestatic 350, 3) := by decide +kernel
theorem dX12_scanNumber_12 : decode cX12_scanNumber 12 = .ok (.ifCond .eq 39, 3) := by decide +kernel
theorem dX12_scanNumber_15 : decode cX12_scanNumber 15 = .ok (.iload_n 2, 1) := by decide +kernel
theorem dX12_scanNumber_16 : decode cX12_scanNumber 16 = .ok (.iload_n 1, 1) := by decide +kernel
theorem dX12_scanNumber_17 : decode cX12_scanNumber 17 = .ok (.isub, 1) := by decide +kernel
theorem dX12_scanNumber_18 : decode cX12_scanNumber 18 = .ok (.bipush 9, 2) := by decide +kernel
theorem dX12_scanNumber_20 : decode cX12_scanNumber 20 = .ok (.if_icmp .ge 23, 3) := by decide +kernel
theorem dX12_scanNumber_23 : decode cX12_scanNumber 23 = .ok (.ldc2_w 366, 3) := by decide +kernel
theorem dX12_scanNumber_26 : decode cX12_scanNumber 26 = .ok (.lload_n 3, 1) := by decide +kernel
theorem dX12_scanNumber_27 : decode cX12_scanNumber 27 = .ok (.lmul, 1) := by decide +kernel
theorem dX12_scanNumber_28 : decode cX12_scanNumber 28 = .ok (.aload_n 0, 1) := by decide +kernel
theorem dX12_scanNumber_29 : decode cX12_scanNumber 29 = .ok (.getfield 23, 3) := by decide +kernel
theorem dX12_scanNumber_32 : decode cX12_scanNumber 32 = .ok (.iload_n 2, 1) := by decide +kernel
theorem dX12_scanNumber_33 : decode cX12_scanNumber 33 = .ok (.iaload, 1) := by decide +kernel
theorem dX12_scanNumber_34 : decode cX12_scanNumber 34 = .ok (.i2l, 1) := by decide +kernel
theorem dX12_scanNumber_35 : decode cX12_scanNumber 35 = .ok (.ladd, 1) := by decide +kernel
theorem dX12_scanNumber_36 : decode cX12_scanNumber 36 = .ok (.ldc2_w 368, 3) := by decide +kernel
theorem dX12_scanNumber_39 : decode cX12_scanNumber 39 = .ok (.lsub, 1) := by decide +kernel
theorem dX12_scanNumber_40 : decode cX12_scanNumber 40 = .ok (.goto 4, 3) := by decide +kernel
theorem dX12_scanNumber_43 : decode cX12_scanNumber 43 = .ok (.lload_n 3, 1) := by decide +kernel
theorem dX12_scanNumber_44 : decode cX12_scanNumber 44 = .ok (.lstore_n 3, 1) := by decide +kernel
theorem dX12_scanNumber_45 : decode cX12_scanNumber 45 = .ok (.iinc 2 1, 3) := by decide +kernel
theorem dX12_scanNumber_48 : decode cX12_scanNumber 48 = .ok (.goto (-44), 3) := by decide +kernel
theorem dX12_scanNumber_51 : decode cX12_scanNumber 51 = .ok (.aload_n 0, 1) := by decide +kernel
theorem dX12_scanNumber_52 : decode cX12_scanNumber 52 = .ok (.iload_n 2, 1) := by decide +kernel
theorem dX12_scanNumber_53 : decode cX12_scanNumber 53 = .ok (.iload_n 1, 1) := by decide +kernel
theorem dX12_scanNumber_54 : decode cX12_scanNumber 54 = .ok (.isub, 1) := by decide +kernel
theorem dX12_scanNumber_55 : decode cX12_scanNumber 55 = .ok (.bipush 9, 2) := by decide +kernel
theorem dX12_scanNumber_57 : decode cX12_scanNumber 57 = .ok (.if_icmp .le 7, 3) := by decide +kernel
theorem dX12_scanNumber_60 : decode cX12_scanNumber 60 = .ok (.iconst 1, 1) := by decide +kernel
theorem dX12_scanNumber_61 : decode cX12_scanNumber 61 = .ok (.goto 4, 3) := by decide +kernel
theorem dX12_scanNumber_64 : decode cX12_scanNumber 64 = .ok (.iconst 3, 1) := by decide +kernel
theorem dX12_scanNumber_65 : decode cX12_scanNumber 65 = .ok (.iload_n 1, 1) := by decide +kernel
theorem dX12_scanNumber_66 : decode cX12_scanNumber 66 = .ok (.lload_n 3, 1) := by decide +kernel
theorem dX12_scanNumber_67 : decode cX12_scanNumber 67 = .ok (.invokevirtual 359, 3) := by decide +kernel
theorem dX12_scanNumber_70 : decode cX12_scanNumber 70 = .ok (.iload_n 2, 1) := by decide +kernel
theorem dX12_scanNumber_71 : decode cX12_scanNumber 71 = .ok (.ireturn, 1) := by decide +kernel
def wX12_scanNumber_b65 (a0 : Nat) (x1 : Int32) (xn2 : Int32) (wn3 : Int64) (xt0 : Int32) (at1 : Nat)  (Sn : kp_S) (post : Int32 → kp_S → Prop) : Prop :=
  wX12_token at1 xt0 x1 wn3 Sn (fun T1001 =>
  post xn2 T1001)
def wX12_scanNumber_b44 (a0 : Nat) (x1 : Int32) (xn2 : Int32) (wt0 : Int64) (K4 : Int32 → Int64 → kp_S → Prop) (Sn : kp_S) (post : Int32 → kp_S → Prop) : Prop :=
  ∀ y2001 : Int32, y2001 = xn2 + 1 →
  K4 y2001 wt0 Sn
def wX12_scanNumber_L4 (a0 : Nat) (x1 : Int32)  (post : Int32 → kp_S → Prop) : Nat → Int32 → Int64 → kp_S → Prop
  | 0, _, _, _ => False
  | n + 1, xn2, wn3, Sn =>
  wX12_at a0 xn2 Sn (fun y3002 T3001 =>
  wX12_isDigit y3002 T3001 (fun y3004 T3003 =>
  ((y3004 = 0 →
  (((xn2 - x1) ≤ 9 →
  wX12_scanNumber_b65 a0 x1 xn2 wn3 3 a0  T3003 post) ∧ (¬ (xn2 - x1) ≤ 9 →
  wX12_scanNumber_b65 a0 x1 xn2 wn3 1 a0  T3003 post))) ∧ (¬ y3004 = 0 →
  ((9 ≤ (xn2 - x1) →
  wX12_scanNumber_b44 a0 x1 xn2 wn3 (fun xn2_ wn3_ S_ => wX12_scanNumber_L4 a0 x1  post n xn2_ wn3_ S_) T3003 post) ∧ (¬ 9 ≤ (xn2 - x1) →
  ∃ b3006 : Nat, kp_R T3003 2401 a0 = some b3006 ∧
  vp_in xn2 (kp_N T3003 b3006) ∧
  wX12_scanNumber_b44 a0 x1 xn2 (((10 * wn3) + ((kp_A T3003 b3006 xn2.toNatClampNeg : Int32).toInt64)) - 48) (fun xn2_ wn3_ S_ => wX12_scanNumber_L4 a0 x1  post n xn2_ wn3_ S_) T3003 post))))))
def wX12_scanNumber (a0 : Nat) (x1 : Int32) (S : kp_S) (post : Int32 → kp_S → Prop) : Prop :=
  ∃ n0 : Nat, wX12_scanNumber_L4 a0 x1  post n0 x1 0 S
set_option maxHeartbeats 4000000 in
set_option maxRecDepth 100000 in
theorem c_X12_scanNumber (l : Launch) (D : va_G) (cy : Nat → ClassId) (ad : (Nat → Nat) × (Nat → Nat)) (S : kp_S) (a0 : Nat) (x1 : Int32) (post : Int32 → kp_S → Prop) (hS : kp_ok S) (f_a0 : kp_is S a0 12) (hw : wX12_scanNumber a0 x1 S post) : kp_M l yX12_scanNumber cX12_scanNumber 5 (some .int) { frames := 1, cells := 0, slots := 0, locals := 24 } D cy ad S [.ref a0, .int x1] 0 0 (fun A => kp_Qi D cy A S post) := by
  refine kp_start (own := RX12) (by decide) rfl (Nat.le_of_ble_eq_true rfl) hS ?_
  intro p e s m below meth c A ls X hr hlocks hname h hl
  have hle : kp_le S S := kp_le.rf
  have hl : lv_has ls 5 [(0, .ref a0), (1, .int x1)] := hl
  have j65 : ∀ (xn2 : Int32) (wn3 : Int64) (xt0 : Int32) (at1 : Nat) (Sn : kp_S) (H : Heap) (locs : List Loc) (ls : Array Slot), lv_has ls 5 [(1, .int x1), (2, .int xn2), (3, .long wn3)] → kp_H D cy A Sn s.heap H locs → kp_le S Sn → kp_is Sn at1 12 → kp_is Sn a0 12 → wX12_scanNumber_b65 a0 x1 xn2 wn3 xt0 at1  Sn post → W p l e { frames := 1, cells := 0, slots := 0, locals := 24 } s m ([.ref a0, .int x1] : List Value).toArray below meth c H locs 0 0 (MQ below (kp_Qi D cy A S post) ([.ref a0, .int x1] : List Value).toArray s 0 0 A) (F0 m 65 ls [.int xt0, .ref at1]) := by
    intro xn2 wn3 xt0 at1 Sn H locs ls hl h hle f_at1 f_a0 hw
    unfold wX12_scanNumber_b65 at hw
    refine lv_iload_n X.1 X.2.1 dX12_scanNumber_65 rfl (lv_at hl 0 rfl) ?_
    refine lv_lload_n X.1 X.2.1 dX12_scanNumber_66 rfl (lv_at hl 2 rfl) ?_
    refine kp_callv X h (kp_runV (rm := { frames := 0, cells := 0, slots := 0, locals := 0 }) (mc := 0) (ms := 0) (rest := []) (Qc := fun A => kp_Qv D cy A Sn _) X h (c_X12_token l D cy ad Sn at1 xt0 x1 wn3 _ h.2.2.2 f_at1 hw) f_at1 cv_12_359 ⟨by decide, by decide, rfl, rfl, by decide, by decide⟩ rfl hl.1 rfl (Nat.le_of_ble_eq_true rfl) dX12_scanNumber_67) (fun T1001 hw l_T1001 H locs h => ?_)
    have f_at1 := l_T1001.is f_at1
    have f_a0 := l_T1001.is f_a0
    have hle := hle.tr l_T1001
    refine lv_iload_n X.1 X.2.1 dX12_scanNumber_70 rfl (lv_at hl 1 rfl) ?_
    exact kp_reti X hr hlocks h hle rfl hw dX12_scanNumber_71
  have L4 : ∀ n4 : Nat, ∀ (xn2 : Int32) (wn3 : Int64) (Sn : kp_S) (H : Heap) (locs : List Loc) (ls : Array Slot), lv_has ls 5 [(0, .ref a0), (1, .int x1), (2, .int xn2), (3, .long wn3)] → kp_H D cy A Sn s.heap H locs → kp_le S Sn → kp_is Sn a0 12 → wX12_scanNumber_L4 a0 x1  post n4 xn2 wn3 Sn → W p l e { frames := 1, cells := 0, slots := 0, locals := 24 } s m ([.ref a0, .int x1] : List Value).toArray below meth c H locs 0 0 (MQ below (kp_Qi D cy A S post) ([.ref a0, .int x1] : List Value).toArray s 0 0 A) (F0 m 4 ls []) := by
    intro n4
    induction n4 with
    | zero => intro xn2 wn3 Sn H locs ls hl h hle f_a0 hw; exact hw.elim
    | succ n4 ih4 =>
      have j44 : ∀ (xn2 : Int32) (wt0 : Int64) (Sn : kp_S) (H : Heap) (locs : List Loc) (ls : Array Slot), lv_has ls 5 [(0, .ref a0), (1, .int x1), (2, .int xn2)] → kp_H D cy A Sn s.heap H locs → kp_le S Sn → kp_is Sn a0 12 → wX12_scanNumber_b44 a0 x1 xn2 wt0 (fun xn2_ wn3_ S_ => wX12_scanNumber_L4 a0 x1  post n4 xn2_ wn3_ S_) Sn post → W p l e { frames := 1, cells := 0, slots := 0, locals := 24 } s m ([.ref a0, .int x1] : List Value).toArray below meth c H locs 0 0 (MQ below (kp_Qi D cy A S post) ([.ref a0, .int x1] : List Value).toArray s 0 0 A) (F0 m 44 ls [.long wt0]) := by
        intro xn2 wt0 Sn H locs ls hl h hle f_a0 hw
        unfold wX12_scanNumber_b44 at hw
        refine lv_lstore_n (lv' := [(3, .long wt0), (0, .ref a0), (1, .int x1), (2, .int xn2)]) X.1 X.2.1 dX12_scanNumber_44 rfl hl (by decide) rfl (fun ls hl => ?_)
        obtain ⟨y2001, e_y2001⟩ : ∃ y : Int32, y = xn2 + 1 := ⟨_, rfl⟩
        have hw := hw y2001 e_y2001
        refine lv_iinc (v := y2001) (lv' := [(2, .int y2001), (3, .long wt0), (0, .ref a0), (1, .int x1)]) X.1 X.2.1 dX12_scanNumber_45 hl (k := 3) rfl (by rw [e_y2001]; rfl) (by decide) rfl (fun ls hl => ?_)
        refine lv_goto (tgt := 4) X.1 X.2.1 dX12_scanNumber_48 (by decide) ?_
        exact ih4 y2001 wt0 Sn H locs ls (lv_sub hl [2, 3, 0, 1] rfl) h hle f_a0 hw
      intro xn2 wn3 Sn H locs ls hl h hle f_a0 hw
      unfold wX12_scanNumber_L4 at hw
      refine lv_aload_n X.1 X.2.1 dX12_scanNumber_4 rfl (lv_at hl 0 rfl) ?_
      refine lv_iload_n X.1 X.2.1 dX12_scanNumber_5 rfl (lv_at hl 2 rfl) ?_
      refine kp_calli X h (kp_runV (rm := { frames := 0, cells := 0, slots := 0, locals := 0 }) (mc := 0) (ms := 0) (rest := []) (Qc := fun A => kp_Qi D cy A Sn _) X h (c_X12_at l D cy ad Sn a0 xn2 _ h.2.2.2 f_a0 hw) f_a0 cv_12_363 ⟨by decide, by decide, rfl, rfl, by decide, by decide⟩ rfl hl.1 rfl (Nat.le_of_ble_eq_true rfl) dX12_scanNumber_6) (fun y3002 T3001 hw l_T3001 H locs h => ?_)
      have f_a0 := l_T3001.is f_a0
      have hle := hle.tr l_T3001
      refine kp_calli X h (kp_runS (rm := { frames := 0, cells := 0, slots := 0, locals := 0 }) (mc := 0) (ms := 0) (rest := []) (Qc := fun A => kp_Qi D cy A T3001 _) X h (c_X12_isDigit l D cy ad T3001 y3002 _ h.2.2.2  hw) cs_12_350 ⟨by decide, by decide, rfl, rfl, by decide, by decide⟩ rfl hl.1 rfl (Nat.le_of_ble_eq_true rfl) dX12_scanNumber_9) (fun y3004 T3003 hw l_T3003 H locs h => ?_)
      have f_a0 := l_T3003.is f_a0
      have hle := hle.tr l_T3003
      refine lv_if_eq (tgt := 51) X.1 X.2.1 dX12_scanNumber_12 (by decide) (fun c3008 => ?_) (fun c3008 => ?_)
      · have hw := hw.1 c3008
        refine lv_aload_n X.1 X.2.1 dX12_scanNumber_51 rfl (lv_at hl 0 rfl) ?_
        refine lv_iload_n X.1 X.2.1 dX12_scanNumber_52 rfl (lv_at hl 2 rfl) ?_
        refine lv_iload_n X.1 X.2.1 dX12_scanNumber_53 rfl (lv_at hl 1 rfl) ?_
        refine lv_isub X.1 X.2.1 dX12_scanNumber_54 ?_
        refine lv_bipush (v := 9) X.1 X.2.1 dX12_scanNumber_55 (by decide) ?_
        refine lv_icmp_le (tgt := 64) X.1 X.2.1 dX12_scanNumber_57 (by decide) (fun c3005 => ?_) (fun c3005 => ?_)
        · have hw := hw.1 c3005
          refine lv_iconst (v := 3) X.1 X.2.1 dX12_scanNumber_64 (by decide) ?_
          exact j65 xn2 wn3 3 a0 T3003 H locs ls (lv_sub hl [1, 2, 3] rfl) h hle f_a0 f_a0 hw
        · have hw := hw.2 c3005
          refine lv_iconst (v := 1) X.1 X.2.1 dX12_scanNumber_60 (by decide) ?_
          refine lv_goto (tgt := 65) X.1 X.2.1 dX12_scanNumber_61 (by decide) ?_
          exact j65 xn2 wn3 1 a0 T3003 H locs ls (lv_sub hl [1, 2, 3] rfl) h hle f_a0 f_a0 hw
      · have hw := hw.2 c3008
        refine lv_iload_n X.1 X.2.1 dX12_scanNumber_15 rfl (lv_at hl 2 rfl) ?_
        refine lv_iload_n X.1 X.2.1 dX12_scanNumber_16 rfl (lv_at hl 1 rfl) ?_
        refine lv_isub X.1 X.2.1 dX12_scanNumber_17 ?_
        refine lv_bipush (v := 9) X.1 X.2.1 dX12_scanNumber_18 (by decide) ?_
        refine lv_icmp_ge (tgt := 43) X.1 X.2.1 dX12_scanNumber_20 (by decide) (fun c3007 => ?_) (fun c3007 => ?_)
        · have hw := hw.1 c3007
          refine lv_lload_n X.1 X.2.1 dX12_scanNumber_43 rfl (lv_at hl 3 rfl) ?_
          exact j44 xn2 wn3 T3003 H locs ls (lv_sub hl [0, 1, 2] rfl) h hle f_a0 hw
        · have hw := hw.2 c3007
          refine lv_ldc2 (v := 10) X.1 X.2.1 X.2.2.2.1 (X.2.2.2.2.1 _ kl_12_366) dX12_scanNumber_23 ?_
          refine lv_lload_n X.1 X.2.1 dX12_scanNumber_26 rfl (lv_at hl 3 rfl) ?_
          refine lv_lmul X.1 X.2.1 dX12_scanNumber_27 ?_
          refine lv_aload_n X.1 X.2.1 dX12_scanNumber_28 rfl (lv_at hl 0 rfl) ?_
          obtain ⟨b3006, e_b3006, hw⟩ := hw
          have f_b3006 := h.2.2.2.rf (c := 12) (k := 1) f_a0 (by decide) (by decide) e_b3006 (t := 14) rfl
          refine kp_get X h f_a0 ff_12_23.l (v := .ref b3006) (congrArg va_rf e_b3006) dX12_scanNumber_29 ?_
          refine lv_iload_n X.1 X.2.1 dX12_scanNumber_32 rfl (lv_at hl 2 rfl) ?_
          obtain ⟨hi, hw⟩ := hw
          refine kp_iald X h f_b3006 hi dX12_scanNumber_33 ?_
          refine lv_i2l X.1 X.2.1 dX12_scanNumber_34 rfl ?_
          refine lv_ladd X.1 X.2.1 dX12_scanNumber_35 ?_
          refine lv_ldc2 (v := 48) X.1 X.2.1 X.2.2.2.1 (X.2.2.2.2.1 _ kl_12_368) dX12_scanNumber_36 ?_
          refine lv_lsub X.1 X.2.1 dX12_scanNumber_39 ?_
          refine lv_goto (tgt := 44) X.1 X.2.1 dX12_scanNumber_40 (by decide) ?_
          exact j44 xn2 (((10 * wn3) + ((kp_A T3003 b3006 xn2.toNatClampNeg : Int32).toInt64)) - 48) T3003 H locs ls (lv_sub hl [0, 1, 2] rfl) h hle f_a0 hw
  unfold wX12_scanNumber at hw
  have h : kp_H D cy A S s.heap s.heap [] := h
  revert h
  intro h
  refine lv_iload_n X.1 X.2.1 dX12_scanNumber_0 rfl (lv_at hl 1 rfl) ?_
  refine lv_istore_n (lv' := [(2, .int x1), (0, .ref a0), (1, .int x1)]) X.1 X.2.1 dX12_scanNumber_1 rfl hl (by decide) rfl (fun ls hl => ?_)
  refine lv_lconst (v := 0) X.1 X.2.1 dX12_scanNumber_2 (by decide) ?_
  refine lv_lstore_n (lv' := [(3, .long 0), (2, .int x1), (0, .ref a0), (1, .int x1)]) X.1 X.2.1 dX12_scanNumber_3 rfl hl (by decide) rfl (fun ls hl => ?_)
  obtain ⟨n0, hw⟩ := hw
  exact L4 n0 x1 0 S _ _ ls (lv_sub hl [2, 3, 1, 0] rfl) h hle f_a0 hw
theorem dX12_scanSign_0 : decode cX12_scanSign 0 = .ok (.aload_n 0, 1) := by decide +kernel
theorem dX12_scanSign_1 : decode cX12_scanSign 1 = .ok (.getfield 23, 3) := by decide +kernel
theorem dX12_scanSign_4 : decode cX12_scanSign 4 = .ok (.iload_n 1, 1) := by decide +kernel
theorem dX12_scanSign_5 : decode cX12_scanSign 5 = .ok (.iaload, 1) := by decide +kernel
theorem dX12_scanSign_6 : decode cX12_scanSign 6 = .ok (.istore_n 2, 1) := by decide +kernel
theorem dX12_scanSign_7 : decode cX12_scanSign 7 = .ok (.aload_n 0, 1) := by decide +kernel
theorem dX12_scanSign_8 : decode cX12_scanSign 8 = .ok (.iload_n 1, 1) := by decide +kernel
theorem dX12_scanSign_9 : decode cX12_scanSign 9 = .ok (.iconst 1, 1) := by decide +kernel
theorem dX12_scanSign_10 : decode cX12_scanSign 10 = .ok (.iadd, 1) := by decide +kernel
theorem dX12_scanSign_11 : decode cX12_scanSign 11 = .ok (.invokevirtual 363, 3) := by decide +kernel
theorem dX12_scanSign_14 : decode cX12_scanSign 14 = .ok (.bipush 61, 2) := by decide +kernel
theorem dX12_scanSign_16 : decode cX12_scanSign 16 = .ok (.if_icmp .ne 7, 3) := by decide +kernel
theorem dX12_scanSign_19 : decode cX12_scanSign 19 = .ok (.iconst 1, 1) := by decide +kernel
theorem dX12_scanSign_20 : decode cX12_scanSign 20 = .ok (.goto 4, 3) := by decide +kernel
theorem dX12_scanSign_23 : decode cX12_scanSign 23 = .ok (.iconst 0, 1) := by decide +kernel
theorem dX12_scanSign_24 : decode cX12_scanSign 24 = .ok (.istore_n 3, 1) := by decide +kernel
theorem dX12_scanSign_25 : decode cX12_scanSign 25 = .ok (.iconst 1, 1) := by decide +kernel
theorem dX12_scanSign_26 : decode cX12_scanSign 26 = .ok (.istore 4, 2) := by decide +kernel
theorem dX12_scanSign_28 : decode cX12_scanSign 28 = .ok (.iload_n 2, 1) := by decide +kernel
theorem dX12_scanSign_29 : decode cX12_scanSign 29 = .ok (.lookupswitch 196 #[(33, 180), (37, 131), (40, 131), (41, 131), (42, 131), (43, 131), (44, 131), (45, 131), (47, 131), (58, 131), (59, 131), (60, 161), (61, 142), (123, 131), (125, 131)], 131) := by decide +kernel
theorem dX12_scanSign_160 : decode cX12_scanSign 160 = .ok (.iconst 0, 1) := by decide +kernel
theorem dX12_scanSign_161 : decode cX12_scanSign 161 = .ok (.istore_n 3, 1) := by decide +kernel
theorem dX12_scanSign_162 : decode cX12_scanSign 162 = .ok (.bipush 100, 2) := by decide +kernel
theorem dX12_scanSign_164 : decode cX12_scanSign 164 = .ok (.iload_n 2, 1) := by decide +kernel
theorem dX12_scanSign_165 : decode cX12_scanSign 165 = .ok (.iadd, 1) := by decide +kernel
theorem dX12_scanSign_166 : decode cX12_scanSign 166 = .ok (.istore 4, 2) := by decide +kernel
theorem dX12_scanSign_168 : decode cX12_scanSign 168 = .ok (.goto 57, 3) := by decide +kernel
theorem dX12_scanSign_171 : decode cX12_scanSign 171 = .ok (.iload_n 3, 1) := by decide +kernel
theorem dX12_scanSign_172 : decode cX12_scanSign 172 = .ok (.ifCond .eq 9, 3) := by decide +kernel
theorem dX12_scanSign_175 : decode cX12_scanSign 175 = .ok (.sipush 301, 3) := by decide +kernel
theorem dX12_scanSign_178 : decode cX12_scanSign 178 = .ok (.goto 7, 3) := by decide +kernel
theorem dX12_scanSign_181 : decode cX12_scanSign 181 = .ok (.bipush 100, 2) := by decide +kernel
theorem dX12_scanSign_183 : decode cX12_scanSign 183 = .ok (.iload_n 2, 1) := by decide +kernel
theorem dX12_scanSign_184 : decode cX12_scanSign 184 = .ok (.iadd, 1) := by decide +kernel
theorem dX12_scanSign_185 : decode cX12_scanSign 185 = .ok (.istore 4, 2) := by decide +kernel
theorem dX12_scanSign_187 : decode cX12_scanSign 187 = .ok (.goto 38, 3) := by decide +kernel
theorem dX12_scanSign_190 : decode cX12_scanSign 190 = .ok (.iload_n 3, 1) := by decide +kernel
theorem dX12_scanSign_191 : decode cX12_scanSign 191 = .ok (.ifCond .eq 9, 3) := by decide +kernel
theorem dX12_scanSign_194 : decode cX12_scanSign 194 = .ok (.sipush 303, 3) := by decide +kernel
theorem dX12_scanSign_197 : decode cX12_scanSign 197 = .ok (.goto 7, 3) := by decide +kernel
theorem dX12_scanSign_200 : decode cX12_scanSign 200 = .ok (.bipush 100, 2) := by decide +kernel
theorem dX12_scanSign_202 : decode cX12_scanSign 202 = .ok (.iload_n 2, 1) := by decide +kernel
theorem dX12_scanSign_203 : decode cX12_scanSign 203 = .ok (.iadd, 1) := by decide +kernel
theorem dX12_scanSign_204 : decode cX12_scanSign 204 = .ok (.istore 4, 2) := by decide +kernel
theorem dX12_scanSign_206 : decode cX12_scanSign 206 = .ok (.goto 19, 3) := by decide +kernel
theorem dX12_scanSign_209 : decode cX12_scanSign 209 = .ok (.iload_n 3, 1) := by decide +kernel
theorem dX12_scanSign_210 : decode cX12_scanSign 210 = .ok (.ifCond .eq 9, 3) := by decide +kernel
theorem dX12_scanSign_213 : decode cX12_scanSign 213 = .ok (.sipush 302, 3) := by decide +kernel
theorem dX12_scanSign_216 : decode cX12_scanSign 216 = .ok (.goto 4, 3) := by decide +kernel
theorem dX12_scanSign_219 : decode cX12_scanSign 219 = .ok (.iconst 1, 1) := by decide +kernel
theorem dX12_scanSign_220 : decode cX12_scanSign 220 = .ok (.istore 4, 2) := by decide +kernel
theorem dX12_scanSign_222 : decode cX12_scanSign 222 = .ok (.goto 3, 3) := by decide +kernel
theorem dX12_scanSign_225 : decode cX12_scanSign 225 = .ok (.aload_n 0, 1) := by decide +kernel
theorem dX12_scanSign_226 : decode cX12_scanSign 226 = .ok (.iload 4, 2) := by decide +kernel
theorem dX12_scanSign_228 : decode cX12_scanSign 228 = .ok (.iload_n 1, 1) := by decide +kernel
theorem dX12_scanSign_229 : decode cX12_scanSign 229 = .ok (.lconst 0, 1) := by decide +kernel
theorem dX12_scanSign_230 : decode cX12_scanSign 230 = .ok (.invokevirtual 359, 3) := by decide +kernel
theorem dX12_scanSign_233 : decode cX12_scanSign 233 = .ok (.iload_n 1, 1) := by decide +kernel
theorem dX12_scanSign_234 : decode cX12_scanSign 234 = .ok (.iload_n 3, 1) := by decide +kernel
theorem dX12_scanSign_235 : decode cX12_scanSign 235 = .ok (.ifCond .eq 7, 3) := by decide +kernel
theorem dX12_scanSign_238 : decode cX12_scanSign 238 = .ok (.iconst 2, 1) := by decide +kernel
theorem dX12_scanSign_239 : decode cX12_scanSign 239 = .ok (.goto 4, 3) := by decide +kernel
theorem dX12_scanSign_242 : decode cX12_scanSign 242 = .ok (.iconst 1, 1) := by decide +kernel
theorem dX12_scanSign_243 : decode cX12_scanSign 243 = .ok (.iadd, 1) := by decide +kernel
theorem dX12_scanSign_244 : decode cX12_scanSign 244 = .ok (.ireturn, 1) := by decide +kernel
def wX12_scanSign_b243 (a0 : Nat) (x1 : Int32) (xt0 : Int32) (xt1 : Int32)  (Sn : kp_S) (post : Int32 → kp_S → Prop) : Prop :=
  post (xt1 + xt0) Sn
def wX12_scanSign_b225 (a0 : Nat) (x1 : Int32) (xn3 : Int32) (xn4 : Int32)  (Sn : kp_S) (post : Int32 → kp_S → Prop) : Prop :=
  wX12_token a0 xn4 x1 0 Sn (fun T2001 =>
  ((xn3 = 0 →
  wX12_scanSign_b243 a0 x1 1 x1  T2001 post) ∧ (¬ xn3 = 0 →
  wX12_scanSign_b243 a0 x1 2 x1  T2001 post)))
def wX12_scanSign_b220 (a0 : Nat) (x1 : Int32) (xn3 : Int32) (xt0 : Int32)  (Sn : kp_S) (post : Int32 → kp_S → Prop) : Prop :=
  wX12_scanSign_b225 a0 x1 xn3 xt0  Sn post
def wX12_scanSign_b160 (a0 : Nat) (x1 : Int32) (xn2 : Int32)  (Sn : kp_S) (post : Int32 → kp_S → Prop) : Prop :=
  ∀ y4001 : Int32, y4001 = (100 + xn2) →
  wX12_scanSign_b225 a0 x1 0 y4001  Sn post
def wX12_scanSign_b204 (a0 : Nat) (x1 : Int32) (xn3 : Int32) (xt0 : Int32)  (Sn : kp_S) (post : Int32 → kp_S → Prop) : Prop :=
  wX12_scanSign_b225 a0 x1 xn3 xt0  Sn post
def wX12_scanSign_b185 (a0 : Nat) (x1 : Int32) (xn3 : Int32) (xt0 : Int32)  (Sn : kp_S) (post : Int32 → kp_S → Prop) : Prop :=
  wX12_scanSign_b225 a0 x1 xn3 xt0  Sn post
def wX12_scanSign_b24 (a0 : Nat) (x1 : Int32) (xn2 : Int32) (xt0 : Int32)  (Sn : kp_S) (post : Int32 → kp_S → Prop) : Prop :=
  ((xn2 = 33 →
  ((xt0 = 0 →
  wX12_scanSign_b220 a0 x1 xt0 1  Sn post) ∧ (¬ xt0 = 0 →
  wX12_scanSign_b220 a0 x1 xt0 302  Sn post))) ∧ (¬ xn2 = 33 →
  ((xn2 = 37 →
  wX12_scanSign_b160 a0 x1 xn2  Sn post) ∧ (¬ xn2 = 37 →
  ((xn2 = 40 →
  wX12_scanSign_b160 a0 x1 xn2  Sn post) ∧ (¬ xn2 = 40 →
  ((xn2 = 41 →
  wX12_scanSign_b160 a0 x1 xn2  Sn post) ∧ (¬ xn2 = 41 →
  ((xn2 = 42 →
  wX12_scanSign_b160 a0 x1 xn2  Sn post) ∧ (¬ xn2 = 42 →
  ((xn2 = 43 →
  wX12_scanSign_b160 a0 x1 xn2  Sn post) ∧ (¬ xn2 = 43 →
  ((xn2 = 44 →
  wX12_scanSign_b160 a0 x1 xn2  Sn post) ∧ (¬ xn2 = 44 →
  ((xn2 = 45 →
  wX12_scanSign_b160 a0 x1 xn2  Sn post) ∧ (¬ xn2 = 45 →
  ((xn2 = 47 →
  wX12_scanSign_b160 a0 x1 xn2  Sn post) ∧ (¬ xn2 = 47 →
  ((xn2 = 58 →
  wX12_scanSign_b160 a0 x1 xn2  Sn post) ∧ (¬ xn2 = 58 →
  ((xn2 = 59 →
  wX12_scanSign_b160 a0 x1 xn2  Sn post) ∧ (¬ xn2 = 59 →
  ((xn2 = 60 →
  ((xt0 = 0 →
  wX12_scanSign_b204 a0 x1 xt0 (100 + xn2)  Sn post) ∧ (¬ xt0 = 0 →
  wX12_scanSign_b204 a0 x1 xt0 303  Sn post))) ∧ (¬ xn2 = 60 →
  ((xn2 = 61 →
  ((xt0 = 0 →
  wX12_scanSign_b185 a0 x1 xt0 (100 + xn2)  Sn post) ∧ (¬ xt0 = 0 →
  wX12_scanSign_b185 a0 x1 xt0 301  Sn post))) ∧ (¬ xn2 = 61 →
  ((xn2 = 123 →
  wX12_scanSign_b160 a0 x1 xn2  Sn post) ∧ (¬ xn2 = 123 →
  ((xn2 = 125 →
  wX12_scanSign_b160 a0 x1 xn2  Sn post) ∧ (¬ xn2 = 125 →
  wX12_scanSign_b225 a0 x1 xt0 1  Sn post))))))))))))))))))))))))))))))
def wX12_scanSign (a0 : Nat) (x1 : Int32) (S : kp_S) (post : Int32 → kp_S → Prop) : Prop :=
  ∃ b1 : Nat, kp_R S 2401 a0 = some b1 ∧
  vp_in x1 (kp_N S b1) ∧
  ∀ y2 : Int32, y2 = (kp_A S b1 x1.toNatClampNeg) →
  wX12_at a0 (x1 + 1) S (fun y4 T3 =>
  ((¬ y4 = 61 →
  wX12_scanSign_b24 a0 x1 y2 0  T3 post) ∧ (y4 = 61 →
  wX12_scanSign_b24 a0 x1 y2 1  T3 post)))
set_option maxHeartbeats 4000000 in
set_option maxRecDepth 100000 in
theorem c_X12_scanSign (l : Launch) (D : va_G) (cy : Nat → ClassId) (ad : (Nat → Nat) × (Nat → Nat)) (S : kp_S) (a0 : Nat) (x1 : Int32) (post : Int32 → kp_S → Prop) (hS : kp_ok S) (f_a0 : kp_is S a0 12) (hw : wX12_scanSign a0 x1 S post) : kp_M l yX12_scanSign cX12_scanSign 5 (some .int) { frames := 1, cells := 0, slots := 0, locals := 24 } D cy ad S [.ref a0, .int x1] 0 0 (fun A => kp_Qi D cy A S post) := by
  refine kp_start (own := RX12) (by decide) rfl (Nat.le_of_ble_eq_true rfl) hS ?_
  intro p e s m below meth c A ls X hr hlocks hname h hl
  have hle : kp_le S S := kp_le.rf
  have hl : lv_has ls 5 [(0, .ref a0), (1, .int x1)] := hl
  have j243 : ∀ (xt0 : Int32) (xt1 : Int32) (Sn : kp_S) (H : Heap) (locs : List Loc) (ls : Array Slot), lv_has ls 5 [] → kp_H D cy A Sn s.heap H locs → kp_le S Sn → kp_is Sn a0 12 → wX12_scanSign_b243 a0 x1 xt0 xt1  Sn post → W p l e { frames := 1, cells := 0, slots := 0, locals := 24 } s m ([.ref a0, .int x1] : List Value).toArray below meth c H locs 0 0 (MQ below (kp_Qi D cy A S post) ([.ref a0, .int x1] : List Value).toArray s 0 0 A) (F0 m 243 ls [.int xt0, .int xt1]) := by
    intro xt0 xt1 Sn H locs ls hl h hle f_a0 hw
    unfold wX12_scanSign_b243 at hw
    refine lv_iadd X.1 X.2.1 dX12_scanSign_243 ?_
    exact kp_reti X hr hlocks h hle rfl hw dX12_scanSign_244
  have j225 : ∀ (xn3 : Int32) (xn4 : Int32) (Sn : kp_S) (H : Heap) (locs : List Loc) (ls : Array Slot), lv_has ls 5 [(0, .ref a0), (1, .int x1), (3, .int xn3), (4, .int xn4)] → kp_H D cy A Sn s.heap H locs → kp_le S Sn → kp_is Sn a0 12 → wX12_scanSign_b225 a0 x1 xn3 xn4  Sn post → W p l e { frames := 1, cells := 0, slots := 0, locals := 24 } s m ([.ref a0, .int x1] : List Value).toArray below meth c H locs 0 0 (MQ below (kp_Qi D cy A S post) ([.ref a0, .int x1] : List Value).toArray s 0 0 A) (F0 m 225 ls []) := by
    intro xn3 xn4 Sn H locs ls hl h hle f_a0 hw
    unfold wX12_scanSign_b225 at hw
    refine lv_aload_n X.1 X.2.1 dX12_scanSign_225 rfl (lv_at hl 0 rfl) ?_
    refine lv_iload X.1 X.2.1 dX12_scanSign_226 (lv_at hl 3 rfl) ?_
    refine lv_iload_n X.1 X.2.1 dX12_scanSign_228 rfl (lv_at hl 1 rfl) ?_
    refine lv_lconst (v := 0) X.1 X.2.1 dX12_scanSign_229 (by decide) ?_
    refine kp_callv X h (kp_runV (rm := { frames := 0, cells := 0, slots := 0, locals := 0 }) (mc := 0) (ms := 0) (rest := []) (Qc := fun A => kp_Qv D cy A Sn _) X h (c_X12_token l D cy ad Sn a0 xn4 x1 0 _ h.2.2.2 f_a0 hw) f_a0 cv_12_359 ⟨by decide, by decide, rfl, rfl, by decide, by decide⟩ rfl hl.1 rfl (Nat.le_of_ble_eq_true rfl) dX12_scanSign_230) (fun T2001 hw l_T2001 H locs h => ?_)
    have f_a0 := l_T2001.is f_a0
    have hle := hle.tr l_T2001
    refine lv_iload_n X.1 X.2.1 dX12_scanSign_233 rfl (lv_at hl 1 rfl) ?_
    refine lv_iload_n X.1 X.2.1 dX12_scanSign_234 rfl (lv_at hl 2 rfl) ?_
    refine lv_if_eq (tgt := 242) X.1 X.2.1 dX12_scanSign_235 (by decide) (fun c2002 => ?_) (fun c2002 => ?_)
    · have hw := hw.1 c2002
      refine lv_iconst (v := 1) X.1 X.2.1 dX12_scanSign_242 (by decide) ?_
      exact j243 1 x1 T2001 H locs ls (lv_sub hl [] rfl) h hle f_a0 hw
    · have hw := hw.2 c2002
      refine lv_iconst (v := 2) X.1 X.2.1 dX12_scanSign_238 (by decide) ?_
      refine lv_goto (tgt := 243) X.1 X.2.1 dX12_scanSign_239 (by decide) ?_
      exact j243 2 x1 T2001 H locs ls (lv_sub hl [] rfl) h hle f_a0 hw
  have j220 : ∀ (xn3 : Int32) (xt0 : Int32) (Sn : kp_S) (H : Heap) (locs : List Loc) (ls : Array Slot), lv_has ls 5 [(0, .ref a0), (1, .int x1), (3, .int xn3)] → kp_H D cy A Sn s.heap H locs → kp_le S Sn → kp_is Sn a0 12 → wX12_scanSign_b220 a0 x1 xn3 xt0  Sn post → W p l e { frames := 1, cells := 0, slots := 0, locals := 24 } s m ([.ref a0, .int x1] : List Value).toArray below meth c H locs 0 0 (MQ below (kp_Qi D cy A S post) ([.ref a0, .int x1] : List Value).toArray s 0 0 A) (F0 m 220 ls [.int xt0]) := by
    intro xn3 xt0 Sn H locs ls hl h hle f_a0 hw
    unfold wX12_scanSign_b220 at hw
    refine lv_istore (lv' := [(4, .int xt0), (0, .ref a0), (1, .int x1), (3, .int xn3)]) X.1 X.2.1 dX12_scanSign_220 hl (by decide) rfl (fun ls hl => ?_)
    refine lv_goto (tgt := 225) X.1 X.2.1 dX12_scanSign_222 (by decide) ?_
    exact j225 xn3 xt0 Sn H locs ls (lv_sub hl [1, 2, 3, 0] rfl) h hle f_a0 hw
  have j160 : ∀ (xn2 : Int32) (Sn : kp_S) (H : Heap) (locs : List Loc) (ls : Array Slot), lv_has ls 5 [(0, .ref a0), (1, .int x1), (2, .int xn2)] → kp_H D cy A Sn s.heap H locs → kp_le S Sn → kp_is Sn a0 12 → wX12_scanSign_b160 a0 x1 xn2  Sn post → W p l e { frames := 1, cells := 0, slots := 0, locals := 24 } s m ([.ref a0, .int x1] : List Value).toArray below meth c H locs 0 0 (MQ below (kp_Qi D cy A S post) ([.ref a0, .int x1] : List Value).toArray s 0 0 A) (F0 m 160 ls []) := by
    intro xn2 Sn H locs ls hl h hle f_a0 hw
    unfold wX12_scanSign_b160 at hw
    refine lv_iconst (v := 0) X.1 X.2.1 dX12_scanSign_160 (by decide) ?_
    refine lv_istore_n (lv' := [(3, .int 0), (0, .ref a0), (1, .int x1), (2, .int xn2)]) X.1 X.2.1 dX12_scanSign_161 rfl hl (by decide) rfl (fun ls hl => ?_)
    refine lv_bipush (v := 100) X.1 X.2.1 dX12_scanSign_162 (by decide) ?_
    refine lv_iload_n X.1 X.2.1 dX12_scanSign_164 rfl (lv_at hl 3 rfl) ?_
    refine lv_iadd X.1 X.2.1 dX12_scanSign_165 ?_
    refine lv_topi (fun y4001 e_y4001 => ?_)
    have hw := hw y4001 e_y4001
    refine lv_istore (lv' := [(4, .int y4001), (3, .int 0), (0, .ref a0), (1, .int x1), (2, .int xn2)]) X.1 X.2.1 dX12_scanSign_166 hl (by decide) rfl (fun ls hl => ?_)
    refine lv_goto (tgt := 225) X.1 X.2.1 dX12_scanSign_168 (by decide) ?_
    exact j225 0 y4001 Sn H locs ls (lv_sub hl [2, 3, 1, 0] rfl) h hle f_a0 hw
  have j204 : ∀ (xn3 : Int32) (xt0 : Int32) (Sn : kp_S) (H : Heap) (locs : List Loc) (ls : Array Slot), lv_has ls 5 [(0, .ref a0), (1, .int x1), (3, .int xn3)] → kp_H D cy A Sn s.heap H locs → kp_le S Sn → kp_is Sn a0 12 → wX12_scanSign_b204 a0 x1 xn3 xt0  Sn post → W p l e { frames := 1, cells := 0, slots := 0, locals := 24 } s m ([.ref a0, .int x1] : List Value).toArray below meth c H locs 0 0 (MQ below (kp_Qi D cy A S post) ([.ref a0, .int x1] : List Value).toArray s 0 0 A) (F0 m 204 ls [.int xt0]) := by
    intro xn3 xt0 Sn H locs ls hl h hle f_a0 hw
    unfold wX12_scanSign_b204 at hw
    refine lv_istore (lv' := [(4, .int xt0), (0, .ref a0), (1, .int x1), (3, .int xn3)]) X.1 X.2.1 dX12_scanSign_204 hl (by decide) rfl (fun ls hl => ?_)
    refine lv_goto (tgt := 225) X.1 X.2.1 dX12_scanSign_206 (by decide) ?_
    exact j225 xn3 xt0 Sn H locs ls (lv_sub hl [1, 2, 3, 0] rfl) h hle f_a0 hw
  have j185 : ∀ (xn3 : Int32) (xt0 : Int32) (Sn : kp_S) (H : Heap) (locs : List Loc) (ls : Array Slot), lv_has ls 5 [(0, .ref a0), (1, .int x1), (3, .int xn3)] → kp_H D cy A Sn s.heap H locs → kp_le S Sn → kp_is Sn a0 12 → wX12_scanSign_b185 a0 x1 xn3 xt0  Sn post → W p l e { frames := 1, cells := 0, slots := 0, locals := 24 } s m ([.ref a0, .int x1] : List Value).toArray below meth c H locs 0 0 (MQ below (kp_Qi D cy A S post) ([.ref a0, .int x1] : List Value).toArray s 0 0 A) (F0 m 185 ls [.int xt0]) := by
    intro xn3 xt0 Sn H locs ls hl h hle f_a0 hw
    unfold wX12_scanSign_b185 at hw
    refine lv_istore (lv' := [(4, .int xt0), (0, .ref a0), (1, .int x1), (3, .int xn3)]) X.1 X.2.1 dX12_scanSign_185 hl (by decide) rfl (fun ls hl => ?_)
    refine lv_goto (tgt := 225) X.1 X.2.1 dX12_scanSign_187 (by decide) ?_
    exact j225 xn3 xt0 Sn H locs ls (lv_sub hl [1, 2, 3, 0] rfl) h hle f_a0 hw
  have j24 : ∀ (xn2 : Int32) (xt0 : Int32) (Sn : kp_S) (H : Heap) (locs : List Loc) (ls : Array Slot), lv_has ls 5 [(0, .ref a0), (1, .int x1), (2, .int xn2)] → kp_H D cy A Sn s.heap H locs → kp_le S Sn → kp_is Sn a0 12 → wX12_scanSign_b24 a0 x1 xn2 xt0  Sn post → W p l e { frames := 1, cells := 0, slots := 0, locals := 24 } s m ([.ref a0, .int x1] : List Value).toArray below meth c H locs 0 0 (MQ below (kp_Qi D cy A S post) ([.ref a0, .int x1] : List Value).toArray s 0 0 A) (F0 m 24 ls [.int xt0]) := by
    intro xn2 xt0 Sn H locs ls hl h hle f_a0 hw
    unfold wX12_scanSign_b24 at hw
    refine lv_istore_n (lv' := [(3, .int xt0), (0, .ref a0), (1, .int x1), (2, .int xn2)]) X.1 X.2.1 dX12_scanSign_24 rfl hl (by decide) rfl (fun ls hl => ?_)
    refine lv_iconst (v := 1) X.1 X.2.1 dX12_scanSign_25 (by decide) ?_
    refine lv_istore (lv' := [(4, .int 1), (3, .int xt0), (0, .ref a0), (1, .int x1), (2, .int xn2)]) X.1 X.2.1 dX12_scanSign_26 hl (by decide) rfl (fun ls hl => ?_)
    refine lv_iload_n X.1 X.2.1 dX12_scanSign_28 rfl (lv_at hl 4 rfl) ?_
    by_cases c7001 : xn2 = 33
    · have hw := hw.1 c7001
      refine lv_lookup (off := 180) (tgt := 209) X.1 X.2.1 dX12_scanSign_29 (by decide) (by rw [c7001]; decide) (by decide) ?_
      refine lv_iload_n X.1 X.2.1 dX12_scanSign_209 rfl (lv_at hl 1 rfl) ?_
      refine lv_if_eq (tgt := 219) X.1 X.2.1 dX12_scanSign_210 (by decide) (fun c7002 => ?_) (fun c7002 => ?_)
      · have hw := hw.1 c7002
        refine lv_iconst (v := 1) X.1 X.2.1 dX12_scanSign_219 (by decide) ?_
        exact j220 xt0 1 Sn H locs ls (lv_sub hl [2, 3, 1] rfl) h hle f_a0 hw
      · have hw := hw.2 c7002
        refine lv_sipush (v := 302) X.1 X.2.1 dX12_scanSign_213 (by decide) ?_
        refine lv_goto (tgt := 220) X.1 X.2.1 dX12_scanSign_216 (by decide) ?_
        exact j220 xt0 302 Sn H locs ls (lv_sub hl [2, 3, 1] rfl) h hle f_a0 hw
    have hw := hw.2 c7001
    by_cases c7003 : xn2 = 37
    · have hw := hw.1 c7003
      refine lv_lookup (off := 131) (tgt := 160) X.1 X.2.1 dX12_scanSign_29 (by decide) (by rw [c7003]; decide) (by decide) ?_
      exact j160 xn2 Sn H locs ls (lv_sub hl [2, 3, 4] rfl) h hle f_a0 hw
    have hw := hw.2 c7003
    by_cases c7004 : xn2 = 40
    · have hw := hw.1 c7004
      refine lv_lookup (off := 131) (tgt := 160) X.1 X.2.1 dX12_scanSign_29 (by decide) (by rw [c7004]; decide) (by decide) ?_
      exact j160 xn2 Sn H locs ls (lv_sub hl [2, 3, 4] rfl) h hle f_a0 hw
    have hw := hw.2 c7004
    by_cases c7005 : xn2 = 41
    · have hw := hw.1 c7005
      refine lv_lookup (off := 131) (tgt := 160) X.1 X.2.1 dX12_scanSign_29 (by decide) (by rw [c7005]; decide) (by decide) ?_
      exact j160 xn2 Sn H locs ls (lv_sub hl [2, 3, 4] rfl) h hle f_a0 hw
    have hw := hw.2 c7005
    by_cases c7006 : xn2 = 42
    · have hw := hw.1 c7006
      refine lv_lookup (off := 131) (tgt := 160) X.1 X.2.1 dX12_scanSign_29 (by decide) (by rw [c7006]; decide) (by decide) ?_
      exact j160 xn2 Sn H locs ls (lv_sub hl [2, 3, 4] rfl) h hle f_a0 hw
    have hw := hw.2 c7006
    by_cases c7007 : xn2 = 43
    · have hw := hw.1 c7007
      refine lv_lookup (off := 131) (tgt := 160) X.1 X.2.1 dX12_scanSign_29 (by decide) (by rw [c7007]; decide) (by decide) ?_
      exact j160 xn2 Sn H locs ls (lv_sub hl [2, 3, 4] rfl) h hle f_a0 hw
    have hw := hw.2 c7007
    by_cases c7008 : xn2 = 44
    · have hw := hw.1 c7008
      refine lv_lookup (off := 131) (tgt := 160) X.1 X.2.1 dX12_scanSign_29 (by decide) (by rw [c7008]; decide) (by decide) ?_
      exact j160 xn2 Sn H locs ls (lv_sub hl [2, 3, 4] rfl) h hle f_a0 hw
    have hw := hw.2 c7008
    by_cases c7009 : xn2 = 45
    · have hw := hw.1 c7009
      refine lv_lookup (off := 131) (tgt := 160) X.1 X.2.1 dX12_scanSign_29 (by decide) (by rw [c7009]; decide) (by decide) ?_
      exact j160 xn2 Sn H locs ls (lv_sub hl [2, 3, 4] rfl) h hle f_a0 hw
    have hw := hw.2 c7009
    by_cases c7010 : xn2 = 47
    · have hw := hw.1 c7010
      refine lv_lookup (off := 131) (tgt := 160) X.1 X.2.1 dX12_scanSign_29 (by decide) (by rw [c7010]; decide) (by decide) ?_
      exact j160 xn2 Sn H locs ls (lv_sub hl [2, 3, 4] rfl) h hle f_a0 hw
    have hw := hw.2 c7010
    by_cases c7011 : xn2 = 58
    · have hw := hw.1 c7011
      refine lv_lookup (off := 131) (tgt := 160) X.1 X.2.1 dX12_scanSign_29 (by decide) (by rw [c7011]; decide) (by decide) ?_
      exact j160 xn2 Sn H locs ls (lv_sub hl [2, 3, 4] rfl) h hle f_a0 hw
    have hw := hw.2 c7011
    by_cases c7012 : xn2 = 59
    · have hw := hw.1 c7012
      refine lv_lookup (off := 131) (tgt := 160) X.1 X.2.1 dX12_scanSign_29 (by decide) (by rw [c7012]; decide) (by decide) ?_
      exact j160 xn2 Sn H locs ls (lv_sub hl [2, 3, 4] rfl) h hle f_a0 hw
    have hw := hw.2 c7012
    by_cases c7013 : xn2 = 60
    · have hw := hw.1 c7013
      refine lv_lookup (off := 161) (tgt := 190) X.1 X.2.1 dX12_scanSign_29 (by decide) (by rw [c7013]; decide) (by decide) ?_
      refine lv_iload_n X.1 X.2.1 dX12_scanSign_190 rfl (lv_at hl 1 rfl) ?_
      refine lv_if_eq (tgt := 200) X.1 X.2.1 dX12_scanSign_191 (by decide) (fun c7014 => ?_) (fun c7014 => ?_)
      · have hw := hw.1 c7014
        refine lv_bipush (v := 100) X.1 X.2.1 dX12_scanSign_200 (by decide) ?_
        refine lv_iload_n X.1 X.2.1 dX12_scanSign_202 rfl (lv_at hl 4 rfl) ?_
        refine lv_iadd X.1 X.2.1 dX12_scanSign_203 ?_
        exact j204 xt0 (100 + xn2) Sn H locs ls (lv_sub hl [2, 3, 1] rfl) h hle f_a0 hw
      · have hw := hw.2 c7014
        refine lv_sipush (v := 303) X.1 X.2.1 dX12_scanSign_194 (by decide) ?_
        refine lv_goto (tgt := 204) X.1 X.2.1 dX12_scanSign_197 (by decide) ?_
        exact j204 xt0 303 Sn H locs ls (lv_sub hl [2, 3, 1] rfl) h hle f_a0 hw
    have hw := hw.2 c7013
    by_cases c7015 : xn2 = 61
    · have hw := hw.1 c7015
      refine lv_lookup (off := 142) (tgt := 171) X.1 X.2.1 dX12_scanSign_29 (by decide) (by rw [c7015]; decide) (by decide) ?_
      refine lv_iload_n X.1 X.2.1 dX12_scanSign_171 rfl (lv_at hl 1 rfl) ?_
      refine lv_if_eq (tgt := 181) X.1 X.2.1 dX12_scanSign_172 (by decide) (fun c7016 => ?_) (fun c7016 => ?_)
      · have hw := hw.1 c7016
        refine lv_bipush (v := 100) X.1 X.2.1 dX12_scanSign_181 (by decide) ?_
        refine lv_iload_n X.1 X.2.1 dX12_scanSign_183 rfl (lv_at hl 4 rfl) ?_
        refine lv_iadd X.1 X.2.1 dX12_scanSign_184 ?_
        exact j185 xt0 (100 + xn2) Sn H locs ls (lv_sub hl [2, 3, 1] rfl) h hle f_a0 hw
      · have hw := hw.2 c7016
        refine lv_sipush (v := 301) X.1 X.2.1 dX12_scanSign_175 (by decide) ?_
        refine lv_goto (tgt := 185) X.1 X.2.1 dX12_scanSign_178 (by decide) ?_
        exact j185 xt0 301 Sn H locs ls (lv_sub hl [2, 3, 1] rfl) h hle f_a0 hw
    have hw := hw.2 c7015
    by_cases c7017 : xn2 = 123
    · have hw := hw.1 c7017
      refine lv_lookup (off := 131) (tgt := 160) X.1 X.2.1 dX12_scanSign_29 (by decide) (by rw [c7017]; decide) (by decide) ?_
      exact j160 xn2 Sn H locs ls (lv_sub hl [2, 3, 4] rfl) h hle f_a0 hw
    have hw := hw.2 c7017
    by_cases c7018 : xn2 = 125
    · have hw := hw.1 c7018
      refine lv_lookup (off := 131) (tgt := 160) X.1 X.2.1 dX12_scanSign_29 (by decide) (by rw [c7018]; decide) (by decide) ?_
      exact j160 xn2 Sn H locs ls (lv_sub hl [2, 3, 4] rfl) h hle f_a0 hw
    have hw := hw.2 c7018
    refine lv_lookup (off := 196) (tgt := 225) X.1 X.2.1 dX12_scanSign_29 (by decide) (by show Op.lookupswitch.offset [(33, 180), (37, 131), (40, 131), (41, 131), (42, 131), (43, 131), (44, 131), (45, 131), (47, 131), (58, 131), (59, 131), (60, 161), (61, 142), (123, 131), (125, 131)] _ _ = _; rw [lv_osw (a := 33) c7001 (by decide), lv_osw (a := 37) c7003 (by decide), lv_osw (a := 40) c7004 (by decide), lv_osw (a := 41) c7005 (by decide), lv_osw (a := 42) c7006 (by decide), lv_osw (a := 43) c7007 (by decide), lv_osw (a := 44) c7008 (by decide), lv_osw (a := 45) c7009 (by decide), lv_osw (a := 47) c7010 (by decide), lv_osw (a := 58) c7011 (by decide), lv_osw (a := 59) c7012 (by decide), lv_osw (a := 60) c7013 (by decide), lv_osw (a := 61) c7015 (by decide), lv_osw (a := 123) c7017 (by decide), lv_osw (a := 125) c7018 (by decide)]; rfl) (by decide) ?_
    exact j225 xt0 1 Sn H locs ls (lv_sub hl [2, 3, 1, 0] rfl) h hle f_a0 hw
  unfold wX12_scanSign at hw
  have h : kp_H D cy A S s.heap s.heap [] := h
  revert h
  intro h
  refine lv_aload_n X.1 X.2.1 dX12_scanSign_0 rfl (lv_at hl 0 rfl) ?_
  obtain ⟨b1, e_b1, hw⟩ := hw
  have f_b1 := h.2.2.2.rf (c := 12) (k := 1) f_a0 (by decide) (by decide) e_b1 (t := 14) rfl
  refine kp_get X h f_a0 ff_12_23.l (v := .ref b1) (congrArg va_rf e_b1) dX12_scanSign_1 ?_
  refine lv_iload_n X.1 X.2.1 dX12_scanSign_4 rfl (lv_at hl 1 rfl) ?_
  obtain ⟨hi, hw⟩ := hw
  refine kp_iald X h f_b1 hi dX12_scanSign_5 ?_
  refine lv_topi (fun y2 e_y2 => ?_)
  have hw := hw y2 e_y2
  refine lv_istore_n (lv' := [(2, .int y2), (0, .ref a0), (1, .int x1)]) X.1 X.2.1 dX12_scanSign_6 rfl hl (by decide) rfl (fun ls hl => ?_)
  refine lv_aload_n X.1 X.2.1 dX12_scanSign_7 rfl (lv_at hl 1 rfl) ?_
  refine lv_iload_n X.1 X.2.1 dX12_scanSign_8 rfl (lv_at hl 2 rfl) ?_
  refine lv_iconst (v := 1) X.1 X.2.1 dX12_scanSign_9 (by decide) ?_
  refine lv_iadd X.1 X.2.1 dX12_scanSign_10 ?_
  refine kp_calli X h (kp_runV (rm := { frames := 0, cells := 0, slots := 0, locals := 0 }) (mc := 0) (ms := 0) (rest := []) (Qc := fun A => kp_Qi D cy A S _) X h (c_X12_at l D cy ad S a0 (x1 + 1) _ h.2.2.2 f_a0 hw) f_a0 cv_12_363 ⟨by decide, by decide, rfl, rfl, by decide, by decide⟩ rfl hl.1 rfl (Nat.le_of_ble_eq_true rfl) dX12_scanSign_11) (fun y4 T3 hw l_T3 H locs h => ?_)
  have f_a0 := l_T3.is f_a0
  have f_b1 := l_T3.is f_b1
  have hle := hle.tr l_T3
  refine lv_bipush (v := 61) X.1 X.2.1 dX12_scanSign_14 (by decide) ?_
  refine lv_icmp_ne (tgt := 23) X.1 X.2.1 dX12_scanSign_16 (by decide) (fun c5 => ?_) (fun c5 => ?_)
  · have hw := hw.1 c5
    refine lv_iconst (v := 0) X.1 X.2.1 dX12_scanSign_23 (by decide) ?_
    exact j24 y2 0 T3 _ _ ls (lv_sub hl [1, 2, 0] rfl) h hle f_a0 hw
  · have hw := hw.2 c5
    refine lv_iconst (v := 1) X.1 X.2.1 dX12_scanSign_19 (by decide) ?_
    refine lv_goto (tgt := 24) X.1 X.2.1 dX12_scanSign_20 (by decide) ?_
    exact j24 y2 1 T3 _ _ ls (lv_sub hl [1, 2, 0] rfl) h hle f_a0 hw
theorem dX12_scan_0 : decode cX12_scan 0 = .ok (.aload_n 0, 1) := by decide +kernel
theorem dX12_scan_1 : decode cX12_scan 1 = .ok (.iconst 0, 1) := by decide +kernel
theorem dX12_scan_2 : decode cX12_scan 2 = .ok (.putfield 336, 3) := by decide +kernel
theorem dX12_scan_5 : decode cX12_scan 5 = .ok (.aload_n 0, 1) := by decide +kernel
theorem dX12_scan_6 : decode cX12_scan 6 = .ok (.iconst 0, 1) := by decide +kernel
theorem dX12_scan_7 : decode cX12_scan 7 = .ok (.invokevirtual 339, 3) := by decide +kernel
theorem dX12_scan_10 : decode cX12_scan 10 = .ok (.istore_n 1, 1) := by decide +kernel
theorem dX12_scan_11 : decode cX12_scan 11 = .ok (.iload_n 1, 1) := by decide +kernel
theorem dX12_scan_12 : decode cX12_scan 12 = .ok (.aload_n 0, 1) := by decide +kernel
theorem dX12_scan_13 : decode cX12_scan 13 = .ok (.getfield 330, 3) := by decide +kernel
theorem dX12_scan_16 : decode cX12_scan 16 = .ok (.if_icmp .ge 92, 3) := by decide +kernel
theorem dX12_scan_19 : decode cX12_scan 19 = .ok (.aload_n 0, 1) := by decide +kernel
theorem dX12_scan_20 : decode cX12_scan 20 = .ok (.getfield 336, 3) := by decide +kernel
theorem dX12_scan_23 : decode cX12_scan 23 = .ok (.ifCond .eq 18, 3) := by decide +kernel
theorem dX12_scan_26 : decode cX12_scan 26 = .ok (.aload_n 0, 1) := by decide +kernel
theorem dX12_scan_27 : decode cX12_scan 27 = .ok (.getfield 31, 3) := by decide +kernel
theorem dX12_scan_30 : decode cX12_scan 30 = .ok (.aload_n 0, 1) := by decide +kernel
theorem dX12_scan_31 : decode cX12_scan 31 = .ok (.getfield 336, 3) := by decide +kernel
theorem dX12_scan_34 : decode cX12_scan 34 = .ok (.iconst 1, 1) := by decide +kernel
theorem dX12_scan_35 : decode cX12_scan 35 = .ok (.isub, 1) := by decide +kernel
theorem dX12_scan_36 : decode cX12_scan 36 = .ok (.iaload, 1) := by decide +kernel
theorem dX12_scan_37 : decode cX12_scan 37 = .ok (.iconst 1, 1) := by decide +kernel
theorem dX12_scan_38 : decode cX12_scan 38 = .ok (.if_icmp .eq 70, 3) := by decide +kernel
theorem dX12_scan_41 : decode cX12_scan 41 = .ok (.aload_n 0, 1) := by decide +kernel
theorem dX12_scan_42 : decode cX12_scan 42 = .ok (.getfield 23, 3) := by decide +kernel
theorem dX12_scan_45 : decode cX12_scan 45 = .ok (.iload_n 1, 1) := by decide +kernel
theorem dX12_scan_46 : decode cX12_scan 46 = .ok (.iaload, 1) := by decide +kernel
theorem dX12_scan_47 : decode cX12_scan 47 = .ok (.istore_n 2, 1) := by decide +kernel
theorem dX12_scan_48 : decode cX12_scan 48 = .ok (.iload_n 1, 1) := by decide +kernel
theorem dX12_scan_49 : decode cX12_scan 49 = .ok (.istore_n 3, 1) := by decide +kernel
theorem dX12_scan_50 : decode cX12_scan 50 = .ok (.iload_n 2, 1) := by decide +kernel
theorem dX12_scan_51 : decode cX12_scan 51 = .ok (.invokestatic 343, 3) := by decide +kernel
theorem dX12_scan_54 : decode cX12_scan 54 = .ok (.ifCond .eq 12, 3) := by decide +kernel
theorem dX12_scan_57 : decode cX12_scan 57 = .ok (.aload_n 0, 1) := by decide +kernel
theorem dX12_scan_58 : decode cX12_scan 58 = .ok (.iload_n 1, 1) := by decide +kernel
theorem dX12_scan_59 : decode cX12_scan 59 = .ok (.invokevirtual 347, 3) := by decide +kernel
theorem dX12_scan_62 : decode cX12_scan 62 = .ok (.istore_n 1, 1) := by decide +kernel
theorem dX12_scan_63 : decode cX12_scan 63 = .ok (.goto 25, 3) := by decide +kernel
theorem dX12_scan_66 : decode cX12_scan 66 = .ok (.iload_n 2, 1) := by decide +kernel
theorem dX12_scan_67 : decode cX12_scan 67 = .ok (.invokestatic 350, 3) := by decide +kernel
theorem dX12_scan_70 : decode cX12_scan 70 = .ok (.ifCond .eq 12, 3) := by decide +kernel
theorem dX12_scan_73 : decode cX12_scan 73 = .ok (.aload_n 0, 1) := by decide +kernel
theorem dX12_scan_74 : decode cX12_scan 74 = .ok (.iload_n 1, 1) := by decide +kernel
theorem dX12_scan_75 : decode cX12_scan 75 = .ok (.invokevirtual 353, 3) := by decide +kernel
theorem dX12_scan_78 : decode cX12_scan 78 = .ok (.istore_n 1, 1) := by decide +kernel
theorem dX12_scan_79 : decode cX12_scan 79 = .ok (.goto 9, 3) := by decide +kernel
theorem dX12_scan_82 : decode cX12_scan 82 = .ok (.aload_n 0, 1) := by decide +kernel
theorem dX12_scan_83 : decode cX12_scan 83 = .ok (.iload_n 1, 1) := by decide +kernel
theorem dX12_scan_84 : decode cX12_scan 84 = .ok (.invokevirtual 356, 3) := by decide +kernel
theorem dX12_scan_87 : decode cX12_scan 87 = .ok (.istore_n 1, 1) := by decide +kernel
theorem dX12_scan_88 : decode cX12_scan 88 = .ok (.aload_n 0, 1) := by decide +kernel
theorem dX12_scan_89 : decode cX12_scan 89 = .ok (.iload_n 1, 1) := by decide +kernel
theorem dX12_scan_90 : decode cX12_scan 90 = .ok (.iload_n 3, 1) := by decide +kernel
theorem dX12_scan_91 : decode cX12_scan 91 = .ok (.if_icmp .le 7, 3) := by decide +kernel
theorem dX12_scan_94 : decode cX12_scan 94 = .ok (.iload_n 1, 1) := by decide +kernel
theorem dX12_scan_95 : decode cX12_scan 95 = .ok (.goto 6, 3) := by decide +kernel
theorem dX12_scan_98 : decode cX12_scan 98 = .ok (.iload_n 3, 1) := by decide +kernel
theorem dX12_scan_99 : decode cX12_scan 99 = .ok (.iconst 1, 1) := by decide +kernel
theorem dX12_scan_100 : decode cX12_scan 100 = .ok (.iadd, 1) := by decide +kernel
theorem dX12_scan_101 : decode cX12_scan 101 = .ok (.invokevirtual 339, 3) := by decide +kernel
theorem dX12_scan_104 : decode cX12_scan 104 = .ok (.istore_n 1, 1) := by decide +kernel
theorem dX12_scan_105 : decode cX12_scan 105 = .ok (.goto (-94), 3) := by decide +kernel
theorem dX12_scan_108 : decode cX12_scan 108 = .ok (.aload_n 0, 1) := by decide +kernel
theorem dX12_scan_109 : decode cX12_scan 109 = .ok (.iconst 0, 1) := by decide +kernel
theorem dX12_scan_110 : decode cX12_scan 110 = .ok (.aload_n 0, 1) := by decide +kernel
theorem dX12_scan_111 : decode cX12_scan 111 = .ok (.getfield 330, 3) := by decide +kernel
theorem dX12_scan_114 : decode cX12_scan 114 = .ok (.lconst 0, 1) := by decide +kernel
theorem dX12_scan_115 : decode cX12_scan 115 = .ok (.invokevirtual 359, 3) := by decide +kernel
theorem dX12_scan_118 : decode cX12_scan 118 = .ok (.return_, 1) := by decide +kernel
def wX12_scan_b108 (a0 : Nat)  (Sn : kp_S) (post : kp_S → Prop) : Prop :=
  wX12_token a0 0 (kp_I Sn 2402 a0) 0 Sn (fun T1001 =>
  post T1001)
def wX12_scan_b101 (a0 : Nat) (xt0 : Int32) (at1 : Nat) (K11 : Int32 → kp_S → Prop) (Sn : kp_S) (post : kp_S → Prop) : Prop :=
  wX12_behindBlanks at1 xt0 Sn (fun y2002 T2001 =>
  K11 y2002 T2001)
def wX12_scan_b88 (a0 : Nat) (xn1 : Int32) (xn3 : Int32) (K11 : Int32 → kp_S → Prop) (Sn : kp_S) (post : kp_S → Prop) : Prop :=
  ((xn1 ≤ xn3 →
  wX12_scan_b101 a0 (xn3 + 1) a0 K11 Sn post) ∧ (¬ xn1 ≤ xn3 →
  wX12_scan_b101 a0 xn1 a0 K11 Sn post))
def wX12_scan_b41 (a0 : Nat) (xn1 : Int32) (K11 : Int32 → kp_S → Prop) (Sn : kp_S) (post : kp_S → Prop) : Prop :=
  ∃ b4001 : Nat, kp_R Sn 2401 a0 = some b4001 ∧
  vp_in xn1 (kp_N Sn b4001) ∧
  ∀ y4002 : Int32, y4002 = (kp_A Sn b4001 xn1.toNatClampNeg) →
  wX12_isLetter y4002 Sn (fun y4004 T4003 =>
  ((y4004 = 0 →
  wX12_isDigit y4002 T4003 (fun y4006 T4005 =>
  ((y4006 = 0 →
  wX12_scanSign a0 xn1 T4005 (fun y4008 T4007 =>
  wX12_scan_b88 a0 y4008 xn1 K11 T4007 post)) ∧ (¬ y4006 = 0 →
  wX12_scanNumber a0 xn1 T4005 (fun y4010 T4009 =>
  wX12_scan_b88 a0 y4010 xn1 K11 T4009 post))))) ∧ (¬ y4004 = 0 →
  wX12_scanName a0 xn1 T4003 (fun y4013 T4012 =>
  wX12_scan_b88 a0 y4013 xn1 K11 T4012 post))))
def wX12_scan_L11 (a0 : Nat)  (post : kp_S → Prop) : Nat → Int32 → kp_S → Prop
  | 0, _, _ => False
  | n + 1, xn1, Sn =>
  (((kp_I Sn 2402 a0) ≤ xn1 →
  wX12_scan_b108 a0   Sn post) ∧ (¬ (kp_I Sn 2402 a0) ≤ xn1 →
  (((kp_I Sn 2407 a0) = 0 →
  wX12_scan_b41 a0 xn1 (fun xn1_ S_ => wX12_scan_L11 a0  post n xn1_ S_) Sn post) ∧ (¬ (kp_I Sn 2407 a0) = 0 →
  ∃ b5001 : Nat, kp_R Sn 2404 a0 = some b5001 ∧
  vp_in ((kp_I Sn 2407 a0) - 1) (kp_N Sn b5001) ∧
  (((kp_A Sn b5001 ((kp_I Sn 2407 a0) - 1).toNatClampNeg) = 1 →
  wX12_scan_b108 a0   Sn post) ∧ (¬ (kp_A Sn b5001 ((kp_I Sn 2407 a0) - 1).toNatClampNeg) = 1 →
  wX12_scan_b41 a0 xn1 (fun xn1_ S_ => wX12_scan_L11 a0  post n xn1_ S_) Sn post))))))
def wX12_scan (a0 : Nat) (S : kp_S) (post : kp_S → Prop) : Prop :=
  ∀ T1 : kp_S, T1 = kp_sI S 2407 a0 0 →
  wX12_behindBlanks a0 0 T1 (fun y3 T2 =>
  ∃ n0 : Nat, wX12_scan_L11 a0  post n0 y3 T2)
set_option maxHeartbeats 4000000 in
set_option maxRecDepth 100000 in
theorem c_X12_scan (l : Launch) (D : va_G) (cy : Nat → ClassId) (ad : (Nat → Nat) × (Nat → Nat)) (S : kp_S) (a0 : Nat) (post : kp_S → Prop) (hS : kp_ok S) (f_a0 : kp_is S a0 12) (hw : wX12_scan a0 S post) : kp_M l yX12_scan cX12_scan 4 none { frames := 2, cells := 0, slots := 0, locals := 50 } D cy ad S [.ref a0] 0 0 (fun A => kp_Qv D cy A S post) := by
  refine kp_start (own := RX12) (by decide) rfl (Nat.le_of_ble_eq_true rfl) hS ?_
  intro p e s m below meth c A ls X hr hlocks hname h hl
  have hle : kp_le S S := kp_le.rf
  have hl : lv_has ls 4 [(0, .ref a0)] := hl
  have j108 : ∀  (Sn : kp_S) (H : Heap) (locs : List Loc) (ls : Array Slot), lv_has ls 4 [(0, .ref a0)] → kp_H D cy A Sn s.heap H locs → kp_le S Sn → kp_is Sn a0 12 → wX12_scan_b108 a0   Sn post → W p l e { frames := 2, cells := 0, slots := 0, locals := 50 } s m ([.ref a0] : List Value).toArray below meth c H locs 0 0 (MQ below (kp_Qv D cy A S post) ([.ref a0] : List Value).toArray s 0 0 A) (F0 m 108 ls []) := by
    intro  Sn H locs ls hl h hle f_a0 hw
    unfold wX12_scan_b108 at hw
    refine lv_aload_n X.1 X.2.1 dX12_scan_108 rfl (lv_at hl 0 rfl) ?_
    refine lv_iconst (v := 0) X.1 X.2.1 dX12_scan_109 (by decide) ?_
    refine lv_aload_n X.1 X.2.1 dX12_scan_110 rfl (lv_at hl 0 rfl) ?_
    refine kp_get X h f_a0 fp_12_330.l (v := .int (kp_I Sn 2402 a0)) rfl dX12_scan_111 ?_
    refine lv_lconst (v := 0) X.1 X.2.1 dX12_scan_114 (by decide) ?_
    refine kp_callv X h (kp_runV (rm := { frames := 0, cells := 0, slots := 0, locals := 0 }) (mc := 0) (ms := 0) (rest := []) (Qc := fun A => kp_Qv D cy A Sn _) X h (c_X12_token l D cy ad Sn a0 0 (kp_I Sn 2402 a0) 0 _ h.2.2.2 f_a0 hw) f_a0 cv_12_359 ⟨by decide, by decide, rfl, rfl, by decide, by decide⟩ rfl hl.1 rfl (Nat.le_of_ble_eq_true rfl) dX12_scan_115) (fun T1001 hw l_T1001 H locs h => ?_)
    have f_a0 := l_T1001.is f_a0
    have hle := hle.tr l_T1001
    exact kp_retv X hr hlocks h hle hw dX12_scan_118
  have L11 : ∀ n11 : Nat, ∀ (xn1 : Int32) (Sn : kp_S) (H : Heap) (locs : List Loc) (ls : Array Slot), lv_has ls 4 [(0, .ref a0), (1, .int xn1)] → kp_H D cy A Sn s.heap H locs → kp_le S Sn → kp_is Sn a0 12 → wX12_scan_L11 a0  post n11 xn1 Sn → W p l e { frames := 2, cells := 0, slots := 0, locals := 50 } s m ([.ref a0] : List Value).toArray below meth c H locs 0 0 (MQ below (kp_Qv D cy A S post) ([.ref a0] : List Value).toArray s 0 0 A) (F0 m 11 ls []) := by
    intro n11
    induction n11 with
    | zero => intro xn1 Sn H locs ls hl h hle f_a0 hw; exact hw.elim
    | succ n11 ih11 =>
      have j101 : ∀ (xt0 : Int32) (at1 : Nat) (Sn : kp_S) (H : Heap) (locs : List Loc) (ls : Array Slot), lv_has ls 4 [(0, .ref a0)] → kp_H D cy A Sn s.heap H locs → kp_le S Sn → kp_is Sn a0 12 → kp_is Sn at1 12 → wX12_scan_b101 a0 xt0 at1 (fun xn1_ S_ => wX12_scan_L11 a0  post n11 xn1_ S_) Sn post → W p l e { frames := 2, cells := 0, slots := 0, locals := 50 } s m ([.ref a0] : List Value).toArray below meth c H locs 0 0 (MQ below (kp_Qv D cy A S post) ([.ref a0] : List Value).toArray s 0 0 A) (F0 m 101 ls [.int xt0, .ref at1]) := by
        intro xt0 at1 Sn H locs ls hl h hle f_a0 f_at1 hw
        unfold wX12_scan_b101 at hw
        refine kp_calli X h (kp_runV (rm := { frames := 0, cells := 0, slots := 0, locals := 0 }) (mc := 0) (ms := 0) (rest := []) (Qc := fun A => kp_Qi D cy A Sn _) X h (c_X12_behindBlanks l D cy ad Sn at1 xt0 _ h.2.2.2 f_at1 hw) f_at1 cv_12_339 ⟨by decide, by decide, rfl, rfl, by decide, by decide⟩ rfl hl.1 rfl (Nat.le_of_ble_eq_true rfl) dX12_scan_101) (fun y2002 T2001 hw l_T2001 H locs h => ?_)
        have f_a0 := l_T2001.is f_a0
        have f_at1 := l_T2001.is f_at1
        have hle := hle.tr l_T2001
        refine lv_istore_n (lv' := [(1, .int y2002), (0, .ref a0)]) X.1 X.2.1 dX12_scan_104 rfl hl (by decide) rfl (fun ls hl => ?_)
        refine lv_goto (tgt := 11) X.1 X.2.1 dX12_scan_105 (by decide) ?_
        exact ih11 y2002 T2001 H locs ls (lv_sub hl [1, 0] rfl) h hle f_a0 hw
      have j88 : ∀ (xn1 : Int32) (xn3 : Int32) (Sn : kp_S) (H : Heap) (locs : List Loc) (ls : Array Slot), lv_has ls 4 [(0, .ref a0), (1, .int xn1), (3, .int xn3)] → kp_H D cy A Sn s.heap H locs → kp_le S Sn → kp_is Sn a0 12 → wX12_scan_b88 a0 xn1 xn3 (fun xn1_ S_ => wX12_scan_L11 a0  post n11 xn1_ S_) Sn post → W p l e { frames := 2, cells := 0, slots := 0, locals := 50 } s m ([.ref a0] : List Value).toArray below meth c H locs 0 0 (MQ below (kp_Qv D cy A S post) ([.ref a0] : List Value).toArray s 0 0 A) (F0 m 88 ls []) := by
        intro xn1 xn3 Sn H locs ls hl h hle f_a0 hw
        unfold wX12_scan_b88 at hw
        refine lv_aload_n X.1 X.2.1 dX12_scan_88 rfl (lv_at hl 0 rfl) ?_
        refine lv_iload_n X.1 X.2.1 dX12_scan_89 rfl (lv_at hl 1 rfl) ?_
        refine lv_iload_n X.1 X.2.1 dX12_scan_90 rfl (lv_at hl 2 rfl) ?_
        refine lv_icmp_le (tgt := 98) X.1 X.2.1 dX12_scan_91 (by decide) (fun c3001 => ?_) (fun c3001 => ?_)
        · have hw := hw.1 c3001
          refine lv_iload_n X.1 X.2.1 dX12_scan_98 rfl (lv_at hl 2 rfl) ?_
          refine lv_iconst (v := 1) X.1 X.2.1 dX12_scan_99 (by decide) ?_
          refine lv_iadd X.1 X.2.1 dX12_scan_100 ?_
          exact j101 (xn3 + 1) a0 Sn H locs ls (lv_sub hl [0] rfl) h hle f_a0 f_a0 hw
        · have hw := hw.2 c3001
          refine lv_iload_n X.1 X.2.1 dX12_scan_94 rfl (lv_at hl 1 rfl) ?_
          refine lv_goto (tgt := 101) X.1 X.2.1 dX12_scan_95 (by decide) ?_
          exact j101 xn1 a0 Sn H locs ls (lv_sub hl [0] rfl) h hle f_a0 f_a0 hw
      have j41 : ∀ (xn1 : Int32) (Sn : kp_S) (H : Heap) (locs : List Loc) (ls : Array Slot), lv_has ls 4 [(0, .ref a0), (1, .int xn1)] → kp_H D cy A Sn s.heap H locs → kp_le S Sn → kp_is Sn a0 12 → wX12_scan_b41 a0 xn1 (fun xn1_ S_ => wX12_scan_L11 a0  post n11 xn1_ S_) Sn post → W p l e { frames := 2, cells := 0, slots := 0, locals := 50 } s m ([.ref a0] : List Value).toArray below meth c H locs 0 0 (MQ below (kp_Qv D cy A S post) ([.ref a0] : List Value).toArray s 0 0 A) (F0 m 41 ls []) := by
        intro xn1 Sn H locs ls hl h hle f_a0 hw
        unfold wX12_scan_b41 at hw
        refine lv_aload_n X.1 X.2.1 dX12_scan_41 rfl (lv_at hl 0 rfl) ?_
        obtain ⟨b4001, e_b4001, hw⟩ := hw
        have f_b4001 := h.2.2.2.rf (c := 12) (k := 1) f_a0 (by decide) (by decide) e_b4001 (t := 14) rfl
        refine kp_get X h f_a0 ff_12_23.l (v := .ref b4001) (congrArg va_rf e_b4001) dX12_scan_42 ?_
        refine lv_iload_n X.1 X.2.1 dX12_scan_45 rfl (lv_at hl 1 rfl) ?_
        obtain ⟨hi, hw⟩ := hw
        refine kp_iald X h f_b4001 hi dX12_scan_46 ?_
        refine lv_topi (fun y4002 e_y4002 => ?_)
        have hw := hw y4002 e_y4002
        refine lv_istore_n (lv' := [(2, .int y4002), (0, .ref a0), (1, .int xn1)]) X.1 X.2.1 dX12_scan_47 rfl hl (by decide) rfl (fun ls hl => ?_)
        refine lv_iload_n X.1 X.2.1 dX12_scan_48 rfl (lv_at hl 2 rfl) ?_
        refine lv_istore_n (lv' := [(3, .int xn1), (2, .int y4002), (0, .ref a0), (1, .int xn1)]) X.1 X.2.1 dX12_scan_49 rfl hl (by decide) rfl (fun ls hl => ?_)
        refine lv_iload_n X.1 X.2.1 dX12_scan_50 rfl (lv_at hl 1 rfl) ?_
        refine kp_calli X h (kp_runS (rm := { frames := 0, cells := 0, slots := 0, locals := 0 }) (mc := 0) (ms := 0) (rest := []) (Qc := fun A => kp_Qi D cy A Sn _) X h (c_X12_isLetter l D cy ad Sn y4002 _ h.2.2.2  hw) cs_12_343 ⟨by decide, by decide, rfl, rfl, by decide, by decide⟩ rfl hl.1 rfl (Nat.le_of_ble_eq_true rfl) dX12_scan_51) (fun y4004 T4003 hw l_T4003 H locs h => ?_)
        have f_a0 := l_T4003.is f_a0
        have f_b4001 := l_T4003.is f_b4001
        have hle := hle.tr l_T4003
        refine lv_if_eq (tgt := 66) X.1 X.2.1 dX12_scan_54 (by decide) (fun c4014 => ?_) (fun c4014 => ?_)
        · have hw := hw.1 c4014
          refine lv_iload_n X.1 X.2.1 dX12_scan_66 rfl (lv_at hl 1 rfl) ?_
          refine kp_calli X h (kp_runS (rm := { frames := 0, cells := 0, slots := 0, locals := 0 }) (mc := 0) (ms := 0) (rest := []) (Qc := fun A => kp_Qi D cy A T4003 _) X h (c_X12_isDigit l D cy ad T4003 y4002 _ h.2.2.2  hw) cs_12_350 ⟨by decide, by decide, rfl, rfl, by decide, by decide⟩ rfl hl.1 rfl (Nat.le_of_ble_eq_true rfl) dX12_scan_67) (fun y4006 T4005 hw l_T4005 H locs h => ?_)
          have f_a0 := l_T4005.is f_a0
          have f_b4001 := l_T4005.is f_b4001
          have hle := hle.tr l_T4005
          refine lv_if_eq (tgt := 82) X.1 X.2.1 dX12_scan_70 (by decide) (fun c4011 => ?_) (fun c4011 => ?_)
          · have hw := hw.1 c4011
            refine lv_aload_n X.1 X.2.1 dX12_scan_82 rfl (lv_at hl 2 rfl) ?_
            refine lv_iload_n X.1 X.2.1 dX12_scan_83 rfl (lv_at hl 3 rfl) ?_
            refine kp_calli X h (kp_runV (rm := { frames := 1, cells := 0, slots := 0, locals := 24 }) (mc := 0) (ms := 0) (rest := []) (Qc := fun A => kp_Qi D cy A T4005 _) X h (c_X12_scanSign l D cy ad T4005 a0 xn1 _ h.2.2.2 f_a0 hw) f_a0 cv_12_356 ⟨by decide, by decide, rfl, rfl, by decide, by decide⟩ rfl hl.1 rfl (Nat.le_of_ble_eq_true rfl) dX12_scan_84) (fun y4008 T4007 hw l_T4007 H locs h => ?_)
            have f_a0 := l_T4007.is f_a0
            have f_b4001 := l_T4007.is f_b4001
            have hle := hle.tr l_T4007
            refine lv_istore_n (lv' := [(1, .int y4008), (3, .int xn1), (2, .int y4002), (0, .ref a0)]) X.1 X.2.1 dX12_scan_87 rfl hl (by decide) rfl (fun ls hl => ?_)
            exact j88 y4008 xn1 T4007 H locs ls (lv_sub hl [3, 0, 1] rfl) h hle f_a0 hw
          · have hw := hw.2 c4011
            refine lv_aload_n X.1 X.2.1 dX12_scan_73 rfl (lv_at hl 2 rfl) ?_
            refine lv_iload_n X.1 X.2.1 dX12_scan_74 rfl (lv_at hl 3 rfl) ?_
            refine kp_calli X h (kp_runV (rm := { frames := 1, cells := 0, slots := 0, locals := 24 }) (mc := 0) (ms := 0) (rest := []) (Qc := fun A => kp_Qi D cy A T4005 _) X h (c_X12_scanNumber l D cy ad T4005 a0 xn1 _ h.2.2.2 f_a0 hw) f_a0 cv_12_353 ⟨by decide, by decide, rfl, rfl, by decide, by decide⟩ rfl hl.1 rfl (Nat.le_of_ble_eq_true rfl) dX12_scan_75) (fun y4010 T4009 hw l_T4009 H locs h => ?_)
            have f_a0 := l_T4009.is f_a0
            have f_b4001 := l_T4009.is f_b4001
            have hle := hle.tr l_T4009
            refine lv_istore_n (lv' := [(1, .int y4010), (3, .int xn1), (2, .int y4002), (0, .ref a0)]) X.1 X.2.1 dX12_scan_78 rfl hl (by decide) rfl (fun ls hl => ?_)
            refine lv_goto (tgt := 88) X.1 X.2.1 dX12_scan_79 (by decide) ?_
            exact j88 y4010 xn1 T4009 H locs ls (lv_sub hl [3, 0, 1] rfl) h hle f_a0 hw
        · have hw := hw.2 c4014
          refine lv_aload_n X.1 X.2.1 dX12_scan_57 rfl (lv_at hl 2 rfl) ?_
          refine lv_iload_n X.1 X.2.1 dX12_scan_58 rfl (lv_at hl 3 rfl) ?_
          refine kp_calli X h (kp_runV (rm := { frames := 1, cells := 0, slots := 0, locals := 24 }) (mc := 0) (ms := 0) (rest := []) (Qc := fun A => kp_Qi D cy A T4003 _) X h (c_X12_scanName l D cy ad T4003 a0 xn1 _ h.2.2.2 f_a0 hw) f_a0 cv_12_347 ⟨by decide, by decide, rfl, rfl, by decide, by decide⟩ rfl hl.1 rfl (Nat.le_of_ble_eq_true rfl) dX12_scan_59) (fun y4013 T4012 hw l_T4012 H locs h => ?_)
          have f_a0 := l_T4012.is f_a0
          have f_b4001 := l_T4012.is f_b4001
          have hle := hle.tr l_T4012
          refine lv_istore_n (lv' := [(1, .int y4013), (3, .int xn1), (2, .int y4002), (0, .ref a0)]) X.1 X.2.1 dX12_scan_62 rfl hl (by decide) rfl (fun ls hl => ?_)
          refine lv_goto (tgt := 88) X.1 X.2.1 dX12_scan_63 (by decide) ?_
          exact j88 y4013 xn1 T4012 H locs ls (lv_sub hl [3, 0, 1] rfl) h hle f_a0 hw
      intro xn1 Sn H locs ls hl h hle f_a0 hw
      unfold wX12_scan_L11 at hw
      refine lv_iload_n X.1 X.2.1 dX12_scan_11 rfl (lv_at hl 1 rfl) ?_
      refine lv_aload_n X.1 X.2.1 dX12_scan_12 rfl (lv_at hl 0 rfl) ?_
      refine kp_get X h f_a0 fp_12_330.l (v := .int (kp_I Sn 2402 a0)) rfl dX12_scan_13 ?_
      refine lv_icmp_ge (tgt := 108) X.1 X.2.1 dX12_scan_16 (by decide) (fun c5004 => ?_) (fun c5004 => ?_)
      · have hw := hw.1 c5004
        exact j108  Sn H locs ls (lv_sub hl [0] rfl) h hle f_a0 hw
      · have hw := hw.2 c5004
        refine lv_aload_n X.1 X.2.1 dX12_scan_19 rfl (lv_at hl 0 rfl) ?_
        refine kp_get X h f_a0 fp_12_336.l (v := .int (kp_I Sn 2407 a0)) rfl dX12_scan_20 ?_
        refine lv_if_eq (tgt := 41) X.1 X.2.1 dX12_scan_23 (by decide) (fun c5003 => ?_) (fun c5003 => ?_)
        · have hw := hw.1 c5003
          exact j41 xn1 Sn H locs ls (lv_sub hl [0, 1] rfl) h hle f_a0 hw
        · have hw := hw.2 c5003
          refine lv_aload_n X.1 X.2.1 dX12_scan_26 rfl (lv_at hl 0 rfl) ?_
          obtain ⟨b5001, e_b5001, hw⟩ := hw
          have f_b5001 := h.2.2.2.rf (c := 12) (k := 4) f_a0 (by decide) (by decide) e_b5001 (t := 14) rfl
          refine kp_get X h f_a0 ff_12_31.l (v := .ref b5001) (congrArg va_rf e_b5001) dX12_scan_27 ?_
          refine lv_aload_n X.1 X.2.1 dX12_scan_30 rfl (lv_at hl 0 rfl) ?_
          refine kp_get X h f_a0 fp_12_336.l (v := .int (kp_I Sn 2407 a0)) rfl dX12_scan_31 ?_
          refine lv_iconst (v := 1) X.1 X.2.1 dX12_scan_34 (by decide) ?_
          refine lv_isub X.1 X.2.1 dX12_scan_35 ?_
          obtain ⟨hi, hw⟩ := hw
          refine kp_iald X h f_b5001 hi dX12_scan_36 ?_
          refine lv_iconst (v := 1) X.1 X.2.1 dX12_scan_37 (by decide) ?_
          refine lv_icmp_eq (tgt := 108) X.1 X.2.1 dX12_scan_38 (by decide) (fun c5002 => ?_) (fun c5002 => ?_)
          · have hw := hw.1 c5002
            exact j108  Sn H locs ls (lv_sub hl [0] rfl) h hle f_a0 hw
          · have hw := hw.2 c5002
            exact j41 xn1 Sn H locs ls (lv_sub hl [0, 1] rfl) h hle f_a0 hw
  unfold wX12_scan at hw
  have h : kp_H D cy A S s.heap s.heap [] := h
  revert h
  intro h
  refine lv_aload_n X.1 X.2.1 dX12_scan_0 rfl (lv_at hl 0 rfl) ?_
  refine lv_iconst (v := 0) X.1 X.2.1 dX12_scan_1 (by decide) ?_
  refine kp_putI X h f_a0 fp_12_336 rfl ⟨rfl, rfl⟩ dX12_scan_2 (fun T1 e_T1 l_T1 H locs h => ?_)
  have hw := hw T1 e_T1
  have f_a0 := l_T1.is f_a0
  have hle := hle.tr l_T1
  refine lv_aload_n X.1 X.2.1 dX12_scan_5 rfl (lv_at hl 0 rfl) ?_
  refine lv_iconst (v := 0) X.1 X.2.1 dX12_scan_6 (by decide) ?_
  refine kp_calli X h (kp_runV (rm := { frames := 0, cells := 0, slots := 0, locals := 0 }) (mc := 0) (ms := 0) (rest := []) (Qc := fun A => kp_Qi D cy A T1 _) X h (c_X12_behindBlanks l D cy ad T1 a0 0 _ h.2.2.2 f_a0 hw) f_a0 cv_12_339 ⟨by decide, by decide, rfl, rfl, by decide, by decide⟩ rfl hl.1 rfl (Nat.le_of_ble_eq_true rfl) dX12_scan_7) (fun y3 T2 hw l_T2 H locs h => ?_)
  have f_a0 := l_T2.is f_a0
  have hle := hle.tr l_T2
  refine lv_istore_n (lv' := [(1, .int y3), (0, .ref a0)]) X.1 X.2.1 dX12_scan_10 rfl hl (by decide) rfl (fun ls hl => ?_)
  obtain ⟨n0, hw⟩ := hw
  exact L11 n0 y3 T2 _ _ ls (lv_sub hl [1, 0] rfl) h hle f_a0 hw
theorem dX12_emit_0 : decode cX12_emit 0 = .ok (.aload_n 0, 1) := by decide +kernel
theorem dX12_emit_1 : decode cX12_emit 1 = .ok (.getfield 43, 3) := by decide +kernel
theorem dX12_emit_4 : decode cX12_emit 4 = .ok (.aload_n 0, 1) := by decide +kernel
theorem dX12_emit_5 : decode cX12_emit 5 = .ok (.getfield 370, 3) := by decide +kernel
theorem dX12_emit_8 : decode cX12_emit 8 = .ok (.iload_n 1, 1) := by decide +kernel
theorem dX12_emit_9 : decode cX12_emit 9 = .ok (.iastore, 1) := by decide +kernel
theorem dX12_emit_10 : decode cX12_emit 10 = .ok (.aload_n 0, 1) := by decide +kernel
theorem dX12_emit_11 : decode cX12_emit 11 = .ok (.getfield 46, 3) := by decide +kernel
theorem dX12_emit_14 : decode cX12_emit 14 = .ok (.aload_n 0, 1) := by decide +kernel
theorem dX12_emit_15 : decode cX12_emit 15 = .ok (.getfield 370, 3) := by decide +kernel
theorem dX12_emit_18 : decode cX12_emit 18 = .ok (.iload_n 2, 1) := by decide +kernel
theorem dX12_emit_19 : decode cX12_emit 19 = .ok (.iastore, 1) := by decide +kernel
theorem dX12_emit_20 : decode cX12_emit 20 = .ok (.aload_n 0, 1) := by decide +kernel
theorem dX12_emit_21 : decode cX12_emit 21 = .ok (.getfield 49, 3) := by decide +kernel
theorem dX12_emit_24 : decode cX12_emit 24 = .ok (.aload_n 0, 1) := by decide +kernel
theorem dX12_emit_25 : decode cX12_emit 25 = .ok (.getfield 370, 3) := by decide +kernel
theorem dX12_emit_28 : decode cX12_emit 28 = .ok (.iload_n 3, 1) := by decide +kernel
theorem dX12_emit_29 : decode cX12_emit 29 = .ok (.iastore, 1) := by decide +kernel
theorem dX12_emit_30 : decode cX12_emit 30 = .ok (.aload_n 0, 1) := by decide +kernel
theorem dX12_emit_31 : decode cX12_emit 31 = .ok (.dup, 1) := by decide +kernel
theorem dX12_emit_32 : decode cX12_emit 32 = .ok (.getfield 370, 3) := by decide +kernel
theorem dX12_emit_35 : decode cX12_emit 35 = .ok (.iconst 1, 1) := by decide +kernel
theorem dX12_emit_36 : decode cX12_emit 36 = .ok (.iadd, 1) := by decide +kernel
theorem dX12_emit_37 : decode cX12_emit 37 = .ok (.putfield 370, 3) := by decide +kernel
theorem dX12_emit_40 : decode cX12_emit 40 = .ok (.aload_n 0, 1) := by decide +kernel
theorem dX12_emit_41 : decode cX12_emit 41 = .ok (.getfield 370, 3) := by decide +kernel
theorem dX12_emit_44 : decode cX12_emit 44 = .ok (.iconst 1, 1) := by decide +kernel
theorem dX12_emit_45 : decode cX12_emit 45 = .ok (.isub, 1) := by decide +kernel
theorem dX12_emit_46 : decode cX12_emit 46 = .ok (.ireturn, 1) := by decide +kernel
def wX12_emit (a0 : Nat) (x1 : Int32) (x2 : Int32) (x3 : Int32) (S : kp_S) (post : Int32 → kp_S → Prop) : Prop :=
  ∃ b1 : Nat, kp_R S 2414 a0 = some b1 ∧
  vp_in (kp_I S 2417 a0) (kp_N S b1) ∧ ∀ T2 : kp_S, T2 = kp_sA S b1 (upd (kp_A S b1) ((kp_I S 2417 a0).toNatClampNeg) x1) →
  ∃ b3 : Nat, kp_R T2 2415 a0 = some b3 ∧
  vp_in (kp_I T2 2417 a0) (kp_N T2 b3) ∧ ∀ T4 : kp_S, T4 = kp_sA T2 b3 (upd (kp_A T2 b3) ((kp_I T2 2417 a0).toNatClampNeg) x2) →
  ∃ b5 : Nat, kp_R T4 2416 a0 = some b5 ∧
  vp_in (kp_I T4 2417 a0) (kp_N T4 b5) ∧ ∀ T6 : kp_S, T6 = kp_sA T4 b5 (upd (kp_A T4 b5) ((kp_I T4 2417 a0).toNatClampNeg) x3) →
  ∀ T7 : kp_S, T7 = kp_sI T6 2417 a0 ((kp_I T6 2417 a0) + 1) →
  post ((kp_I T7 2417 a0) - 1) T7
set_option maxHeartbeats 4000000 in
set_option maxRecDepth 100000 in
theorem c_X12_emit (l : Launch) (D : va_G) (cy : Nat → ClassId) (ad : (Nat → Nat) × (Nat → Nat)) (S : kp_S) (a0 : Nat) (x1 : Int32) (x2 : Int32) (x3 : Int32) (post : Int32 → kp_S → Prop) (hS : kp_ok S) (f_a0 : kp_is S a0 12) (hw : wX12_emit a0 x1 x2 x3 S post) : kp_M l yX12_emit cX12_emit 4 (some .int) { frames := 0, cells := 0, slots := 0, locals := 0 } D cy ad S [.ref a0, .int x1, .int x2, .int x3] 0 0 (fun A => kp_Qi D cy A S post) := by
  refine kp_start (own := RX12) (by decide) rfl (Nat.le_of_ble_eq_true rfl) hS ?_
  intro p e s m below meth c A ls X hr hlocks hname h hl
  have hle : kp_le S S := kp_le.rf
  have hl : lv_has ls 4 [(0, .ref a0), (1, .int x1), (2, .int x2), (3, .int x3)] := hl
  unfold wX12_emit at hw
  have h : kp_H D cy A S s.heap s.heap [] := h
  revert h
  intro h
  refine lv_aload_n X.1 X.2.1 dX12_emit_0 rfl (lv_at hl 0 rfl) ?_
  obtain ⟨b1, e_b1, hw⟩ := hw
  have f_b1 := h.2.2.2.rf (c := 12) (k := 14) f_a0 (by decide) (by decide) e_b1 (t := 14) rfl
  refine kp_get X h f_a0 ff_12_43.l (v := .ref b1) (congrArg va_rf e_b1) dX12_emit_1 ?_
  refine lv_aload_n X.1 X.2.1 dX12_emit_4 rfl (lv_at hl 0 rfl) ?_
  refine kp_get X h f_a0 fp_12_370.l (v := .int (kp_I S 2417 a0)) rfl dX12_emit_5 ?_
  refine lv_iload_n X.1 X.2.1 dX12_emit_8 rfl (lv_at hl 1 rfl) ?_
  obtain ⟨hi, hw⟩ := hw
  refine kp_iast X h f_b1 hi dX12_emit_9 (fun T2 e_T2 l_T2 H locs h => ?_)
  have hw := hw T2 e_T2
  have f_a0 := l_T2.is f_a0
  have f_b1 := l_T2.is f_b1
  have hle := hle.tr l_T2
  have e_b1 : kp_R T2 2414 a0 = some b1 := by rw [e_T2]; exact e_b1
  refine lv_aload_n X.1 X.2.1 dX12_emit_10 rfl (lv_at hl 0 rfl) ?_
  obtain ⟨b3, e_b3, hw⟩ := hw
  have f_b3 := h.2.2.2.rf (c := 12) (k := 15) f_a0 (by decide) (by decide) e_b3 (t := 14) rfl
  refine kp_get X h f_a0 ff_12_46.l (v := .ref b3) (congrArg va_rf e_b3) dX12_emit_11 ?_
  refine lv_aload_n X.1 X.2.1 dX12_emit_14 rfl (lv_at hl 0 rfl) ?_
  refine kp_get X h f_a0 fp_12_370.l (v := .int (kp_I T2 2417 a0)) rfl dX12_emit_15 ?_
  refine lv_iload_n X.1 X.2.1 dX12_emit_18 rfl (lv_at hl 2 rfl) ?_
  obtain ⟨hi, hw⟩ := hw
  refine kp_iast X h f_b3 hi dX12_emit_19 (fun T4 e_T4 l_T4 H locs h => ?_)
  have hw := hw T4 e_T4
  have f_a0 := l_T4.is f_a0
  have f_b1 := l_T4.is f_b1
  have f_b3 := l_T4.is f_b3
  have hle := hle.tr l_T4
  have e_b1 : kp_R T4 2414 a0 = some b1 := by rw [e_T4]; exact e_b1
  have e_b3 : kp_R T4 2415 a0 = some b3 := by rw [e_T4]; exact e_b3
  refine lv_aload_n X.1 X.2.1 dX12_emit_20 rfl (lv_at hl 0 rfl) ?_
  obtain ⟨b5, e_b5, hw⟩ := hw
  have f_b5 := h.2.2.2.rf (c := 12) (k := 16) f_a0 (by decide) (by decide) e_b5 (t := 14) rfl
  refine kp_get X h f_a0 ff_12_49.l (v := .ref b5) (congrArg va_rf e_b5) dX12_emit_21 ?_
  refine lv_aload_n X.1 X.2.1 dX12_emit_24 rfl (lv_at hl 0 rfl) ?_
  refine kp_get X h f_a0 fp_12_370.l (v := .int (kp_I T4 2417 a0)) rfl dX12_emit_25 ?_
  refine lv_iload_n X.1 X.2.1 dX12_emit_28 rfl (lv_at hl 3 rfl) ?_
  obtain ⟨hi, hw⟩ := hw
  refine kp_iast X h f_b5 hi dX12_emit_29 (fun T6 e_T6 l_T6 H locs h => ?_)
  have hw := hw T6 e_T6
  have f_a0 := l_T6.is f_a0
  have f_b1 := l_T6.is f_b1
  have f_b3 := l_T6.is f_b3
  have f_b5 := l_T6.is f_b5
  have hle := hle.tr l_T6
  have e_b1 : kp_R T6 2414 a0 = some b1 := by rw [e_T6]; exact e_b1
  have e_b3 : kp_R T6 2415 a0 = some b3 := by rw [e_T6]; exact e_b3
  have e_b5 : kp_R T6 2416 a0 = some b5 := by rw [e_T6]; exact e_b5
  refine lv_aload_n X.1 X.2.1 dX12_emit_30 rfl (lv_at hl 0 rfl) ?_
  refine lv_dup X.1 X.2.1 dX12_emit_31 rfl ?_
  refine kp_get X h f_a0 fp_12_370.l (v := .int (kp_I T6 2417 a0)) rfl dX12_emit_32 ?_
  refine lv_iconst (v := 1) X.1 X.2.1 dX12_emit_35 (by decide) ?_
  refine lv_iadd X.1 X.2.1 dX12_emit_36 ?_
  refine kp_putI X h f_a0 fp_12_370 rfl ⟨rfl, rfl⟩ dX12_emit_37 (fun T7 e_T7 l_T7 H locs h => ?_)
  have hw := hw T7 e_T7
  have f_a0 := l_T7.is f_a0
  have f_b1 := l_T7.is f_b1
  have f_b3 := l_T7.is f_b3
  have f_b5 := l_T7.is f_b5
  have hle := hle.tr l_T7
  have e_b1 : kp_R T7 2414 a0 = some b1 := by rw [e_T7]; exact e_b1
  have e_b3 : kp_R T7 2415 a0 = some b3 := by rw [e_T7]; exact e_b3
  have e_b5 : kp_R T7 2416 a0 = some b5 := by rw [e_T7]; exact e_b5
  refine lv_aload_n X.1 X.2.1 dX12_emit_40 rfl (lv_at hl 0 rfl) ?_
  refine kp_get X h f_a0 fp_12_370.l (v := .int (kp_I T7 2417 a0)) rfl dX12_emit_41 ?_
  refine lv_iconst (v := 1) X.1 X.2.1 dX12_emit_44 (by decide) ?_
  refine lv_isub X.1 X.2.1 dX12_emit_45 ?_
  exact kp_reti X hr hlocks h hle rfl hw dX12_emit_46
theorem dX12_fine_0 : decode cX12_fine 0 = .ok (.aload_n 0, 1) := by decide +kernel
theorem dX12_fine_1 : decode cX12_fine 1 = .ok (.getfield 373, 3) := by decide +kernel
theorem dX12_fine_4 : decode cX12_fine 4 = .ok (.ifCond .ne 7, 3) := by decide +kernel
theorem dX12_fine_7 : decode cX12_fine 7 = .ok (.iconst 1, 1) := by decide +kernel
theorem dX12_fine_8 : decode cX12_fine 8 = .ok (.goto 4, 3) := by decide +kernel
theorem dX12_fine_11 : decode cX12_fine 11 = .ok (.iconst 0, 1) := by decide +kernel
theorem dX12_fine_12 : decode cX12_fine 12 = .ok (.ireturn, 1) := by decide +kernel
def wX12_fine_b12 (a0 : Nat) (xt0 : Int32)  (Sn : kp_S) (post : Int32 → kp_S → Prop) : Prop :=
  kp_b xt0 ∧ post xt0 Sn
def wX12_fine (a0 : Nat) (S : kp_S) (post : Int32 → kp_S → Prop) : Prop :=
  ((¬ (kp_I S 2408 a0) = 0 →
  wX12_fine_b12 a0 0  S post) ∧ ((kp_I S 2408 a0) = 0 →
  wX12_fine_b12 a0 1  S post))
set_option maxHeartbeats 4000000 in
set_option maxRecDepth 100000 in
theorem c_X12_fine (l : Launch) (D : va_G) (cy : Nat → ClassId) (ad : (Nat → Nat) × (Nat → Nat)) (S : kp_S) (a0 : Nat) (post : Int32 → kp_S → Prop) (hS : kp_ok S) (f_a0 : kp_is S a0 12) (hw : wX12_fine a0 S post) : kp_M l yX12_fine cX12_fine 1 (some .boolean) { frames := 0, cells := 0, slots := 0, locals := 0 } D cy ad S [.ref a0] 0 0 (fun A => kp_Qi D cy A S post) := by
  refine kp_start (own := RX12) (by decide) rfl (Nat.le_of_ble_eq_true rfl) hS ?_
  intro p e s m below meth c A ls X hr hlocks hname h hl
  have hle : kp_le S S := kp_le.rf
  have hl : lv_has ls 1 [(0, .ref a0)] := hl
  have j12 : ∀ (xt0 : Int32) (Sn : kp_S) (H : Heap) (locs : List Loc) (ls : Array Slot), lv_has ls 1 [] → kp_H D cy A Sn s.heap H locs → kp_le S Sn → kp_is Sn a0 12 → wX12_fine_b12 a0 xt0  Sn post → W p l e { frames := 0, cells := 0, slots := 0, locals := 0 } s m ([.ref a0] : List Value).toArray below meth c H locs 0 0 (MQ below (kp_Qi D cy A S post) ([.ref a0] : List Value).toArray s 0 0 A) (F0 m 12 ls [.int xt0]) := by
    intro xt0 Sn H locs ls hl h hle f_a0 hw
    unfold wX12_fine_b12 at hw
    exact kp_reti X hr hlocks h hle (kp_bz hw.1).1 hw.2 dX12_fine_12
  unfold wX12_fine at hw
  have h : kp_H D cy A S s.heap s.heap [] := h
  revert h
  intro h
  refine lv_aload_n X.1 X.2.1 dX12_fine_0 rfl (lv_at hl 0 rfl) ?_
  refine kp_get X h f_a0 fp_12_373.l (v := .int (kp_I S 2408 a0)) rfl dX12_fine_1 ?_
  refine lv_if_ne (tgt := 11) X.1 X.2.1 dX12_fine_4 (by decide) (fun c1 => ?_) (fun c1 => ?_)
  · have hw := hw.1 c1
    refine lv_iconst (v := 0) X.1 X.2.1 dX12_fine_11 (by decide) ?_
    exact j12 0 S _ _ ls (lv_sub hl [] rfl) h hle f_a0 hw
  · have hw := hw.2 c1
    refine lv_iconst (v := 1) X.1 X.2.1 dX12_fine_7 (by decide) ?_
    refine lv_goto (tgt := 12) X.1 X.2.1 dX12_fine_8 (by decide) ?_
    exact j12 1 S _ _ ls (lv_sub hl [] rfl) h hle f_a0 hw
theorem dX12_wrong_0 : decode cX12_wrong 0 = .ok (.aload_n 0, 1) := by decide +kernel
theorem dX12_wrong_1 : decode cX12_wrong 1 = .ok (.getfield 373, 3) := by decide +kernel
theorem dX12_wrong_4 : decode cX12_wrong 4 = .ok (.ifCond .le 4, 3) := by decide +kernel
theorem dX12_wrong_7 : decode cX12_wrong 7 = .ok (.return_, 1) := by decide +kernel
theorem dX12_wrong_8 : decode cX12_wrong 8 = .ok (.aload_n 0, 1) := by decide +kernel
theorem dX12_wrong_9 : decode cX12_wrong 9 = .ok (.aload_n 0, 1) := by decide +kernel
theorem dX12_wrong_10 : decode cX12_wrong 10 = .ok (.getfield 31, 3) := by decide +kernel
theorem dX12_wrong_13 : decode cX12_wrong 13 = .ok (.aload_n 0, 1) := by decide +kernel
theorem dX12_wrong_14 : decode cX12_wrong 14 = .ok (.getfield 376, 3) := by decide +kernel
theorem dX12_wrong_17 : decode cX12_wrong 17 = .ok (.iaload, 1) := by decide +kernel
theorem dX12_wrong_18 : decode cX12_wrong 18 = .ok (.iconst 1, 1) := by decide +kernel
theorem dX12_wrong_19 : decode cX12_wrong 19 = .ok (.if_icmp .ne 7, 3) := by decide +kernel
theorem dX12_wrong_22 : decode cX12_wrong 22 = .ok (.iconst 1, 1) := by decide +kernel
theorem dX12_wrong_23 : decode cX12_wrong 23 = .ok (.goto 4, 3) := by decide +kernel
theorem dX12_wrong_26 : decode cX12_wrong 26 = .ok (.iconst 2, 1) := by decide +kernel
theorem dX12_wrong_27 : decode cX12_wrong 27 = .ok (.putfield 373, 3) := by decide +kernel
theorem dX12_wrong_30 : decode cX12_wrong 30 = .ok (.aload_n 0, 1) := by decide +kernel
theorem dX12_wrong_31 : decode cX12_wrong 31 = .ok (.aload_n 0, 1) := by decide +kernel
theorem dX12_wrong_32 : decode cX12_wrong 32 = .ok (.getfield 34, 3) := by decide +kernel
theorem dX12_wrong_35 : decode cX12_wrong 35 = .ok (.aload_n 0, 1) := by decide +kernel
theorem dX12_wrong_36 : decode cX12_wrong 36 = .ok (.getfield 376, 3) := by decide +kernel
theorem dX12_wrong_39 : decode cX12_wrong 39 = .ok (.iaload, 1) := by decide +kernel
theorem dX12_wrong_40 : decode cX12_wrong 40 = .ok (.putfield 40, 3) := by decide +kernel
theorem dX12_wrong_43 : decode cX12_wrong 43 = .ok (.return_, 1) := by decide +kernel
def wX12_wrong_b27 (a0 : Nat) (xt0 : Int32) (at1 : Nat)  (Sn : kp_S) (post : kp_S → Prop) : Prop :=
  ∀ T1001 : kp_S, T1001 = kp_sI Sn 2408 at1 xt0 →
  ∃ b1002 : Nat, kp_R T1001 2405 a0 = some b1002 ∧
  vp_in (kp_I T1001 2410 a0) (kp_N T1001 b1002) ∧
  ∀ T1003 : kp_S, T1003 = kp_sI T1001 2409 a0 (kp_A T1001 b1002 (kp_I T1001 2410 a0).toNatClampNeg) →
  post T1003
def wX12_wrong (a0 : Nat) (S : kp_S) (post : kp_S → Prop) : Prop :=
  (((kp_I S 2408 a0) ≤ 0 →
  ∃ b1 : Nat, kp_R S 2404 a0 = some b1 ∧
  vp_in (kp_I S 2410 a0) (kp_N S b1) ∧
  ((¬ (kp_A S b1 (kp_I S 2410 a0).toNatClampNeg) = 1 →
  wX12_wrong_b27 a0 2 a0  S post) ∧ ((kp_A S b1 (kp_I S 2410 a0).toNatClampNeg) = 1 →
  wX12_wrong_b27 a0 1 a0  S post))) ∧ (¬ (kp_I S 2408 a0) ≤ 0 →
  post S))
set_option maxHeartbeats 4000000 in
set_option maxRecDepth 100000 in
theorem c_X12_wrong (l : Launch) (D : va_G) (cy : Nat → ClassId) (ad : (Nat → Nat) × (Nat → Nat)) (S : kp_S) (a0 : Nat) (post : kp_S → Prop) (hS : kp_ok S) (f_a0 : kp_is S a0 12) (hw : wX12_wrong a0 S post) : kp_M l yX12_wrong cX12_wrong 1 none { frames := 0, cells := 0, slots := 0, locals := 0 } D cy ad S [.ref a0] 0 0 (fun A => kp_Qv D cy A S post) := by
  refine kp_start (own := RX12) (by decide) rfl (Nat.le_of_ble_eq_true rfl) hS ?_
  intro p e s m below meth c A ls X hr hlocks hname h hl
  have hle : kp_le S S := kp_le.rf
  have hl : lv_has ls 1 [(0, .ref a0)] := hl
  have j27 : ∀ (xt0 : Int32) (at1 : Nat) (Sn : kp_S) (H : Heap) (locs : List Loc) (ls : Array Slot), lv_has ls 1 [(0, .ref a0)] → kp_H D cy A Sn s.heap H locs → kp_le S Sn → kp_is Sn a0 12 → kp_is Sn at1 12 → wX12_wrong_b27 a0 xt0 at1  Sn post → W p l e { frames := 0, cells := 0, slots := 0, locals := 0 } s m ([.ref a0] : List Value).toArray below meth c H locs 0 0 (MQ below (kp_Qv D cy A S post) ([.ref a0] : List Value).toArray s 0 0 A) (F0 m 27 ls [.int xt0, .ref at1]) := by
    intro xt0 at1 Sn H locs ls hl h hle f_a0 f_at1 hw
    unfold wX12_wrong_b27 at hw
    refine kp_putI X h f_at1 fp_12_373 rfl ⟨rfl, rfl⟩ dX12_wrong_27 (fun T1001 e_T1001 l_T1001 H locs h => ?_)
    have hw := hw T1001 e_T1001
    have f_a0 := l_T1001.is f_a0
    have f_at1 := l_T1001.is f_at1
    have hle := hle.tr l_T1001
    refine lv_aload_n X.1 X.2.1 dX12_wrong_30 rfl (lv_at hl 0 rfl) ?_
    refine lv_aload_n X.1 X.2.1 dX12_wrong_31 rfl (lv_at hl 0 rfl) ?_
    obtain ⟨b1002, e_b1002, hw⟩ := hw
    have f_b1002 := h.2.2.2.rf (c := 12) (k := 5) f_a0 (by decide) (by decide) e_b1002 (t := 14) rfl
    refine kp_get X h f_a0 ff_12_34.l (v := .ref b1002) (congrArg va_rf e_b1002) dX12_wrong_32 ?_
    refine lv_aload_n X.1 X.2.1 dX12_wrong_35 rfl (lv_at hl 0 rfl) ?_
    refine kp_get X h f_a0 fp_12_376.l (v := .int (kp_I T1001 2410 a0)) rfl dX12_wrong_36 ?_
    obtain ⟨hi, hw⟩ := hw
    refine kp_iald X h f_b1002 hi dX12_wrong_39 ?_
    refine kp_putI X h f_a0 fp_12_40 rfl ⟨rfl, rfl⟩ dX12_wrong_40 (fun T1003 e_T1003 l_T1003 H locs h => ?_)
    have hw := hw T1003 e_T1003
    have f_a0 := l_T1003.is f_a0
    have f_at1 := l_T1003.is f_at1
    have f_b1002 := l_T1003.is f_b1002
    have hle := hle.tr l_T1003
    have e_b1002 : kp_R T1003 2405 a0 = some b1002 := by rw [e_T1003]; exact e_b1002
    exact kp_retv X hr hlocks h hle hw dX12_wrong_43
  unfold wX12_wrong at hw
  have h : kp_H D cy A S s.heap s.heap [] := h
  revert h
  intro h
  refine lv_aload_n X.1 X.2.1 dX12_wrong_0 rfl (lv_at hl 0 rfl) ?_
  refine kp_get X h f_a0 fp_12_373.l (v := .int (kp_I S 2408 a0)) rfl dX12_wrong_1 ?_
  refine lv_if_le (tgt := 8) X.1 X.2.1 dX12_wrong_4 (by decide) (fun c3 => ?_) (fun c3 => ?_)
  · have hw := hw.1 c3
    refine lv_aload_n X.1 X.2.1 dX12_wrong_8 rfl (lv_at hl 0 rfl) ?_
    refine lv_aload_n X.1 X.2.1 dX12_wrong_9 rfl (lv_at hl 0 rfl) ?_
    obtain ⟨b1, e_b1, hw⟩ := hw
    have f_b1 := h.2.2.2.rf (c := 12) (k := 4) f_a0 (by decide) (by decide) e_b1 (t := 14) rfl
    refine kp_get X h f_a0 ff_12_31.l (v := .ref b1) (congrArg va_rf e_b1) dX12_wrong_10 ?_
    refine lv_aload_n X.1 X.2.1 dX12_wrong_13 rfl (lv_at hl 0 rfl) ?_
    refine kp_get X h f_a0 fp_12_376.l (v := .int (kp_I S 2410 a0)) rfl dX12_wrong_14 ?_
    obtain ⟨hi, hw⟩ := hw
    refine kp_iald X h f_b1 hi dX12_wrong_17 ?_
    refine lv_iconst (v := 1) X.1 X.2.1 dX12_wrong_18 (by decide) ?_
    refine lv_icmp_ne (tgt := 26) X.1 X.2.1 dX12_wrong_19 (by decide) (fun c2 => ?_) (fun c2 => ?_)
    · have hw := hw.1 c2
      refine lv_iconst (v := 2) X.1 X.2.1 dX12_wrong_26 (by decide) ?_
      exact j27 2 a0 S _ _ ls (lv_sub hl [0] rfl) h hle f_a0 f_a0 hw
    · have hw := hw.2 c2
      refine lv_iconst (v := 1) X.1 X.2.1 dX12_wrong_22 (by decide) ?_
      refine lv_goto (tgt := 27) X.1 X.2.1 dX12_wrong_23 (by decide) ?_
      exact j27 1 a0 S _ _ ls (lv_sub hl [0] rfl) h hle f_a0 f_a0 hw
  · have hw := hw.2 c3
    exact kp_retv X hr hlocks h hle hw dX12_wrong_7
theorem dX12_is_0 : decode cX12_is 0 = .ok (.aload_n 0, 1) := by decide +kernel
theorem dX12_is_1 : decode cX12_is 1 = .ok (.getfield 373, 3) := by decide +kernel
theorem dX12_is_4 : decode cX12_is 4 = .ok (.ifCond .ne 20, 3) := by decide +kernel
theorem dX12_is_7 : decode cX12_is 7 = .ok (.aload_n 0, 1) := by decide +kernel
theorem dX12_is_8 : decode cX12_is 8 = .ok (.getfield 31, 3) := by decide +kernel
theorem dX12_is_11 : decode cX12_is 11 = .ok (.aload_n 0, 1) := by decide +kernel
theorem dX12_is_12 : decode cX12_is 12 = .ok (.getfield 376, 3) := by decide +kernel
theorem dX12_is_15 : decode cX12_is 15 = .ok (.iaload, 1) := by decide +kernel
theorem dX12_is_16 : decode cX12_is 16 = .ok (.iload_n 1, 1) := by decide +kernel
theorem dX12_is_17 : decode cX12_is 17 = .ok (.if_icmp .ne 7, 3) := by decide +kernel
theorem dX12_is_20 : decode cX12_is 20 = .ok (.iconst 1, 1) := by decide +kernel
theorem dX12_is_21 : decode cX12_is 21 = .ok (.goto 4, 3) := by decide +kernel
theorem dX12_is_24 : decode cX12_is 24 = .ok (.iconst 0, 1) := by decide +kernel
theorem dX12_is_25 : decode cX12_is 25 = .ok (.ireturn, 1) := by decide +kernel
def wX12_is_b25 (a0 : Nat) (x1 : Int32) (xt0 : Int32)  (Sn : kp_S) (post : Int32 → kp_S → Prop) : Prop :=
  kp_b xt0 ∧ post xt0 Sn
def wX12_is_b24 (a0 : Nat) (x1 : Int32)  (Sn : kp_S) (post : Int32 → kp_S → Prop) : Prop :=
  wX12_is_b25 a0 x1 0  Sn post
def wX12_is (a0 : Nat) (x1 : Int32) (S : kp_S) (post : Int32 → kp_S → Prop) : Prop :=
  ((¬ (kp_I S 2408 a0) = 0 →
  wX12_is_b24 a0 x1   S post) ∧ ((kp_I S 2408 a0) = 0 →
  ∃ b1 : Nat, kp_R S 2404 a0 = some b1 ∧
  vp_in (kp_I S 2410 a0) (kp_N S b1) ∧
  ((¬ (kp_A S b1 (kp_I S 2410 a0).toNatClampNeg) = x1 →
  wX12_is_b24 a0 x1   S post) ∧ ((kp_A S b1 (kp_I S 2410 a0).toNatClampNeg) = x1 →
  wX12_is_b25 a0 x1 1  S post))))
set_option maxHeartbeats 4000000 in
set_option maxRecDepth 100000 in
theorem c_X12_is (l : Launch) (D : va_G) (cy : Nat → ClassId) (ad : (Nat → Nat) × (Nat → Nat)) (S : kp_S) (a0 : Nat) (x1 : Int32) (post : Int32 → kp_S → Prop) (hS : kp_ok S) (f_a0 : kp_is S a0 12) (hw : wX12_is a0 x1 S post) : kp_M l yX12_is cX12_is 2 (some .boolean) { frames := 0, cells := 0, slots := 0, locals := 0 } D cy ad S [.ref a0, .int x1] 0 0 (fun A => kp_Qi D cy A S post) := by
  refine kp_start (own := RX12) (by decide) rfl (Nat.le_of_ble_eq_true rfl) hS ?_
  intro p e s m below meth c A ls X hr hlocks hname h hl
  have hle : kp_le S S := kp_le.rf
  have hl : lv_has ls 2 [(0, .ref a0), (1, .int x1)] := hl
  have j25 : ∀ (xt0 : Int32) (Sn : kp_S) (H : Heap) (locs : List Loc) (ls : Array Slot), lv_has ls 2 [] → kp_H D cy A Sn s.heap H locs → kp_le S Sn → kp_is Sn a0 12 → wX12_is_b25 a0 x1 xt0  Sn post → W p l e { frames := 0, cells := 0, slots := 0, locals := 0 } s m ([.ref a0, .int x1] : List Value).toArray below meth c H locs 0 0 (MQ below (kp_Qi D cy A S post) ([.ref a0, .int x1] : List Value).toArray s 0 0 A) (F0 m 25 ls [.int xt0]) := by
    intro xt0 Sn H locs ls hl h hle f_a0 hw
    unfold wX12_is_b25 at hw
    exact kp_reti X hr hlocks h hle (kp_bz hw.1).1 hw.2 dX12_is_25
  have j24 : ∀  (Sn : kp_S) (H : Heap) (locs : List Loc) (ls : Array Slot), lv_has ls 2 [] → kp_H D cy A Sn s.heap H locs → kp_le S Sn → kp_is Sn a0 12 → wX12_is_b24 a0 x1   Sn post → W p l e { frames := 0, cells := 0, slots := 0, locals := 0 } s m ([.ref a0, .int x1] : List Value).toArray below meth c H locs 0 0 (MQ below (kp_Qi D cy A S post) ([.ref a0, .int x1] : List Value).toArray s 0 0 A) (F0 m 24 ls []) := by
    intro  Sn H locs ls hl h hle f_a0 hw
    unfold wX12_is_b24 at hw
    refine lv_iconst (v := 0) X.1 X.2.1 dX12_is_24 (by decide) ?_
    exact j25 0 Sn H locs ls (lv_sub hl [] rfl) h hle f_a0 hw
  unfold wX12_is at hw
  have h : kp_H D cy A S s.heap s.heap [] := h
  revert h
  intro h
  refine lv_aload_n X.1 X.2.1 dX12_is_0 rfl (lv_at hl 0 rfl) ?_
  refine kp_get X h f_a0 fp_12_373.l (v := .int (kp_I S 2408 a0)) rfl dX12_is_1 ?_
  refine lv_if_ne (tgt := 24) X.1 X.2.1 dX12_is_4 (by decide) (fun c3 => ?_) (fun c3 => ?_)
  · have hw := hw.1 c3
    exact j24  S _ _ ls (lv_sub hl [] rfl) h hle f_a0 hw
  · have hw := hw.2 c3
    refine lv_aload_n X.1 X.2.1 dX12_is_7 rfl (lv_at hl 0 rfl) ?_
    obtain ⟨b1, e_b1, hw⟩ := hw
    have f_b1 := h.2.2.2.rf (c := 12) (k := 4) f_a0 (by decide) (by decide) e_b1 (t := 14) rfl
    refine kp_get X h f_a0 ff_12_31.l (v := .ref b1) (congrArg va_rf e_b1) dX12_is_8 ?_
    refine lv_aload_n X.1 X.2.1 dX12_is_11 rfl (lv_at hl 0 rfl) ?_
    refine kp_get X h f_a0 fp_12_376.l (v := .int (kp_I S 2410 a0)) rfl dX12_is_12 ?_
    obtain ⟨hi, hw⟩ := hw
    refine kp_iald X h f_b1 hi dX12_is_15 ?_
    refine lv_iload_n X.1 X.2.1 dX12_is_16 rfl (lv_at hl 1 rfl) ?_
    refine lv_icmp_ne (tgt := 24) X.1 X.2.1 dX12_is_17 (by decide) (fun c2 => ?_) (fun c2 => ?_)
    · have hw := hw.1 c2
      exact j24  S _ _ ls (lv_sub hl [] rfl) h hle f_a0 hw
    · have hw := hw.2 c2
      refine lv_iconst (v := 1) X.1 X.2.1 dX12_is_20 (by decide) ?_
      refine lv_goto (tgt := 25) X.1 X.2.1 dX12_is_21 (by decide) ?_
      exact j25 1 S _ _ ls (lv_sub hl [] rfl) h hle f_a0 hw
theorem dX12_isSign_0 : decode cX12_isSign 0 = .ok (.aload_n 0, 1) := by decide +kernel
theorem dX12_isSign_1 : decode cX12_isSign 1 = .ok (.bipush 100, 2) := by decide +kernel
theorem dX12_isSign_3 : decode cX12_isSign 3 = .ok (.iload_n 1, 1) := by decide +kernel
theorem dX12_isSign_4 : decode cX12_isSign 4 = .ok (.iadd, 1) := by decide +kernel
theorem dX12_isSign_5 : decode cX12_isSign 5 = .ok (.invokevirtual 379, 3) := by decide +kernel
theorem dX12_isSign_8 : decode cX12_isSign 8 = .ok (.ireturn, 1) := by decide +kernel
def wX12_isSign (a0 : Nat) (x1 : Int32) (S : kp_S) (post : Int32 → kp_S → Prop) : Prop :=
  wX12_is a0 (100 + x1) S (fun y2 T1 =>
  kp_b y2 ∧ post y2 T1)
set_option maxHeartbeats 4000000 in
set_option maxRecDepth 100000 in
theorem c_X12_isSign (l : Launch) (D : va_G) (cy : Nat → ClassId) (ad : (Nat → Nat) × (Nat → Nat)) (S : kp_S) (a0 : Nat) (x1 : Int32) (post : Int32 → kp_S → Prop) (hS : kp_ok S) (f_a0 : kp_is S a0 12) (hw : wX12_isSign a0 x1 S post) : kp_M l yX12_isSign cX12_isSign 2 (some .boolean) { frames := 1, cells := 0, slots := 0, locals := 21 } D cy ad S [.ref a0, .int x1] 0 0 (fun A => kp_Qi D cy A S post) := by
  refine kp_start (own := RX12) (by decide) rfl (Nat.le_of_ble_eq_true rfl) hS ?_
  intro p e s m below meth c A ls X hr hlocks hname h hl
  have hle : kp_le S S := kp_le.rf
  have hl : lv_has ls 2 [(0, .ref a0), (1, .int x1)] := hl
  unfold wX12_isSign at hw
  have h : kp_H D cy A S s.heap s.heap [] := h
  revert h
  intro h
  refine lv_aload_n X.1 X.2.1 dX12_isSign_0 rfl (lv_at hl 0 rfl) ?_
  refine lv_bipush (v := 100) X.1 X.2.1 dX12_isSign_1 (by decide) ?_
  refine lv_iload_n X.1 X.2.1 dX12_isSign_3 rfl (lv_at hl 1 rfl) ?_
  refine lv_iadd X.1 X.2.1 dX12_isSign_4 ?_
  refine kp_calli X h (kp_runV (rm := { frames := 0, cells := 0, slots := 0, locals := 0 }) (mc := 0) (ms := 0) (rest := []) (Qc := fun A => kp_Qi D cy A S _) X h (c_X12_is l D cy ad S a0 (100 + x1) _ h.2.2.2 f_a0 hw) f_a0 cv_12_379 ⟨by decide, by decide, rfl, rfl, by decide, by decide⟩ rfl hl.1 rfl (Nat.le_of_ble_eq_true rfl) dX12_isSign_5) (fun y2 T1 hw l_T1 H locs h => ?_)
  have f_a0 := l_T1.is f_a0
  have hle := hle.tr l_T1
  exact kp_reti X hr hlocks h hle (kp_bz hw.1).1 hw.2 dX12_isSign_8
theorem dX12_take_0 : decode cX12_take 0 = .ok (.aload_n 0, 1) := by decide +kernel
theorem dX12_take_1 : decode cX12_take 1 = .ok (.iload_n 1, 1) := by decide +kernel
theorem dX12_take_2 : decode cX12_take 2 = .ok (.invokevirtual 379, 3) := by decide +kernel
theorem dX12_take_5 : decode cX12_take 5 = .ok (.ifCond .eq 16, 3) := by decide +kernel
theorem dX12_take_8 : decode cX12_take 8 = .ok (.aload_n 0, 1) := by decide +kernel
theorem dX12_take_9 : decode cX12_take 9 = .ok (.dup, 1) := by decide +kernel
theorem dX12_take_10 : decode cX12_take 10 = .ok (.getfield 376, 3) := by decide +kernel
theorem dX12_take_13 : decode cX12_take 13 = .ok (.iconst 1, 1) := by decide +kernel
theorem dX12_take_14 : decode cX12_take 14 = .ok (.iadd, 1) := by decide +kernel
theorem dX12_take_15 : decode cX12_take 15 = .ok (.putfield 376, 3) := by decide +kernel
theorem dX12_take_18 : decode cX12_take 18 = .ok (.goto 7, 3) := by decide +kernel
theorem dX12_take_21 : decode cX12_take 21 = .ok (.aload_n 0, 1) := by decide +kernel
theorem dX12_take_22 : decode cX12_take 22 = .ok (.invokevirtual 382, 3) := by decide +kernel
theorem dX12_take_25 : decode cX12_take 25 = .ok (.return_, 1) := by decide +kernel
def wX12_take_b25 (a0 : Nat) (x1 : Int32)  (Sn : kp_S) (post : kp_S → Prop) : Prop :=
  post Sn
def wX12_take (a0 : Nat) (x1 : Int32) (S : kp_S) (post : kp_S → Prop) : Prop :=
  wX12_is a0 x1 S (fun y2 T1 =>
  ((y2 = 0 →
  wX12_wrong a0 T1 (fun T3 =>
  wX12_take_b25 a0 x1   T3 post)) ∧ (¬ y2 = 0 →
  ∀ T4 : kp_S, T4 = kp_sI T1 2410 a0 ((kp_I T1 2410 a0) + 1) →
  wX12_take_b25 a0 x1   T4 post)))
set_option maxHeartbeats 4000000 in
set_option maxRecDepth 100000 in
theorem c_X12_take (l : Launch) (D : va_G) (cy : Nat → ClassId) (ad : (Nat → Nat) × (Nat → Nat)) (S : kp_S) (a0 : Nat) (x1 : Int32) (post : kp_S → Prop) (hS : kp_ok S) (f_a0 : kp_is S a0 12) (hw : wX12_take a0 x1 S post) : kp_M l yX12_take cX12_take 2 none { frames := 1, cells := 0, slots := 0, locals := 21 } D cy ad S [.ref a0, .int x1] 0 0 (fun A => kp_Qv D cy A S post) := by
  refine kp_start (own := RX12) (by decide) rfl (Nat.le_of_ble_eq_true rfl) hS ?_
  intro p e s m below meth c A ls X hr hlocks hname h hl
  have hle : kp_le S S := kp_le.rf
  have hl : lv_has ls 2 [(0, .ref a0), (1, .int x1)] := hl
  have j25 : ∀  (Sn : kp_S) (H : Heap) (locs : List Loc) (ls : Array Slot), lv_has ls 2 [] → kp_H D cy A Sn s.heap H locs → kp_le S Sn → kp_is Sn a0 12 → wX12_take_b25 a0 x1   Sn post → W p l e { frames := 1, cells := 0, slots := 0, locals := 21 } s m ([.ref a0, .int x1] : List Value).toArray below meth c H locs 0 0 (MQ below (kp_Qv D cy A S post) ([.ref a0, .int x1] : List Value).toArray s 0 0 A) (F0 m 25 ls []) := by
    intro  Sn H locs ls hl h hle f_a0 hw
    unfold wX12_take_b25 at hw
    exact kp_retv X hr hlocks h hle hw dX12_take_25
  unfold wX12_take at hw
  have h : kp_H D cy A S s.heap s.heap [] := h
  revert h
  intro h
  refine lv_aload_n X.1 X.2.1 dX12_take_0 rfl (lv_at hl 0 rfl) ?_
  refine lv_iload_n X.1 X.2.1 dX12_take_1 rfl (lv_at hl 1 rfl) ?_
  refine kp_calli X h (kp_runV (rm := { frames := 0, cells := 0, slots := 0, locals := 0 }) (mc := 0) (ms := 0) (rest := []) (Qc := fun A => kp_Qi D cy A S _) X h (c_X12_is l D cy ad S a0 x1 _ h.2.2.2 f_a0 hw) f_a0 cv_12_379 ⟨by decide, by decide, rfl, rfl, by decide, by decide⟩ rfl hl.1 rfl (Nat.le_of_ble_eq_true rfl) dX12_take_2) (fun y2 T1 hw l_T1 H locs h => ?_)
  have f_a0 := l_T1.is f_a0
  have hle := hle.tr l_T1
  refine lv_if_eq (tgt := 21) X.1 X.2.1 dX12_take_5 (by decide) (fun c5 => ?_) (fun c5 => ?_)
  · have hw := hw.1 c5
    refine lv_aload_n X.1 X.2.1 dX12_take_21 rfl (lv_at hl 0 rfl) ?_
    refine kp_callv X h (kp_runV (rm := { frames := 0, cells := 0, slots := 0, locals := 0 }) (mc := 0) (ms := 0) (rest := []) (Qc := fun A => kp_Qv D cy A T1 _) X h (c_X12_wrong l D cy ad T1 a0 _ h.2.2.2 f_a0 hw) f_a0 cv_12_382 ⟨by decide, by decide, rfl, rfl, by decide, by decide⟩ rfl hl.1 rfl (Nat.le_of_ble_eq_true rfl) dX12_take_22) (fun T3 hw l_T3 H locs h => ?_)
    have f_a0 := l_T3.is f_a0
    have hle := hle.tr l_T3
    exact j25  T3 _ _ ls (lv_sub hl [] rfl) h hle f_a0 hw
  · have hw := hw.2 c5
    refine lv_aload_n X.1 X.2.1 dX12_take_8 rfl (lv_at hl 0 rfl) ?_
    refine lv_dup X.1 X.2.1 dX12_take_9 rfl ?_
    refine kp_get X h f_a0 fp_12_376.l (v := .int (kp_I T1 2410 a0)) rfl dX12_take_10 ?_
    refine lv_iconst (v := 1) X.1 X.2.1 dX12_take_13 (by decide) ?_
    refine lv_iadd X.1 X.2.1 dX12_take_14 ?_
    refine kp_putI X h f_a0 fp_12_376 rfl ⟨rfl, rfl⟩ dX12_take_15 (fun T4 e_T4 l_T4 H locs h => ?_)
    have hw := hw T4 e_T4
    have f_a0 := l_T4.is f_a0
    have hle := hle.tr l_T4
    refine lv_goto (tgt := 25) X.1 X.2.1 dX12_take_18 (by decide) ?_
    exact j25  T4 _ _ ls (lv_sub hl [] rfl) h hle f_a0 hw
theorem dX12_takeSign_0 : decode cX12_takeSign 0 = .ok (.aload_n 0, 1) := by decide +kernel
theorem dX12_takeSign_1 : decode cX12_takeSign 1 = .ok (.bipush 100, 2) := by decide +kernel
theorem dX12_takeSign_3 : decode cX12_takeSign 3 = .ok (.iload_n 1, 1) := by decide +kernel
theorem dX12_takeSign_4 : decode cX12_takeSign 4 = .ok (.iadd, 1) := by decide +kernel
theorem dX12_takeSign_5 : decode cX12_takeSign 5 = .ok (.invokevirtual 385, 3) := by decide +kernel
theorem dX12_takeSign_8 : decode cX12_takeSign 8 = .ok (.return_, 1) := by decide +kernel
def wX12_takeSign (a0 : Nat) (x1 : Int32) (S : kp_S) (post : kp_S → Prop) : Prop :=
  wX12_take a0 (100 + x1) S (fun T1 =>
  post T1)
set_option maxHeartbeats 4000000 in
set_option maxRecDepth 100000 in
theorem c_X12_takeSign (l : Launch) (D : va_G) (cy : Nat → ClassId) (ad : (Nat → Nat) × (Nat → Nat)) (S : kp_S) (a0 : Nat) (x1 : Int32) (post : kp_S → Prop) (hS : kp_ok S) (f_a0 : kp_is S a0 12) (hw : wX12_takeSign a0 x1 S post) : kp_M l yX12_takeSign cX12_takeSign 2 none { frames := 2, cells := 0, slots := 0, locals := 42 } D cy ad S [.ref a0, .int x1] 0 0 (fun A => kp_Qv D cy A S post) := by
  refine kp_start (own := RX12) (by decide) rfl (Nat.le_of_ble_eq_true rfl) hS ?_
  intro p e s m below meth c A ls X hr hlocks hname h hl
  have hle : kp_le S S := kp_le.rf
  have hl : lv_has ls 2 [(0, .ref a0), (1, .int x1)] := hl
  unfold wX12_takeSign at hw
  have h : kp_H D cy A S s.heap s.heap [] := h
  revert h
  intro h
  refine lv_aload_n X.1 X.2.1 dX12_takeSign_0 rfl (lv_at hl 0 rfl) ?_
  refine lv_bipush (v := 100) X.1 X.2.1 dX12_takeSign_1 (by decide) ?_
  refine lv_iload_n X.1 X.2.1 dX12_takeSign_3 rfl (lv_at hl 1 rfl) ?_
  refine lv_iadd X.1 X.2.1 dX12_takeSign_4 ?_
  refine kp_callv X h (kp_runV (rm := { frames := 1, cells := 0, slots := 0, locals := 21 }) (mc := 0) (ms := 0) (rest := []) (Qc := fun A => kp_Qv D cy A S _) X h (c_X12_take l D cy ad S a0 (100 + x1) _ h.2.2.2 f_a0 hw) f_a0 cv_12_385 ⟨by decide, by decide, rfl, rfl, by decide, by decide⟩ rfl hl.1 rfl (Nat.le_of_ble_eq_true rfl) dX12_takeSign_5) (fun T1 hw l_T1 H locs h => ?_)
  have f_a0 := l_T1.is f_a0
  have hle := hle.tr l_T1
  exact kp_retv X hr hlocks h hle hw dX12_takeSign_8
theorem dX12_skip_0 : decode cX12_skip 0 = .ok (.aload_n 0, 1) := by decide +kernel
theorem dX12_skip_1 : decode cX12_skip 1 = .ok (.iload_n 1, 1) := by decide +kernel
theorem dX12_skip_2 : decode cX12_skip 2 = .ok (.invokevirtual 379, 3) := by decide +kernel
theorem dX12_skip_5 : decode cX12_skip 5 = .ok (.istore_n 2, 1) := by decide +kernel
theorem dX12_skip_6 : decode cX12_skip 6 = .ok (.aload_n 0, 1) := by decide +kernel
theorem dX12_skip_7 : decode cX12_skip 7 = .ok (.dup, 1) := by decide +kernel
theorem dX12_skip_8 : decode cX12_skip 8 = .ok (.getfield 376, 3) := by decide +kernel
theorem dX12_skip_11 : decode cX12_skip 11 = .ok (.iload_n 2, 1) := by decide +kernel
theorem dX12_skip_12 : decode cX12_skip 12 = .ok (.ifCond .eq 7, 3) := by decide +kernel
theorem dX12_skip_15 : decode cX12_skip 15 = .ok (.iconst 1, 1) := by decide +kernel
theorem dX12_skip_16 : decode cX12_skip 16 = .ok (.goto 4, 3) := by decide +kernel
theorem dX12_skip_19 : decode cX12_skip 19 = .ok (.iconst 0, 1) := by decide +kernel
theorem dX12_skip_20 : decode cX12_skip 20 = .ok (.iadd, 1) := by decide +kernel
theorem dX12_skip_21 : decode cX12_skip 21 = .ok (.putfield 376, 3) := by decide +kernel
theorem dX12_skip_24 : decode cX12_skip 24 = .ok (.iload_n 2, 1) := by decide +kernel
theorem dX12_skip_25 : decode cX12_skip 25 = .ok (.ireturn, 1) := by decide +kernel
def wX12_skip_b20 (a0 : Nat) (x1 : Int32) (xn2 : Int32) (xt0 : Int32) (xt1 : Int32) (at2 : Nat)  (Sn : kp_S) (post : Int32 → kp_S → Prop) : Prop :=
  ∀ T1001 : kp_S, T1001 = kp_sI Sn 2410 at2 (xt1 + xt0) →
  kp_b xn2 ∧ post xn2 T1001
def wX12_skip (a0 : Nat) (x1 : Int32) (S : kp_S) (post : Int32 → kp_S → Prop) : Prop :=
  wX12_is a0 x1 S (fun y2 T1 =>
  ((y2 = 0 →
  wX12_skip_b20 a0 x1 y2 0 (kp_I T1 2410 a0) a0  T1 post) ∧ (¬ y2 = 0 →
  wX12_skip_b20 a0 x1 y2 1 (kp_I T1 2410 a0) a0  T1 post)))
set_option maxHeartbeats 4000000 in
set_option maxRecDepth 100000 in
theorem c_X12_skip (l : Launch) (D : va_G) (cy : Nat → ClassId) (ad : (Nat → Nat) × (Nat → Nat)) (S : kp_S) (a0 : Nat) (x1 : Int32) (post : Int32 → kp_S → Prop) (hS : kp_ok S) (f_a0 : kp_is S a0 12) (hw : wX12_skip a0 x1 S post) : kp_M l yX12_skip cX12_skip 3 (some .boolean) { frames := 1, cells := 0, slots := 0, locals := 21 } D cy ad S [.ref a0, .int x1] 0 0 (fun A => kp_Qi D cy A S post) := by
  refine kp_start (own := RX12) (by decide) rfl (Nat.le_of_ble_eq_true rfl) hS ?_
  intro p e s m below meth c A ls X hr hlocks hname h hl
  have hle : kp_le S S := kp_le.rf
  have hl : lv_has ls 3 [(0, .ref a0), (1, .int x1)] := hl
  have j20 : ∀ (xn2 : Int32) (xt0 : Int32) (xt1 : Int32) (at2 : Nat) (Sn : kp_S) (H : Heap) (locs : List Loc) (ls : Array Slot), lv_has ls 3 [(2, .int xn2)] → kp_H D cy A Sn s.heap H locs → kp_le S Sn → kp_is Sn at2 12 → kp_is Sn a0 12 → wX12_skip_b20 a0 x1 xn2 xt0 xt1 at2  Sn post → W p l e { frames := 1, cells := 0, slots := 0, locals := 21 } s m ([.ref a0, .int x1] : List Value).toArray below meth c H locs 0 0 (MQ below (kp_Qi D cy A S post) ([.ref a0, .int x1] : List Value).toArray s 0 0 A) (F0 m 20 ls [.int xt0, .int xt1, .ref at2]) := by
    intro xn2 xt0 xt1 at2 Sn H locs ls hl h hle f_at2 f_a0 hw
    unfold wX12_skip_b20 at hw
    refine lv_iadd X.1 X.2.1 dX12_skip_20 ?_
    refine kp_putI X h f_at2 fp_12_376 rfl ⟨rfl, rfl⟩ dX12_skip_21 (fun T1001 e_T1001 l_T1001 H locs h => ?_)
    have hw := hw T1001 e_T1001
    have f_at2 := l_T1001.is f_at2
    have f_a0 := l_T1001.is f_a0
    have hle := hle.tr l_T1001
    refine lv_iload_n X.1 X.2.1 dX12_skip_24 rfl (lv_at hl 0 rfl) ?_
    exact kp_reti X hr hlocks h hle (kp_bz hw.1).1 hw.2 dX12_skip_25
  unfold wX12_skip at hw
  have h : kp_H D cy A S s.heap s.heap [] := h
  revert h
  intro h
  refine lv_aload_n X.1 X.2.1 dX12_skip_0 rfl (lv_at hl 0 rfl) ?_
  refine lv_iload_n X.1 X.2.1 dX12_skip_1 rfl (lv_at hl 1 rfl) ?_
  refine kp_calli X h (kp_runV (rm := { frames := 0, cells := 0, slots := 0, locals := 0 }) (mc := 0) (ms := 0) (rest := []) (Qc := fun A => kp_Qi D cy A S _) X h (c_X12_is l D cy ad S a0 x1 _ h.2.2.2 f_a0 hw) f_a0 cv_12_379 ⟨by decide, by decide, rfl, rfl, by decide, by decide⟩ rfl hl.1 rfl (Nat.le_of_ble_eq_true rfl) dX12_skip_2) (fun y2 T1 hw l_T1 H locs h => ?_)
  have f_a0 := l_T1.is f_a0
  have hle := hle.tr l_T1
  refine lv_istore_n (lv' := [(2, .int y2), (0, .ref a0), (1, .int x1)]) X.1 X.2.1 dX12_skip_5 rfl hl (by decide) rfl (fun ls hl => ?_)
  refine lv_aload_n X.1 X.2.1 dX12_skip_6 rfl (lv_at hl 1 rfl) ?_
  refine lv_dup X.1 X.2.1 dX12_skip_7 rfl ?_
  refine kp_get X h f_a0 fp_12_376.l (v := .int (kp_I T1 2410 a0)) rfl dX12_skip_8 ?_
  refine lv_iload_n X.1 X.2.1 dX12_skip_11 rfl (lv_at hl 0 rfl) ?_
  refine lv_if_eq (tgt := 19) X.1 X.2.1 dX12_skip_12 (by decide) (fun c3 => ?_) (fun c3 => ?_)
  · have hw := hw.1 c3
    refine lv_iconst (v := 0) X.1 X.2.1 dX12_skip_19 (by decide) ?_
    exact j20 y2 0 (kp_I T1 2410 a0) a0 T1 _ _ ls (lv_sub hl [0] rfl) h hle f_a0 f_a0 hw
  · have hw := hw.2 c3
    refine lv_iconst (v := 1) X.1 X.2.1 dX12_skip_15 (by decide) ?_
    refine lv_goto (tgt := 20) X.1 X.2.1 dX12_skip_16 (by decide) ?_
    exact j20 y2 1 (kp_I T1 2410 a0) a0 T1 _ _ ls (lv_sub hl [0] rfl) h hle f_a0 f_a0 hw
theorem dX12_nest_0 : decode cX12_nest 0 = .ok (.aload_n 0, 1) := by decide +kernel
theorem dX12_nest_1 : decode cX12_nest 1 = .ok (.getfield 373, 3) := by decide +kernel
theorem dX12_nest_4 : decode cX12_nest 4 = .ok (.ifCond .le 4, 3) := by decide +kernel
theorem dX12_nest_7 : decode cX12_nest 7 = .ok (.return_, 1) := by decide +kernel
theorem dX12_nest_8 : decode cX12_nest 8 = .ok (.aload_n 0, 1) := by decide +kernel
theorem dX12_nest_9 : decode cX12_nest 9 = .ok (.getfield 388, 3) := by decide +kernel
theorem dX12_nest_12 : decode cX12_nest 12 = .ok (.bipush 14, 2) := by decide +kernel
theorem dX12_nest_14 : decode cX12_nest 14 = .ok (.if_icmp .ne 22, 3) := by decide +kernel
theorem dX12_nest_17 : decode cX12_nest 17 = .ok (.aload_n 0, 1) := by decide +kernel
theorem dX12_nest_18 : decode cX12_nest 18 = .ok (.iconst 3, 1) := by decide +kernel
theorem dX12_nest_19 : decode cX12_nest 19 = .ok (.putfield 373, 3) := by decide +kernel
theorem dX12_nest_22 : decode cX12_nest 22 = .ok (.aload_n 0, 1) := by decide +kernel
theorem dX12_nest_23 : decode cX12_nest 23 = .ok (.aload_n 0, 1) := by decide +kernel
theorem dX12_nest_24 : decode cX12_nest 24 = .ok (.getfield 34, 3) := by decide +kernel
theorem dX12_nest_27 : decode cX12_nest 27 = .ok (.aload_n 0, 1) := by decide +kernel
theorem dX12_nest_28 : decode cX12_nest 28 = .ok (.getfield 376, 3) := by decide +kernel
theorem dX12_nest_31 : decode cX12_nest 31 = .ok (.iaload, 1) := by decide +kernel
theorem dX12_nest_32 : decode cX12_nest 32 = .ok (.putfield 40, 3) := by decide +kernel
theorem dX12_nest_35 : decode cX12_nest 35 = .ok (.return_, 1) := by decide +kernel
theorem dX12_nest_36 : decode cX12_nest 36 = .ok (.aload_n 0, 1) := by decide +kernel
theorem dX12_nest_37 : decode cX12_nest 37 = .ok (.dup, 1) := by decide +kernel
theorem dX12_nest_38 : decode cX12_nest 38 = .ok (.getfield 388, 3) := by decide +kernel
theorem dX12_nest_41 : decode cX12_nest 41 = .ok (.iconst 1, 1) := by decide +kernel
theorem dX12_nest_42 : decode cX12_nest 42 = .ok (.iadd, 1) := by decide +kernel
theorem dX12_nest_43 : decode cX12_nest 43 = .ok (.putfield 388, 3) := by decide +kernel
theorem dX12_nest_46 : decode cX12_nest 46 = .ok (.aload_n 0, 1) := by decide +kernel
theorem dX12_nest_47 : decode cX12_nest 47 = .ok (.dup, 1) := by decide +kernel
theorem dX12_nest_48 : decode cX12_nest 48 = .ok (.getfield 376, 3) := by decide +kernel
theorem dX12_nest_51 : decode cX12_nest 51 = .ok (.iconst 1, 1) := by decide +kernel
theorem dX12_nest_52 : decode cX12_nest 52 = .ok (.iadd, 1) := by decide +kernel
theorem dX12_nest_53 : decode cX12_nest 53 = .ok (.putfield 376, 3) := by decide +kernel
theorem dX12_nest_56 : decode cX12_nest 56 = .ok (.return_, 1) := by decide +kernel
def wX12_nest (a0 : Nat) (S : kp_S) (post : kp_S → Prop) : Prop :=
  (((kp_I S 2408 a0) ≤ 0 →
  ((¬ (kp_I S 2411 a0) = 14 →
  ∀ T1 : kp_S, T1 = kp_sI S 2411 a0 ((kp_I S 2411 a0) + 1) →
  ∀ T2 : kp_S, T2 = kp_sI T1 2410 a0 ((kp_I T1 2410 a0) + 1) →
  post T2) ∧ ((kp_I S 2411 a0) = 14 →
  ∀ T3 : kp_S, T3 = kp_sI S 2408 a0 3 →
  ∃ b4 : Nat, kp_R T3 2405 a0 = some b4 ∧
  vp_in (kp_I T3 2410 a0) (kp_N T3 b4) ∧
  ∀ T5 : kp_S, T5 = kp_sI T3 2409 a0 (kp_A T3 b4 (kp_I T3 2410 a0).toNatClampNeg) →
  post T5))) ∧ (¬ (kp_I S 2408 a0) ≤ 0 →
  post S))
set_option maxHeartbeats 4000000 in
set_option maxRecDepth 100000 in
theorem c_X12_nest (l : Launch) (D : va_G) (cy : Nat → ClassId) (ad : (Nat → Nat) × (Nat → Nat)) (S : kp_S) (a0 : Nat) (post : kp_S → Prop) (hS : kp_ok S) (f_a0 : kp_is S a0 12) (hw : wX12_nest a0 S post) : kp_M l yX12_nest cX12_nest 1 none { frames := 0, cells := 0, slots := 0, locals := 0 } D cy ad S [.ref a0] 0 0 (fun A => kp_Qv D cy A S post) := by
  refine kp_start (own := RX12) (by decide) rfl (Nat.le_of_ble_eq_true rfl) hS ?_
  intro p e s m below meth c A ls X hr hlocks hname h hl
  have hle : kp_le S S := kp_le.rf
  have hl : lv_has ls 1 [(0, .ref a0)] := hl
  unfold wX12_nest at hw
  have h : kp_H D cy A S s.heap s.heap [] := h
  revert h
  intro h
  refine lv_aload_n X.1 X.2.1 dX12_nest_0 rfl (lv_at hl 0 rfl) ?_
  refine kp_get X h f_a0 fp_12_373.l (v := .int (kp_I S 2408 a0)) rfl dX12_nest_1 ?_
  refine lv_if_le (tgt := 8) X.1 X.2.1 dX12_nest_4 (by decide) (fun c7 => ?_) (fun c7 => ?_)
  · have hw := hw.1 c7
    refine lv_aload_n X.1 X.2.1 dX12_nest_8 rfl (lv_at hl 0 rfl) ?_
    refine kp_get X h f_a0 fp_12_388.l (v := .int (kp_I S 2411 a0)) rfl dX12_nest_9 ?_
    refine lv_bipush (v := 14) X.1 X.2.1 dX12_nest_12 (by decide) ?_
    refine lv_icmp_ne (tgt := 36) X.1 X.2.1 dX12_nest_14 (by decide) (fun c6 => ?_) (fun c6 => ?_)
    · have hw := hw.1 c6
      refine lv_aload_n X.1 X.2.1 dX12_nest_36 rfl (lv_at hl 0 rfl) ?_
      refine lv_dup X.1 X.2.1 dX12_nest_37 rfl ?_
      refine kp_get X h f_a0 fp_12_388.l (v := .int (kp_I S 2411 a0)) rfl dX12_nest_38 ?_
      refine lv_iconst (v := 1) X.1 X.2.1 dX12_nest_41 (by decide) ?_
      refine lv_iadd X.1 X.2.1 dX12_nest_42 ?_
      refine kp_putI X h f_a0 fp_12_388 rfl ⟨rfl, rfl⟩ dX12_nest_43 (fun T1 e_T1 l_T1 H locs h => ?_)
      have hw := hw T1 e_T1
      have f_a0 := l_T1.is f_a0
      have hle := hle.tr l_T1
      refine lv_aload_n X.1 X.2.1 dX12_nest_46 rfl (lv_at hl 0 rfl) ?_
      refine lv_dup X.1 X.2.1 dX12_nest_47 rfl ?_
      refine kp_get X h f_a0 fp_12_376.l (v := .int (kp_I T1 2410 a0)) rfl dX12_nest_48 ?_
      refine lv_iconst (v := 1) X.1 X.2.1 dX12_nest_51 (by decide) ?_
      refine lv_iadd X.1 X.2.1 dX12_nest_52 ?_
      refine kp_putI X h f_a0 fp_12_376 rfl ⟨rfl, rfl⟩ dX12_nest_53 (fun T2 e_T2 l_T2 H locs h => ?_)
      have hw := hw T2 e_T2
      have f_a0 := l_T2.is f_a0
      have hle := hle.tr l_T2
      exact kp_retv X hr hlocks h hle hw dX12_nest_56
    · have hw := hw.2 c6
      refine lv_aload_n X.1 X.2.1 dX12_nest_17 rfl (lv_at hl 0 rfl) ?_
      refine lv_iconst (v := 3) X.1 X.2.1 dX12_nest_18 (by decide) ?_
      refine kp_putI X h f_a0 fp_12_373 rfl ⟨rfl, rfl⟩ dX12_nest_19 (fun T3 e_T3 l_T3 H locs h => ?_)
      have hw := hw T3 e_T3
      have f_a0 := l_T3.is f_a0
      have hle := hle.tr l_T3
      refine lv_aload_n X.1 X.2.1 dX12_nest_22 rfl (lv_at hl 0 rfl) ?_
      refine lv_aload_n X.1 X.2.1 dX12_nest_23 rfl (lv_at hl 0 rfl) ?_
      obtain ⟨b4, e_b4, hw⟩ := hw
      have f_b4 := h.2.2.2.rf (c := 12) (k := 5) f_a0 (by decide) (by decide) e_b4 (t := 14) rfl
      refine kp_get X h f_a0 ff_12_34.l (v := .ref b4) (congrArg va_rf e_b4) dX12_nest_24 ?_
      refine lv_aload_n X.1 X.2.1 dX12_nest_27 rfl (lv_at hl 0 rfl) ?_
      refine kp_get X h f_a0 fp_12_376.l (v := .int (kp_I T3 2410 a0)) rfl dX12_nest_28 ?_
      obtain ⟨hi, hw⟩ := hw
      refine kp_iald X h f_b4 hi dX12_nest_31 ?_
      refine kp_putI X h f_a0 fp_12_40 rfl ⟨rfl, rfl⟩ dX12_nest_32 (fun T5 e_T5 l_T5 H locs h => ?_)
      have hw := hw T5 e_T5
      have f_a0 := l_T5.is f_a0
      have f_b4 := l_T5.is f_b4
      have hle := hle.tr l_T5
      have e_b4 : kp_R T5 2405 a0 = some b4 := by rw [e_T5]; exact e_b4
      exact kp_retv X hr hlocks h hle hw dX12_nest_35
  · have hw := hw.2 c7
    exact kp_retv X hr hlocks h hle hw dX12_nest_7
theorem dX12_bad_0 : decode cX12_bad 0 = .ok (.aload_n 0, 1) := by decide +kernel
theorem dX12_bad_1 : decode cX12_bad 1 = .ok (.getfield 373, 3) := by decide +kernel
theorem dX12_bad_4 : decode cX12_bad 4 = .ok (.ifCond .gt 44, 3) := by decide +kernel
theorem dX12_bad_7 : decode cX12_bad 7 = .ok (.aload_n 0, 1) := by decide +kernel
theorem dX12_bad_8 : decode cX12_bad 8 = .ok (.getfield 391, 3) := by decide +kernel
theorem dX12_bad_11 : decode cX12_bad 11 = .ok (.ifCond .le 38, 3) := by decide +kernel
theorem dX12_bad_14 : decode cX12_bad 14 = .ok (.aload_n 0, 1) := by decide +kernel
theorem dX12_bad_15 : decode cX12_bad 15 = .ok (.getfield 34, 3) := by decide +kernel
theorem dX12_bad_18 : decode cX12_bad 18 = .ok (.iload_n 2, 1) := by decide +kernel
theorem dX12_bad_19 : decode cX12_bad 19 = .ok (.iaload, 1) := by decide +kernel
theorem dX12_bad_20 : decode cX12_bad 20 = .ok (.aload_n 0, 1) := by decide +kernel
theorem dX12_bad_21 : decode cX12_bad 21 = .ok (.getfield 394, 3) := by decide +kernel
theorem dX12_bad_24 : decode cX12_bad 24 = .ok (.if_icmp .gt 24, 3) := by decide +kernel
theorem dX12_bad_27 : decode cX12_bad 27 = .ok (.aload_n 0, 1) := by decide +kernel
theorem dX12_bad_28 : decode cX12_bad 28 = .ok (.getfield 34, 3) := by decide +kernel
theorem dX12_bad_31 : decode cX12_bad 31 = .ok (.iload_n 2, 1) := by decide +kernel
theorem dX12_bad_32 : decode cX12_bad 32 = .ok (.iaload, 1) := by decide +kernel
theorem dX12_bad_33 : decode cX12_bad 33 = .ok (.aload_n 0, 1) := by decide +kernel
theorem dX12_bad_34 : decode cX12_bad 34 = .ok (.getfield 394, 3) := by decide +kernel
theorem dX12_bad_37 : decode cX12_bad 37 = .ok (.if_icmp .ne 12, 3) := by decide +kernel
theorem dX12_bad_40 : decode cX12_bad 40 = .ok (.iload_n 1, 1) := by decide +kernel
theorem dX12_bad_41 : decode cX12_bad 41 = .ok (.aload_n 0, 1) := by decide +kernel
theorem dX12_bad_42 : decode cX12_bad 42 = .ok (.getfield 391, 3) := by decide +kernel
theorem dX12_bad_45 : decode cX12_bad 45 = .ok (.if_icmp .lt 4, 3) := by decide +kernel
theorem dX12_bad_48 : decode cX12_bad 48 = .ok (.return_, 1) := by decide +kernel
theorem dX12_bad_49 : decode cX12_bad 49 = .ok (.aload_n 0, 1) := by decide +kernel
theorem dX12_bad_50 : decode cX12_bad 50 = .ok (.iload_n 1, 1) := by decide +kernel
theorem dX12_bad_51 : decode cX12_bad 51 = .ok (.putfield 391, 3) := by decide +kernel
theorem dX12_bad_54 : decode cX12_bad 54 = .ok (.aload_n 0, 1) := by decide +kernel
theorem dX12_bad_55 : decode cX12_bad 55 = .ok (.aload_n 0, 1) := by decide +kernel
theorem dX12_bad_56 : decode cX12_bad 56 = .ok (.getfield 34, 3) := by decide +kernel
theorem dX12_bad_59 : decode cX12_bad 59 = .ok (.iload_n 2, 1) := by decide +kernel
theorem dX12_bad_60 : decode cX12_bad 60 = .ok (.iaload, 1) := by decide +kernel
theorem dX12_bad_61 : decode cX12_bad 61 = .ok (.putfield 394, 3) := by decide +kernel
theorem dX12_bad_64 : decode cX12_bad 64 = .ok (.return_, 1) := by decide +kernel
def wX12_bad_b48 (a0 : Nat) (x1 : Int32) (x2 : Int32)  (Sn : kp_S) (post : kp_S → Prop) : Prop :=
  post Sn
def wX12_bad_b49 (a0 : Nat) (x1 : Int32) (x2 : Int32)  (Sn : kp_S) (post : kp_S → Prop) : Prop :=
  ∀ T2001 : kp_S, T2001 = kp_sI Sn 2412 a0 x1 →
  ∃ b2002 : Nat, kp_R T2001 2405 a0 = some b2002 ∧
  vp_in x2 (kp_N T2001 b2002) ∧
  ∀ T2003 : kp_S, T2003 = kp_sI T2001 2413 a0 (kp_A T2001 b2002 x2.toNatClampNeg) →
  post T2003
def wX12_bad (a0 : Nat) (x1 : Int32) (x2 : Int32) (S : kp_S) (post : kp_S → Prop) : Prop :=
  ((0 < (kp_I S 2408 a0) →
  wX12_bad_b48 a0 x1 x2   S post) ∧ (¬ 0 < (kp_I S 2408 a0) →
  (((kp_I S 2412 a0) ≤ 0 →
  wX12_bad_b49 a0 x1 x2   S post) ∧ (¬ (kp_I S 2412 a0) ≤ 0 →
  ∃ b1 : Nat, kp_R S 2405 a0 = some b1 ∧
  vp_in x2 (kp_N S b1) ∧
  (((kp_I S 2413 a0) < (kp_A S b1 x2.toNatClampNeg) →
  wX12_bad_b48 a0 x1 x2   S post) ∧ (¬ (kp_I S 2413 a0) < (kp_A S b1 x2.toNatClampNeg) →
  vp_in x2 (kp_N S b1) ∧
  ((¬ (kp_A S b1 x2.toNatClampNeg) = (kp_I S 2413 a0) →
  wX12_bad_b49 a0 x1 x2   S post) ∧ ((kp_A S b1 x2.toNatClampNeg) = (kp_I S 2413 a0) →
  ((x1 < (kp_I S 2412 a0) →
  wX12_bad_b49 a0 x1 x2   S post) ∧ (¬ x1 < (kp_I S 2412 a0) →
  wX12_bad_b48 a0 x1 x2   S post))))))))))
set_option maxHeartbeats 4000000 in
set_option maxRecDepth 100000 in
theorem c_X12_bad (l : Launch) (D : va_G) (cy : Nat → ClassId) (ad : (Nat → Nat) × (Nat → Nat)) (S : kp_S) (a0 : Nat) (x1 : Int32) (x2 : Int32) (post : kp_S → Prop) (hS : kp_ok S) (f_a0 : kp_is S a0 12) (hw : wX12_bad a0 x1 x2 S post) : kp_M l yX12_bad cX12_bad 3 none { frames := 0, cells := 0, slots := 0, locals := 0 } D cy ad S [.ref a0, .int x1, .int x2] 0 0 (fun A => kp_Qv D cy A S post) := by
  refine kp_start (own := RX12) (by decide) rfl (Nat.le_of_ble_eq_true rfl) hS ?_
  intro p e s m below meth c A ls X hr hlocks hname h hl
  have hle : kp_le S S := kp_le.rf
  have hl : lv_has ls 3 [(0, .ref a0), (1, .int x1), (2, .int x2)] := hl
  have j48 : ∀  (Sn : kp_S) (H : Heap) (locs : List Loc) (ls : Array Slot), lv_has ls 3 [] → kp_H D cy A Sn s.heap H locs → kp_le S Sn → kp_is Sn a0 12 → wX12_bad_b48 a0 x1 x2   Sn post → W p l e { frames := 0, cells := 0, slots := 0, locals := 0 } s m ([.ref a0, .int x1, .int x2] : List Value).toArray below meth c H locs 0 0 (MQ below (kp_Qv D cy A S post) ([.ref a0, .int x1, .int x2] : List Value).toArray s 0 0 A) (F0 m 48 ls []) := by
    intro  Sn H locs ls hl h hle f_a0 hw
    unfold wX12_bad_b48 at hw
    exact kp_retv X hr hlocks h hle hw dX12_bad_48
  have j49 : ∀  (Sn : kp_S) (H : Heap) (locs : List Loc) (ls : Array Slot), lv_has ls 3 [(0, .ref a0), (1, .int x1), (2, .int x2)] → kp_H D cy A Sn s.heap H locs → kp_le S Sn → kp_is Sn a0 12 → wX12_bad_b49 a0 x1 x2   Sn post → W p l e { frames := 0, cells := 0, slots := 0, locals := 0 } s m ([.ref a0, .int x1, .int x2] : List Value).toArray below meth c H locs 0 0 (MQ below (kp_Qv D cy A S post) ([.ref a0, .int x1, .int x2] : List Value).toArray s 0 0 A) (F0 m 49 ls []) := by
    intro  Sn H locs ls hl h hle f_a0 hw
    unfold wX12_bad_b49 at hw
    refine lv_aload_n X.1 X.2.1 dX12_bad_49 rfl (lv_at hl 0 rfl) ?_
    refine lv_iload_n X.1 X.2.1 dX12_bad_50 rfl (lv_at hl 1 rfl) ?_
    refine kp_putI X h f_a0 fp_12_391 rfl ⟨rfl, rfl⟩ dX12_bad_51 (fun T2001 e_T2001 l_T2001 H locs h => ?_)
    have hw := hw T2001 e_T2001
    have f_a0 := l_T2001.is f_a0
    have hle := hle.tr l_T2001
    refine lv_aload_n X.1 X.2.1 dX12_bad_54 rfl (lv_at hl 0 rfl) ?_
    refine lv_aload_n X.1 X.2.1 dX12_bad_55 rfl (lv_at hl 0 rfl) ?_
    obtain ⟨b2002, e_b2002, hw⟩ := hw
    have f_b2002 := h.2.2.2.rf (c := 12) (k := 5) f_a0 (by decide) (by decide) e_b2002 (t := 14) rfl
    refine kp_get X h f_a0 ff_12_34.l (v := .ref b2002) (congrArg va_rf e_b2002) dX12_bad_56 ?_
    refine lv_iload_n X.1 X.2.1 dX12_bad_59 rfl (lv_at hl 2 rfl) ?_
    obtain ⟨hi, hw⟩ := hw
    refine kp_iald X h f_b2002 hi dX12_bad_60 ?_
    refine kp_putI X h f_a0 fp_12_394 rfl ⟨rfl, rfl⟩ dX12_bad_61 (fun T2003 e_T2003 l_T2003 H locs h => ?_)
    have hw := hw T2003 e_T2003
    have f_a0 := l_T2003.is f_a0
    have f_b2002 := l_T2003.is f_b2002
    have hle := hle.tr l_T2003
    have e_b2002 : kp_R T2003 2405 a0 = some b2002 := by rw [e_T2003]; exact e_b2002
    exact kp_retv X hr hlocks h hle hw dX12_bad_64
  unfold wX12_bad at hw
  have h : kp_H D cy A S s.heap s.heap [] := h
  revert h
  intro h
  refine lv_aload_n X.1 X.2.1 dX12_bad_0 rfl (lv_at hl 0 rfl) ?_
  refine kp_get X h f_a0 fp_12_373.l (v := .int (kp_I S 2408 a0)) rfl dX12_bad_1 ?_
  refine lv_if_gt (tgt := 48) X.1 X.2.1 dX12_bad_4 (by decide) (fun c6 => ?_) (fun c6 => ?_)
  · have hw := hw.1 c6
    exact j48  S _ _ ls (lv_sub hl [] rfl) h hle f_a0 hw
  · have hw := hw.2 c6
    refine lv_aload_n X.1 X.2.1 dX12_bad_7 rfl (lv_at hl 0 rfl) ?_
    refine kp_get X h f_a0 fp_12_391.l (v := .int (kp_I S 2412 a0)) rfl dX12_bad_8 ?_
    refine lv_if_le (tgt := 49) X.1 X.2.1 dX12_bad_11 (by decide) (fun c5 => ?_) (fun c5 => ?_)
    · have hw := hw.1 c5
      exact j49  S _ _ ls (lv_sub hl [0, 1, 2] rfl) h hle f_a0 hw
    · have hw := hw.2 c5
      refine lv_aload_n X.1 X.2.1 dX12_bad_14 rfl (lv_at hl 0 rfl) ?_
      obtain ⟨b1, e_b1, hw⟩ := hw
      have f_b1 := h.2.2.2.rf (c := 12) (k := 5) f_a0 (by decide) (by decide) e_b1 (t := 14) rfl
      refine kp_get X h f_a0 ff_12_34.l (v := .ref b1) (congrArg va_rf e_b1) dX12_bad_15 ?_
      refine lv_iload_n X.1 X.2.1 dX12_bad_18 rfl (lv_at hl 2 rfl) ?_
      obtain ⟨hi, hw⟩ := hw
      refine kp_iald X h f_b1 hi dX12_bad_19 ?_
      refine lv_aload_n X.1 X.2.1 dX12_bad_20 rfl (lv_at hl 0 rfl) ?_
      refine kp_get X h f_a0 fp_12_394.l (v := .int (kp_I S 2413 a0)) rfl dX12_bad_21 ?_
      refine lv_icmp_gt (tgt := 48) X.1 X.2.1 dX12_bad_24 (by decide) (fun c4 => ?_) (fun c4 => ?_)
      · have hw := hw.1 c4
        exact j48  S _ _ ls (lv_sub hl [] rfl) h hle f_a0 hw
      · have hw := hw.2 c4
        refine lv_aload_n X.1 X.2.1 dX12_bad_27 rfl (lv_at hl 0 rfl) ?_
        refine kp_get X h f_a0 ff_12_34.l (v := .ref b1) (congrArg va_rf e_b1) dX12_bad_28 ?_
        refine lv_iload_n X.1 X.2.1 dX12_bad_31 rfl (lv_at hl 2 rfl) ?_
        obtain ⟨hi, hw⟩ := hw
        refine kp_iald X h f_b1 hi dX12_bad_32 ?_
        refine lv_aload_n X.1 X.2.1 dX12_bad_33 rfl (lv_at hl 0 rfl) ?_
        refine kp_get X h f_a0 fp_12_394.l (v := .int (kp_I S 2413 a0)) rfl dX12_bad_34 ?_
        refine lv_icmp_ne (tgt := 49) X.1 X.2.1 dX12_bad_37 (by decide) (fun c3 => ?_) (fun c3 => ?_)
        · have hw := hw.1 c3
          exact j49  S _ _ ls (lv_sub hl [0, 1, 2] rfl) h hle f_a0 hw
        · have hw := hw.2 c3
          refine lv_iload_n X.1 X.2.1 dX12_bad_40 rfl (lv_at hl 1 rfl) ?_
          refine lv_aload_n X.1 X.2.1 dX12_bad_41 rfl (lv_at hl 0 rfl) ?_
          refine kp_get X h f_a0 fp_12_391.l (v := .int (kp_I S 2412 a0)) rfl dX12_bad_42 ?_
          refine lv_icmp_lt (tgt := 49) X.1 X.2.1 dX12_bad_45 (by decide) (fun c2 => ?_) (fun c2 => ?_)
          · have hw := hw.1 c2
            exact j49  S _ _ ls (lv_sub hl [0, 1, 2] rfl) h hle f_a0 hw
          · have hw := hw.2 c2
            exact j48  S _ _ ls (lv_sub hl [] rfl) h hle f_a0 hw
theorem dX12_known_0 : decode cX12_known 0 = .ok (.aload_n 0, 1) := by decide +kernel
theorem dX12_known_1 : decode cX12_known 1 = .ok (.getfield 397, 3) := by decide +kernel
theorem dX12_known_4 : decode cX12_known 4 = .ok (.iconst 1, 1) := by decide +kernel
theorem dX12_known_5 : decode cX12_known 5 = .ok (.isub, 1) := by decide +kernel
theorem dX12_known_6 : decode cX12_known 6 = .ok (.istore_n 3, 1) := by decide +kernel
theorem dX12_known_7 : decode cX12_known 7 = .ok (.iload_n 3, 1) := by decide +kernel
theorem dX12_known_8 : decode cX12_known 8 = .ok (.ifCond .lt 27, 3) := by decide +kernel
theorem dX12_known_11 : decode cX12_known 11 = .ok (.aload_n 0, 1) := by decide +kernel
theorem dX12_known_12 : decode cX12_known 12 = .ok (.getfield 100, 3) := by decide +kernel
theorem dX12_known_15 : decode cX12_known 15 = .ok (.iload_n 3, 1) := by decide +kernel
theorem dX12_known_16 : decode cX12_known 16 = .ok (.laload, 1) := by decide +kernel
theorem dX12_known_17 : decode cX12_known 17 = .ok (.lload_n 1, 1) := by decide +kernel
theorem dX12_known_18 : decode cX12_known 18 = .ok (.lcmp, 1) := by decide +kernel
theorem dX12_known_19 : decode cX12_known 19 = .ok (.ifCond .ne 10, 3) := by decide +kernel
theorem dX12_known_22 : decode cX12_known 22 = .ok (.aload_n 0, 1) := by decide +kernel
theorem dX12_known_23 : decode cX12_known 23 = .ok (.getfield 103, 3) := by decide +kernel
theorem dX12_known_26 : decode cX12_known 26 = .ok (.iload_n 3, 1) := by decide +kernel
theorem dX12_known_27 : decode cX12_known 27 = .ok (.iaload, 1) := by decide +kernel
theorem dX12_known_28 : decode cX12_known 28 = .ok (.ireturn, 1) := by decide +kernel
theorem dX12_known_29 : decode cX12_known 29 = .ok (.iinc 3 (-1), 3) := by decide +kernel
theorem dX12_known_32 : decode cX12_known 32 = .ok (.goto (-25), 3) := by decide +kernel
theorem dX12_known_35 : decode cX12_known 35 = .ok (.iconst (-1), 1) := by decide +kernel
theorem dX12_known_36 : decode cX12_known 36 = .ok (.ireturn, 1) := by decide +kernel
def wX12_known_L7 (a0 : Nat) (w1 : Int64)  (post : Int32 → kp_S → Prop) : Nat → Int32 → kp_S → Prop
  | 0, _, _ => False
  | n + 1, xn3, Sn =>
  ((xn3 < 0 →
  post (-1) Sn) ∧ (¬ xn3 < 0 →
  ∃ b1001 : Nat, kp_R Sn 2439 a0 = some b1001 ∧
  vp_in xn3 (kp_N Sn b1001) ∧
  ((¬ (lg_cmp (kp_B Sn b1001 xn3.toNatClampNeg) w1) = 0 →
  ∀ y1002 : Int32, y1002 = xn3 + (-1) →
  wX12_known_L7 a0 w1  post n y1002 Sn) ∧ ((lg_cmp (kp_B Sn b1001 xn3.toNatClampNeg) w1) = 0 →
  ∃ b1003 : Nat, kp_R Sn 2440 a0 = some b1003 ∧
  vp_in xn3 (kp_N Sn b1003) ∧
  post (kp_A Sn b1003 xn3.toNatClampNeg) Sn))))
def wX12_known (a0 : Nat) (w1 : Int64) (S : kp_S) (post : Int32 → kp_S → Prop) : Prop :=
  ∀ y1 : Int32, y1 = ((kp_I S 2441 a0) - 1) →
  ∃ n0 : Nat, wX12_known_L7 a0 w1  post n0 y1 S
set_option maxHeartbeats 4000000 in
set_option maxRecDepth 100000 in
theorem c_X12_known (l : Launch) (D : va_G) (cy : Nat → ClassId) (ad : (Nat → Nat) × (Nat → Nat)) (S : kp_S) (a0 : Nat) (w1 : Int64) (post : Int32 → kp_S → Prop) (hS : kp_ok S) (f_a0 : kp_is S a0 12) (hw : wX12_known a0 w1 S post) : kp_M l yX12_known cX12_known 4 (some .int) { frames := 0, cells := 0, slots := 0, locals := 0 } D cy ad S [.ref a0, .long w1] 0 0 (fun A => kp_Qi D cy A S post) := by
  refine kp_start (own := RX12) (by decide) rfl (Nat.le_of_ble_eq_true rfl) hS ?_
  intro p e s m below meth c A ls X hr hlocks hname h hl
  have hle : kp_le S S := kp_le.rf
  have hl : lv_has ls 4 [(0, .ref a0), (1, .long w1)] := hl
  have L7 : ∀ n7 : Nat, ∀ (xn3 : Int32) (Sn : kp_S) (H : Heap) (locs : List Loc) (ls : Array Slot), lv_has ls 4 [(0, .ref a0), (1, .long w1), (3, .int xn3)] → kp_H D cy A Sn s.heap H locs → kp_le S Sn → kp_is Sn a0 12 → wX12_known_L7 a0 w1  post n7 xn3 Sn → W p l e { frames := 0, cells := 0, slots := 0, locals := 0 } s m ([.ref a0, .long w1] : List Value).toArray below meth c H locs 0 0 (MQ below (kp_Qi D cy A S post) ([.ref a0, .long w1] : List Value).toArray s 0 0 A) (F0 m 7 ls []) := by
    intro n7
    induction n7 with
    | zero => intro xn3 Sn H locs ls hl h hle f_a0 hw; exact hw.elim
    | succ n7 ih7 =>
      intro xn3 Sn H locs ls hl h hle f_a0 hw
      unfold wX12_known_L7 at hw
      refine lv_iload_n X.1 X.2.1 dX12_known_7 rfl (lv_at hl 2 rfl) ?_
      refine lv_if_lt (tgt := 35) X.1 X.2.1 dX12_known_8 (by decide) (fun c1005 => ?_) (fun c1005 => ?_)
      · have hw := hw.1 c1005
        refine lv_iconst (v := (-1)) X.1 X.2.1 dX12_known_35 (by decide) ?_
        exact kp_reti X hr hlocks h hle rfl hw dX12_known_36
      · have hw := hw.2 c1005
        refine lv_aload_n X.1 X.2.1 dX12_known_11 rfl (lv_at hl 0 rfl) ?_
        obtain ⟨b1001, e_b1001, hw⟩ := hw
        have f_b1001 := h.2.2.2.rf (c := 12) (k := 39) f_a0 (by decide) (by decide) e_b1001 (t := 15) rfl
        refine kp_get X h f_a0 ff_12_100.l (v := .ref b1001) (congrArg va_rf e_b1001) dX12_known_12 ?_
        refine lv_iload_n X.1 X.2.1 dX12_known_15 rfl (lv_at hl 2 rfl) ?_
        obtain ⟨hi, hw⟩ := hw
        refine kp_lald X h f_b1001 hi dX12_known_16 ?_
        refine lv_lload_n X.1 X.2.1 dX12_known_17 rfl (lv_at hl 1 rfl) ?_
        refine W.lcmp X.1 X.2.1 dX12_known_18 ?_
        refine lv_if_ne (tgt := 29) X.1 X.2.1 dX12_known_19 (by decide) (fun c1004 => ?_) (fun c1004 => ?_)
        · have hw := hw.1 c1004
          obtain ⟨y1002, e_y1002⟩ : ∃ y : Int32, y = xn3 + (-1) := ⟨_, rfl⟩
          have hw := hw y1002 e_y1002
          refine lv_iinc (v := y1002) (lv' := [(3, .int y1002), (0, .ref a0), (1, .long w1)]) X.1 X.2.1 dX12_known_29 hl (k := 2) rfl (by rw [e_y1002]; rfl) (by decide) rfl (fun ls hl => ?_)
          refine lv_goto (tgt := 7) X.1 X.2.1 dX12_known_32 (by decide) ?_
          exact ih7 y1002 Sn H locs ls (lv_sub hl [1, 2, 0] rfl) h hle f_a0 hw
        · have hw := hw.2 c1004
          refine lv_aload_n X.1 X.2.1 dX12_known_22 rfl (lv_at hl 0 rfl) ?_
          obtain ⟨b1003, e_b1003, hw⟩ := hw
          have f_b1003 := h.2.2.2.rf (c := 12) (k := 40) f_a0 (by decide) (by decide) e_b1003 (t := 14) rfl
          refine kp_get X h f_a0 ff_12_103.l (v := .ref b1003) (congrArg va_rf e_b1003) dX12_known_23 ?_
          refine lv_iload_n X.1 X.2.1 dX12_known_26 rfl (lv_at hl 2 rfl) ?_
          obtain ⟨hi, hw⟩ := hw
          refine kp_iald X h f_b1003 hi dX12_known_27 ?_
          exact kp_reti X hr hlocks h hle rfl hw dX12_known_28
  unfold wX12_known at hw
  have h : kp_H D cy A S s.heap s.heap [] := h
  revert h
  intro h
  refine lv_aload_n X.1 X.2.1 dX12_known_0 rfl (lv_at hl 0 rfl) ?_
  refine kp_get X h f_a0 fp_12_397.l (v := .int (kp_I S 2441 a0)) rfl dX12_known_1 ?_
  refine lv_iconst (v := 1) X.1 X.2.1 dX12_known_4 (by decide) ?_
  refine lv_isub X.1 X.2.1 dX12_known_5 ?_
  refine lv_topi (fun y1 e_y1 => ?_)
  have hw := hw y1 e_y1
  refine lv_istore_n (lv' := [(3, .int y1), (0, .ref a0), (1, .long w1)]) X.1 X.2.1 dX12_known_6 rfl hl (by decide) rfl (fun ls hl => ?_)
  obtain ⟨n0, hw⟩ := hw
  exact L7 n0 y1 S _ _ ls (lv_sub hl [1, 2, 0] rfl) h hle f_a0 hw
theorem dX12_know_0 : decode cX12_know 0 = .ok (.aload_n 0, 1) := by decide +kernel
theorem dX12_know_1 : decode cX12_know 1 = .ok (.getfield 100, 3) := by decide +kernel
theorem dX12_know_4 : decode cX12_know 4 = .ok (.aload_n 0, 1) := by decide +kernel
theorem dX12_know_5 : decode cX12_know 5 = .ok (.getfield 397, 3) := by decide +kernel
theorem dX12_know_8 : decode cX12_know 8 = .ok (.lload_n 1, 1) := by decide +kernel
theorem dX12_know_9 : decode cX12_know 9 = .ok (.lastore, 1) := by decide +kernel
theorem dX12_know_10 : decode cX12_know 10 = .ok (.aload_n 0, 1) := by decide +kernel
theorem dX12_know_11 : decode cX12_know 11 = .ok (.getfield 103, 3) := by decide +kernel
theorem dX12_know_14 : decode cX12_know 14 = .ok (.aload_n 0, 1) := by decide +kernel
theorem dX12_know_15 : decode cX12_know 15 = .ok (.getfield 397, 3) := by decide +kernel
theorem dX12_know_18 : decode cX12_know 18 = .ok (.aload_n 0, 1) := by decide +kernel
theorem dX12_know_19 : decode cX12_know 19 = .ok (.getfield 400, 3) := by decide +kernel
theorem dX12_know_22 : decode cX12_know 22 = .ok (.iastore, 1) := by decide +kernel
theorem dX12_know_23 : decode cX12_know 23 = .ok (.aload_n 0, 1) := by decide +kernel
theorem dX12_know_24 : decode cX12_know 24 = .ok (.dup, 1) := by decide +kernel
theorem dX12_know_25 : decode cX12_know 25 = .ok (.getfield 397, 3) := by decide +kernel
theorem dX12_know_28 : decode cX12_know 28 = .ok (.iconst 1, 1) := by decide +kernel
theorem dX12_know_29 : decode cX12_know 29 = .ok (.iadd, 1) := by decide +kernel
theorem dX12_know_30 : decode cX12_know 30 = .ok (.putfield 397, 3) := by decide +kernel
theorem dX12_know_33 : decode cX12_know 33 = .ok (.aload_n 0, 1) := by decide +kernel
theorem dX12_know_34 : decode cX12_know 34 = .ok (.dup, 1) := by decide +kernel
theorem dX12_know_35 : decode cX12_know 35 = .ok (.getfield 400, 3) := by decide +kernel
theorem dX12_know_38 : decode cX12_know 38 = .ok (.iconst 1, 1) := by decide +kernel
theorem dX12_know_39 : decode cX12_know 39 = .ok (.iadd, 1) := by decide +kernel
theorem dX12_know_40 : decode cX12_know 40 = .ok (.putfield 400, 3) := by decide +kernel
theorem dX12_know_43 : decode cX12_know 43 = .ok (.aload_n 0, 1) := by decide +kernel
theorem dX12_know_44 : decode cX12_know 44 = .ok (.getfield 400, 3) := by decide +kernel
theorem dX12_know_47 : decode cX12_know 47 = .ok (.iconst 1, 1) := by decide +kernel
theorem dX12_know_48 : decode cX12_know 48 = .ok (.isub, 1) := by decide +kernel
theorem dX12_know_49 : decode cX12_know 49 = .ok (.ireturn, 1) := by decide +kernel
def wX12_know (a0 : Nat) (w1 : Int64) (S : kp_S) (post : Int32 → kp_S → Prop) : Prop :=
  ∃ b1 : Nat, kp_R S 2439 a0 = some b1 ∧
  vp_in (kp_I S 2441 a0) (kp_N S b1) ∧ ∀ T2 : kp_S, T2 = kp_sB S b1 (vp_updL (kp_B S b1) ((kp_I S 2441 a0).toNatClampNeg) w1) →
  ∃ b3 : Nat, kp_R T2 2440 a0 = some b3 ∧
  vp_in (kp_I T2 2441 a0) (kp_N T2 b3) ∧ ∀ T4 : kp_S, T4 = kp_sA T2 b3 (upd (kp_A T2 b3) ((kp_I T2 2441 a0).toNatClampNeg) (kp_I T2 2442 a0)) →
  ∀ T5 : kp_S, T5 = kp_sI T4 2441 a0 ((kp_I T4 2441 a0) + 1) →
  ∀ T6 : kp_S, T6 = kp_sI T5 2442 a0 ((kp_I T5 2442 a0) + 1) →
  post ((kp_I T6 2442 a0) - 1) T6
set_option maxHeartbeats 4000000 in
set_option maxRecDepth 100000 in
theorem c_X12_know (l : Launch) (D : va_G) (cy : Nat → ClassId) (ad : (Nat → Nat) × (Nat → Nat)) (S : kp_S) (a0 : Nat) (w1 : Int64) (post : Int32 → kp_S → Prop) (hS : kp_ok S) (f_a0 : kp_is S a0 12) (hw : wX12_know a0 w1 S post) : kp_M l yX12_know cX12_know 3 (some .int) { frames := 0, cells := 0, slots := 0, locals := 0 } D cy ad S [.ref a0, .long w1] 0 0 (fun A => kp_Qi D cy A S post) := by
  refine kp_start (own := RX12) (by decide) rfl (Nat.le_of_ble_eq_true rfl) hS ?_
  intro p e s m below meth c A ls X hr hlocks hname h hl
  have hle : kp_le S S := kp_le.rf
  have hl : lv_has ls 3 [(0, .ref a0), (1, .long w1)] := hl
  unfold wX12_know at hw
  have h : kp_H D cy A S s.heap s.heap [] := h
  revert h
  intro h
  refine lv_aload_n X.1 X.2.1 dX12_know_0 rfl (lv_at hl 0 rfl) ?_
  obtain ⟨b1, e_b1, hw⟩ := hw
  have f_b1 := h.2.2.2.rf (c := 12) (k := 39) f_a0 (by decide) (by decide) e_b1 (t := 15) rfl
  refine kp_get X h f_a0 ff_12_100.l (v := .ref b1) (congrArg va_rf e_b1) dX12_know_1 ?_
  refine lv_aload_n X.1 X.2.1 dX12_know_4 rfl (lv_at hl 0 rfl) ?_
  refine kp_get X h f_a0 fp_12_397.l (v := .int (kp_I S 2441 a0)) rfl dX12_know_5 ?_
  refine lv_lload_n X.1 X.2.1 dX12_know_8 rfl (lv_at hl 1 rfl) ?_
  obtain ⟨hi, hw⟩ := hw
  refine kp_last X h f_b1 hi dX12_know_9 (fun T2 e_T2 l_T2 H locs h => ?_)
  have hw := hw T2 e_T2
  have f_a0 := l_T2.is f_a0
  have f_b1 := l_T2.is f_b1
  have hle := hle.tr l_T2
  have e_b1 : kp_R T2 2439 a0 = some b1 := by rw [e_T2]; exact e_b1
  refine lv_aload_n X.1 X.2.1 dX12_know_10 rfl (lv_at hl 0 rfl) ?_
  obtain ⟨b3, e_b3, hw⟩ := hw
  have f_b3 := h.2.2.2.rf (c := 12) (k := 40) f_a0 (by decide) (by decide) e_b3 (t := 14) rfl
  refine kp_get X h f_a0 ff_12_103.l (v := .ref b3) (congrArg va_rf e_b3) dX12_know_11 ?_
  refine lv_aload_n X.1 X.2.1 dX12_know_14 rfl (lv_at hl 0 rfl) ?_
  refine kp_get X h f_a0 fp_12_397.l (v := .int (kp_I T2 2441 a0)) rfl dX12_know_15 ?_
  refine lv_aload_n X.1 X.2.1 dX12_know_18 rfl (lv_at hl 0 rfl) ?_
  refine kp_get X h f_a0 fp_12_400.l (v := .int (kp_I T2 2442 a0)) rfl dX12_know_19 ?_
  obtain ⟨hi, hw⟩ := hw
  refine kp_iast X h f_b3 hi dX12_know_22 (fun T4 e_T4 l_T4 H locs h => ?_)
  have hw := hw T4 e_T4
  have f_a0 := l_T4.is f_a0
  have f_b1 := l_T4.is f_b1
  have f_b3 := l_T4.is f_b3
  have hle := hle.tr l_T4
  have e_b1 : kp_R T4 2439 a0 = some b1 := by rw [e_T4]; exact e_b1
  have e_b3 : kp_R T4 2440 a0 = some b3 := by rw [e_T4]; exact e_b3
  refine lv_aload_n X.1 X.2.1 dX12_know_23 rfl (lv_at hl 0 rfl) ?_
  refine lv_dup X.1 X.2.1 dX12_know_24 rfl ?_
  refine kp_get X h f_a0 fp_12_397.l (v := .int (kp_I T4 2441 a0)) rfl dX12_know_25 ?_
  refine lv_iconst (v := 1) X.1 X.2.1 dX12_know_28 (by decide) ?_
  refine lv_iadd X.1 X.2.1 dX12_know_29 ?_
  refine kp_putI X h f_a0 fp_12_397 rfl ⟨rfl, rfl⟩ dX12_know_30 (fun T5 e_T5 l_T5 H locs h => ?_)
  have hw := hw T5 e_T5
  have f_a0 := l_T5.is f_a0
  have f_b1 := l_T5.is f_b1
  have f_b3 := l_T5.is f_b3
  have hle := hle.tr l_T5
  have e_b1 : kp_R T5 2439 a0 = some b1 := by rw [e_T5]; exact e_b1
  have e_b3 : kp_R T5 2440 a0 = some b3 := by rw [e_T5]; exact e_b3
  refine lv_aload_n X.1 X.2.1 dX12_know_33 rfl (lv_at hl 0 rfl) ?_
  refine lv_dup X.1 X.2.1 dX12_know_34 rfl ?_
  refine kp_get X h f_a0 fp_12_400.l (v := .int (kp_I T5 2442 a0)) rfl dX12_know_35 ?_
  refine lv_iconst (v := 1) X.1 X.2.1 dX12_know_38 (by decide) ?_
  refine lv_iadd X.1 X.2.1 dX12_know_39 ?_
  refine kp_putI X h f_a0 fp_12_400 rfl ⟨rfl, rfl⟩ dX12_know_40 (fun T6 e_T6 l_T6 H locs h => ?_)
  have hw := hw T6 e_T6
  have f_a0 := l_T6.is f_a0
  have f_b1 := l_T6.is f_b1
  have f_b3 := l_T6.is f_b3
  have hle := hle.tr l_T6
  have e_b1 : kp_R T6 2439 a0 = some b1 := by rw [e_T6]; exact e_b1
  have e_b3 : kp_R T6 2440 a0 = some b3 := by rw [e_T6]; exact e_b3
  refine lv_aload_n X.1 X.2.1 dX12_know_43 rfl (lv_at hl 0 rfl) ?_
  refine kp_get X h f_a0 fp_12_400.l (v := .int (kp_I T6 2442 a0)) rfl dX12_know_44 ?_
  refine lv_iconst (v := 1) X.1 X.2.1 dX12_know_47 (by decide) ?_
  refine lv_isub X.1 X.2.1 dX12_know_48 ?_
  exact kp_reti X hr hlocks h hle rfl hw dX12_know_49
theorem dX12_dutyOf_0 : decode cX12_dutyOf 0 = .ok (.iconst 0, 1) := by decide +kernel
theorem dX12_dutyOf_1 : decode cX12_dutyOf 1 = .ok (.istore_n 3, 1) := by decide +kernel
theorem dX12_dutyOf_2 : decode cX12_dutyOf 2 = .ok (.iload_n 3, 1) := by decide +kernel
theorem dX12_dutyOf_3 : decode cX12_dutyOf 3 = .ok (.aload_n 0, 1) := by decide +kernel
theorem dX12_dutyOf_4 : decode cX12_dutyOf 4 = .ok (.getfield 403, 3) := by decide +kernel
theorem dX12_dutyOf_7 : decode cX12_dutyOf 7 = .ok (.if_icmp .ge 22, 3) := by decide +kernel
theorem dX12_dutyOf_10 : decode cX12_dutyOf 10 = .ok (.aload_n 0, 1) := by decide +kernel
theorem dX12_dutyOf_11 : decode cX12_dutyOf 11 = .ok (.getfield 70, 3) := by decide +kernel
theorem dX12_dutyOf_14 : decode cX12_dutyOf 14 = .ok (.iload_n 3, 1) := by decide +kernel
theorem dX12_dutyOf_15 : decode cX12_dutyOf 15 = .ok (.laload, 1) := by decide +kernel
theorem dX12_dutyOf_16 : decode cX12_dutyOf 16 = .ok (.lload_n 1, 1) := by decide +kernel
theorem dX12_dutyOf_17 : decode cX12_dutyOf 17 = .ok (.lcmp, 1) := by decide +kernel
theorem dX12_dutyOf_18 : decode cX12_dutyOf 18 = .ok (.ifCond .ne 5, 3) := by decide +kernel
theorem dX12_dutyOf_21 : decode cX12_dutyOf 21 = .ok (.iload_n 3, 1) := by decide +kernel
theorem dX12_dutyOf_22 : decode cX12_dutyOf 22 = .ok (.ireturn, 1) := by decide +kernel
theorem dX12_dutyOf_23 : decode cX12_dutyOf 23 = .ok (.iinc 3 1, 3) := by decide +kernel
theorem dX12_dutyOf_26 : decode cX12_dutyOf 26 = .ok (.goto (-24), 3) := by decide +kernel
theorem dX12_dutyOf_29 : decode cX12_dutyOf 29 = .ok (.iconst (-1), 1) := by decide +kernel
theorem dX12_dutyOf_30 : decode cX12_dutyOf 30 = .ok (.ireturn, 1) := by decide +kernel
def wX12_dutyOf_L2 (a0 : Nat) (w1 : Int64)  (post : Int32 → kp_S → Prop) : Nat → Int32 → kp_S → Prop
  | 0, _, _ => False
  | n + 1, xn3, Sn =>
  (((kp_I Sn 2433 a0) ≤ xn3 →
  post (-1) Sn) ∧ (¬ (kp_I Sn 2433 a0) ≤ xn3 →
  ∃ b1001 : Nat, kp_R Sn 2427 a0 = some b1001 ∧
  vp_in xn3 (kp_N Sn b1001) ∧
  ((¬ (lg_cmp (kp_B Sn b1001 xn3.toNatClampNeg) w1) = 0 →
  ∀ y1002 : Int32, y1002 = xn3 + 1 →
  wX12_dutyOf_L2 a0 w1  post n y1002 Sn) ∧ ((lg_cmp (kp_B Sn b1001 xn3.toNatClampNeg) w1) = 0 →
  post xn3 Sn))))
def wX12_dutyOf (a0 : Nat) (w1 : Int64) (S : kp_S) (post : Int32 → kp_S → Prop) : Prop :=
  ∃ n0 : Nat, wX12_dutyOf_L2 a0 w1  post n0 0 S
set_option maxHeartbeats 4000000 in
set_option maxRecDepth 100000 in
theorem c_X12_dutyOf (l : Launch) (D : va_G) (cy : Nat → ClassId) (ad : (Nat → Nat) × (Nat → Nat)) (S : kp_S) (a0 : Nat) (w1 : Int64) (post : Int32 → kp_S → Prop) (hS : kp_ok S) (f_a0 : kp_is S a0 12) (hw : wX12_dutyOf a0 w1 S post) : kp_M l yX12_dutyOf cX12_dutyOf 4 (some .int) { frames := 0, cells := 0, slots := 0, locals := 0 } D cy ad S [.ref a0, .long w1] 0 0 (fun A => kp_Qi D cy A S post) := by
  refine kp_start (own := RX12) (by decide) rfl (Nat.le_of_ble_eq_true rfl) hS ?_
  intro p e s m below meth c A ls X hr hlocks hname h hl
  have hle : kp_le S S := kp_le.rf
  have hl : lv_has ls 4 [(0, .ref a0), (1, .long w1)] := hl
  have L2 : ∀ n2 : Nat, ∀ (xn3 : Int32) (Sn : kp_S) (H : Heap) (locs : List Loc) (ls : Array Slot), lv_has ls 4 [(0, .ref a0), (1, .long w1), (3, .int xn3)] → kp_H D cy A Sn s.heap H locs → kp_le S Sn → kp_is Sn a0 12 → wX12_dutyOf_L2 a0 w1  post n2 xn3 Sn → W p l e { frames := 0, cells := 0, slots := 0, locals := 0 } s m ([.ref a0, .long w1] : List Value).toArray below meth c H locs 0 0 (MQ below (kp_Qi D cy A S post) ([.ref a0, .long w1] : List Value).toArray s 0 0 A) (F0 m 2 ls []) := by
    intro n2
    induction n2 with
    | zero => intro xn3 Sn H locs ls hl h hle f_a0 hw; exact hw.elim
    | succ n2 ih2 =>
      intro xn3 Sn H locs ls hl h hle f_a0 hw
      unfold wX12_dutyOf_L2 at hw
      refine lv_iload_n X.1 X.2.1 dX12_dutyOf_2 rfl (lv_at hl 2 rfl) ?_
      refine lv_aload_n X.1 X.2.1 dX12_dutyOf_3 rfl (lv_at hl 0 rfl) ?_
      refine kp_get X h f_a0 fp_12_403.l (v := .int (kp_I Sn 2433 a0)) rfl dX12_dutyOf_4 ?_
      refine lv_icmp_ge (tgt := 29) X.1 X.2.1 dX12_dutyOf_7 (by decide) (fun c1004 => ?_) (fun c1004 => ?_)
      · have hw := hw.1 c1004
        refine lv_iconst (v := (-1)) X.1 X.2.1 dX12_dutyOf_29 (by decide) ?_
        exact kp_reti X hr hlocks h hle rfl hw dX12_dutyOf_30
      · have hw := hw.2 c1004
        refine lv_aload_n X.1 X.2.1 dX12_dutyOf_10 rfl (lv_at hl 0 rfl) ?_
        obtain ⟨b1001, e_b1001, hw⟩ := hw
        have f_b1001 := h.2.2.2.rf (c := 12) (k := 27) f_a0 (by decide) (by decide) e_b1001 (t := 15) rfl
        refine kp_get X h f_a0 ff_12_70.l (v := .ref b1001) (congrArg va_rf e_b1001) dX12_dutyOf_11 ?_
        refine lv_iload_n X.1 X.2.1 dX12_dutyOf_14 rfl (lv_at hl 2 rfl) ?_
        obtain ⟨hi, hw⟩ := hw
        refine kp_lald X h f_b1001 hi dX12_dutyOf_15 ?_
        refine lv_lload_n X.1 X.2.1 dX12_dutyOf_16 rfl (lv_at hl 1 rfl) ?_
        refine W.lcmp X.1 X.2.1 dX12_dutyOf_17 ?_
        refine lv_if_ne (tgt := 23) X.1 X.2.1 dX12_dutyOf_18 (by decide) (fun c1003 => ?_) (fun c1003 => ?_)
        · have hw := hw.1 c1003
          obtain ⟨y1002, e_y1002⟩ : ∃ y : Int32, y = xn3 + 1 := ⟨_, rfl⟩
          have hw := hw y1002 e_y1002
          refine lv_iinc (v := y1002) (lv' := [(3, .int y1002), (0, .ref a0), (1, .long w1)]) X.1 X.2.1 dX12_dutyOf_23 hl (k := 2) rfl (by rw [e_y1002]; rfl) (by decide) rfl (fun ls hl => ?_)
          refine lv_goto (tgt := 2) X.1 X.2.1 dX12_dutyOf_26 (by decide) ?_
          exact ih2 y1002 Sn H locs ls (lv_sub hl [1, 2, 0] rfl) h hle f_a0 hw
        · have hw := hw.2 c1003
          refine lv_iload_n X.1 X.2.1 dX12_dutyOf_21 rfl (lv_at hl 2 rfl) ?_
          exact kp_reti X hr hlocks h hle rfl hw dX12_dutyOf_22
  unfold wX12_dutyOf at hw
  have h : kp_H D cy A S s.heap s.heap [] := h
  revert h
  intro h
  refine lv_iconst (v := 0) X.1 X.2.1 dX12_dutyOf_0 (by decide) ?_
  refine lv_istore_n (lv' := [(3, .int 0), (0, .ref a0), (1, .long w1)]) X.1 X.2.1 dX12_dutyOf_1 rfl hl (by decide) rfl (fun ls hl => ?_)
  obtain ⟨n0, hw⟩ := hw
  exact L2 n0 0 S _ _ ls (lv_sub hl [1, 2, 0] rfl) h hle f_a0 hw
theorem dX12_parameter_0 : decode cX12_parameter 0 = .ok (.aload_n 0, 1) := by decide +kernel
theorem dX12_parameter_1 : decode cX12_parameter 1 = .ok (.getfield 376, 3) := by decide +kernel
theorem dX12_parameter_4 : decode cX12_parameter 4 = .ok (.istore_n 1, 1) := by decide +kernel
theorem dX12_parameter_5 : decode cX12_parameter 5 = .ok (.aload_n 0, 1) := by decide +kernel
theorem dX12_parameter_6 : decode cX12_parameter 6 = .ok (.iconst 2, 1) := by decide +kernel
theorem dX12_parameter_7 : decode cX12_parameter 7 = .ok (.invokevirtual 385, 3) := by decide +kernel
theorem dX12_parameter_10 : decode cX12_parameter 10 = .ok (.aload_n 0, 1) := by decide +kernel
theorem dX12_parameter_11 : decode cX12_parameter 11 = .ok (.invokevirtual 408, 3) := by decide +kernel
theorem dX12_parameter_14 : decode cX12_parameter 14 = .ok (.ifCond .ne 4, 3) := by decide +kernel
theorem dX12_parameter_17 : decode cX12_parameter 17 = .ok (.return_, 1) := by decide +kernel
theorem dX12_parameter_18 : decode cX12_parameter 18 = .ok (.aload_n 0, 1) := by decide +kernel
theorem dX12_parameter_19 : decode cX12_parameter 19 = .ok (.aload_n 0, 1) := by decide +kernel
theorem dX12_parameter_20 : decode cX12_parameter 20 = .ok (.getfield 37, 3) := by decide +kernel
theorem dX12_parameter_23 : decode cX12_parameter 23 = .ok (.iload_n 1, 1) := by decide +kernel
theorem dX12_parameter_24 : decode cX12_parameter 24 = .ok (.laload, 1) := by decide +kernel
theorem dX12_parameter_25 : decode cX12_parameter 25 = .ok (.invokevirtual 457, 3) := by decide +kernel
theorem dX12_parameter_28 : decode cX12_parameter 28 = .ok (.iconst (-1), 1) := by decide +kernel
theorem dX12_parameter_29 : decode cX12_parameter 29 = .ok (.if_icmp .eq 9, 3) := by decide +kernel
theorem dX12_parameter_32 : decode cX12_parameter 32 = .ok (.aload_n 0, 1) := by decide +kernel
theorem dX12_parameter_33 : decode cX12_parameter 33 = .ok (.iconst 4, 1) := by decide +kernel
theorem dX12_parameter_34 : decode cX12_parameter 34 = .ok (.iload_n 1, 1) := by decide +kernel
theorem dX12_parameter_35 : decode cX12_parameter 35 = .ok (.invokevirtual 419, 3) := by decide +kernel
theorem dX12_parameter_38 : decode cX12_parameter 38 = .ok (.aload_n 0, 1) := by decide +kernel
theorem dX12_parameter_39 : decode cX12_parameter 39 = .ok (.getfield 400, 3) := by decide +kernel
theorem dX12_parameter_42 : decode cX12_parameter 42 = .ok (.bipush 8, 2) := by decide +kernel
theorem dX12_parameter_44 : decode cX12_parameter 44 = .ok (.if_icmp .lt 10, 3) := by decide +kernel
theorem dX12_parameter_47 : decode cX12_parameter 47 = .ok (.aload_n 0, 1) := by decide +kernel
theorem dX12_parameter_48 : decode cX12_parameter 48 = .ok (.bipush 8, 2) := by decide +kernel
theorem dX12_parameter_50 : decode cX12_parameter 50 = .ok (.iload_n 1, 1) := by decide +kernel
theorem dX12_parameter_51 : decode cX12_parameter 51 = .ok (.invokevirtual 419, 3) := by decide +kernel
theorem dX12_parameter_54 : decode cX12_parameter 54 = .ok (.aload_n 0, 1) := by decide +kernel
theorem dX12_parameter_55 : decode cX12_parameter 55 = .ok (.aload_n 0, 1) := by decide +kernel
theorem dX12_parameter_56 : decode cX12_parameter 56 = .ok (.getfield 37, 3) := by decide +kernel
theorem dX12_parameter_59 : decode cX12_parameter 59 = .ok (.iload_n 1, 1) := by decide +kernel
theorem dX12_parameter_60 : decode cX12_parameter 60 = .ok (.laload, 1) := by decide +kernel
theorem dX12_parameter_61 : decode cX12_parameter 61 = .ok (.invokevirtual 460, 3) := by decide +kernel
theorem dX12_parameter_64 : decode cX12_parameter 64 = .ok (.pop, 1) := by decide +kernel
theorem dX12_parameter_65 : decode cX12_parameter 65 = .ok (.return_, 1) := by decide +kernel
def wX12_parameter_b54 (a0 : Nat) (xn1 : Int32)  (Sn : kp_S) (post : kp_S → Prop) : Prop :=
  ∃ b1001 : Nat, kp_R Sn 2406 a0 = some b1001 ∧
  vp_in xn1 (kp_N Sn b1001) ∧
  wX12_know a0 (kp_B Sn b1001 xn1.toNatClampNeg) Sn (fun y1003 T1002 =>
  post T1002)
def wX12_parameter_b38 (a0 : Nat) (xn1 : Int32)  (Sn : kp_S) (post : kp_S → Prop) : Prop :=
  (((kp_I Sn 2442 a0) < 8 →
  wX12_parameter_b54 a0 xn1  Sn post) ∧ (¬ (kp_I Sn 2442 a0) < 8 →
  wX12_bad a0 8 xn1 Sn (fun T2001 =>
  wX12_parameter_b54 a0 xn1  T2001 post)))
def wX12_parameter (a0 : Nat) (S : kp_S) (post : kp_S → Prop) : Prop :=
  ∀ y1 : Int32, y1 = (kp_I S 2410 a0) →
  wX12_take a0 2 S (fun T2 =>
  wX12_fine a0 T2 (fun y4 T3 =>
  ((¬ y4 = 0 →
  ∃ b5 : Nat, kp_R T3 2406 a0 = some b5 ∧
  vp_in y1 (kp_N T3 b5) ∧
  wX12_known a0 (kp_B T3 b5 y1.toNatClampNeg) T3 (fun y7 T6 =>
  ((y7 = (-1) →
  wX12_parameter_b38 a0 y1  T6 post) ∧ (¬ y7 = (-1) →
  wX12_bad a0 4 y1 T6 (fun T8 =>
  wX12_parameter_b38 a0 y1  T8 post))))) ∧ (y4 = 0 →
  post T3))))
set_option maxHeartbeats 4000000 in
set_option maxRecDepth 100000 in
theorem c_X12_parameter (l : Launch) (D : va_G) (cy : Nat → ClassId) (ad : (Nat → Nat) × (Nat → Nat)) (S : kp_S) (a0 : Nat) (post : kp_S → Prop) (hS : kp_ok S) (f_a0 : kp_is S a0 12) (hw : wX12_parameter a0 S post) : kp_M l yX12_parameter cX12_parameter 2 none { frames := 2, cells := 0, slots := 0, locals := 42 } D cy ad S [.ref a0] 0 0 (fun A => kp_Qv D cy A S post) := by
  refine kp_start (own := RX12) (by decide) rfl (Nat.le_of_ble_eq_true rfl) hS ?_
  intro p e s m below meth c A ls X hr hlocks hname h hl
  have hle : kp_le S S := kp_le.rf
  have hl : lv_has ls 2 [(0, .ref a0)] := hl
  have j54 : ∀ (xn1 : Int32) (Sn : kp_S) (H : Heap) (locs : List Loc) (ls : Array Slot), lv_has ls 2 [(0, .ref a0), (1, .int xn1)] → kp_H D cy A Sn s.heap H locs → kp_le S Sn → kp_is Sn a0 12 → wX12_parameter_b54 a0 xn1  Sn post → W p l e { frames := 2, cells := 0, slots := 0, locals := 42 } s m ([.ref a0] : List Value).toArray below meth c H locs 0 0 (MQ below (kp_Qv D cy A S post) ([.ref a0] : List Value).toArray s 0 0 A) (F0 m 54 ls []) := by
    intro xn1 Sn H locs ls hl h hle f_a0 hw
    unfold wX12_parameter_b54 at hw
    refine lv_aload_n X.1 X.2.1 dX12_parameter_54 rfl (lv_at hl 0 rfl) ?_
    refine lv_aload_n X.1 X.2.1 dX12_parameter_55 rfl (lv_at hl 0 rfl) ?_
    obtain ⟨b1001, e_b1001, hw⟩ := hw
    have f_b1001 := h.2.2.2.rf (c := 12) (k := 6) f_a0 (by decide) (by decide) e_b1001 (t := 15) rfl
    refine kp_get X h f_a0 ff_12_37.l (v := .ref b1001) (congrArg va_rf e_b1001) dX12_parameter_56 ?_
    refine lv_iload_n X.1 X.2.1 dX12_parameter_59 rfl (lv_at hl 1 rfl) ?_
    obtain ⟨hi, hw⟩ := hw
    refine kp_lald X h f_b1001 hi dX12_parameter_60 ?_
    refine kp_calli X h (kp_runV (rm := { frames := 0, cells := 0, slots := 0, locals := 0 }) (mc := 0) (ms := 0) (rest := []) (Qc := fun A => kp_Qi D cy A Sn _) X h (c_X12_know l D cy ad Sn a0 (kp_B Sn b1001 xn1.toNatClampNeg) _ h.2.2.2 f_a0 hw) f_a0 cv_12_460 ⟨by decide, by decide, rfl, rfl, by decide, by decide⟩ rfl hl.1 rfl (Nat.le_of_ble_eq_true rfl) dX12_parameter_61) (fun y1003 T1002 hw l_T1002 H locs h => ?_)
    have f_a0 := l_T1002.is f_a0
    have f_b1001 := l_T1002.is f_b1001
    have hle := hle.tr l_T1002
    refine lv_pop X.1 X.2.1 dX12_parameter_64 rfl ?_
    exact kp_retv X hr hlocks h hle hw dX12_parameter_65
  have j38 : ∀ (xn1 : Int32) (Sn : kp_S) (H : Heap) (locs : List Loc) (ls : Array Slot), lv_has ls 2 [(0, .ref a0), (1, .int xn1)] → kp_H D cy A Sn s.heap H locs → kp_le S Sn → kp_is Sn a0 12 → wX12_parameter_b38 a0 xn1  Sn post → W p l e { frames := 2, cells := 0, slots := 0, locals := 42 } s m ([.ref a0] : List Value).toArray below meth c H locs 0 0 (MQ below (kp_Qv D cy A S post) ([.ref a0] : List Value).toArray s 0 0 A) (F0 m 38 ls []) := by
    intro xn1 Sn H locs ls hl h hle f_a0 hw
    unfold wX12_parameter_b38 at hw
    refine lv_aload_n X.1 X.2.1 dX12_parameter_38 rfl (lv_at hl 0 rfl) ?_
    refine kp_get X h f_a0 fp_12_400.l (v := .int (kp_I Sn 2442 a0)) rfl dX12_parameter_39 ?_
    refine lv_bipush (v := 8) X.1 X.2.1 dX12_parameter_42 (by decide) ?_
    refine lv_icmp_lt (tgt := 54) X.1 X.2.1 dX12_parameter_44 (by decide) (fun c2002 => ?_) (fun c2002 => ?_)
    · have hw := hw.1 c2002
      exact j54 xn1 Sn H locs ls (lv_sub hl [0, 1] rfl) h hle f_a0 hw
    · have hw := hw.2 c2002
      refine lv_aload_n X.1 X.2.1 dX12_parameter_47 rfl (lv_at hl 0 rfl) ?_
      refine lv_bipush (v := 8) X.1 X.2.1 dX12_parameter_48 (by decide) ?_
      refine lv_iload_n X.1 X.2.1 dX12_parameter_50 rfl (lv_at hl 1 rfl) ?_
      refine kp_callv X h (kp_runV (rm := { frames := 0, cells := 0, slots := 0, locals := 0 }) (mc := 0) (ms := 0) (rest := []) (Qc := fun A => kp_Qv D cy A Sn _) X h (c_X12_bad l D cy ad Sn a0 8 xn1 _ h.2.2.2 f_a0 hw) f_a0 cv_12_419 ⟨by decide, by decide, rfl, rfl, by decide, by decide⟩ rfl hl.1 rfl (Nat.le_of_ble_eq_true rfl) dX12_parameter_51) (fun T2001 hw l_T2001 H locs h => ?_)
      have f_a0 := l_T2001.is f_a0
      have hle := hle.tr l_T2001
      exact j54 xn1 T2001 H locs ls (lv_sub hl [0, 1] rfl) h hle f_a0 hw
  unfold wX12_parameter at hw
  have h : kp_H D cy A S s.heap s.heap [] := h
  revert h
  intro h
  refine lv_aload_n X.1 X.2.1 dX12_parameter_0 rfl (lv_at hl 0 rfl) ?_
  refine kp_get X h f_a0 fp_12_376.l (v := .int (kp_I S 2410 a0)) rfl dX12_parameter_1 ?_
  refine lv_topi (fun y1 e_y1 => ?_)
  have hw := hw y1 e_y1
  refine lv_istore_n (lv' := [(1, .int y1), (0, .ref a0)]) X.1 X.2.1 dX12_parameter_4 rfl hl (by decide) rfl (fun ls hl => ?_)
  refine lv_aload_n X.1 X.2.1 dX12_parameter_5 rfl (lv_at hl 1 rfl) ?_
  refine lv_iconst (v := 2) X.1 X.2.1 dX12_parameter_6 (by decide) ?_
  refine kp_callv X h (kp_runV (rm := { frames := 1, cells := 0, slots := 0, locals := 21 }) (mc := 0) (ms := 0) (rest := []) (Qc := fun A => kp_Qv D cy A S _) X h (c_X12_take l D cy ad S a0 2 _ h.2.2.2 f_a0 hw) f_a0 cv_12_385 ⟨by decide, by decide, rfl, rfl, by decide, by decide⟩ rfl hl.1 rfl (Nat.le_of_ble_eq_true rfl) dX12_parameter_7) (fun T2 hw l_T2 H locs h => ?_)
  have f_a0 := l_T2.is f_a0
  have hle := hle.tr l_T2
  refine lv_aload_n X.1 X.2.1 dX12_parameter_10 rfl (lv_at hl 1 rfl) ?_
  refine kp_calli X h (kp_runV (rm := { frames := 0, cells := 0, slots := 0, locals := 0 }) (mc := 0) (ms := 0) (rest := []) (Qc := fun A => kp_Qi D cy A T2 _) X h (c_X12_fine l D cy ad T2 a0 _ h.2.2.2 f_a0 hw) f_a0 cv_12_408 ⟨by decide, by decide, rfl, rfl, by decide, by decide⟩ rfl hl.1 rfl (Nat.le_of_ble_eq_true rfl) dX12_parameter_11) (fun y4 T3 hw l_T3 H locs h => ?_)
  have f_a0 := l_T3.is f_a0
  have hle := hle.tr l_T3
  refine lv_if_ne (tgt := 18) X.1 X.2.1 dX12_parameter_14 (by decide) (fun c10 => ?_) (fun c10 => ?_)
  · have hw := hw.1 c10
    refine lv_aload_n X.1 X.2.1 dX12_parameter_18 rfl (lv_at hl 1 rfl) ?_
    refine lv_aload_n X.1 X.2.1 dX12_parameter_19 rfl (lv_at hl 1 rfl) ?_
    obtain ⟨b5, e_b5, hw⟩ := hw
    have f_b5 := h.2.2.2.rf (c := 12) (k := 6) f_a0 (by decide) (by decide) e_b5 (t := 15) rfl
    refine kp_get X h f_a0 ff_12_37.l (v := .ref b5) (congrArg va_rf e_b5) dX12_parameter_20 ?_
    refine lv_iload_n X.1 X.2.1 dX12_parameter_23 rfl (lv_at hl 0 rfl) ?_
    obtain ⟨hi, hw⟩ := hw
    refine kp_lald X h f_b5 hi dX12_parameter_24 ?_
    refine kp_calli X h (kp_runV (rm := { frames := 0, cells := 0, slots := 0, locals := 0 }) (mc := 0) (ms := 0) (rest := []) (Qc := fun A => kp_Qi D cy A T3 _) X h (c_X12_known l D cy ad T3 a0 (kp_B T3 b5 y1.toNatClampNeg) _ h.2.2.2 f_a0 hw) f_a0 cv_12_457 ⟨by decide, by decide, rfl, rfl, by decide, by decide⟩ rfl hl.1 rfl (Nat.le_of_ble_eq_true rfl) dX12_parameter_25) (fun y7 T6 hw l_T6 H locs h => ?_)
    have f_a0 := l_T6.is f_a0
    have f_b5 := l_T6.is f_b5
    have hle := hle.tr l_T6
    refine lv_iconst (v := (-1)) X.1 X.2.1 dX12_parameter_28 (by decide) ?_
    refine lv_icmp_eq (tgt := 38) X.1 X.2.1 dX12_parameter_29 (by decide) (fun c9 => ?_) (fun c9 => ?_)
    · have hw := hw.1 c9
      exact j38 y1 T6 _ _ ls (lv_sub hl [1, 0] rfl) h hle f_a0 hw
    · have hw := hw.2 c9
      refine lv_aload_n X.1 X.2.1 dX12_parameter_32 rfl (lv_at hl 1 rfl) ?_
      refine lv_iconst (v := 4) X.1 X.2.1 dX12_parameter_33 (by decide) ?_
      refine lv_iload_n X.1 X.2.1 dX12_parameter_34 rfl (lv_at hl 0 rfl) ?_
      refine kp_callv X h (kp_runV (rm := { frames := 0, cells := 0, slots := 0, locals := 0 }) (mc := 0) (ms := 0) (rest := []) (Qc := fun A => kp_Qv D cy A T6 _) X h (c_X12_bad l D cy ad T6 a0 4 y1 _ h.2.2.2 f_a0 hw) f_a0 cv_12_419 ⟨by decide, by decide, rfl, rfl, by decide, by decide⟩ rfl hl.1 rfl (Nat.le_of_ble_eq_true rfl) dX12_parameter_35) (fun T8 hw l_T8 H locs h => ?_)
      have f_a0 := l_T8.is f_a0
      have f_b5 := l_T8.is f_b5
      have hle := hle.tr l_T8
      exact j38 y1 T8 _ _ ls (lv_sub hl [1, 0] rfl) h hle f_a0 hw
  · have hw := hw.2 c10
    exact kp_retv X hr hlocks h hle hw dX12_parameter_17
theorem dX12_risky_0 : decode cX12_risky 0 = .ok (.aload_n 0, 1) := by decide +kernel
theorem dX12_risky_1 : decode cX12_risky 1 = .ok (.getfield 471, 3) := by decide +kernel
theorem dX12_risky_4 : decode cX12_risky 4 = .ok (.ifCond .eq 11, 3) := by decide +kernel
theorem dX12_risky_7 : decode cX12_risky 7 = .ok (.lload_n 1, 1) := by decide +kernel
theorem dX12_risky_8 : decode cX12_risky 8 = .ok (.ldc2_w 475, 3) := by decide +kernel
theorem dX12_risky_11 : decode cX12_risky 11 = .ok (.lor, 1) := by decide +kernel
theorem dX12_risky_12 : decode cX12_risky 12 = .ok (.goto 4, 3) := by decide +kernel
theorem dX12_risky_15 : decode cX12_risky 15 = .ok (.lload_n 1, 1) := by decide +kernel
theorem dX12_risky_16 : decode cX12_risky 16 = .ok (.lreturn, 1) := by decide +kernel
def wX12_risky_b16 (a0 : Nat) (w1 : Int64) (wt0 : Int64)  (Sn : kp_S) (post : Int64 → kp_S → Prop) : Prop :=
  post wt0 Sn
def wX12_risky (a0 : Nat) (w1 : Int64) (S : kp_S) (post : Int64 → kp_S → Prop) : Prop :=
  (((kp_I S 2425 a0) = 0 →
  wX12_risky_b16 a0 w1 w1  S post) ∧ (¬ (kp_I S 2425 a0) = 0 →
  wX12_risky_b16 a0 w1 (w1 ||| 4)  S post))
set_option maxHeartbeats 4000000 in
set_option maxRecDepth 100000 in
theorem c_X12_risky (l : Launch) (D : va_G) (cy : Nat → ClassId) (ad : (Nat → Nat) × (Nat → Nat)) (S : kp_S) (a0 : Nat) (w1 : Int64) (post : Int64 → kp_S → Prop) (hS : kp_ok S) (f_a0 : kp_is S a0 12) (hw : wX12_risky a0 w1 S post) : kp_M l yX12_risky cX12_risky 3 (some .long) { frames := 0, cells := 0, slots := 0, locals := 0 } D cy ad S [.ref a0, .long w1] 0 0 (fun A => kp_Ql D cy A S post) := by
  refine kp_start (own := RX12) (by decide) rfl (Nat.le_of_ble_eq_true rfl) hS ?_
  intro p e s m below meth c A ls X hr hlocks hname h hl
  have hle : kp_le S S := kp_le.rf
  have hl : lv_has ls 3 [(0, .ref a0), (1, .long w1)] := hl
  have j16 : ∀ (wt0 : Int64) (Sn : kp_S) (H : Heap) (locs : List Loc) (ls : Array Slot), lv_has ls 3 [] → kp_H D cy A Sn s.heap H locs → kp_le S Sn → kp_is Sn a0 12 → wX12_risky_b16 a0 w1 wt0  Sn post → W p l e { frames := 0, cells := 0, slots := 0, locals := 0 } s m ([.ref a0, .long w1] : List Value).toArray below meth c H locs 0 0 (MQ below (kp_Ql D cy A S post) ([.ref a0, .long w1] : List Value).toArray s 0 0 A) (F0 m 16 ls [.long wt0]) := by
    intro wt0 Sn H locs ls hl h hle f_a0 hw
    unfold wX12_risky_b16 at hw
    exact kp_retl X hr hlocks h hle hw dX12_risky_16
  unfold wX12_risky at hw
  have h : kp_H D cy A S s.heap s.heap [] := h
  revert h
  intro h
  refine lv_aload_n X.1 X.2.1 dX12_risky_0 rfl (lv_at hl 0 rfl) ?_
  refine kp_get X h f_a0 fp_12_471.l (v := .int (kp_I S 2425 a0)) rfl dX12_risky_1 ?_
  refine lv_if_eq (tgt := 15) X.1 X.2.1 dX12_risky_4 (by decide) (fun c1 => ?_) (fun c1 => ?_)
  · have hw := hw.1 c1
    refine lv_lload_n X.1 X.2.1 dX12_risky_15 rfl (lv_at hl 1 rfl) ?_
    exact j16 w1 S _ _ ls (lv_sub hl [] rfl) h hle f_a0 hw
  · have hw := hw.2 c1
    refine lv_lload_n X.1 X.2.1 dX12_risky_7 rfl (lv_at hl 1 rfl) ?_
    refine lv_ldc2 (v := 4) X.1 X.2.1 X.2.2.2.1 (X.2.2.2.2.1 _ kl_12_475) dX12_risky_8 ?_
    refine lv_lor X.1 X.2.1 dX12_risky_11 ?_
    refine lv_goto (tgt := 16) X.1 X.2.1 dX12_risky_12 (by decide) ?_
    exact j16 (w1 ||| 4) S _ _ ls (lv_sub hl [] rfl) h hle f_a0 hw
theorem dX12_tell_0 : decode cX12_tell 0 = .ok (.aload_n 0, 1) := by decide +kernel
theorem dX12_tell_1 : decode cX12_tell 1 = .ok (.aload_n 0, 1) := by decide +kernel
theorem dX12_tell_2 : decode cX12_tell 2 = .ok (.getfield 37, 3) := by decide +kernel
theorem dX12_tell_5 : decode cX12_tell 5 = .ok (.iload_n 1, 1) := by decide +kernel
theorem dX12_tell_6 : decode cX12_tell 6 = .ok (.laload, 1) := by decide +kernel
theorem dX12_tell_7 : decode cX12_tell 7 = .ok (.invokevirtual 457, 3) := by decide +kernel
theorem dX12_tell_10 : decode cX12_tell 10 = .ok (.iconst (-1), 1) := by decide +kernel
theorem dX12_tell_11 : decode cX12_tell 11 = .ok (.if_icmp .eq 9, 3) := by decide +kernel
theorem dX12_tell_14 : decode cX12_tell 14 = .ok (.aload_n 0, 1) := by decide +kernel
theorem dX12_tell_15 : decode cX12_tell 15 = .ok (.iconst 4, 1) := by decide +kernel
theorem dX12_tell_16 : decode cX12_tell 16 = .ok (.iload_n 1, 1) := by decide +kernel
theorem dX12_tell_17 : decode cX12_tell 17 = .ok (.invokevirtual 419, 3) := by decide +kernel
theorem dX12_tell_20 : decode cX12_tell 20 = .ok (.aload_n 0, 1) := by decide +kernel
theorem dX12_tell_21 : decode cX12_tell 21 = .ok (.getfield 400, 3) := by decide +kernel
theorem dX12_tell_24 : decode cX12_tell 24 = .ok (.bipush 24, 2) := by decide +kernel
theorem dX12_tell_26 : decode cX12_tell 26 = .ok (.if_icmp .lt 10, 3) := by decide +kernel
theorem dX12_tell_29 : decode cX12_tell 29 = .ok (.aload_n 0, 1) := by decide +kernel
theorem dX12_tell_30 : decode cX12_tell 30 = .ok (.bipush 8, 2) := by decide +kernel
theorem dX12_tell_32 : decode cX12_tell 32 = .ok (.iload_n 1, 1) := by decide +kernel
theorem dX12_tell_33 : decode cX12_tell 33 = .ok (.invokevirtual 419, 3) := by decide +kernel
theorem dX12_tell_36 : decode cX12_tell 36 = .ok (.aload_n 0, 1) := by decide +kernel
theorem dX12_tell_37 : decode cX12_tell 37 = .ok (.aload_n 0, 1) := by decide +kernel
theorem dX12_tell_38 : decode cX12_tell 38 = .ok (.getfield 37, 3) := by decide +kernel
theorem dX12_tell_41 : decode cX12_tell 41 = .ok (.iload_n 1, 1) := by decide +kernel
theorem dX12_tell_42 : decode cX12_tell 42 = .ok (.laload, 1) := by decide +kernel
theorem dX12_tell_43 : decode cX12_tell 43 = .ok (.invokevirtual 460, 3) := by decide +kernel
theorem dX12_tell_46 : decode cX12_tell 46 = .ok (.ireturn, 1) := by decide +kernel
def wX12_tell_b36 (a0 : Nat) (x1 : Int32)  (Sn : kp_S) (post : Int32 → kp_S → Prop) : Prop :=
  ∃ b1001 : Nat, kp_R Sn 2406 a0 = some b1001 ∧
  vp_in x1 (kp_N Sn b1001) ∧
  wX12_know a0 (kp_B Sn b1001 x1.toNatClampNeg) Sn (fun y1003 T1002 =>
  post y1003 T1002)
def wX12_tell_b20 (a0 : Nat) (x1 : Int32)  (Sn : kp_S) (post : Int32 → kp_S → Prop) : Prop :=
  (((kp_I Sn 2442 a0) < 24 →
  wX12_tell_b36 a0 x1   Sn post) ∧ (¬ (kp_I Sn 2442 a0) < 24 →
  wX12_bad a0 8 x1 Sn (fun T2001 =>
  wX12_tell_b36 a0 x1   T2001 post)))
def wX12_tell (a0 : Nat) (x1 : Int32) (S : kp_S) (post : Int32 → kp_S → Prop) : Prop :=
  ∃ b1 : Nat, kp_R S 2406 a0 = some b1 ∧
  vp_in x1 (kp_N S b1) ∧
  wX12_known a0 (kp_B S b1 x1.toNatClampNeg) S (fun y3 T2 =>
  ((y3 = (-1) →
  wX12_tell_b20 a0 x1   T2 post) ∧ (¬ y3 = (-1) →
  wX12_bad a0 4 x1 T2 (fun T4 =>
  wX12_tell_b20 a0 x1   T4 post))))
set_option maxHeartbeats 4000000 in
set_option maxRecDepth 100000 in
theorem c_X12_tell (l : Launch) (D : va_G) (cy : Nat → ClassId) (ad : (Nat → Nat) × (Nat → Nat)) (S : kp_S) (a0 : Nat) (x1 : Int32) (post : Int32 → kp_S → Prop) (hS : kp_ok S) (f_a0 : kp_is S a0 12) (hw : wX12_tell a0 x1 S post) : kp_M l yX12_tell cX12_tell 2 (some .int) { frames := 1, cells := 0, slots := 0, locals := 23 } D cy ad S [.ref a0, .int x1] 0 0 (fun A => kp_Qi D cy A S post) := by
  refine kp_start (own := RX12) (by decide) rfl (Nat.le_of_ble_eq_true rfl) hS ?_
  intro p e s m below meth c A ls X hr hlocks hname h hl
  have hle : kp_le S S := kp_le.rf
  have hl : lv_has ls 2 [(0, .ref a0), (1, .int x1)] := hl
  have j36 : ∀  (Sn : kp_S) (H : Heap) (locs : List Loc) (ls : Array Slot), lv_has ls 2 [(0, .ref a0), (1, .int x1)] → kp_H D cy A Sn s.heap H locs → kp_le S Sn → kp_is Sn a0 12 → wX12_tell_b36 a0 x1   Sn post → W p l e { frames := 1, cells := 0, slots := 0, locals := 23 } s m ([.ref a0, .int x1] : List Value).toArray below meth c H locs 0 0 (MQ below (kp_Qi D cy A S post) ([.ref a0, .int x1] : List Value).toArray s 0 0 A) (F0 m 36 ls []) := by
    intro  Sn H locs ls hl h hle f_a0 hw
    unfold wX12_tell_b36 at hw
    refine lv_aload_n X.1 X.2.1 dX12_tell_36 rfl (lv_at hl 0 rfl) ?_
    refine lv_aload_n X.1 X.2.1 dX12_tell_37 rfl (lv_at hl 0 rfl) ?_
    obtain ⟨b1001, e_b1001, hw⟩ := hw
    have f_b1001 := h.2.2.2.rf (c := 12) (k := 6) f_a0 (by decide) (by decide) e_b1001 (t := 15) rfl
    refine kp_get X h f_a0 ff_12_37.l (v := .ref b1001) (congrArg va_rf e_b1001) dX12_tell_38 ?_
    refine lv_iload_n X.1 X.2.1 dX12_tell_41 rfl (lv_at hl 1 rfl) ?_
    obtain ⟨hi, hw⟩ := hw
    refine kp_lald X h f_b1001 hi dX12_tell_42 ?_
    refine kp_calli X h (kp_runV (rm := { frames := 0, cells := 0, slots := 0, locals := 0 }) (mc := 0) (ms := 0) (rest := []) (Qc := fun A => kp_Qi D cy A Sn _) X h (c_X12_know l D cy ad Sn a0 (kp_B Sn b1001 x1.toNatClampNeg) _ h.2.2.2 f_a0 hw) f_a0 cv_12_460 ⟨by decide, by decide, rfl, rfl, by decide, by decide⟩ rfl hl.1 rfl (Nat.le_of_ble_eq_true rfl) dX12_tell_43) (fun y1003 T1002 hw l_T1002 H locs h => ?_)
    have f_a0 := l_T1002.is f_a0
    have f_b1001 := l_T1002.is f_b1001
    have hle := hle.tr l_T1002
    exact kp_reti X hr hlocks h hle rfl hw dX12_tell_46
  have j20 : ∀  (Sn : kp_S) (H : Heap) (locs : List Loc) (ls : Array Slot), lv_has ls 2 [(0, .ref a0), (1, .int x1)] → kp_H D cy A Sn s.heap H locs → kp_le S Sn → kp_is Sn a0 12 → wX12_tell_b20 a0 x1   Sn post → W p l e { frames := 1, cells := 0, slots := 0, locals := 23 } s m ([.ref a0, .int x1] : List Value).toArray below meth c H locs 0 0 (MQ below (kp_Qi D cy A S post) ([.ref a0, .int x1] : List Value).toArray s 0 0 A) (F0 m 20 ls []) := by
    intro  Sn H locs ls hl h hle f_a0 hw
    unfold wX12_tell_b20 at hw
    refine lv_aload_n X.1 X.2.1 dX12_tell_20 rfl (lv_at hl 0 rfl) ?_
    refine kp_get X h f_a0 fp_12_400.l (v := .int (kp_I Sn 2442 a0)) rfl dX12_tell_21 ?_
    refine lv_bipush (v := 24) X.1 X.2.1 dX12_tell_24 (by decide) ?_
    refine lv_icmp_lt (tgt := 36) X.1 X.2.1 dX12_tell_26 (by decide) (fun c2002 => ?_) (fun c2002 => ?_)
    · have hw := hw.1 c2002
      exact j36  Sn H locs ls (lv_sub hl [0, 1] rfl) h hle f_a0 hw
    · have hw := hw.2 c2002
      refine lv_aload_n X.1 X.2.1 dX12_tell_29 rfl (lv_at hl 0 rfl) ?_
      refine lv_bipush (v := 8) X.1 X.2.1 dX12_tell_30 (by decide) ?_
      refine lv_iload_n X.1 X.2.1 dX12_tell_32 rfl (lv_at hl 1 rfl) ?_
      refine kp_callv X h (kp_runV (rm := { frames := 0, cells := 0, slots := 0, locals := 0 }) (mc := 0) (ms := 0) (rest := []) (Qc := fun A => kp_Qv D cy A Sn _) X h (c_X12_bad l D cy ad Sn a0 8 x1 _ h.2.2.2 f_a0 hw) f_a0 cv_12_419 ⟨by decide, by decide, rfl, rfl, by decide, by decide⟩ rfl hl.1 rfl (Nat.le_of_ble_eq_true rfl) dX12_tell_33) (fun T2001 hw l_T2001 H locs h => ?_)
      have f_a0 := l_T2001.is f_a0
      have hle := hle.tr l_T2001
      exact j36  T2001 H locs ls (lv_sub hl [0, 1] rfl) h hle f_a0 hw
  unfold wX12_tell at hw
  have h : kp_H D cy A S s.heap s.heap [] := h
  revert h
  intro h
  refine lv_aload_n X.1 X.2.1 dX12_tell_0 rfl (lv_at hl 0 rfl) ?_
  refine lv_aload_n X.1 X.2.1 dX12_tell_1 rfl (lv_at hl 0 rfl) ?_
  obtain ⟨b1, e_b1, hw⟩ := hw
  have f_b1 := h.2.2.2.rf (c := 12) (k := 6) f_a0 (by decide) (by decide) e_b1 (t := 15) rfl
  refine kp_get X h f_a0 ff_12_37.l (v := .ref b1) (congrArg va_rf e_b1) dX12_tell_2 ?_
  refine lv_iload_n X.1 X.2.1 dX12_tell_5 rfl (lv_at hl 1 rfl) ?_
  obtain ⟨hi, hw⟩ := hw
  refine kp_lald X h f_b1 hi dX12_tell_6 ?_
  refine kp_calli X h (kp_runV (rm := { frames := 0, cells := 0, slots := 0, locals := 0 }) (mc := 0) (ms := 0) (rest := []) (Qc := fun A => kp_Qi D cy A S _) X h (c_X12_known l D cy ad S a0 (kp_B S b1 x1.toNatClampNeg) _ h.2.2.2 f_a0 hw) f_a0 cv_12_457 ⟨by decide, by decide, rfl, rfl, by decide, by decide⟩ rfl hl.1 rfl (Nat.le_of_ble_eq_true rfl) dX12_tell_7) (fun y3 T2 hw l_T2 H locs h => ?_)
  have f_a0 := l_T2.is f_a0
  have f_b1 := l_T2.is f_b1
  have hle := hle.tr l_T2
  refine lv_iconst (v := (-1)) X.1 X.2.1 dX12_tell_10 (by decide) ?_
  refine lv_icmp_eq (tgt := 20) X.1 X.2.1 dX12_tell_11 (by decide) (fun c5 => ?_) (fun c5 => ?_)
  · have hw := hw.1 c5
    exact j20  T2 _ _ ls (lv_sub hl [0, 1] rfl) h hle f_a0 hw
  · have hw := hw.2 c5
    refine lv_aload_n X.1 X.2.1 dX12_tell_14 rfl (lv_at hl 0 rfl) ?_
    refine lv_iconst (v := 4) X.1 X.2.1 dX12_tell_15 (by decide) ?_
    refine lv_iload_n X.1 X.2.1 dX12_tell_16 rfl (lv_at hl 1 rfl) ?_
    refine kp_callv X h (kp_runV (rm := { frames := 0, cells := 0, slots := 0, locals := 0 }) (mc := 0) (ms := 0) (rest := []) (Qc := fun A => kp_Qv D cy A T2 _) X h (c_X12_bad l D cy ad T2 a0 4 x1 _ h.2.2.2 f_a0 hw) f_a0 cv_12_419 ⟨by decide, by decide, rfl, rfl, by decide, by decide⟩ rfl hl.1 rfl (Nat.le_of_ble_eq_true rfl) dX12_tell_17) (fun T4 hw l_T4 H locs h => ?_)
    have f_a0 := l_T4.is f_a0
    have f_b1 := l_T4.is f_b1
    have hle := hle.tr l_T4
    exact j20  T4 _ _ ls (lv_sub hl [0, 1] rfl) h hle f_a0 hw
theorem dX12_describe_0 : decode cX12_describe 0 = .ok (.aload_n 0, 1) := by decide +kernel
theorem dX12_describe_1 : decode cX12_describe 1 = .ok (.getfield 535, 3) := by decide +kernel
theorem dX12_describe_4 : decode cX12_describe 4 = .ok (.istore_n 2, 1) := by decide +kernel
theorem dX12_describe_5 : decode cX12_describe 5 = .ok (.aload_n 0, 1) := by decide +kernel
theorem dX12_describe_6 : decode cX12_describe 6 = .ok (.dup, 1) := by decide +kernel
theorem dX12_describe_7 : decode cX12_describe 7 = .ok (.getfield 535, 3) := by decide +kernel
theorem dX12_describe_10 : decode cX12_describe 10 = .ok (.iconst 1, 1) := by decide +kernel
theorem dX12_describe_11 : decode cX12_describe 11 = .ok (.iadd, 1) := by decide +kernel
theorem dX12_describe_12 : decode cX12_describe 12 = .ok (.putfield 535, 3) := by decide +kernel
theorem dX12_describe_15 : decode cX12_describe 15 = .ok (.aload_n 0, 1) := by decide +kernel
theorem dX12_describe_16 : decode cX12_describe 16 = .ok (.getfield 61, 3) := by decide +kernel
theorem dX12_describe_19 : decode cX12_describe 19 = .ok (.iload_n 2, 1) := by decide +kernel
theorem dX12_describe_20 : decode cX12_describe 20 = .ok (.aload_n 0, 1) := by decide +kernel
theorem dX12_describe_21 : decode cX12_describe 21 = .ok (.getfield 34, 3) := by decide +kernel
theorem dX12_describe_24 : decode cX12_describe 24 = .ok (.iload_n 1, 1) := by decide +kernel
theorem dX12_describe_25 : decode cX12_describe 25 = .ok (.iaload, 1) := by decide +kernel
theorem dX12_describe_26 : decode cX12_describe 26 = .ok (.iastore, 1) := by decide +kernel
theorem dX12_describe_27 : decode cX12_describe 27 = .ok (.aload_n 0, 1) := by decide +kernel
theorem dX12_describe_28 : decode cX12_describe 28 = .ok (.getfield 55, 3) := by decide +kernel
theorem dX12_describe_31 : decode cX12_describe 31 = .ok (.iload_n 2, 1) := by decide +kernel
theorem dX12_describe_32 : decode cX12_describe 32 = .ok (.iconst (-1), 1) := by decide +kernel
theorem dX12_describe_33 : decode cX12_describe 33 = .ok (.iastore, 1) := by decide +kernel
theorem dX12_describe_34 : decode cX12_describe 34 = .ok (.aload_n 0, 1) := by decide +kernel
theorem dX12_describe_35 : decode cX12_describe 35 = .ok (.getfield 67, 3) := by decide +kernel
theorem dX12_describe_38 : decode cX12_describe 38 = .ok (.iload_n 2, 1) := by decide +kernel
theorem dX12_describe_39 : decode cX12_describe 39 = .ok (.iconst (-1), 1) := by decide +kernel
theorem dX12_describe_40 : decode cX12_describe 40 = .ok (.iastore, 1) := by decide +kernel
theorem dX12_describe_41 : decode cX12_describe 41 = .ok (.aload_n 0, 1) := by decide +kernel
theorem dX12_describe_42 : decode cX12_describe 42 = .ok (.getfield 64, 3) := by decide +kernel
theorem dX12_describe_45 : decode cX12_describe 45 = .ok (.iload_n 2, 1) := by decide +kernel
theorem dX12_describe_46 : decode cX12_describe 46 = .ok (.iconst (-1), 1) := by decide +kernel
theorem dX12_describe_47 : decode cX12_describe 47 = .ok (.iastore, 1) := by decide +kernel
theorem dX12_describe_48 : decode cX12_describe 48 = .ok (.iload_n 2, 1) := by decide +kernel
theorem dX12_describe_49 : decode cX12_describe 49 = .ok (.ireturn, 1) := by decide +kernel
def wX12_describe (a0 : Nat) (x1 : Int32) (S : kp_S) (post : Int32 → kp_S → Prop) : Prop :=
  ∀ y1 : Int32, y1 = (kp_I S 2424 a0) →
  ∀ T2 : kp_S, T2 = kp_sI S 2424 a0 ((kp_I S 2424 a0) + 1) →
  ∃ b3 : Nat, kp_R T2 2421 a0 = some b3 ∧
  ∃ b4 : Nat, kp_R T2 2405 a0 = some b4 ∧
  vp_in x1 (kp_N T2 b4) ∧
  vp_in y1 (kp_N T2 b3) ∧ ∀ T5 : kp_S, T5 = kp_sA T2 b3 (upd (kp_A T2 b3) (y1.toNatClampNeg) (kp_A T2 b4 x1.toNatClampNeg)) →
  ∃ b6 : Nat, kp_R T5 2419 a0 = some b6 ∧
  vp_in y1 (kp_N T5 b6) ∧ ∀ T7 : kp_S, T7 = kp_sA T5 b6 (upd (kp_A T5 b6) (y1.toNatClampNeg) (-1)) →
  ∃ b8 : Nat, kp_R T7 2423 a0 = some b8 ∧
  vp_in y1 (kp_N T7 b8) ∧ ∀ T9 : kp_S, T9 = kp_sA T7 b8 (upd (kp_A T7 b8) (y1.toNatClampNeg) (-1)) →
  ∃ b10 : Nat, kp_R T9 2422 a0 = some b10 ∧
  vp_in y1 (kp_N T9 b10) ∧ ∀ T11 : kp_S, T11 = kp_sA T9 b10 (upd (kp_A T9 b10) (y1.toNatClampNeg) (-1)) →
  post y1 T11
set_option maxHeartbeats 4000000 in
set_option maxRecDepth 100000 in
theorem c_X12_describe (l : Launch) (D : va_G) (cy : Nat → ClassId) (ad : (Nat → Nat) × (Nat → Nat)) (S : kp_S) (a0 : Nat) (x1 : Int32) (post : Int32 → kp_S → Prop) (hS : kp_ok S) (f_a0 : kp_is S a0 12) (hw : wX12_describe a0 x1 S post) : kp_M l yX12_describe cX12_describe 3 (some .int) { frames := 0, cells := 0, slots := 0, locals := 0 } D cy ad S [.ref a0, .int x1] 0 0 (fun A => kp_Qi D cy A S post) := by
  refine kp_start (own := RX12) (by decide) rfl (Nat.le_of_ble_eq_true rfl) hS ?_
  intro p e s m below meth c A ls X hr hlocks hname h hl
  have hle : kp_le S S := kp_le.rf
  have hl : lv_has ls 3 [(0, .ref a0), (1, .int x1)] := hl
  unfold wX12_describe at hw
  have h : kp_H D cy A S s.heap s.heap [] := h
  revert h
  intro h
  refine lv_aload_n X.1 X.2.1 dX12_describe_0 rfl (lv_at hl 0 rfl) ?_
  refine kp_get X h f_a0 fp_12_535.l (v := .int (kp_I S 2424 a0)) rfl dX12_describe_1 ?_
  refine lv_topi (fun y1 e_y1 => ?_)
  have hw := hw y1 e_y1
  refine lv_istore_n (lv' := [(2, .int y1), (0, .ref a0), (1, .int x1)]) X.1 X.2.1 dX12_describe_4 rfl hl (by decide) rfl (fun ls hl => ?_)
  refine lv_aload_n X.1 X.2.1 dX12_describe_5 rfl (lv_at hl 1 rfl) ?_
  refine lv_dup X.1 X.2.1 dX12_describe_6 rfl ?_
  refine kp_get X h f_a0 fp_12_535.l (v := .int (kp_I S 2424 a0)) rfl dX12_describe_7 ?_
  refine lv_iconst (v := 1) X.1 X.2.1 dX12_describe_10 (by decide) ?_
  refine lv_iadd X.1 X.2.1 dX12_describe_11 ?_
  refine kp_putI X h f_a0 fp_12_535 rfl ⟨rfl, rfl⟩ dX12_describe_12 (fun T2 e_T2 l_T2 H locs h => ?_)
  have hw := hw T2 e_T2
  have f_a0 := l_T2.is f_a0
  have hle := hle.tr l_T2
  refine lv_aload_n X.1 X.2.1 dX12_describe_15 rfl (lv_at hl 1 rfl) ?_
  obtain ⟨b3, e_b3, hw⟩ := hw
  have f_b3 := h.2.2.2.rf (c := 12) (k := 21) f_a0 (by decide) (by decide) e_b3 (t := 14) rfl
  refine kp_get X h f_a0 ff_12_61.l (v := .ref b3) (congrArg va_rf e_b3) dX12_describe_16 ?_
  refine lv_iload_n X.1 X.2.1 dX12_describe_19 rfl (lv_at hl 0 rfl) ?_
  refine lv_aload_n X.1 X.2.1 dX12_describe_20 rfl (lv_at hl 1 rfl) ?_
  obtain ⟨b4, e_b4, hw⟩ := hw
  have f_b4 := h.2.2.2.rf (c := 12) (k := 5) f_a0 (by decide) (by decide) e_b4 (t := 14) rfl
  refine kp_get X h f_a0 ff_12_34.l (v := .ref b4) (congrArg va_rf e_b4) dX12_describe_21 ?_
  refine lv_iload_n X.1 X.2.1 dX12_describe_24 rfl (lv_at hl 2 rfl) ?_
  obtain ⟨hi, hw⟩ := hw
  refine kp_iald X h f_b4 hi dX12_describe_25 ?_
  obtain ⟨hi, hw⟩ := hw
  refine kp_iast X h f_b3 hi dX12_describe_26 (fun T5 e_T5 l_T5 H locs h => ?_)
  have hw := hw T5 e_T5
  have f_a0 := l_T5.is f_a0
  have f_b3 := l_T5.is f_b3
  have f_b4 := l_T5.is f_b4
  have hle := hle.tr l_T5
  have e_b3 : kp_R T5 2421 a0 = some b3 := by rw [e_T5]; exact e_b3
  have e_b4 : kp_R T5 2405 a0 = some b4 := by rw [e_T5]; exact e_b4
  refine lv_aload_n X.1 X.2.1 dX12_describe_27 rfl (lv_at hl 1 rfl) ?_
  obtain ⟨b6, e_b6, hw⟩ := hw
  have f_b6 := h.2.2.2.rf (c := 12) (k := 19) f_a0 (by decide) (by decide) e_b6 (t := 14) rfl
  refine kp_get X h f_a0 ff_12_55.l (v := .ref b6) (congrArg va_rf e_b6) dX12_describe_28 ?_
  refine lv_iload_n X.1 X.2.1 dX12_describe_31 rfl (lv_at hl 0 rfl) ?_
  refine lv_iconst (v := (-1)) X.1 X.2.1 dX12_describe_32 (by decide) ?_
  obtain ⟨hi, hw⟩ := hw
  refine kp_iast X h f_b6 hi dX12_describe_33 (fun T7 e_T7 l_T7 H locs h => ?_)
  have hw := hw T7 e_T7
  have f_a0 := l_T7.is f_a0
  have f_b3 := l_T7.is f_b3
  have f_b4 := l_T7.is f_b4
  have f_b6 := l_T7.is f_b6
  have hle := hle.tr l_T7
  have e_b3 : kp_R T7 2421 a0 = some b3 := by rw [e_T7]; exact e_b3
  have e_b4 : kp_R T7 2405 a0 = some b4 := by rw [e_T7]; exact e_b4
  have e_b6 : kp_R T7 2419 a0 = some b6 := by rw [e_T7]; exact e_b6
  refine lv_aload_n X.1 X.2.1 dX12_describe_34 rfl (lv_at hl 1 rfl) ?_
  obtain ⟨b8, e_b8, hw⟩ := hw
  have f_b8 := h.2.2.2.rf (c := 12) (k := 23) f_a0 (by decide) (by decide) e_b8 (t := 14) rfl
  refine kp_get X h f_a0 ff_12_67.l (v := .ref b8) (congrArg va_rf e_b8) dX12_describe_35 ?_
  refine lv_iload_n X.1 X.2.1 dX12_describe_38 rfl (lv_at hl 0 rfl) ?_
  refine lv_iconst (v := (-1)) X.1 X.2.1 dX12_describe_39 (by decide) ?_
  obtain ⟨hi, hw⟩ := hw
  refine kp_iast X h f_b8 hi dX12_describe_40 (fun T9 e_T9 l_T9 H locs h => ?_)
  have hw := hw T9 e_T9
  have f_a0 := l_T9.is f_a0
  have f_b3 := l_T9.is f_b3
  have f_b4 := l_T9.is f_b4
  have f_b6 := l_T9.is f_b6
  have f_b8 := l_T9.is f_b8
  have hle := hle.tr l_T9
  have e_b3 : kp_R T9 2421 a0 = some b3 := by rw [e_T9]; exact e_b3
  have e_b4 : kp_R T9 2405 a0 = some b4 := by rw [e_T9]; exact e_b4
  have e_b6 : kp_R T9 2419 a0 = some b6 := by rw [e_T9]; exact e_b6
  have e_b8 : kp_R T9 2423 a0 = some b8 := by rw [e_T9]; exact e_b8
  refine lv_aload_n X.1 X.2.1 dX12_describe_41 rfl (lv_at hl 1 rfl) ?_
  obtain ⟨b10, e_b10, hw⟩ := hw
  have f_b10 := h.2.2.2.rf (c := 12) (k := 22) f_a0 (by decide) (by decide) e_b10 (t := 14) rfl
  refine kp_get X h f_a0 ff_12_64.l (v := .ref b10) (congrArg va_rf e_b10) dX12_describe_42 ?_
  refine lv_iload_n X.1 X.2.1 dX12_describe_45 rfl (lv_at hl 0 rfl) ?_
  refine lv_iconst (v := (-1)) X.1 X.2.1 dX12_describe_46 (by decide) ?_
  obtain ⟨hi, hw⟩ := hw
  refine kp_iast X h f_b10 hi dX12_describe_47 (fun T11 e_T11 l_T11 H locs h => ?_)
  have hw := hw T11 e_T11
  have f_a0 := l_T11.is f_a0
  have f_b3 := l_T11.is f_b3
  have f_b4 := l_T11.is f_b4
  have f_b6 := l_T11.is f_b6
  have f_b8 := l_T11.is f_b8
  have f_b10 := l_T11.is f_b10
  have hle := hle.tr l_T11
  have e_b3 : kp_R T11 2421 a0 = some b3 := by rw [e_T11]; exact e_b3
  have e_b4 : kp_R T11 2405 a0 = some b4 := by rw [e_T11]; exact e_b4
  have e_b6 : kp_R T11 2419 a0 = some b6 := by rw [e_T11]; exact e_b6
  have e_b8 : kp_R T11 2423 a0 = some b8 := by rw [e_T11]; exact e_b8
  have e_b10 : kp_R T11 2422 a0 = some b10 := by rw [e_T11]; exact e_b10
  refine lv_iload_n X.1 X.2.1 dX12_describe_48 rfl (lv_at hl 0 rfl) ?_
  exact kp_reti X hr hlocks h hle rfl hw dX12_describe_49
theorem dX12_isPlain_0 : decode cX12_isPlain 0 = .ok (.iload_n 1, 1) := by decide +kernel
theorem dX12_isPlain_1 : decode cX12_isPlain 1 = .ok (.istore_n 2, 1) := by decide +kernel
theorem dX12_isPlain_2 : decode cX12_isPlain 2 = .ok (.aload_n 0, 1) := by decide +kernel
theorem dX12_isPlain_3 : decode cX12_isPlain 3 = .ok (.getfield 376, 3) := by decide +kernel
theorem dX12_isPlain_6 : decode cX12_isPlain 6 = .ok (.iconst 1, 1) := by decide +kernel
theorem dX12_isPlain_7 : decode cX12_isPlain 7 = .ok (.isub, 1) := by decide +kernel
theorem dX12_isPlain_8 : decode cX12_isPlain 8 = .ok (.istore_n 3, 1) := by decide +kernel
theorem dX12_isPlain_9 : decode cX12_isPlain 9 = .ok (.iload_n 2, 1) := by decide +kernel
theorem dX12_isPlain_10 : decode cX12_isPlain 10 = .ok (.iload_n 3, 1) := by decide +kernel
theorem dX12_isPlain_11 : decode cX12_isPlain 11 = .ok (.if_icmp .ge 36, 3) := by decide +kernel
theorem dX12_isPlain_14 : decode cX12_isPlain 14 = .ok (.aload_n 0, 1) := by decide +kernel
theorem dX12_isPlain_15 : decode cX12_isPlain 15 = .ok (.getfield 31, 3) := by decide +kernel
theorem dX12_isPlain_18 : decode cX12_isPlain 18 = .ok (.iload_n 2, 1) := by decide +kernel
theorem dX12_isPlain_19 : decode cX12_isPlain 19 = .ok (.iaload, 1) := by decide +kernel
theorem dX12_isPlain_20 : decode cX12_isPlain 20 = .ok (.sipush 140, 3) := by decide +kernel
theorem dX12_isPlain_23 : decode cX12_isPlain 23 = .ok (.if_icmp .ne 24, 3) := by decide +kernel
theorem dX12_isPlain_26 : decode cX12_isPlain 26 = .ok (.aload_n 0, 1) := by decide +kernel
theorem dX12_isPlain_27 : decode cX12_isPlain 27 = .ok (.getfield 31, 3) := by decide +kernel
theorem dX12_isPlain_30 : decode cX12_isPlain 30 = .ok (.iload_n 3, 1) := by decide +kernel
theorem dX12_isPlain_31 : decode cX12_isPlain 31 = .ok (.iaload, 1) := by decide +kernel
theorem dX12_isPlain_32 : decode cX12_isPlain 32 = .ok (.sipush 141, 3) := by decide +kernel
theorem dX12_isPlain_35 : decode cX12_isPlain 35 = .ok (.if_icmp .ne 12, 3) := by decide +kernel
theorem dX12_isPlain_38 : decode cX12_isPlain 38 = .ok (.iinc 2 1, 3) := by decide +kernel
theorem dX12_isPlain_41 : decode cX12_isPlain 41 = .ok (.iinc 3 (-1), 3) := by decide +kernel
theorem dX12_isPlain_44 : decode cX12_isPlain 44 = .ok (.goto (-35), 3) := by decide +kernel
theorem dX12_isPlain_47 : decode cX12_isPlain 47 = .ok (.iload_n 2, 1) := by decide +kernel
theorem dX12_isPlain_48 : decode cX12_isPlain 48 = .ok (.iload_n 3, 1) := by decide +kernel
theorem dX12_isPlain_49 : decode cX12_isPlain 49 = .ok (.if_icmp .ne 28, 3) := by decide +kernel
theorem dX12_isPlain_52 : decode cX12_isPlain 52 = .ok (.aload_n 0, 1) := by decide +kernel
theorem dX12_isPlain_53 : decode cX12_isPlain 53 = .ok (.getfield 31, 3) := by decide +kernel
theorem dX12_isPlain_56 : decode cX12_isPlain 56 = .ok (.iload_n 2, 1) := by decide +kernel
theorem dX12_isPlain_57 : decode cX12_isPlain 57 = .ok (.iaload, 1) := by decide +kernel
theorem dX12_isPlain_58 : decode cX12_isPlain 58 = .ok (.iconst 3, 1) := by decide +kernel
theorem dX12_isPlain_59 : decode cX12_isPlain 59 = .ok (.if_icmp .ne 18, 3) := by decide +kernel
theorem dX12_isPlain_62 : decode cX12_isPlain 62 = .ok (.aload_n 0, 1) := by decide +kernel
theorem dX12_isPlain_63 : decode cX12_isPlain 63 = .ok (.getfield 37, 3) := by decide +kernel
theorem dX12_isPlain_66 : decode cX12_isPlain 66 = .ok (.iload_n 2, 1) := by decide +kernel
theorem dX12_isPlain_67 : decode cX12_isPlain 67 = .ok (.laload, 1) := by decide +kernel
theorem dX12_isPlain_68 : decode cX12_isPlain 68 = .ok (.lconst 0, 1) := by decide +kernel
theorem dX12_isPlain_69 : decode cX12_isPlain 69 = .ok (.lcmp, 1) := by decide +kernel
theorem dX12_isPlain_70 : decode cX12_isPlain 70 = .ok (.ifCond .le 7, 3) := by decide +kernel
theorem dX12_isPlain_73 : decode cX12_isPlain 73 = .ok (.iconst 1, 1) := by decide +kernel
theorem dX12_isPlain_74 : decode cX12_isPlain 74 = .ok (.goto 4, 3) := by decide +kernel
theorem dX12_isPlain_77 : decode cX12_isPlain 77 = .ok (.iconst 0, 1) := by decide +kernel
theorem dX12_isPlain_78 : decode cX12_isPlain 78 = .ok (.ireturn, 1) := by decide +kernel
def wX12_isPlain_b78 (a0 : Nat) (x1 : Int32) (xt0 : Int32)  (Sn : kp_S) (post : Int32 → kp_S → Prop) : Prop :=
  kp_b xt0 ∧ post xt0 Sn
def wX12_isPlain_b77 (a0 : Nat) (x1 : Int32)  (Sn : kp_S) (post : Int32 → kp_S → Prop) : Prop :=
  wX12_isPlain_b78 a0 x1 0  Sn post
def wX12_isPlain_b47 (a0 : Nat) (x1 : Int32) (xn2 : Int32) (xn3 : Int32)  (Sn : kp_S) (post : Int32 → kp_S → Prop) : Prop :=
  ((¬ xn2 = xn3 →
  wX12_isPlain_b77 a0 x1   Sn post) ∧ (xn2 = xn3 →
  ∃ b3001 : Nat, kp_R Sn 2404 a0 = some b3001 ∧
  vp_in xn2 (kp_N Sn b3001) ∧
  ((¬ (kp_A Sn b3001 xn2.toNatClampNeg) = 3 →
  wX12_isPlain_b77 a0 x1   Sn post) ∧ ((kp_A Sn b3001 xn2.toNatClampNeg) = 3 →
  ∃ b3002 : Nat, kp_R Sn 2406 a0 = some b3002 ∧
  vp_in xn2 (kp_N Sn b3002) ∧
  (((lg_cmp (kp_B Sn b3002 xn2.toNatClampNeg) 0) ≤ 0 →
  wX12_isPlain_b77 a0 x1   Sn post) ∧ (¬ (lg_cmp (kp_B Sn b3002 xn2.toNatClampNeg) 0) ≤ 0 →
  wX12_isPlain_b78 a0 x1 1  Sn post))))))
def wX12_isPlain_L9 (a0 : Nat) (x1 : Int32)  (post : Int32 → kp_S → Prop) : Nat → Int32 → Int32 → kp_S → Prop
  | 0, _, _, _ => False
  | n + 1, xn2, xn3, Sn =>
  ((xn3 ≤ xn2 →
  wX12_isPlain_b47 a0 x1 xn2 xn3  Sn post) ∧ (¬ xn3 ≤ xn2 →
  ∃ b4001 : Nat, kp_R Sn 2404 a0 = some b4001 ∧
  vp_in xn2 (kp_N Sn b4001) ∧
  ((¬ (kp_A Sn b4001 xn2.toNatClampNeg) = 140 →
  wX12_isPlain_b47 a0 x1 xn2 xn3  Sn post) ∧ ((kp_A Sn b4001 xn2.toNatClampNeg) = 140 →
  vp_in xn3 (kp_N Sn b4001) ∧
  ((¬ (kp_A Sn b4001 xn3.toNatClampNeg) = 141 →
  wX12_isPlain_b47 a0 x1 xn2 xn3  Sn post) ∧ ((kp_A Sn b4001 xn3.toNatClampNeg) = 141 →
  ∀ y4002 : Int32, y4002 = xn2 + 1 →
  ∀ y4003 : Int32, y4003 = xn3 + (-1) →
  wX12_isPlain_L9 a0 x1  post n y4002 y4003 Sn))))))
def wX12_isPlain (a0 : Nat) (x1 : Int32) (S : kp_S) (post : Int32 → kp_S → Prop) : Prop :=
  ∀ y1 : Int32, y1 = ((kp_I S 2410 a0) - 1) →
  ∃ n0 : Nat, wX12_isPlain_L9 a0 x1  post n0 x1 y1 S
set_option maxHeartbeats 4000000 in
set_option maxRecDepth 100000 in
theorem c_X12_isPlain (l : Launch) (D : va_G) (cy : Nat → ClassId) (ad : (Nat → Nat) × (Nat → Nat)) (S : kp_S) (a0 : Nat) (x1 : Int32) (post : Int32 → kp_S → Prop) (hS : kp_ok S) (f_a0 : kp_is S a0 12) (hw : wX12_isPlain a0 x1 S post) : kp_M l yX12_isPlain cX12_isPlain 4 (some .boolean) { frames := 0, cells := 0, slots := 0, locals := 0 } D cy ad S [.ref a0, .int x1] 0 0 (fun A => kp_Qi D cy A S post) := by
  refine kp_start (own := RX12) (by decide) rfl (Nat.le_of_ble_eq_true rfl) hS ?_
  intro p e s m below meth c A ls X hr hlocks hname h hl
  have hle : kp_le S S := kp_le.rf
  have hl : lv_has ls 4 [(0, .ref a0), (1, .int x1)] := hl
  have j78 : ∀ (xt0 : Int32) (Sn : kp_S) (H : Heap) (locs : List Loc) (ls : Array Slot), lv_has ls 4 [] → kp_H D cy A Sn s.heap H locs → kp_le S Sn → kp_is Sn a0 12 → wX12_isPlain_b78 a0 x1 xt0  Sn post → W p l e { frames := 0, cells := 0, slots := 0, locals := 0 } s m ([.ref a0, .int x1] : List Value).toArray below meth c H locs 0 0 (MQ below (kp_Qi D cy A S post) ([.ref a0, .int x1] : List Value).toArray s 0 0 A) (F0 m 78 ls [.int xt0]) := by
    intro xt0 Sn H locs ls hl h hle f_a0 hw
    unfold wX12_isPlain_b78 at hw
    exact kp_reti X hr hlocks h hle (kp_bz hw.1).1 hw.2 dX12_isPlain_78
  have j77 : ∀  (Sn : kp_S) (H : Heap) (locs : List Loc) (ls : Array Slot), lv_has ls 4 [] → kp_H D cy A Sn s.heap H locs → kp_le S Sn → kp_is Sn a0 12 → wX12_isPlain_b77 a0 x1   Sn post → W p l e { frames := 0, cells := 0, slots := 0, locals := 0 } s m ([.ref a0, .int x1] : List Value).toArray below meth c H locs 0 0 (MQ below (kp_Qi D cy A S post) ([.ref a0, .int x1] : List Value).toArray s 0 0 A) (F0 m 77 ls []) := by
    intro  Sn H locs ls hl h hle f_a0 hw
    unfold wX12_isPlain_b77 at hw
    refine lv_iconst (v := 0) X.1 X.2.1 dX12_isPlain_77 (by decide) ?_
    exact j78 0 Sn H locs ls (lv_sub hl [] rfl) h hle f_a0 hw
  have j47 : ∀ (xn2 : Int32) (xn3 : Int32) (Sn : kp_S) (H : Heap) (locs : List Loc) (ls : Array Slot), lv_has ls 4 [(0, .ref a0), (2, .int xn2), (3, .int xn3)] → kp_H D cy A Sn s.heap H locs → kp_le S Sn → kp_is Sn a0 12 → wX12_isPlain_b47 a0 x1 xn2 xn3  Sn post → W p l e { frames := 0, cells := 0, slots := 0, locals := 0 } s m ([.ref a0, .int x1] : List Value).toArray below meth c H locs 0 0 (MQ below (kp_Qi D cy A S post) ([.ref a0, .int x1] : List Value).toArray s 0 0 A) (F0 m 47 ls []) := by
    intro xn2 xn3 Sn H locs ls hl h hle f_a0 hw
    unfold wX12_isPlain_b47 at hw
    refine lv_iload_n X.1 X.2.1 dX12_isPlain_47 rfl (lv_at hl 1 rfl) ?_
    refine lv_iload_n X.1 X.2.1 dX12_isPlain_48 rfl (lv_at hl 2 rfl) ?_
    refine lv_icmp_ne (tgt := 77) X.1 X.2.1 dX12_isPlain_49 (by decide) (fun c3005 => ?_) (fun c3005 => ?_)
    · have hw := hw.1 c3005
      exact j77  Sn H locs ls (lv_sub hl [] rfl) h hle f_a0 hw
    · have hw := hw.2 c3005
      refine lv_aload_n X.1 X.2.1 dX12_isPlain_52 rfl (lv_at hl 0 rfl) ?_
      obtain ⟨b3001, e_b3001, hw⟩ := hw
      have f_b3001 := h.2.2.2.rf (c := 12) (k := 4) f_a0 (by decide) (by decide) e_b3001 (t := 14) rfl
      refine kp_get X h f_a0 ff_12_31.l (v := .ref b3001) (congrArg va_rf e_b3001) dX12_isPlain_53 ?_
      refine lv_iload_n X.1 X.2.1 dX12_isPlain_56 rfl (lv_at hl 1 rfl) ?_
      obtain ⟨hi, hw⟩ := hw
      refine kp_iald X h f_b3001 hi dX12_isPlain_57 ?_
      refine lv_iconst (v := 3) X.1 X.2.1 dX12_isPlain_58 (by decide) ?_
      refine lv_icmp_ne (tgt := 77) X.1 X.2.1 dX12_isPlain_59 (by decide) (fun c3004 => ?_) (fun c3004 => ?_)
      · have hw := hw.1 c3004
        exact j77  Sn H locs ls (lv_sub hl [] rfl) h hle f_a0 hw
      · have hw := hw.2 c3004
        refine lv_aload_n X.1 X.2.1 dX12_isPlain_62 rfl (lv_at hl 0 rfl) ?_
        obtain ⟨b3002, e_b3002, hw⟩ := hw
        have f_b3002 := h.2.2.2.rf (c := 12) (k := 6) f_a0 (by decide) (by decide) e_b3002 (t := 15) rfl
        refine kp_get X h f_a0 ff_12_37.l (v := .ref b3002) (congrArg va_rf e_b3002) dX12_isPlain_63 ?_
        refine lv_iload_n X.1 X.2.1 dX12_isPlain_66 rfl (lv_at hl 1 rfl) ?_
        obtain ⟨hi, hw⟩ := hw
        refine kp_lald X h f_b3002 hi dX12_isPlain_67 ?_
        refine lv_lconst (v := 0) X.1 X.2.1 dX12_isPlain_68 (by decide) ?_
        refine W.lcmp X.1 X.2.1 dX12_isPlain_69 ?_
        refine lv_if_le (tgt := 77) X.1 X.2.1 dX12_isPlain_70 (by decide) (fun c3003 => ?_) (fun c3003 => ?_)
        · have hw := hw.1 c3003
          exact j77  Sn H locs ls (lv_sub hl [] rfl) h hle f_a0 hw
        · have hw := hw.2 c3003
          refine lv_iconst (v := 1) X.1 X.2.1 dX12_isPlain_73 (by decide) ?_
          refine lv_goto (tgt := 78) X.1 X.2.1 dX12_isPlain_74 (by decide) ?_
          exact j78 1 Sn H locs ls (lv_sub hl [] rfl) h hle f_a0 hw
  have L9 : ∀ n9 : Nat, ∀ (xn2 : Int32) (xn3 : Int32) (Sn : kp_S) (H : Heap) (locs : List Loc) (ls : Array Slot), lv_has ls 4 [(0, .ref a0), (2, .int xn2), (3, .int xn3)] → kp_H D cy A Sn s.heap H locs → kp_le S Sn → kp_is Sn a0 12 → wX12_isPlain_L9 a0 x1  post n9 xn2 xn3 Sn → W p l e { frames := 0, cells := 0, slots := 0, locals := 0 } s m ([.ref a0, .int x1] : List Value).toArray below meth c H locs 0 0 (MQ below (kp_Qi D cy A S post) ([.ref a0, .int x1] : List Value).toArray s 0 0 A) (F0 m 9 ls []) := by
    intro n9
    induction n9 with
    | zero => intro xn2 xn3 Sn H locs ls hl h hle f_a0 hw; exact hw.elim
    | succ n9 ih9 =>
      intro xn2 xn3 Sn H locs ls hl h hle f_a0 hw
      unfold wX12_isPlain_L9 at hw
      refine lv_iload_n X.1 X.2.1 dX12_isPlain_9 rfl (lv_at hl 1 rfl) ?_
      refine lv_iload_n X.1 X.2.1 dX12_isPlain_10 rfl (lv_at hl 2 rfl) ?_
      refine lv_icmp_ge (tgt := 47) X.1 X.2.1 dX12_isPlain_11 (by decide) (fun c4006 => ?_) (fun c4006 => ?_)
      · have hw := hw.1 c4006
        exact j47 xn2 xn3 Sn H locs ls (lv_sub hl [0, 1, 2] rfl) h hle f_a0 hw
      · have hw := hw.2 c4006
        refine lv_aload_n X.1 X.2.1 dX12_isPlain_14 rfl (lv_at hl 0 rfl) ?_
        obtain ⟨b4001, e_b4001, hw⟩ := hw
        have f_b4001 := h.2.2.2.rf (c := 12) (k := 4) f_a0 (by decide) (by decide) e_b4001 (t := 14) rfl
        refine kp_get X h f_a0 ff_12_31.l (v := .ref b4001) (congrArg va_rf e_b4001) dX12_isPlain_15 ?_
        refine lv_iload_n X.1 X.2.1 dX12_isPlain_18 rfl (lv_at hl 1 rfl) ?_
        obtain ⟨hi, hw⟩ := hw
        refine kp_iald X h f_b4001 hi dX12_isPlain_19 ?_
        refine lv_sipush (v := 140) X.1 X.2.1 dX12_isPlain_20 (by decide) ?_
        refine lv_icmp_ne (tgt := 47) X.1 X.2.1 dX12_isPlain_23 (by decide) (fun c4005 => ?_) (fun c4005 => ?_)
        · have hw := hw.1 c4005
          exact j47 xn2 xn3 Sn H locs ls (lv_sub hl [0, 1, 2] rfl) h hle f_a0 hw
        · have hw := hw.2 c4005
          refine lv_aload_n X.1 X.2.1 dX12_isPlain_26 rfl (lv_at hl 0 rfl) ?_
          refine kp_get X h f_a0 ff_12_31.l (v := .ref b4001) (congrArg va_rf e_b4001) dX12_isPlain_27 ?_
          refine lv_iload_n X.1 X.2.1 dX12_isPlain_30 rfl (lv_at hl 2 rfl) ?_
          obtain ⟨hi, hw⟩ := hw
          refine kp_iald X h f_b4001 hi dX12_isPlain_31 ?_
          refine lv_sipush (v := 141) X.1 X.2.1 dX12_isPlain_32 (by decide) ?_
          refine lv_icmp_ne (tgt := 47) X.1 X.2.1 dX12_isPlain_35 (by decide) (fun c4004 => ?_) (fun c4004 => ?_)
          · have hw := hw.1 c4004
            exact j47 xn2 xn3 Sn H locs ls (lv_sub hl [0, 1, 2] rfl) h hle f_a0 hw
          · have hw := hw.2 c4004
            obtain ⟨y4002, e_y4002⟩ : ∃ y : Int32, y = xn2 + 1 := ⟨_, rfl⟩
            have hw := hw y4002 e_y4002
            refine lv_iinc (v := y4002) (lv' := [(2, .int y4002), (0, .ref a0), (3, .int xn3)]) X.1 X.2.1 dX12_isPlain_38 hl (k := 1) rfl (by rw [e_y4002]; rfl) (by decide) rfl (fun ls hl => ?_)
            obtain ⟨y4003, e_y4003⟩ : ∃ y : Int32, y = xn3 + (-1) := ⟨_, rfl⟩
            have hw := hw y4003 e_y4003
            refine lv_iinc (v := y4003) (lv' := [(3, .int y4003), (2, .int y4002), (0, .ref a0)]) X.1 X.2.1 dX12_isPlain_41 hl (k := 2) rfl (by rw [e_y4003]; rfl) (by decide) rfl (fun ls hl => ?_)
            refine lv_goto (tgt := 9) X.1 X.2.1 dX12_isPlain_44 (by decide) ?_
            exact ih9 y4002 y4003 Sn H locs ls (lv_sub hl [2, 1, 0] rfl) h hle f_a0 hw
  unfold wX12_isPlain at hw
  have h : kp_H D cy A S s.heap s.heap [] := h
  revert h
  intro h
  refine lv_iload_n X.1 X.2.1 dX12_isPlain_0 rfl (lv_at hl 1 rfl) ?_
  refine lv_istore_n (lv' := [(2, .int x1), (0, .ref a0), (1, .int x1)]) X.1 X.2.1 dX12_isPlain_1 rfl hl (by decide) rfl (fun ls hl => ?_)
  refine lv_aload_n X.1 X.2.1 dX12_isPlain_2 rfl (lv_at hl 1 rfl) ?_
  refine kp_get X h f_a0 fp_12_376.l (v := .int (kp_I S 2410 a0)) rfl dX12_isPlain_3 ?_
  refine lv_iconst (v := 1) X.1 X.2.1 dX12_isPlain_6 (by decide) ?_
  refine lv_isub X.1 X.2.1 dX12_isPlain_7 ?_
  refine lv_topi (fun y1 e_y1 => ?_)
  have hw := hw y1 e_y1
  refine lv_istore_n (lv' := [(3, .int y1), (2, .int x1), (0, .ref a0), (1, .int x1)]) X.1 X.2.1 dX12_isPlain_8 rfl hl (by decide) rfl (fun ls hl => ?_)
  obtain ⟨n0, hw⟩ := hw
  exact L9 n0 x1 y1 S _ _ ls (lv_sub hl [2, 1, 0] rfl) h hle f_a0 hw
theorem dX12_keep_0 : decode cX12_keep 0 = .ok (.aload_n 0, 1) := by decide +kernel
theorem dX12_keep_1 : decode cX12_keep 1 = .ok (.iconst 1, 1) := by decide +kernel
theorem dX12_keep_2 : decode cX12_keep 2 = .ok (.putfield 583, 3) := by decide +kernel
theorem dX12_keep_5 : decode cX12_keep 5 = .ok (.iconst 0, 1) := by decide +kernel
theorem dX12_keep_6 : decode cX12_keep 6 = .ok (.istore_n 1, 1) := by decide +kernel
theorem dX12_keep_7 : decode cX12_keep 7 = .ok (.iload_n 1, 1) := by decide +kernel
theorem dX12_keep_8 : decode cX12_keep 8 = .ok (.aload_n 0, 1) := by decide +kernel
theorem dX12_keep_9 : decode cX12_keep 9 = .ok (.getfield 370, 3) := by decide +kernel
theorem dX12_keep_12 : decode cX12_keep 12 = .ok (.if_icmp .ge 45, 3) := by decide +kernel
theorem dX12_keep_15 : decode cX12_keep 15 = .ok (.aload_n 0, 1) := by decide +kernel
theorem dX12_keep_16 : decode cX12_keep 16 = .ok (.getfield 112, 3) := by decide +kernel
theorem dX12_keep_19 : decode cX12_keep 19 = .ok (.iload_n 1, 1) := by decide +kernel
theorem dX12_keep_20 : decode cX12_keep 20 = .ok (.aload_n 0, 1) := by decide +kernel
theorem dX12_keep_21 : decode cX12_keep 21 = .ok (.getfield 43, 3) := by decide +kernel
theorem dX12_keep_24 : decode cX12_keep 24 = .ok (.iload_n 1, 1) := by decide +kernel
theorem dX12_keep_25 : decode cX12_keep 25 = .ok (.iaload, 1) := by decide +kernel
theorem dX12_keep_26 : decode cX12_keep 26 = .ok (.iastore, 1) := by decide +kernel
theorem dX12_keep_27 : decode cX12_keep 27 = .ok (.aload_n 0, 1) := by decide +kernel
theorem dX12_keep_28 : decode cX12_keep 28 = .ok (.getfield 115, 3) := by decide +kernel
theorem dX12_keep_31 : decode cX12_keep 31 = .ok (.iload_n 1, 1) := by decide +kernel
theorem dX12_keep_32 : decode cX12_keep 32 = .ok (.aload_n 0, 1) := by decide +kernel
theorem dX12_keep_33 : decode cX12_keep 33 = .ok (.getfield 46, 3) := by decide +kernel
theorem dX12_keep_36 : decode cX12_keep 36 = .ok (.iload_n 1, 1) := by decide +kernel
theorem dX12_keep_37 : decode cX12_keep 37 = .ok (.iaload, 1) := by decide +kernel
theorem dX12_keep_38 : decode cX12_keep 38 = .ok (.iastore, 1) := by decide +kernel
theorem dX12_keep_39 : decode cX12_keep 39 = .ok (.aload_n 0, 1) := by decide +kernel
theorem dX12_keep_40 : decode cX12_keep 40 = .ok (.getfield 118, 3) := by decide +kernel
theorem dX12_keep_43 : decode cX12_keep 43 = .ok (.iload_n 1, 1) := by decide +kernel
theorem dX12_keep_44 : decode cX12_keep 44 = .ok (.aload_n 0, 1) := by decide +kernel
theorem dX12_keep_45 : decode cX12_keep 45 = .ok (.getfield 49, 3) := by decide +kernel
theorem dX12_keep_48 : decode cX12_keep 48 = .ok (.iload_n 1, 1) := by decide +kernel
theorem dX12_keep_49 : decode cX12_keep 49 = .ok (.iaload, 1) := by decide +kernel
theorem dX12_keep_50 : decode cX12_keep 50 = .ok (.iastore, 1) := by decide +kernel
theorem dX12_keep_51 : decode cX12_keep 51 = .ok (.iinc 1 1, 3) := by decide +kernel
theorem dX12_keep_54 : decode cX12_keep 54 = .ok (.goto (-47), 3) := by decide +kernel
theorem dX12_keep_57 : decode cX12_keep 57 = .ok (.iconst 0, 1) := by decide +kernel
theorem dX12_keep_58 : decode cX12_keep 58 = .ok (.istore_n 1, 1) := by decide +kernel
theorem dX12_keep_59 : decode cX12_keep 59 = .ok (.iload_n 1, 1) := by decide +kernel
theorem dX12_keep_60 : decode cX12_keep 60 = .ok (.aload_n 0, 1) := by decide +kernel
theorem dX12_keep_61 : decode cX12_keep 61 = .ok (.getfield 535, 3) := by decide +kernel
theorem dX12_keep_64 : decode cX12_keep 64 = .ok (.if_icmp .ge 81, 3) := by decide +kernel
theorem dX12_keep_67 : decode cX12_keep 67 = .ok (.aload_n 0, 1) := by decide +kernel
theorem dX12_keep_68 : decode cX12_keep 68 = .ok (.getfield 121, 3) := by decide +kernel
theorem dX12_keep_71 : decode cX12_keep 71 = .ok (.iload_n 1, 1) := by decide +kernel
theorem dX12_keep_72 : decode cX12_keep 72 = .ok (.aload_n 0, 1) := by decide +kernel
theorem dX12_keep_73 : decode cX12_keep 73 = .ok (.getfield 52, 3) := by decide +kernel
theorem dX12_keep_76 : decode cX12_keep 76 = .ok (.iload_n 1, 1) := by decide +kernel
theorem dX12_keep_77 : decode cX12_keep 77 = .ok (.iaload, 1) := by decide +kernel
theorem dX12_keep_78 : decode cX12_keep 78 = .ok (.iastore, 1) := by decide +kernel
theorem dX12_keep_79 : decode cX12_keep 79 = .ok (.aload_n 0, 1) := by decide +kernel
theorem dX12_keep_80 : decode cX12_keep 80 = .ok (.getfield 124, 3) := by decide +kernel
theorem dX12_keep_83 : decode cX12_keep 83 = .ok (.iload_n 1, 1) := by decide +kernel
theorem dX12_keep_84 : decode cX12_keep 84 = .ok (.aload_n 0, 1) := by decide +kernel
theorem dX12_keep_85 : decode cX12_keep 85 = .ok (.getfield 55, 3) := by decide +kernel
theorem dX12_keep_88 : decode cX12_keep 88 = .ok (.iload_n 1, 1) := by decide +kernel
theorem dX12_keep_89 : decode cX12_keep 89 = .ok (.iaload, 1) := by decide +kernel
theorem dX12_keep_90 : decode cX12_keep 90 = .ok (.iastore, 1) := by decide +kernel
theorem dX12_keep_91 : decode cX12_keep 91 = .ok (.aload_n 0, 1) := by decide +kernel
theorem dX12_keep_92 : decode cX12_keep 92 = .ok (.getfield 127, 3) := by decide +kernel
theorem dX12_keep_95 : decode cX12_keep 95 = .ok (.iload_n 1, 1) := by decide +kernel
theorem dX12_keep_96 : decode cX12_keep 96 = .ok (.aload_n 0, 1) := by decide +kernel
theorem dX12_keep_97 : decode cX12_keep 97 = .ok (.getfield 58, 3) := by decide +kernel
theorem dX12_keep_100 : decode cX12_keep 100 = .ok (.iload_n 1, 1) := by decide +kernel
theorem dX12_keep_101 : decode cX12_keep 101 = .ok (.iaload, 1) := by decide +kernel
theorem dX12_keep_102 : decode cX12_keep 102 = .ok (.iastore, 1) := by decide +kernel
theorem dX12_keep_103 : decode cX12_keep 103 = .ok (.aload_n 0, 1) := by decide +kernel
theorem dX12_keep_104 : decode cX12_keep 104 = .ok (.getfield 130, 3) := by decide +kernel
theorem dX12_keep_107 : decode cX12_keep 107 = .ok (.iload_n 1, 1) := by decide +kernel
theorem dX12_keep_108 : decode cX12_keep 108 = .ok (.aload_n 0, 1) := by decide +kernel
theorem dX12_keep_109 : decode cX12_keep 109 = .ok (.getfield 61, 3) := by decide +kernel
theorem dX12_keep_112 : decode cX12_keep 112 = .ok (.iload_n 1, 1) := by decide +kernel
theorem dX12_keep_113 : decode cX12_keep 113 = .ok (.iaload, 1) := by decide +kernel
theorem dX12_keep_114 : decode cX12_keep 114 = .ok (.iastore, 1) := by decide +kernel
theorem dX12_keep_115 : decode cX12_keep 115 = .ok (.aload_n 0, 1) := by decide +kernel
theorem dX12_keep_116 : decode cX12_keep 116 = .ok (.getfield 133, 3) := by decide +kernel
theorem dX12_keep_119 : decode cX12_keep 119 = .ok (.iload_n 1, 1) := by decide +kernel
theorem dX12_keep_120 : decode cX12_keep 120 = .ok (.aload_n 0, 1) := by decide +kernel
theorem dX12_keep_121 : decode cX12_keep 121 = .ok (.getfield 64, 3) := by decide +kernel
theorem dX12_keep_124 : decode cX12_keep 124 = .ok (.iload_n 1, 1) := by decide +kernel
theorem dX12_keep_125 : decode cX12_keep 125 = .ok (.iaload, 1) := by decide +kernel
theorem dX12_keep_126 : decode cX12_keep 126 = .ok (.iastore, 1) := by decide +kernel
theorem dX12_keep_127 : decode cX12_keep 127 = .ok (.aload_n 0, 1) := by decide +kernel
theorem dX12_keep_128 : decode cX12_keep 128 = .ok (.getfield 136, 3) := by decide +kernel
theorem dX12_keep_131 : decode cX12_keep 131 = .ok (.iload_n 1, 1) := by decide +kernel
theorem dX12_keep_132 : decode cX12_keep 132 = .ok (.aload_n 0, 1) := by decide +kernel
theorem dX12_keep_133 : decode cX12_keep 133 = .ok (.getfield 67, 3) := by decide +kernel
theorem dX12_keep_136 : decode cX12_keep 136 = .ok (.iload_n 1, 1) := by decide +kernel
theorem dX12_keep_137 : decode cX12_keep 137 = .ok (.iaload, 1) := by decide +kernel
theorem dX12_keep_138 : decode cX12_keep 138 = .ok (.iastore, 1) := by decide +kernel
theorem dX12_keep_139 : decode cX12_keep 139 = .ok (.iinc 1 1, 3) := by decide +kernel
theorem dX12_keep_142 : decode cX12_keep 142 = .ok (.goto (-83), 3) := by decide +kernel
theorem dX12_keep_145 : decode cX12_keep 145 = .ok (.aload_n 0, 1) := by decide +kernel
theorem dX12_keep_146 : decode cX12_keep 146 = .ok (.aload_n 0, 1) := by decide +kernel
theorem dX12_keep_147 : decode cX12_keep 147 = .ok (.getfield 403, 3) := by decide +kernel
theorem dX12_keep_150 : decode cX12_keep 150 = .ok (.putfield 586, 3) := by decide +kernel
theorem dX12_keep_153 : decode cX12_keep 153 = .ok (.iconst 0, 1) := by decide +kernel
theorem dX12_keep_154 : decode cX12_keep 154 = .ok (.istore_n 1, 1) := by decide +kernel
theorem dX12_keep_155 : decode cX12_keep 155 = .ok (.iload_n 1, 1) := by decide +kernel
theorem dX12_keep_156 : decode cX12_keep 156 = .ok (.aload_n 0, 1) := by decide +kernel
theorem dX12_keep_157 : decode cX12_keep 157 = .ok (.getfield 586, 3) := by decide +kernel
theorem dX12_keep_160 : decode cX12_keep 160 = .ok (.if_icmp .ge 69, 3) := by decide +kernel
theorem dX12_keep_163 : decode cX12_keep 163 = .ok (.aload_n 0, 1) := by decide +kernel
theorem dX12_keep_164 : decode cX12_keep 164 = .ok (.getfield 139, 3) := by decide +kernel
theorem dX12_keep_167 : decode cX12_keep 167 = .ok (.iload_n 1, 1) := by decide +kernel
theorem dX12_keep_168 : decode cX12_keep 168 = .ok (.aload_n 0, 1) := by decide +kernel
theorem dX12_keep_169 : decode cX12_keep 169 = .ok (.getfield 79, 3) := by decide +kernel
theorem dX12_keep_172 : decode cX12_keep 172 = .ok (.iload_n 1, 1) := by decide +kernel
theorem dX12_keep_173 : decode cX12_keep 173 = .ok (.iaload, 1) := by decide +kernel
theorem dX12_keep_174 : decode cX12_keep 174 = .ok (.iastore, 1) := by decide +kernel
theorem dX12_keep_175 : decode cX12_keep 175 = .ok (.aload_n 0, 1) := by decide +kernel
theorem dX12_keep_176 : decode cX12_keep 176 = .ok (.getfield 142, 3) := by decide +kernel
theorem dX12_keep_179 : decode cX12_keep 179 = .ok (.iload_n 1, 1) := by decide +kernel
theorem dX12_keep_180 : decode cX12_keep 180 = .ok (.aload_n 0, 1) := by decide +kernel
theorem dX12_keep_181 : decode cX12_keep 181 = .ok (.getfield 73, 3) := by decide +kernel
theorem dX12_keep_184 : decode cX12_keep 184 = .ok (.iload_n 1, 1) := by decide +kernel
theorem dX12_keep_185 : decode cX12_keep 185 = .ok (.iaload, 1) := by decide +kernel
theorem dX12_keep_186 : decode cX12_keep 186 = .ok (.iastore, 1) := by decide +kernel
theorem dX12_keep_187 : decode cX12_keep 187 = .ok (.aload_n 0, 1) := by decide +kernel
theorem dX12_keep_188 : decode cX12_keep 188 = .ok (.getfield 145, 3) := by decide +kernel
theorem dX12_keep_191 : decode cX12_keep 191 = .ok (.iload_n 1, 1) := by decide +kernel
theorem dX12_keep_192 : decode cX12_keep 192 = .ok (.aload_n 0, 1) := by decide +kernel
theorem dX12_keep_193 : decode cX12_keep 193 = .ok (.getfield 76, 3) := by decide +kernel
theorem dX12_keep_196 : decode cX12_keep 196 = .ok (.iload_n 1, 1) := by decide +kernel
theorem dX12_keep_197 : decode cX12_keep 197 = .ok (.iaload, 1) := by decide +kernel
theorem dX12_keep_198 : decode cX12_keep 198 = .ok (.iastore, 1) := by decide +kernel
theorem dX12_keep_199 : decode cX12_keep 199 = .ok (.aload_n 0, 1) := by decide +kernel
theorem dX12_keep_200 : decode cX12_keep 200 = .ok (.getfield 148, 3) := by decide +kernel
theorem dX12_keep_203 : decode cX12_keep 203 = .ok (.iload_n 1, 1) := by decide +kernel
theorem dX12_keep_204 : decode cX12_keep 204 = .ok (.aload_n 0, 1) := by decide +kernel
theorem dX12_keep_205 : decode cX12_keep 205 = .ok (.getfield 82, 3) := by decide +kernel
theorem dX12_keep_208 : decode cX12_keep 208 = .ok (.iload_n 1, 1) := by decide +kernel
theorem dX12_keep_209 : decode cX12_keep 209 = .ok (.iaload, 1) := by decide +kernel
theorem dX12_keep_210 : decode cX12_keep 210 = .ok (.iastore, 1) := by decide +kernel
theorem dX12_keep_211 : decode cX12_keep 211 = .ok (.aload_n 0, 1) := by decide +kernel
theorem dX12_keep_212 : decode cX12_keep 212 = .ok (.getfield 151, 3) := by decide +kernel
theorem dX12_keep_215 : decode cX12_keep 215 = .ok (.iload_n 1, 1) := by decide +kernel
theorem dX12_keep_216 : decode cX12_keep 216 = .ok (.aload_n 0, 1) := by decide +kernel
theorem dX12_keep_217 : decode cX12_keep 217 = .ok (.getfield 85, 3) := by decide +kernel
theorem dX12_keep_220 : decode cX12_keep 220 = .ok (.iload_n 1, 1) := by decide +kernel
theorem dX12_keep_221 : decode cX12_keep 221 = .ok (.iaload, 1) := by decide +kernel
theorem dX12_keep_222 : decode cX12_keep 222 = .ok (.iastore, 1) := by decide +kernel
theorem dX12_keep_223 : decode cX12_keep 223 = .ok (.iinc 1 1, 3) := by decide +kernel
theorem dX12_keep_226 : decode cX12_keep 226 = .ok (.goto (-71), 3) := by decide +kernel
theorem dX12_keep_229 : decode cX12_keep 229 = .ok (.return_, 1) := by decide +kernel
def wX12_keep_L155 (a0 : Nat)  (post : kp_S → Prop) : Nat → Int32 → kp_S → Prop
  | 0, _, _ => False
  | n + 1, xn1, Sn =>
  (((kp_I Sn 2462 a0) ≤ xn1 →
  post Sn) ∧ (¬ (kp_I Sn 2462 a0) ≤ xn1 →
  ∃ b1001 : Nat, kp_R Sn 2457 a0 = some b1001 ∧
  ∃ b1002 : Nat, kp_R Sn 2430 a0 = some b1002 ∧
  vp_in xn1 (kp_N Sn b1002) ∧
  vp_in xn1 (kp_N Sn b1001) ∧ ∀ T1003 : kp_S, T1003 = kp_sA Sn b1001 (upd (kp_A Sn b1001) (xn1.toNatClampNeg) (kp_A Sn b1002 xn1.toNatClampNeg)) →
  ∃ b1004 : Nat, kp_R T1003 2458 a0 = some b1004 ∧
  ∃ b1005 : Nat, kp_R T1003 2428 a0 = some b1005 ∧
  vp_in xn1 (kp_N T1003 b1005) ∧
  vp_in xn1 (kp_N T1003 b1004) ∧ ∀ T1006 : kp_S, T1006 = kp_sA T1003 b1004 (upd (kp_A T1003 b1004) (xn1.toNatClampNeg) (kp_A T1003 b1005 xn1.toNatClampNeg)) →
  ∃ b1007 : Nat, kp_R T1006 2459 a0 = some b1007 ∧
  ∃ b1008 : Nat, kp_R T1006 2429 a0 = some b1008 ∧
  vp_in xn1 (kp_N T1006 b1008) ∧
  vp_in xn1 (kp_N T1006 b1007) ∧ ∀ T1009 : kp_S, T1009 = kp_sA T1006 b1007 (upd (kp_A T1006 b1007) (xn1.toNatClampNeg) (kp_A T1006 b1008 xn1.toNatClampNeg)) →
  ∃ b1010 : Nat, kp_R T1009 2460 a0 = some b1010 ∧
  ∃ b1011 : Nat, kp_R T1009 2431 a0 = some b1011 ∧
  vp_in xn1 (kp_N T1009 b1011) ∧
  vp_in xn1 (kp_N T1009 b1010) ∧ ∀ T1012 : kp_S, T1012 = kp_sA T1009 b1010 (upd (kp_A T1009 b1010) (xn1.toNatClampNeg) (kp_A T1009 b1011 xn1.toNatClampNeg)) →
  ∃ b1013 : Nat, kp_R T1012 2461 a0 = some b1013 ∧
  ∃ b1014 : Nat, kp_R T1012 2432 a0 = some b1014 ∧
  vp_in xn1 (kp_N T1012 b1014) ∧
  vp_in xn1 (kp_N T1012 b1013) ∧ ∀ T1015 : kp_S, T1015 = kp_sA T1012 b1013 (upd (kp_A T1012 b1013) (xn1.toNatClampNeg) (kp_A T1012 b1014 xn1.toNatClampNeg)) →
  ∀ y1016 : Int32, y1016 = xn1 + 1 →
  wX12_keep_L155 a0  post n y1016 T1015))
def wX12_keep_L59 (a0 : Nat)  (post : kp_S → Prop) : Nat → Int32 → kp_S → Prop
  | 0, _, _ => False
  | n + 1, xn1, Sn =>
  (((kp_I Sn 2424 a0) ≤ xn1 →
  ∀ T2001 : kp_S, T2001 = kp_sI Sn 2462 a0 (kp_I Sn 2433 a0) →
  ∃ n0 : Nat, wX12_keep_L155 a0  post n0 0 T2001) ∧ (¬ (kp_I Sn 2424 a0) ≤ xn1 →
  ∃ b2002 : Nat, kp_R Sn 2451 a0 = some b2002 ∧
  ∃ b2003 : Nat, kp_R Sn 2418 a0 = some b2003 ∧
  vp_in xn1 (kp_N Sn b2003) ∧
  vp_in xn1 (kp_N Sn b2002) ∧ ∀ T2004 : kp_S, T2004 = kp_sA Sn b2002 (upd (kp_A Sn b2002) (xn1.toNatClampNeg) (kp_A Sn b2003 xn1.toNatClampNeg)) →
  ∃ b2005 : Nat, kp_R T2004 2452 a0 = some b2005 ∧
  ∃ b2006 : Nat, kp_R T2004 2419 a0 = some b2006 ∧
  vp_in xn1 (kp_N T2004 b2006) ∧
  vp_in xn1 (kp_N T2004 b2005) ∧ ∀ T2007 : kp_S, T2007 = kp_sA T2004 b2005 (upd (kp_A T2004 b2005) (xn1.toNatClampNeg) (kp_A T2004 b2006 xn1.toNatClampNeg)) →
  ∃ b2008 : Nat, kp_R T2007 2453 a0 = some b2008 ∧
  ∃ b2009 : Nat, kp_R T2007 2420 a0 = some b2009 ∧
  vp_in xn1 (kp_N T2007 b2009) ∧
  vp_in xn1 (kp_N T2007 b2008) ∧ ∀ T2010 : kp_S, T2010 = kp_sA T2007 b2008 (upd (kp_A T2007 b2008) (xn1.toNatClampNeg) (kp_A T2007 b2009 xn1.toNatClampNeg)) →
  ∃ b2011 : Nat, kp_R T2010 2454 a0 = some b2011 ∧
  ∃ b2012 : Nat, kp_R T2010 2421 a0 = some b2012 ∧
  vp_in xn1 (kp_N T2010 b2012) ∧
  vp_in xn1 (kp_N T2010 b2011) ∧ ∀ T2013 : kp_S, T2013 = kp_sA T2010 b2011 (upd (kp_A T2010 b2011) (xn1.toNatClampNeg) (kp_A T2010 b2012 xn1.toNatClampNeg)) →
  ∃ b2014 : Nat, kp_R T2013 2455 a0 = some b2014 ∧
  ∃ b2015 : Nat, kp_R T2013 2422 a0 = some b2015 ∧
  vp_in xn1 (kp_N T2013 b2015) ∧
  vp_in xn1 (kp_N T2013 b2014) ∧ ∀ T2016 : kp_S, T2016 = kp_sA T2013 b2014 (upd (kp_A T2013 b2014) (xn1.toNatClampNeg) (kp_A T2013 b2015 xn1.toNatClampNeg)) →
  ∃ b2017 : Nat, kp_R T2016 2456 a0 = some b2017 ∧
  ∃ b2018 : Nat, kp_R T2016 2423 a0 = some b2018 ∧
  vp_in xn1 (kp_N T2016 b2018) ∧
  vp_in xn1 (kp_N T2016 b2017) ∧ ∀ T2019 : kp_S, T2019 = kp_sA T2016 b2017 (upd (kp_A T2016 b2017) (xn1.toNatClampNeg) (kp_A T2016 b2018 xn1.toNatClampNeg)) →
  ∀ y2020 : Int32, y2020 = xn1 + 1 →
  wX12_keep_L59 a0  post n y2020 T2019))
def wX12_keep_L7 (a0 : Nat)  (post : kp_S → Prop) : Nat → Int32 → kp_S → Prop
  | 0, _, _ => False
  | n + 1, xn1, Sn =>
  (((kp_I Sn 2417 a0) ≤ xn1 →
  ∃ n0 : Nat, wX12_keep_L59 a0  post n0 0 Sn) ∧ (¬ (kp_I Sn 2417 a0) ≤ xn1 →
  ∃ b3001 : Nat, kp_R Sn 2448 a0 = some b3001 ∧
  ∃ b3002 : Nat, kp_R Sn 2414 a0 = some b3002 ∧
  vp_in xn1 (kp_N Sn b3002) ∧
  vp_in xn1 (kp_N Sn b3001) ∧ ∀ T3003 : kp_S, T3003 = kp_sA Sn b3001 (upd (kp_A Sn b3001) (xn1.toNatClampNeg) (kp_A Sn b3002 xn1.toNatClampNeg)) →
  ∃ b3004 : Nat, kp_R T3003 2449 a0 = some b3004 ∧
  ∃ b3005 : Nat, kp_R T3003 2415 a0 = some b3005 ∧
  vp_in xn1 (kp_N T3003 b3005) ∧
  vp_in xn1 (kp_N T3003 b3004) ∧ ∀ T3006 : kp_S, T3006 = kp_sA T3003 b3004 (upd (kp_A T3003 b3004) (xn1.toNatClampNeg) (kp_A T3003 b3005 xn1.toNatClampNeg)) →
  ∃ b3007 : Nat, kp_R T3006 2450 a0 = some b3007 ∧
  ∃ b3008 : Nat, kp_R T3006 2416 a0 = some b3008 ∧
  vp_in xn1 (kp_N T3006 b3008) ∧
  vp_in xn1 (kp_N T3006 b3007) ∧ ∀ T3009 : kp_S, T3009 = kp_sA T3006 b3007 (upd (kp_A T3006 b3007) (xn1.toNatClampNeg) (kp_A T3006 b3008 xn1.toNatClampNeg)) →
  ∀ y3010 : Int32, y3010 = xn1 + 1 →
  wX12_keep_L7 a0  post n y3010 T3009))
def wX12_keep (a0 : Nat) (S : kp_S) (post : kp_S → Prop) : Prop :=
  ∀ T1 : kp_S, T1 = kp_sI S 2447 a0 1 →
  ∃ n0 : Nat, wX12_keep_L7 a0  post n0 0 T1
set_option maxHeartbeats 4000000 in
set_option maxRecDepth 100000 in
theorem c_X12_keep (l : Launch) (D : va_G) (cy : Nat → ClassId) (ad : (Nat → Nat) × (Nat → Nat)) (S : kp_S) (a0 : Nat) (post : kp_S → Prop) (hS : kp_ok S) (f_a0 : kp_is S a0 12) (hw : wX12_keep a0 S post) : kp_M l yX12_keep cX12_keep 2 none { frames := 0, cells := 0, slots := 0, locals := 0 } D cy ad S [.ref a0] 0 0 (fun A => kp_Qv D cy A S post) := by
  refine kp_start (own := RX12) (by decide) rfl (Nat.le_of_ble_eq_true rfl) hS ?_
  intro p e s m below meth c A ls X hr hlocks hname h hl
  have hle : kp_le S S := kp_le.rf
  have hl : lv_has ls 2 [(0, .ref a0)] := hl
  have L155 : ∀ n155 : Nat, ∀ (xn1 : Int32) (Sn : kp_S) (H : Heap) (locs : List Loc) (ls : Array Slot), lv_has ls 2 [(0, .ref a0), (1, .int xn1)] → kp_H D cy A Sn s.heap H locs → kp_le S Sn → kp_is Sn a0 12 → wX12_keep_L155 a0  post n155 xn1 Sn → W p l e { frames := 0, cells := 0, slots := 0, locals := 0 } s m ([.ref a0] : List Value).toArray below meth c H locs 0 0 (MQ below (kp_Qv D cy A S post) ([.ref a0] : List Value).toArray s 0 0 A) (F0 m 155 ls []) := by
    intro n155
    induction n155 with
    | zero => intro xn1 Sn H locs ls hl h hle f_a0 hw; exact hw.elim
    | succ n155 ih155 =>
      intro xn1 Sn H locs ls hl h hle f_a0 hw
      unfold wX12_keep_L155 at hw
      refine lv_iload_n X.1 X.2.1 dX12_keep_155 rfl (lv_at hl 1 rfl) ?_
      refine lv_aload_n X.1 X.2.1 dX12_keep_156 rfl (lv_at hl 0 rfl) ?_
      refine kp_get X h f_a0 fp_12_586.l (v := .int (kp_I Sn 2462 a0)) rfl dX12_keep_157 ?_
      refine lv_icmp_ge (tgt := 229) X.1 X.2.1 dX12_keep_160 (by decide) (fun c1017 => ?_) (fun c1017 => ?_)
      · have hw := hw.1 c1017
        exact kp_retv X hr hlocks h hle hw dX12_keep_229
      · have hw := hw.2 c1017
        refine lv_aload_n X.1 X.2.1 dX12_keep_163 rfl (lv_at hl 0 rfl) ?_
        obtain ⟨b1001, e_b1001, hw⟩ := hw
        have f_b1001 := h.2.2.2.rf (c := 12) (k := 57) f_a0 (by decide) (by decide) e_b1001 (t := 14) rfl
        refine kp_get X h f_a0 ff_12_139.l (v := .ref b1001) (congrArg va_rf e_b1001) dX12_keep_164 ?_
        refine lv_iload_n X.1 X.2.1 dX12_keep_167 rfl (lv_at hl 1 rfl) ?_
        refine lv_aload_n X.1 X.2.1 dX12_keep_168 rfl (lv_at hl 0 rfl) ?_
        obtain ⟨b1002, e_b1002, hw⟩ := hw
        have f_b1002 := h.2.2.2.rf (c := 12) (k := 30) f_a0 (by decide) (by decide) e_b1002 (t := 14) rfl
        refine kp_get X h f_a0 ff_12_79.l (v := .ref b1002) (congrArg va_rf e_b1002) dX12_keep_169 ?_
        refine lv_iload_n X.1 X.2.1 dX12_keep_172 rfl (lv_at hl 1 rfl) ?_
        obtain ⟨hi, hw⟩ := hw
        refine kp_iald X h f_b1002 hi dX12_keep_173 ?_
        obtain ⟨hi, hw⟩ := hw
        refine kp_iast X h f_b1001 hi dX12_keep_174 (fun T1003 e_T1003 l_T1003 H locs h => ?_)
        have hw := hw T1003 e_T1003
        have f_a0 := l_T1003.is f_a0
        have f_b1001 := l_T1003.is f_b1001
        have f_b1002 := l_T1003.is f_b1002
        have hle := hle.tr l_T1003
        have e_b1001 : kp_R T1003 2457 a0 = some b1001 := by rw [e_T1003]; exact e_b1001
        have e_b1002 : kp_R T1003 2430 a0 = some b1002 := by rw [e_T1003]; exact e_b1002
        refine lv_aload_n X.1 X.2.1 dX12_keep_175 rfl (lv_at hl 0 rfl) ?_
        obtain ⟨b1004, e_b1004, hw⟩ := hw
        have f_b1004 := h.2.2.2.rf (c := 12) (k := 58) f_a0 (by decide) (by decide) e_b1004 (t := 14) rfl
        refine kp_get X h f_a0 ff_12_142.l (v := .ref b1004) (congrArg va_rf e_b1004) dX12_keep_176 ?_
        refine lv_iload_n X.1 X.2.1 dX12_keep_179 rfl (lv_at hl 1 rfl) ?_
        refine lv_aload_n X.1 X.2.1 dX12_keep_180 rfl (lv_at hl 0 rfl) ?_
        obtain ⟨b1005, e_b1005, hw⟩ := hw
        have f_b1005 := h.2.2.2.rf (c := 12) (k := 28) f_a0 (by decide) (by decide) e_b1005 (t := 14) rfl
        refine kp_get X h f_a0 ff_12_73.l (v := .ref b1005) (congrArg va_rf e_b1005) dX12_keep_181 ?_
        refine lv_iload_n X.1 X.2.1 dX12_keep_184 rfl (lv_at hl 1 rfl) ?_
        obtain ⟨hi, hw⟩ := hw
        refine kp_iald X h f_b1005 hi dX12_keep_185 ?_
        obtain ⟨hi, hw⟩ := hw
        refine kp_iast X h f_b1004 hi dX12_keep_186 (fun T1006 e_T1006 l_T1006 H locs h => ?_)
        have hw := hw T1006 e_T1006
        have f_a0 := l_T1006.is f_a0
        have f_b1001 := l_T1006.is f_b1001
        have f_b1002 := l_T1006.is f_b1002
        have f_b1004 := l_T1006.is f_b1004
        have f_b1005 := l_T1006.is f_b1005
        have hle := hle.tr l_T1006
        have e_b1001 : kp_R T1006 2457 a0 = some b1001 := by rw [e_T1006]; exact e_b1001
        have e_b1002 : kp_R T1006 2430 a0 = some b1002 := by rw [e_T1006]; exact e_b1002
        have e_b1004 : kp_R T1006 2458 a0 = some b1004 := by rw [e_T1006]; exact e_b1004
        have e_b1005 : kp_R T1006 2428 a0 = some b1005 := by rw [e_T1006]; exact e_b1005
        refine lv_aload_n X.1 X.2.1 dX12_keep_187 rfl (lv_at hl 0 rfl) ?_
        obtain ⟨b1007, e_b1007, hw⟩ := hw
        have f_b1007 := h.2.2.2.rf (c := 12) (k := 59) f_a0 (by decide) (by decide) e_b1007 (t := 14) rfl
        refine kp_get X h f_a0 ff_12_145.l (v := .ref b1007) (congrArg va_rf e_b1007) dX12_keep_188 ?_
        refine lv_iload_n X.1 X.2.1 dX12_keep_191 rfl (lv_at hl 1 rfl) ?_
        refine lv_aload_n X.1 X.2.1 dX12_keep_192 rfl (lv_at hl 0 rfl) ?_
        obtain ⟨b1008, e_b1008, hw⟩ := hw
        have f_b1008 := h.2.2.2.rf (c := 12) (k := 29) f_a0 (by decide) (by decide) e_b1008 (t := 14) rfl
        refine kp_get X h f_a0 ff_12_76.l (v := .ref b1008) (congrArg va_rf e_b1008) dX12_keep_193 ?_
        refine lv_iload_n X.1 X.2.1 dX12_keep_196 rfl (lv_at hl 1 rfl) ?_
        obtain ⟨hi, hw⟩ := hw
        refine kp_iald X h f_b1008 hi dX12_keep_197 ?_
        obtain ⟨hi, hw⟩ := hw
        refine kp_iast X h f_b1007 hi dX12_keep_198 (fun T1009 e_T1009 l_T1009 H locs h => ?_)
        have hw := hw T1009 e_T1009
        have f_a0 := l_T1009.is f_a0
        have f_b1001 := l_T1009.is f_b1001
        have f_b1002 := l_T1009.is f_b1002
        have f_b1004 := l_T1009.is f_b1004
        have f_b1005 := l_T1009.is f_b1005
        have f_b1007 := l_T1009.is f_b1007
        have f_b1008 := l_T1009.is f_b1008
        have hle := hle.tr l_T1009
        have e_b1001 : kp_R T1009 2457 a0 = some b1001 := by rw [e_T1009]; exact e_b1001
        have e_b1002 : kp_R T1009 2430 a0 = some b1002 := by rw [e_T1009]; exact e_b1002
        have e_b1004 : kp_R T1009 2458 a0 = some b1004 := by rw [e_T1009]; exact e_b1004
        have e_b1005 : kp_R T1009 2428 a0 = some b1005 := by rw [e_T1009]; exact e_b1005
        have e_b1007 : kp_R T1009 2459 a0 = some b1007 := by rw [e_T1009]; exact e_b1007
        have e_b1008 : kp_R T1009 2429 a0 = some b1008 := by rw [e_T1009]; exact e_b1008
        refine lv_aload_n X.1 X.2.1 dX12_keep_199 rfl (lv_at hl 0 rfl) ?_
        obtain ⟨b1010, e_b1010, hw⟩ := hw
        have f_b1010 := h.2.2.2.rf (c := 12) (k := 60) f_a0 (by decide) (by decide) e_b1010 (t := 14) rfl
        refine kp_get X h f_a0 ff_12_148.l (v := .ref b1010) (congrArg va_rf e_b1010) dX12_keep_200 ?_
        refine lv_iload_n X.1 X.2.1 dX12_keep_203 rfl (lv_at hl 1 rfl) ?_
        refine lv_aload_n X.1 X.2.1 dX12_keep_204 rfl (lv_at hl 0 rfl) ?_
        obtain ⟨b1011, e_b1011, hw⟩ := hw
        have f_b1011 := h.2.2.2.rf (c := 12) (k := 31) f_a0 (by decide) (by decide) e_b1011 (t := 14) rfl
        refine kp_get X h f_a0 ff_12_82.l (v := .ref b1011) (congrArg va_rf e_b1011) dX12_keep_205 ?_
        refine lv_iload_n X.1 X.2.1 dX12_keep_208 rfl (lv_at hl 1 rfl) ?_
        obtain ⟨hi, hw⟩ := hw
        refine kp_iald X h f_b1011 hi dX12_keep_209 ?_
        obtain ⟨hi, hw⟩ := hw
        refine kp_iast X h f_b1010 hi dX12_keep_210 (fun T1012 e_T1012 l_T1012 H locs h => ?_)
        have hw := hw T1012 e_T1012
        have f_a0 := l_T1012.is f_a0
        have f_b1001 := l_T1012.is f_b1001
        have f_b1002 := l_T1012.is f_b1002
        have f_b1004 := l_T1012.is f_b1004
        have f_b1005 := l_T1012.is f_b1005
        have f_b1007 := l_T1012.is f_b1007
        have f_b1008 := l_T1012.is f_b1008
        have f_b1010 := l_T1012.is f_b1010
        have f_b1011 := l_T1012.is f_b1011
        have hle := hle.tr l_T1012
        have e_b1001 : kp_R T1012 2457 a0 = some b1001 := by rw [e_T1012]; exact e_b1001
        have e_b1002 : kp_R T1012 2430 a0 = some b1002 := by rw [e_T1012]; exact e_b1002
        have e_b1004 : kp_R T1012 2458 a0 = some b1004 := by rw [e_T1012]; exact e_b1004
        have e_b1005 : kp_R T1012 2428 a0 = some b1005 := by rw [e_T1012]; exact e_b1005
        have e_b1007 : kp_R T1012 2459 a0 = some b1007 := by rw [e_T1012]; exact e_b1007
        have e_b1008 : kp_R T1012 2429 a0 = some b1008 := by rw [e_T1012]; exact e_b1008
        have e_b1010 : kp_R T1012 2460 a0 = some b1010 := by rw [e_T1012]; exact e_b1010
        have e_b1011 : kp_R T1012 2431 a0 = some b1011 := by rw [e_T1012]; exact e_b1011
        refine lv_aload_n X.1 X.2.1 dX12_keep_211 rfl (lv_at hl 0 rfl) ?_
        obtain ⟨b1013, e_b1013, hw⟩ := hw
        have f_b1013 := h.2.2.2.rf (c := 12) (k := 61) f_a0 (by decide) (by decide) e_b1013 (t := 14) rfl
        refine kp_get X h f_a0 ff_12_151.l (v := .ref b1013) (congrArg va_rf e_b1013) dX12_keep_212 ?_
        refine lv_iload_n X.1 X.2.1 dX12_keep_215 rfl (lv_at hl 1 rfl) ?_
        refine lv_aload_n X.1 X.2.1 dX12_keep_216 rfl (lv_at hl 0 rfl) ?_
        obtain ⟨b1014, e_b1014, hw⟩ := hw
        have f_b1014 := h.2.2.2.rf (c := 12) (k := 32) f_a0 (by decide) (by decide) e_b1014 (t := 14) rfl
        refine kp_get X h f_a0 ff_12_85.l (v := .ref b1014) (congrArg va_rf e_b1014) dX12_keep_217 ?_
        refine lv_iload_n X.1 X.2.1 dX12_keep_220 rfl (lv_at hl 1 rfl) ?_
        obtain ⟨hi, hw⟩ := hw
        refine kp_iald X h f_b1014 hi dX12_keep_221 ?_
        obtain ⟨hi, hw⟩ := hw
        refine kp_iast X h f_b1013 hi dX12_keep_222 (fun T1015 e_T1015 l_T1015 H locs h => ?_)
        have hw := hw T1015 e_T1015
        have f_a0 := l_T1015.is f_a0
        have f_b1001 := l_T1015.is f_b1001
        have f_b1002 := l_T1015.is f_b1002
        have f_b1004 := l_T1015.is f_b1004
        have f_b1005 := l_T1015.is f_b1005
        have f_b1007 := l_T1015.is f_b1007
        have f_b1008 := l_T1015.is f_b1008
        have f_b1010 := l_T1015.is f_b1010
        have f_b1011 := l_T1015.is f_b1011
        have f_b1013 := l_T1015.is f_b1013
        have f_b1014 := l_T1015.is f_b1014
        have hle := hle.tr l_T1015
        have e_b1001 : kp_R T1015 2457 a0 = some b1001 := by rw [e_T1015]; exact e_b1001
        have e_b1002 : kp_R T1015 2430 a0 = some b1002 := by rw [e_T1015]; exact e_b1002
        have e_b1004 : kp_R T1015 2458 a0 = some b1004 := by rw [e_T1015]; exact e_b1004
        have e_b1005 : kp_R T1015 2428 a0 = some b1005 := by rw [e_T1015]; exact e_b1005
        have e_b1007 : kp_R T1015 2459 a0 = some b1007 := by rw [e_T1015]; exact e_b1007
        have e_b1008 : kp_R T1015 2429 a0 = some b1008 := by rw [e_T1015]; exact e_b1008
        have e_b1010 : kp_R T1015 2460 a0 = some b1010 := by rw [e_T1015]; exact e_b1010
        have e_b1011 : kp_R T1015 2431 a0 = some b1011 := by rw [e_T1015]; exact e_b1011
        have e_b1013 : kp_R T1015 2461 a0 = some b1013 := by rw [e_T1015]; exact e_b1013
        have e_b1014 : kp_R T1015 2432 a0 = some b1014 := by rw [e_T1015]; exact e_b1014
        obtain ⟨y1016, e_y1016⟩ : ∃ y : Int32, y = xn1 + 1 := ⟨_, rfl⟩
        have hw := hw y1016 e_y1016
        refine lv_iinc (v := y1016) (lv' := [(1, .int y1016), (0, .ref a0)]) X.1 X.2.1 dX12_keep_223 hl (k := 1) rfl (by rw [e_y1016]; rfl) (by decide) rfl (fun ls hl => ?_)
        refine lv_goto (tgt := 155) X.1 X.2.1 dX12_keep_226 (by decide) ?_
        exact ih155 y1016 T1015 H locs ls (lv_sub hl [1, 0] rfl) h hle f_a0 hw
  have L59 : ∀ n59 : Nat, ∀ (xn1 : Int32) (Sn : kp_S) (H : Heap) (locs : List Loc) (ls : Array Slot), lv_has ls 2 [(0, .ref a0), (1, .int xn1)] → kp_H D cy A Sn s.heap H locs → kp_le S Sn → kp_is Sn a0 12 → wX12_keep_L59 a0  post n59 xn1 Sn → W p l e { frames := 0, cells := 0, slots := 0, locals := 0 } s m ([.ref a0] : List Value).toArray below meth c H locs 0 0 (MQ below (kp_Qv D cy A S post) ([.ref a0] : List Value).toArray s 0 0 A) (F0 m 59 ls []) := by
    intro n59
    induction n59 with
    | zero => intro xn1 Sn H locs ls hl h hle f_a0 hw; exact hw.elim
    | succ n59 ih59 =>
      intro xn1 Sn H locs ls hl h hle f_a0 hw
      unfold wX12_keep_L59 at hw
      refine lv_iload_n X.1 X.2.1 dX12_keep_59 rfl (lv_at hl 1 rfl) ?_
      refine lv_aload_n X.1 X.2.1 dX12_keep_60 rfl (lv_at hl 0 rfl) ?_
      refine kp_get X h f_a0 fp_12_535.l (v := .int (kp_I Sn 2424 a0)) rfl dX12_keep_61 ?_
      refine lv_icmp_ge (tgt := 145) X.1 X.2.1 dX12_keep_64 (by decide) (fun c2021 => ?_) (fun c2021 => ?_)
      · have hw := hw.1 c2021
        refine lv_aload_n X.1 X.2.1 dX12_keep_145 rfl (lv_at hl 0 rfl) ?_
        refine lv_aload_n X.1 X.2.1 dX12_keep_146 rfl (lv_at hl 0 rfl) ?_
        refine kp_get X h f_a0 fp_12_403.l (v := .int (kp_I Sn 2433 a0)) rfl dX12_keep_147 ?_
        refine kp_putI X h f_a0 fp_12_586 rfl ⟨rfl, rfl⟩ dX12_keep_150 (fun T2001 e_T2001 l_T2001 H locs h => ?_)
        have hw := hw T2001 e_T2001
        have f_a0 := l_T2001.is f_a0
        have hle := hle.tr l_T2001
        refine lv_iconst (v := 0) X.1 X.2.1 dX12_keep_153 (by decide) ?_
        refine lv_istore_n (lv' := [(1, .int 0), (0, .ref a0)]) X.1 X.2.1 dX12_keep_154 rfl hl (by decide) rfl (fun ls hl => ?_)
        obtain ⟨n0, hw⟩ := hw
        exact L155 n0 0 T2001 H locs ls (lv_sub hl [1, 0] rfl) h hle f_a0 hw
      · have hw := hw.2 c2021
        refine lv_aload_n X.1 X.2.1 dX12_keep_67 rfl (lv_at hl 0 rfl) ?_
        obtain ⟨b2002, e_b2002, hw⟩ := hw
        have f_b2002 := h.2.2.2.rf (c := 12) (k := 51) f_a0 (by decide) (by decide) e_b2002 (t := 14) rfl
        refine kp_get X h f_a0 ff_12_121.l (v := .ref b2002) (congrArg va_rf e_b2002) dX12_keep_68 ?_
        refine lv_iload_n X.1 X.2.1 dX12_keep_71 rfl (lv_at hl 1 rfl) ?_
        refine lv_aload_n X.1 X.2.1 dX12_keep_72 rfl (lv_at hl 0 rfl) ?_
        obtain ⟨b2003, e_b2003, hw⟩ := hw
        have f_b2003 := h.2.2.2.rf (c := 12) (k := 18) f_a0 (by decide) (by decide) e_b2003 (t := 14) rfl
        refine kp_get X h f_a0 ff_12_52.l (v := .ref b2003) (congrArg va_rf e_b2003) dX12_keep_73 ?_
        refine lv_iload_n X.1 X.2.1 dX12_keep_76 rfl (lv_at hl 1 rfl) ?_
        obtain ⟨hi, hw⟩ := hw
        refine kp_iald X h f_b2003 hi dX12_keep_77 ?_
        obtain ⟨hi, hw⟩ := hw
        refine kp_iast X h f_b2002 hi dX12_keep_78 (fun T2004 e_T2004 l_T2004 H locs h => ?_)
        have hw := hw T2004 e_T2004
        have f_a0 := l_T2004.is f_a0
        have f_b2002 := l_T2004.is f_b2002
        have f_b2003 := l_T2004.is f_b2003
        have hle := hle.tr l_T2004
        have e_b2002 : kp_R T2004 2451 a0 = some b2002 := by rw [e_T2004]; exact e_b2002
        have e_b2003 : kp_R T2004 2418 a0 = some b2003 := by rw [e_T2004]; exact e_b2003
        refine lv_aload_n X.1 X.2.1 dX12_keep_79 rfl (lv_at hl 0 rfl) ?_
        obtain ⟨b2005, e_b2005, hw⟩ := hw
        have f_b2005 := h.2.2.2.rf (c := 12) (k := 52) f_a0 (by decide) (by decide) e_b2005 (t := 14) rfl
        refine kp_get X h f_a0 ff_12_124.l (v := .ref b2005) (congrArg va_rf e_b2005) dX12_keep_80 ?_
        refine lv_iload_n X.1 X.2.1 dX12_keep_83 rfl (lv_at hl 1 rfl) ?_
        refine lv_aload_n X.1 X.2.1 dX12_keep_84 rfl (lv_at hl 0 rfl) ?_
        obtain ⟨b2006, e_b2006, hw⟩ := hw
        have f_b2006 := h.2.2.2.rf (c := 12) (k := 19) f_a0 (by decide) (by decide) e_b2006 (t := 14) rfl
        refine kp_get X h f_a0 ff_12_55.l (v := .ref b2006) (congrArg va_rf e_b2006) dX12_keep_85 ?_
        refine lv_iload_n X.1 X.2.1 dX12_keep_88 rfl (lv_at hl 1 rfl) ?_
        obtain ⟨hi, hw⟩ := hw
        refine kp_iald X h f_b2006 hi dX12_keep_89 ?_
        obtain ⟨hi, hw⟩ := hw
        refine kp_iast X h f_b2005 hi dX12_keep_90 (fun T2007 e_T2007 l_T2007 H locs h => ?_)
        have hw := hw T2007 e_T2007
        have f_a0 := l_T2007.is f_a0
        have f_b2002 := l_T2007.is f_b2002
        have f_b2003 := l_T2007.is f_b2003
        have f_b2005 := l_T2007.is f_b2005
        have f_b2006 := l_T2007.is f_b2006
        have hle := hle.tr l_T2007
        have e_b2002 : kp_R T2007 2451 a0 = some b2002 := by rw [e_T2007]; exact e_b2002
        have e_b2003 : kp_R T2007 2418 a0 = some b2003 := by rw [e_T2007]; exact e_b2003
        have e_b2005 : kp_R T2007 2452 a0 = some b2005 := by rw [e_T2007]; exact e_b2005
        have e_b2006 : kp_R T2007 2419 a0 = some b2006 := by rw [e_T2007]; exact e_b2006
        refine lv_aload_n X.1 X.2.1 dX12_keep_91 rfl (lv_at hl 0 rfl) ?_
        obtain ⟨b2008, e_b2008, hw⟩ := hw
        have f_b2008 := h.2.2.2.rf (c := 12) (k := 53) f_a0 (by decide) (by decide) e_b2008 (t := 14) rfl
        refine kp_get X h f_a0 ff_12_127.l (v := .ref b2008) (congrArg va_rf e_b2008) dX12_keep_92 ?_
        refine lv_iload_n X.1 X.2.1 dX12_keep_95 rfl (lv_at hl 1 rfl) ?_
        refine lv_aload_n X.1 X.2.1 dX12_keep_96 rfl (lv_at hl 0 rfl) ?_
        obtain ⟨b2009, e_b2009, hw⟩ := hw
        have f_b2009 := h.2.2.2.rf (c := 12) (k := 20) f_a0 (by decide) (by decide) e_b2009 (t := 14) rfl
        refine kp_get X h f_a0 ff_12_58.l (v := .ref b2009) (congrArg va_rf e_b2009) dX12_keep_97 ?_
        refine lv_iload_n X.1 X.2.1 dX12_keep_100 rfl (lv_at hl 1 rfl) ?_
        obtain ⟨hi, hw⟩ := hw
        refine kp_iald X h f_b2009 hi dX12_keep_101 ?_
        obtain ⟨hi, hw⟩ := hw
        refine kp_iast X h f_b2008 hi dX12_keep_102 (fun T2010 e_T2010 l_T2010 H locs h => ?_)
        have hw := hw T2010 e_T2010
        have f_a0 := l_T2010.is f_a0
        have f_b2002 := l_T2010.is f_b2002
        have f_b2003 := l_T2010.is f_b2003
        have f_b2005 := l_T2010.is f_b2005
        have f_b2006 := l_T2010.is f_b2006
        have f_b2008 := l_T2010.is f_b2008
        have f_b2009 := l_T2010.is f_b2009
        have hle := hle.tr l_T2010
        have e_b2002 : kp_R T2010 2451 a0 = some b2002 := by rw [e_T2010]; exact e_b2002
        have e_b2003 : kp_R T2010 2418 a0 = some b2003 := by rw [e_T2010]; exact e_b2003
        have e_b2005 : kp_R T2010 2452 a0 = some b2005 := by rw [e_T2010]; exact e_b2005
        have e_b2006 : kp_R T2010 2419 a0 = some b2006 := by rw [e_T2010]; exact e_b2006
        have e_b2008 : kp_R T2010 2453 a0 = some b2008 := by rw [e_T2010]; exact e_b2008
        have e_b2009 : kp_R T2010 2420 a0 = some b2009 := by rw [e_T2010]; exact e_b2009
        refine lv_aload_n X.1 X.2.1 dX12_keep_103 rfl (lv_at hl 0 rfl) ?_
        obtain ⟨b2011, e_b2011, hw⟩ := hw
        have f_b2011 := h.2.2.2.rf (c := 12) (k := 54) f_a0 (by decide) (by decide) e_b2011 (t := 14) rfl
        refine kp_get X h f_a0 ff_12_130.l (v := .ref b2011) (congrArg va_rf e_b2011) dX12_keep_104 ?_
        refine lv_iload_n X.1 X.2.1 dX12_keep_107 rfl (lv_at hl 1 rfl) ?_
        refine lv_aload_n X.1 X.2.1 dX12_keep_108 rfl (lv_at hl 0 rfl) ?_
        obtain ⟨b2012, e_b2012, hw⟩ := hw
        have f_b2012 := h.2.2.2.rf (c := 12) (k := 21) f_a0 (by decide) (by decide) e_b2012 (t := 14) rfl
        refine kp_get X h f_a0 ff_12_61.l (v := .ref b2012) (congrArg va_rf e_b2012) dX12_keep_109 ?_
        refine lv_iload_n X.1 X.2.1 dX12_keep_112 rfl (lv_at hl 1 rfl) ?_
        obtain ⟨hi, hw⟩ := hw
        refine kp_iald X h f_b2012 hi dX12_keep_113 ?_
        obtain ⟨hi, hw⟩ := hw
        refine kp_iast X h f_b2011 hi dX12_keep_114 (fun T2013 e_T2013 l_T2013 H locs h => ?_)
        have hw := hw T2013 e_T2013
        have f_a0 := l_T2013.is f_a0
        have f_b2002 := l_T2013.is f_b2002
        have f_b2003 := l_T2013.is f_b2003
        have f_b2005 := l_T2013.is f_b2005
        have f_b2006 := l_T2013.is f_b2006
        have f_b2008 := l_T2013.is f_b2008
        have f_b2009 := l_T2013.is f_b2009
        have f_b2011 := l_T2013.is f_b2011
        have f_b2012 := l_T2013.is f_b2012
        have hle := hle.tr l_T2013
        have e_b2002 : kp_R T2013 2451 a0 = some b2002 := by rw [e_T2013]; exact e_b2002
        have e_b2003 : kp_R T2013 2418 a0 = some b2003 := by rw [e_T2013]; exact e_b2003
        have e_b2005 : kp_R T2013 2452 a0 = some b2005 := by rw [e_T2013]; exact e_b2005
        have e_b2006 : kp_R T2013 2419 a0 = some b2006 := by rw [e_T2013]; exact e_b2006
        have e_b2008 : kp_R T2013 2453 a0 = some b2008 := by rw [e_T2013]; exact e_b2008
        have e_b2009 : kp_R T2013 2420 a0 = some b2009 := by rw [e_T2013]; exact e_b2009
        have e_b2011 : kp_R T2013 2454 a0 = some b2011 := by rw [e_T2013]; exact e_b2011
        have e_b2012 : kp_R T2013 2421 a0 = some b2012 := by rw [e_T2013]; exact e_b2012
        refine lv_aload_n X.1 X.2.1 dX12_keep_115 rfl (lv_at hl 0 rfl) ?_
        obtain ⟨b2014, e_b2014, hw⟩ := hw
        have f_b2014 := h.2.2.2.rf (c := 12) (k := 55) f_a0 (by decide) (by decide) e_b2014 (t := 14) rfl
        refine kp_get X h f_a0 ff_12_133.l (v := .ref b2014) (congrArg va_rf e_b2014) dX12_keep_116 ?_
        refine lv_iload_n X.1 X.2.1 dX12_keep_119 rfl (lv_at hl 1 rfl) ?_
        refine lv_aload_n X.1 X.2.1 dX12_keep_120 rfl (lv_at hl 0 rfl) ?_
        obtain ⟨b2015, e_b2015, hw⟩ := hw
        have f_b2015 := h.2.2.2.rf (c := 12) (k := 22) f_a0 (by decide) (by decide) e_b2015 (t := 14) rfl
        refine kp_get X h f_a0 ff_12_64.l (v := .ref b2015) (congrArg va_rf e_b2015) dX12_keep_121 ?_
        refine lv_iload_n X.1 X.2.1 dX12_keep_124 rfl (lv_at hl 1 rfl) ?_
        obtain ⟨hi, hw⟩ := hw
        refine kp_iald X h f_b2015 hi dX12_keep_125 ?_
        obtain ⟨hi, hw⟩ := hw
        refine kp_iast X h f_b2014 hi dX12_keep_126 (fun T2016 e_T2016 l_T2016 H locs h => ?_)
        have hw := hw T2016 e_T2016
        have f_a0 := l_T2016.is f_a0
        have f_b2002 := l_T2016.is f_b2002
        have f_b2003 := l_T2016.is f_b2003
        have f_b2005 := l_T2016.is f_b2005
        have f_b2006 := l_T2016.is f_b2006
        have f_b2008 := l_T2016.is f_b2008
        have f_b2009 := l_T2016.is f_b2009
        have f_b2011 := l_T2016.is f_b2011
        have f_b2012 := l_T2016.is f_b2012
        have f_b2014 := l_T2016.is f_b2014
        have f_b2015 := l_T2016.is f_b2015
        have hle := hle.tr l_T2016
        have e_b2002 : kp_R T2016 2451 a0 = some b2002 := by rw [e_T2016]; exact e_b2002
        have e_b2003 : kp_R T2016 2418 a0 = some b2003 := by rw [e_T2016]; exact e_b2003
        have e_b2005 : kp_R T2016 2452 a0 = some b2005 := by rw [e_T2016]; exact e_b2005
        have e_b2006 : kp_R T2016 2419 a0 = some b2006 := by rw [e_T2016]; exact e_b2006
        have e_b2008 : kp_R T2016 2453 a0 = some b2008 := by rw [e_T2016]; exact e_b2008
        have e_b2009 : kp_R T2016 2420 a0 = some b2009 := by rw [e_T2016]; exact e_b2009
        have e_b2011 : kp_R T2016 2454 a0 = some b2011 := by rw [e_T2016]; exact e_b2011
        have e_b2012 : kp_R T2016 2421 a0 = some b2012 := by rw [e_T2016]; exact e_b2012
        have e_b2014 : kp_R T2016 2455 a0 = some b2014 := by rw [e_T2016]; exact e_b2014
        have e_b2015 : kp_R T2016 2422 a0 = some b2015 := by rw [e_T2016]; exact e_b2015
        refine lv_aload_n X.1 X.2.1 dX12_keep_127 rfl (lv_at hl 0 rfl) ?_
        obtain ⟨b2017, e_b2017, hw⟩ := hw
        have f_b2017 := h.2.2.2.rf (c := 12) (k := 56) f_a0 (by decide) (by decide) e_b2017 (t := 14) rfl
        refine kp_get X h f_a0 ff_12_136.l (v := .ref b2017) (congrArg va_rf e_b2017) dX12_keep_128 ?_
        refine lv_iload_n X.1 X.2.1 dX12_keep_131 rfl (lv_at hl 1 rfl) ?_
        refine lv_aload_n X.1 X.2.1 dX12_keep_132 rfl (lv_at hl 0 rfl) ?_
        obtain ⟨b2018, e_b2018, hw⟩ := hw
        have f_b2018 := h.2.2.2.rf (c := 12) (k := 23) f_a0 (by decide) (by decide) e_b2018 (t := 14) rfl
        refine kp_get X h f_a0 ff_12_67.l (v := .ref b2018) (congrArg va_rf e_b2018) dX12_keep_133 ?_
        refine lv_iload_n X.1 X.2.1 dX12_keep_136 rfl (lv_at hl 1 rfl) ?_
        obtain ⟨hi, hw⟩ := hw
        refine kp_iald X h f_b2018 hi dX12_keep_137 ?_
        obtain ⟨hi, hw⟩ := hw
        refine kp_iast X h f_b2017 hi dX12_keep_138 (fun T2019 e_T2019 l_T2019 H locs h => ?_)
        have hw := hw T2019 e_T2019
        have f_a0 := l_T2019.is f_a0
        have f_b2002 := l_T2019.is f_b2002
        have f_b2003 := l_T2019.is f_b2003
        have f_b2005 := l_T2019.is f_b2005
        have f_b2006 := l_T2019.is f_b2006
        have f_b2008 := l_T2019.is f_b2008
        have f_b2009 := l_T2019.is f_b2009
        have f_b2011 := l_T2019.is f_b2011
        have f_b2012 := l_T2019.is f_b2012
        have f_b2014 := l_T2019.is f_b2014
        have f_b2015 := l_T2019.is f_b2015
        have f_b2017 := l_T2019.is f_b2017
        have f_b2018 := l_T2019.is f_b2018
        have hle := hle.tr l_T2019
        have e_b2002 : kp_R T2019 2451 a0 = some b2002 := by rw [e_T2019]; exact e_b2002
        have e_b2003 : kp_R T2019 2418 a0 = some b2003 := by rw [e_T2019]; exact e_b2003
        have e_b2005 : kp_R T2019 2452 a0 = some b2005 := by rw [e_T2019]; exact e_b2005
        have e_b2006 : kp_R T2019 2419 a0 = some b2006 := by rw [e_T2019]; exact e_b2006
        have e_b2008 : kp_R T2019 2453 a0 = some b2008 := by rw [e_T2019]; exact e_b2008
        have e_b2009 : kp_R T2019 2420 a0 = some b2009 := by rw [e_T2019]; exact e_b2009
        have e_b2011 : kp_R T2019 2454 a0 = some b2011 := by rw [e_T2019]; exact e_b2011
        have e_b2012 : kp_R T2019 2421 a0 = some b2012 := by rw [e_T2019]; exact e_b2012
        have e_b2014 : kp_R T2019 2455 a0 = some b2014 := by rw [e_T2019]; exact e_b2014
        have e_b2015 : kp_R T2019 2422 a0 = some b2015 := by rw [e_T2019]; exact e_b2015
        have e_b2017 : kp_R T2019 2456 a0 = some b2017 := by rw [e_T2019]; exact e_b2017
        have e_b2018 : kp_R T2019 2423 a0 = some b2018 := by rw [e_T2019]; exact e_b2018
        obtain ⟨y2020, e_y2020⟩ : ∃ y : Int32, y = xn1 + 1 := ⟨_, rfl⟩
        have hw := hw y2020 e_y2020
        refine lv_iinc (v := y2020) (lv' := [(1, .int y2020), (0, .ref a0)]) X.1 X.2.1 dX12_keep_139 hl (k := 1) rfl (by rw [e_y2020]; rfl) (by decide) rfl (fun ls hl => ?_)
        refine lv_goto (tgt := 59) X.1 X.2.1 dX12_keep_142 (by decide) ?_
        exact ih59 y2020 T2019 H locs ls (lv_sub hl [1, 0] rfl) h hle f_a0 hw
  have L7 : ∀ n7 : Nat, ∀ (xn1 : Int32) (Sn : kp_S) (H : Heap) (locs : List Loc) (ls : Array Slot), lv_has ls 2 [(0, .ref a0), (1, .int xn1)] → kp_H D cy A Sn s.heap H locs → kp_le S Sn → kp_is Sn a0 12 → wX12_keep_L7 a0  post n7 xn1 Sn → W p l e { frames := 0, cells := 0, slots := 0, locals := 0 } s m ([.ref a0] : List Value).toArray below meth c H locs 0 0 (MQ below (kp_Qv D cy A S post) ([.ref a0] : List Value).toArray s 0 0 A) (F0 m 7 ls []) := by
    intro n7
    induction n7 with
    | zero => intro xn1 Sn H locs ls hl h hle f_a0 hw; exact hw.elim
    | succ n7 ih7 =>
      intro xn1 Sn H locs ls hl h hle f_a0 hw
      unfold wX12_keep_L7 at hw
      refine lv_iload_n X.1 X.2.1 dX12_keep_7 rfl (lv_at hl 1 rfl) ?_
      refine lv_aload_n X.1 X.2.1 dX12_keep_8 rfl (lv_at hl 0 rfl) ?_
      refine kp_get X h f_a0 fp_12_370.l (v := .int (kp_I Sn 2417 a0)) rfl dX12_keep_9 ?_
      refine lv_icmp_ge (tgt := 57) X.1 X.2.1 dX12_keep_12 (by decide) (fun c3011 => ?_) (fun c3011 => ?_)
      · have hw := hw.1 c3011
        refine lv_iconst (v := 0) X.1 X.2.1 dX12_keep_57 (by decide) ?_
        refine lv_istore_n (lv' := [(1, .int 0), (0, .ref a0)]) X.1 X.2.1 dX12_keep_58 rfl hl (by decide) rfl (fun ls hl => ?_)
        obtain ⟨n0, hw⟩ := hw
        exact L59 n0 0 Sn H locs ls (lv_sub hl [1, 0] rfl) h hle f_a0 hw
      · have hw := hw.2 c3011
        refine lv_aload_n X.1 X.2.1 dX12_keep_15 rfl (lv_at hl 0 rfl) ?_
        obtain ⟨b3001, e_b3001, hw⟩ := hw
        have f_b3001 := h.2.2.2.rf (c := 12) (k := 48) f_a0 (by decide) (by decide) e_b3001 (t := 14) rfl
        refine kp_get X h f_a0 ff_12_112.l (v := .ref b3001) (congrArg va_rf e_b3001) dX12_keep_16 ?_
        refine lv_iload_n X.1 X.2.1 dX12_keep_19 rfl (lv_at hl 1 rfl) ?_
        refine lv_aload_n X.1 X.2.1 dX12_keep_20 rfl (lv_at hl 0 rfl) ?_
        obtain ⟨b3002, e_b3002, hw⟩ := hw
        have f_b3002 := h.2.2.2.rf (c := 12) (k := 14) f_a0 (by decide) (by decide) e_b3002 (t := 14) rfl
        refine kp_get X h f_a0 ff_12_43.l (v := .ref b3002) (congrArg va_rf e_b3002) dX12_keep_21 ?_
        refine lv_iload_n X.1 X.2.1 dX12_keep_24 rfl (lv_at hl 1 rfl) ?_
        obtain ⟨hi, hw⟩ := hw
        refine kp_iald X h f_b3002 hi dX12_keep_25 ?_
        obtain ⟨hi, hw⟩ := hw
        refine kp_iast X h f_b3001 hi dX12_keep_26 (fun T3003 e_T3003 l_T3003 H locs h => ?_)
        have hw := hw T3003 e_T3003
        have f_a0 := l_T3003.is f_a0
        have f_b3001 := l_T3003.is f_b3001
        have f_b3002 := l_T3003.is f_b3002
        have hle := hle.tr l_T3003
        have e_b3001 : kp_R T3003 2448 a0 = some b3001 := by rw [e_T3003]; exact e_b3001
        have e_b3002 : kp_R T3003 2414 a0 = some b3002 := by rw [e_T3003]; exact e_b3002
        refine lv_aload_n X.1 X.2.1 dX12_keep_27 rfl (lv_at hl 0 rfl) ?_
        obtain ⟨b3004, e_b3004, hw⟩ := hw
        have f_b3004 := h.2.2.2.rf (c := 12) (k := 49) f_a0 (by decide) (by decide) e_b3004 (t := 14) rfl
        refine kp_get X h f_a0 ff_12_115.l (v := .ref b3004) (congrArg va_rf e_b3004) dX12_keep_28 ?_
        refine lv_iload_n X.1 X.2.1 dX12_keep_31 rfl (lv_at hl 1 rfl) ?_
        refine lv_aload_n X.1 X.2.1 dX12_keep_32 rfl (lv_at hl 0 rfl) ?_
        obtain ⟨b3005, e_b3005, hw⟩ := hw
        have f_b3005 := h.2.2.2.rf (c := 12) (k := 15) f_a0 (by decide) (by decide) e_b3005 (t := 14) rfl
        refine kp_get X h f_a0 ff_12_46.l (v := .ref b3005) (congrArg va_rf e_b3005) dX12_keep_33 ?_
        refine lv_iload_n X.1 X.2.1 dX12_keep_36 rfl (lv_at hl 1 rfl) ?_
        obtain ⟨hi, hw⟩ := hw
        refine kp_iald X h f_b3005 hi dX12_keep_37 ?_
        obtain ⟨hi, hw⟩ := hw
        refine kp_iast X h f_b3004 hi dX12_keep_38 (fun T3006 e_T3006 l_T3006 H locs h => ?_)
        have hw := hw T3006 e_T3006
        have f_a0 := l_T3006.is f_a0
        have f_b3001 := l_T3006.is f_b3001
        have f_b3002 := l_T3006.is f_b3002
        have f_b3004 := l_T3006.is f_b3004
        have f_b3005 := l_T3006.is f_b3005
        have hle := hle.tr l_T3006
        have e_b3001 : kp_R T3006 2448 a0 = some b3001 := by rw [e_T3006]; exact e_b3001
        have e_b3002 : kp_R T3006 2414 a0 = some b3002 := by rw [e_T3006]; exact e_b3002
        have e_b3004 : kp_R T3006 2449 a0 = some b3004 := by rw [e_T3006]; exact e_b3004
        have e_b3005 : kp_R T3006 2415 a0 = some b3005 := by rw [e_T3006]; exact e_b3005
        refine lv_aload_n X.1 X.2.1 dX12_keep_39 rfl (lv_at hl 0 rfl) ?_
        obtain ⟨b3007, e_b3007, hw⟩ := hw
        have f_b3007 := h.2.2.2.rf (c := 12) (k := 50) f_a0 (by decide) (by decide) e_b3007 (t := 14) rfl
        refine kp_get X h f_a0 ff_12_118.l (v := .ref b3007) (congrArg va_rf e_b3007) dX12_keep_40 ?_
        refine lv_iload_n X.1 X.2.1 dX12_keep_43 rfl (lv_at hl 1 rfl) ?_
        refine lv_aload_n X.1 X.2.1 dX12_keep_44 rfl (lv_at hl 0 rfl) ?_
        obtain ⟨b3008, e_b3008, hw⟩ := hw
        have f_b3008 := h.2.2.2.rf (c := 12) (k := 16) f_a0 (by decide) (by decide) e_b3008 (t := 14) rfl
        refine kp_get X h f_a0 ff_12_49.l (v := .ref b3008) (congrArg va_rf e_b3008) dX12_keep_45 ?_
        refine lv_iload_n X.1 X.2.1 dX12_keep_48 rfl (lv_at hl 1 rfl) ?_
        obtain ⟨hi, hw⟩ := hw
        refine kp_iald X h f_b3008 hi dX12_keep_49 ?_
        obtain ⟨hi, hw⟩ := hw
        refine kp_iast X h f_b3007 hi dX12_keep_50 (fun T3009 e_T3009 l_T3009 H locs h => ?_)
        have hw := hw T3009 e_T3009
        have f_a0 := l_T3009.is f_a0
        have f_b3001 := l_T3009.is f_b3001
        have f_b3002 := l_T3009.is f_b3002
        have f_b3004 := l_T3009.is f_b3004
        have f_b3005 := l_T3009.is f_b3005
        have f_b3007 := l_T3009.is f_b3007
        have f_b3008 := l_T3009.is f_b3008
        have hle := hle.tr l_T3009
        have e_b3001 : kp_R T3009 2448 a0 = some b3001 := by rw [e_T3009]; exact e_b3001
        have e_b3002 : kp_R T3009 2414 a0 = some b3002 := by rw [e_T3009]; exact e_b3002
        have e_b3004 : kp_R T3009 2449 a0 = some b3004 := by rw [e_T3009]; exact e_b3004
        have e_b3005 : kp_R T3009 2415 a0 = some b3005 := by rw [e_T3009]; exact e_b3005
        have e_b3007 : kp_R T3009 2450 a0 = some b3007 := by rw [e_T3009]; exact e_b3007
        have e_b3008 : kp_R T3009 2416 a0 = some b3008 := by rw [e_T3009]; exact e_b3008
        obtain ⟨y3010, e_y3010⟩ : ∃ y : Int32, y = xn1 + 1 := ⟨_, rfl⟩
        have hw := hw y3010 e_y3010
        refine lv_iinc (v := y3010) (lv' := [(1, .int y3010), (0, .ref a0)]) X.1 X.2.1 dX12_keep_51 hl (k := 1) rfl (by rw [e_y3010]; rfl) (by decide) rfl (fun ls hl => ?_)
        refine lv_goto (tgt := 7) X.1 X.2.1 dX12_keep_54 (by decide) ?_
        exact ih7 y3010 T3009 H locs ls (lv_sub hl [1, 0] rfl) h hle f_a0 hw
  unfold wX12_keep at hw
  have h : kp_H D cy A S s.heap s.heap [] := h
  revert h
  intro h
  refine lv_aload_n X.1 X.2.1 dX12_keep_0 rfl (lv_at hl 0 rfl) ?_
  refine lv_iconst (v := 1) X.1 X.2.1 dX12_keep_1 (by decide) ?_
  refine kp_putI X h f_a0 fp_12_583 rfl ⟨by decide, by decide⟩ dX12_keep_2 (fun T1 e_T1 l_T1 H locs h => ?_)
  have hw := hw T1 e_T1
  have f_a0 := l_T1.is f_a0
  have hle := hle.tr l_T1
  refine lv_iconst (v := 0) X.1 X.2.1 dX12_keep_5 (by decide) ?_
  refine lv_istore_n (lv' := [(1, .int 0), (0, .ref a0)]) X.1 X.2.1 dX12_keep_6 rfl hl (by decide) rfl (fun ls hl => ?_)
  obtain ⟨n0, hw⟩ := hw
  exact L7 n0 0 T1 _ _ ls (lv_sub hl [1, 0] rfl) h hle f_a0 hw
theorem dX12_fault_0 : decode cX12_fault 0 = .ok (.aload_n 0, 1) := by decide +kernel
theorem dX12_fault_1 : decode cX12_fault 1 = .ok (.iconst 0, 1) := by decide +kernel
theorem dX12_fault_2 : decode cX12_fault 2 = .ok (.putfield 1, 3) := by decide +kernel
theorem dX12_fault_5 : decode cX12_fault 5 = .ok (.iload_n 1, 1) := by decide +kernel
theorem dX12_fault_6 : decode cX12_fault 6 = .ok (.ifCond .ne 10, 3) := by decide +kernel
theorem dX12_fault_9 : decode cX12_fault 9 = .ok (.aload_n 0, 1) := by decide +kernel
theorem dX12_fault_10 : decode cX12_fault 10 = .ok (.getfield 373, 3) := by decide +kernel
theorem dX12_fault_13 : decode cX12_fault 13 = .ok (.goto 16, 3) := by decide +kernel
theorem dX12_fault_16 : decode cX12_fault 16 = .ok (.iload_n 1, 1) := by decide +kernel
theorem dX12_fault_17 : decode cX12_fault 17 = .ok (.iconst 1, 1) := by decide +kernel
theorem dX12_fault_18 : decode cX12_fault 18 = .ok (.if_icmp .ne 10, 3) := by decide +kernel
theorem dX12_fault_21 : decode cX12_fault 21 = .ok (.aload_n 0, 1) := by decide +kernel
theorem dX12_fault_22 : decode cX12_fault 22 = .ok (.getfield 40, 3) := by decide +kernel
theorem dX12_fault_25 : decode cX12_fault 25 = .ok (.goto 4, 3) := by decide +kernel
theorem dX12_fault_28 : decode cX12_fault 28 = .ok (.iconst (-1), 1) := by decide +kernel
theorem dX12_fault_29 : decode cX12_fault 29 = .ok (.ireturn, 1) := by decide +kernel
def wX12_fault_b29 (a0 : Nat) (x1 : Int32) (xt0 : Int32)  (Sn : kp_S) (post : Int32 → kp_S → Prop) : Prop :=
  post xt0 Sn
def wX12_fault (a0 : Nat) (x1 : Int32) (S : kp_S) (post : Int32 → kp_S → Prop) : Prop :=
  ∀ T1 : kp_S, T1 = kp_sI S 2400 a0 0 →
  ((¬ x1 = 0 →
  ((¬ x1 = 1 →
  wX12_fault_b29 a0 x1 (-1)  T1 post) ∧ (x1 = 1 →
  wX12_fault_b29 a0 x1 (kp_I T1 2409 a0)  T1 post))) ∧ (x1 = 0 →
  wX12_fault_b29 a0 x1 (kp_I T1 2408 a0)  T1 post))
set_option maxHeartbeats 4000000 in
set_option maxRecDepth 100000 in
theorem c_X12_fault (l : Launch) (D : va_G) (cy : Nat → ClassId) (ad : (Nat → Nat) × (Nat → Nat)) (S : kp_S) (a0 : Nat) (x1 : Int32) (post : Int32 → kp_S → Prop) (hS : kp_ok S) (f_a0 : kp_is S a0 12) (hw : wX12_fault a0 x1 S post) : kp_M l yX12_fault cX12_fault 2 (some .int) { frames := 0, cells := 0, slots := 0, locals := 0 } D cy ad S [.ref a0, .int x1] 0 0 (fun A => kp_Qi D cy A S post) := by
  refine kp_start (own := RX12) (by decide) rfl (Nat.le_of_ble_eq_true rfl) hS ?_
  intro p e s m below meth c A ls X hr hlocks hname h hl
  have hle : kp_le S S := kp_le.rf
  have hl : lv_has ls 2 [(0, .ref a0), (1, .int x1)] := hl
  have j29 : ∀ (xt0 : Int32) (Sn : kp_S) (H : Heap) (locs : List Loc) (ls : Array Slot), lv_has ls 2 [] → kp_H D cy A Sn s.heap H locs → kp_le S Sn → kp_is Sn a0 12 → wX12_fault_b29 a0 x1 xt0  Sn post → W p l e { frames := 0, cells := 0, slots := 0, locals := 0 } s m ([.ref a0, .int x1] : List Value).toArray below meth c H locs 0 0 (MQ below (kp_Qi D cy A S post) ([.ref a0, .int x1] : List Value).toArray s 0 0 A) (F0 m 29 ls [.int xt0]) := by
    intro xt0 Sn H locs ls hl h hle f_a0 hw
    unfold wX12_fault_b29 at hw
    exact kp_reti X hr hlocks h hle rfl hw dX12_fault_29
  unfold wX12_fault at hw
  have h : kp_H D cy A S s.heap s.heap [] := h
  revert h
  intro h
  refine lv_aload_n X.1 X.2.1 dX12_fault_0 rfl (lv_at hl 0 rfl) ?_
  refine lv_iconst (v := 0) X.1 X.2.1 dX12_fault_1 (by decide) ?_
  refine kp_putI X h f_a0 fp_12_1 rfl ⟨rfl, rfl⟩ dX12_fault_2 (fun T1 e_T1 l_T1 H locs h => ?_)
  have hw := hw T1 e_T1
  have f_a0 := l_T1.is f_a0
  have hle := hle.tr l_T1
  refine lv_iload_n X.1 X.2.1 dX12_fault_5 rfl (lv_at hl 1 rfl) ?_
  refine lv_if_ne (tgt := 16) X.1 X.2.1 dX12_fault_6 (by decide) (fun c3 => ?_) (fun c3 => ?_)
  · have hw := hw.1 c3
    refine lv_iload_n X.1 X.2.1 dX12_fault_16 rfl (lv_at hl 1 rfl) ?_
    refine lv_iconst (v := 1) X.1 X.2.1 dX12_fault_17 (by decide) ?_
    refine lv_icmp_ne (tgt := 28) X.1 X.2.1 dX12_fault_18 (by decide) (fun c2 => ?_) (fun c2 => ?_)
    · have hw := hw.1 c2
      refine lv_iconst (v := (-1)) X.1 X.2.1 dX12_fault_28 (by decide) ?_
      exact j29 (-1) T1 _ _ ls (lv_sub hl [] rfl) h hle f_a0 hw
    · have hw := hw.2 c2
      refine lv_aload_n X.1 X.2.1 dX12_fault_21 rfl (lv_at hl 0 rfl) ?_
      refine kp_get X h f_a0 fp_12_40.l (v := .int (kp_I T1 2409 a0)) rfl dX12_fault_22 ?_
      refine lv_goto (tgt := 29) X.1 X.2.1 dX12_fault_25 (by decide) ?_
      exact j29 (kp_I T1 2409 a0) T1 _ _ ls (lv_sub hl [] rfl) h hle f_a0 hw
  · have hw := hw.2 c3
    refine lv_aload_n X.1 X.2.1 dX12_fault_9 rfl (lv_at hl 0 rfl) ?_
    refine kp_get X h f_a0 fp_12_373.l (v := .int (kp_I T1 2408 a0)) rfl dX12_fault_10 ?_
    refine lv_goto (tgt := 29) X.1 X.2.1 dX12_fault_13 (by decide) ?_
    exact j29 (kp_I T1 2408 a0) T1 _ _ ls (lv_sub hl [] rfl) h hle f_a0 hw
theorem dX12_duty__0 : decode cX12_duty_ 0 = .ok (.aload_n 0, 1) := by decide +kernel
theorem dX12_duty__1 : decode cX12_duty_ 1 = .ok (.iconst 0, 1) := by decide +kernel
theorem dX12_duty__2 : decode cX12_duty_ 2 = .ok (.putfield 1, 3) := by decide +kernel
theorem dX12_duty__5 : decode cX12_duty_ 5 = .ok (.aload_n 0, 1) := by decide +kernel
theorem dX12_duty__6 : decode cX12_duty_ 6 = .ok (.getfield 583, 3) := by decide +kernel
theorem dX12_duty__9 : decode cX12_duty_ 9 = .ok (.ifCond .ne 5, 3) := by decide +kernel
theorem dX12_duty__12 : decode cX12_duty_ 12 = .ok (.iconst (-1), 1) := by decide +kernel
theorem dX12_duty__13 : decode cX12_duty_ 13 = .ok (.ireturn, 1) := by decide +kernel
theorem dX12_duty__14 : decode cX12_duty_ 14 = .ok (.iload_n 1, 1) := by decide +kernel
theorem dX12_duty__15 : decode cX12_duty_ 15 = .ok (.iconst (-1), 1) := by decide +kernel
theorem dX12_duty__16 : decode cX12_duty_ 16 = .ok (.if_icmp .ne 16, 3) := by decide +kernel
theorem dX12_duty__19 : decode cX12_duty_ 19 = .ok (.iload_n 2, 1) := by decide +kernel
theorem dX12_duty__20 : decode cX12_duty_ 20 = .ok (.ifCond .ne 10, 3) := by decide +kernel
theorem dX12_duty__23 : decode cX12_duty_ 23 = .ok (.aload_n 0, 1) := by decide +kernel
theorem dX12_duty__24 : decode cX12_duty_ 24 = .ok (.getfield 586, 3) := by decide +kernel
theorem dX12_duty__27 : decode cX12_duty_ 27 = .ok (.goto 4, 3) := by decide +kernel
theorem dX12_duty__30 : decode cX12_duty_ 30 = .ok (.iconst (-1), 1) := by decide +kernel
theorem dX12_duty__31 : decode cX12_duty_ 31 = .ok (.ireturn, 1) := by decide +kernel
theorem dX12_duty__32 : decode cX12_duty_ 32 = .ok (.iload_n 1, 1) := by decide +kernel
theorem dX12_duty__33 : decode cX12_duty_ 33 = .ok (.ifCond .lt 11, 3) := by decide +kernel
theorem dX12_duty__36 : decode cX12_duty_ 36 = .ok (.iload_n 1, 1) := by decide +kernel
theorem dX12_duty__37 : decode cX12_duty_ 37 = .ok (.aload_n 0, 1) := by decide +kernel
theorem dX12_duty__38 : decode cX12_duty_ 38 = .ok (.getfield 586, 3) := by decide +kernel
theorem dX12_duty__41 : decode cX12_duty_ 41 = .ok (.if_icmp .lt 5, 3) := by decide +kernel
theorem dX12_duty__44 : decode cX12_duty_ 44 = .ok (.iconst (-1), 1) := by decide +kernel
theorem dX12_duty__45 : decode cX12_duty_ 45 = .ok (.ireturn, 1) := by decide +kernel
theorem dX12_duty__46 : decode cX12_duty_ 46 = .ok (.iload_n 2, 1) := by decide +kernel
theorem dX12_duty__47 : decode cX12_duty_ 47 = .ok (.ifCond .ne 12, 3) := by decide +kernel
theorem dX12_duty__50 : decode cX12_duty_ 50 = .ok (.aload_n 0, 1) := by decide +kernel
theorem dX12_duty__51 : decode cX12_duty_ 51 = .ok (.getfield 142, 3) := by decide +kernel
theorem dX12_duty__54 : decode cX12_duty_ 54 = .ok (.iload_n 1, 1) := by decide +kernel
theorem dX12_duty__55 : decode cX12_duty_ 55 = .ok (.iaload, 1) := by decide +kernel
theorem dX12_duty__56 : decode cX12_duty_ 56 = .ok (.goto 46, 3) := by decide +kernel
theorem dX12_duty__59 : decode cX12_duty_ 59 = .ok (.iload_n 2, 1) := by decide +kernel
theorem dX12_duty__60 : decode cX12_duty_ 60 = .ok (.iconst 1, 1) := by decide +kernel
theorem dX12_duty__61 : decode cX12_duty_ 61 = .ok (.if_icmp .ne 12, 3) := by decide +kernel
theorem dX12_duty__64 : decode cX12_duty_ 64 = .ok (.aload_n 0, 1) := by decide +kernel
theorem dX12_duty__65 : decode cX12_duty_ 65 = .ok (.getfield 145, 3) := by decide +kernel
theorem dX12_duty__68 : decode cX12_duty_ 68 = .ok (.iload_n 1, 1) := by decide +kernel
theorem dX12_duty__69 : decode cX12_duty_ 69 = .ok (.iaload, 1) := by decide +kernel
theorem dX12_duty__70 : decode cX12_duty_ 70 = .ok (.goto 32, 3) := by decide +kernel
theorem dX12_duty__73 : decode cX12_duty_ 73 = .ok (.iload_n 2, 1) := by decide +kernel
theorem dX12_duty__74 : decode cX12_duty_ 74 = .ok (.iconst 2, 1) := by decide +kernel
theorem dX12_duty__75 : decode cX12_duty_ 75 = .ok (.if_icmp .ne 12, 3) := by decide +kernel
theorem dX12_duty__78 : decode cX12_duty_ 78 = .ok (.aload_n 0, 1) := by decide +kernel
theorem dX12_duty__79 : decode cX12_duty_ 79 = .ok (.getfield 148, 3) := by decide +kernel
theorem dX12_duty__82 : decode cX12_duty_ 82 = .ok (.iload_n 1, 1) := by decide +kernel
theorem dX12_duty__83 : decode cX12_duty_ 83 = .ok (.iaload, 1) := by decide +kernel
theorem dX12_duty__84 : decode cX12_duty_ 84 = .ok (.goto 18, 3) := by decide +kernel
theorem dX12_duty__87 : decode cX12_duty_ 87 = .ok (.iload_n 2, 1) := by decide +kernel
theorem dX12_duty__88 : decode cX12_duty_ 88 = .ok (.iconst 3, 1) := by decide +kernel
theorem dX12_duty__89 : decode cX12_duty_ 89 = .ok (.if_icmp .ne 12, 3) := by decide +kernel
theorem dX12_duty__92 : decode cX12_duty_ 92 = .ok (.aload_n 0, 1) := by decide +kernel
theorem dX12_duty__93 : decode cX12_duty_ 93 = .ok (.getfield 151, 3) := by decide +kernel
theorem dX12_duty__96 : decode cX12_duty_ 96 = .ok (.iload_n 1, 1) := by decide +kernel
theorem dX12_duty__97 : decode cX12_duty_ 97 = .ok (.iaload, 1) := by decide +kernel
theorem dX12_duty__98 : decode cX12_duty_ 98 = .ok (.goto 4, 3) := by decide +kernel
theorem dX12_duty__101 : decode cX12_duty_ 101 = .ok (.iconst (-1), 1) := by decide +kernel
theorem dX12_duty__102 : decode cX12_duty_ 102 = .ok (.ireturn, 1) := by decide +kernel
def wX12_duty__b44 (a0 : Nat) (x1 : Int32) (x2 : Int32)  (Sn : kp_S) (post : Int32 → kp_S → Prop) : Prop :=
  post (-1) Sn
def wX12_duty__b102 (a0 : Nat) (x1 : Int32) (x2 : Int32) (xt0 : Int32)  (Sn : kp_S) (post : Int32 → kp_S → Prop) : Prop :=
  post xt0 Sn
def wX12_duty__b31 (a0 : Nat) (x1 : Int32) (x2 : Int32) (xt0 : Int32)  (Sn : kp_S) (post : Int32 → kp_S → Prop) : Prop :=
  post xt0 Sn
def wX12_duty_ (a0 : Nat) (x1 : Int32) (x2 : Int32) (S : kp_S) (post : Int32 → kp_S → Prop) : Prop :=
  ∀ T1 : kp_S, T1 = kp_sI S 2400 a0 0 →
  ((¬ (kp_I T1 2447 a0) = 0 →
  ((¬ x1 = (-1) →
  ((x1 < 0 →
  wX12_duty__b44 a0 x1 x2   T1 post) ∧ (¬ x1 < 0 →
  ((x1 < (kp_I T1 2462 a0) →
  ((¬ x2 = 0 →
  ((¬ x2 = 1 →
  ((¬ x2 = 2 →
  ((¬ x2 = 3 →
  wX12_duty__b102 a0 x1 x2 (-1)  T1 post) ∧ (x2 = 3 →
  ∃ b2 : Nat, kp_R T1 2461 a0 = some b2 ∧
  vp_in x1 (kp_N T1 b2) ∧
  wX12_duty__b102 a0 x1 x2 (kp_A T1 b2 x1.toNatClampNeg)  T1 post))) ∧ (x2 = 2 →
  ∃ b4 : Nat, kp_R T1 2460 a0 = some b4 ∧
  vp_in x1 (kp_N T1 b4) ∧
  wX12_duty__b102 a0 x1 x2 (kp_A T1 b4 x1.toNatClampNeg)  T1 post))) ∧ (x2 = 1 →
  ∃ b6 : Nat, kp_R T1 2459 a0 = some b6 ∧
  vp_in x1 (kp_N T1 b6) ∧
  wX12_duty__b102 a0 x1 x2 (kp_A T1 b6 x1.toNatClampNeg)  T1 post))) ∧ (x2 = 0 →
  ∃ b8 : Nat, kp_R T1 2458 a0 = some b8 ∧
  vp_in x1 (kp_N T1 b8) ∧
  wX12_duty__b102 a0 x1 x2 (kp_A T1 b8 x1.toNatClampNeg)  T1 post))) ∧ (¬ x1 < (kp_I T1 2462 a0) →
  wX12_duty__b44 a0 x1 x2   T1 post))))) ∧ (x1 = (-1) →
  ((¬ x2 = 0 →
  wX12_duty__b31 a0 x1 x2 (-1)  T1 post) ∧ (x2 = 0 →
  wX12_duty__b31 a0 x1 x2 (kp_I T1 2462 a0)  T1 post))))) ∧ ((kp_I T1 2447 a0) = 0 →
  post (-1) T1))
set_option maxHeartbeats 4000000 in
set_option maxRecDepth 100000 in
theorem c_X12_duty_ (l : Launch) (D : va_G) (cy : Nat → ClassId) (ad : (Nat → Nat) × (Nat → Nat)) (S : kp_S) (a0 : Nat) (x1 : Int32) (x2 : Int32) (post : Int32 → kp_S → Prop) (hS : kp_ok S) (f_a0 : kp_is S a0 12) (hw : wX12_duty_ a0 x1 x2 S post) : kp_M l yX12_duty_ cX12_duty_ 3 (some .int) { frames := 0, cells := 0, slots := 0, locals := 0 } D cy ad S [.ref a0, .int x1, .int x2] 0 0 (fun A => kp_Qi D cy A S post) := by
  refine kp_start (own := RX12) (by decide) rfl (Nat.le_of_ble_eq_true rfl) hS ?_
  intro p e s m below meth c A ls X hr hlocks hname h hl
  have hle : kp_le S S := kp_le.rf
  have hl : lv_has ls 3 [(0, .ref a0), (1, .int x1), (2, .int x2)] := hl
  have j44 : ∀  (Sn : kp_S) (H : Heap) (locs : List Loc) (ls : Array Slot), lv_has ls 3 [] → kp_H D cy A Sn s.heap H locs → kp_le S Sn → kp_is Sn a0 12 → wX12_duty__b44 a0 x1 x2   Sn post → W p l e { frames := 0, cells := 0, slots := 0, locals := 0 } s m ([.ref a0, .int x1, .int x2] : List Value).toArray below meth c H locs 0 0 (MQ below (kp_Qi D cy A S post) ([.ref a0, .int x1, .int x2] : List Value).toArray s 0 0 A) (F0 m 44 ls []) := by
    intro  Sn H locs ls hl h hle f_a0 hw
    unfold wX12_duty__b44 at hw
    refine lv_iconst (v := (-1)) X.1 X.2.1 dX12_duty__44 (by decide) ?_
    exact kp_reti X hr hlocks h hle rfl hw dX12_duty__45
  have j102 : ∀ (xt0 : Int32) (Sn : kp_S) (H : Heap) (locs : List Loc) (ls : Array Slot), lv_has ls 3 [] → kp_H D cy A Sn s.heap H locs → kp_le S Sn → kp_is Sn a0 12 → wX12_duty__b102 a0 x1 x2 xt0  Sn post → W p l e { frames := 0, cells := 0, slots := 0, locals := 0 } s m ([.ref a0, .int x1, .int x2] : List Value).toArray below meth c H locs 0 0 (MQ below (kp_Qi D cy A S post) ([.ref a0, .int x1, .int x2] : List Value).toArray s 0 0 A) (F0 m 102 ls [.int xt0]) := by
    intro xt0 Sn H locs ls hl h hle f_a0 hw
    unfold wX12_duty__b102 at hw
    exact kp_reti X hr hlocks h hle rfl hw dX12_duty__102
  have j31 : ∀ (xt0 : Int32) (Sn : kp_S) (H : Heap) (locs : List Loc) (ls : Array Slot), lv_has ls 3 [] → kp_H D cy A Sn s.heap H locs → kp_le S Sn → kp_is Sn a0 12 → wX12_duty__b31 a0 x1 x2 xt0  Sn post → W p l e { frames := 0, cells := 0, slots := 0, locals := 0 } s m ([.ref a0, .int x1, .int x2] : List Value).toArray below meth c H locs 0 0 (MQ below (kp_Qi D cy A S post) ([.ref a0, .int x1, .int x2] : List Value).toArray s 0 0 A) (F0 m 31 ls [.int xt0]) := by
    intro xt0 Sn H locs ls hl h hle f_a0 hw
    unfold wX12_duty__b31 at hw
    exact kp_reti X hr hlocks h hle rfl hw dX12_duty__31
  unfold wX12_duty_ at hw
  have h : kp_H D cy A S s.heap s.heap [] := h
  revert h
  intro h
  refine lv_aload_n X.1 X.2.1 dX12_duty__0 rfl (lv_at hl 0 rfl) ?_
  refine lv_iconst (v := 0) X.1 X.2.1 dX12_duty__1 (by decide) ?_
  refine kp_putI X h f_a0 fp_12_1 rfl ⟨rfl, rfl⟩ dX12_duty__2 (fun T1 e_T1 l_T1 H locs h => ?_)
  have hw := hw T1 e_T1
  have f_a0 := l_T1.is f_a0
  have hle := hle.tr l_T1
  refine lv_aload_n X.1 X.2.1 dX12_duty__5 rfl (lv_at hl 0 rfl) ?_
  refine kp_get X h f_a0 fp_12_583.l (v := .int (kp_I T1 2447 a0)) rfl dX12_duty__6 ?_
  refine lv_if_ne (tgt := 14) X.1 X.2.1 dX12_duty__9 (by decide) (fun c14 => ?_) (fun c14 => ?_)
  · have hw := hw.1 c14
    refine lv_iload_n X.1 X.2.1 dX12_duty__14 rfl (lv_at hl 1 rfl) ?_
    refine lv_iconst (v := (-1)) X.1 X.2.1 dX12_duty__15 (by decide) ?_
    refine lv_icmp_ne (tgt := 32) X.1 X.2.1 dX12_duty__16 (by decide) (fun c13 => ?_) (fun c13 => ?_)
    · have hw := hw.1 c13
      refine lv_iload_n X.1 X.2.1 dX12_duty__32 rfl (lv_at hl 1 rfl) ?_
      refine lv_if_lt (tgt := 44) X.1 X.2.1 dX12_duty__33 (by decide) (fun c11 => ?_) (fun c11 => ?_)
      · have hw := hw.1 c11
        exact j44  T1 _ _ ls (lv_sub hl [] rfl) h hle f_a0 hw
      · have hw := hw.2 c11
        refine lv_iload_n X.1 X.2.1 dX12_duty__36 rfl (lv_at hl 1 rfl) ?_
        refine lv_aload_n X.1 X.2.1 dX12_duty__37 rfl (lv_at hl 0 rfl) ?_
        refine kp_get X h f_a0 fp_12_586.l (v := .int (kp_I T1 2462 a0)) rfl dX12_duty__38 ?_
        refine lv_icmp_lt (tgt := 46) X.1 X.2.1 dX12_duty__41 (by decide) (fun c10 => ?_) (fun c10 => ?_)
        · have hw := hw.1 c10
          refine lv_iload_n X.1 X.2.1 dX12_duty__46 rfl (lv_at hl 2 rfl) ?_
          refine lv_if_ne (tgt := 59) X.1 X.2.1 dX12_duty__47 (by decide) (fun c9 => ?_) (fun c9 => ?_)
          · have hw := hw.1 c9
            refine lv_iload_n X.1 X.2.1 dX12_duty__59 rfl (lv_at hl 2 rfl) ?_
            refine lv_iconst (v := 1) X.1 X.2.1 dX12_duty__60 (by decide) ?_
            refine lv_icmp_ne (tgt := 73) X.1 X.2.1 dX12_duty__61 (by decide) (fun c7 => ?_) (fun c7 => ?_)
            · have hw := hw.1 c7
              refine lv_iload_n X.1 X.2.1 dX12_duty__73 rfl (lv_at hl 2 rfl) ?_
              refine lv_iconst (v := 2) X.1 X.2.1 dX12_duty__74 (by decide) ?_
              refine lv_icmp_ne (tgt := 87) X.1 X.2.1 dX12_duty__75 (by decide) (fun c5 => ?_) (fun c5 => ?_)
              · have hw := hw.1 c5
                refine lv_iload_n X.1 X.2.1 dX12_duty__87 rfl (lv_at hl 2 rfl) ?_
                refine lv_iconst (v := 3) X.1 X.2.1 dX12_duty__88 (by decide) ?_
                refine lv_icmp_ne (tgt := 101) X.1 X.2.1 dX12_duty__89 (by decide) (fun c3 => ?_) (fun c3 => ?_)
                · have hw := hw.1 c3
                  refine lv_iconst (v := (-1)) X.1 X.2.1 dX12_duty__101 (by decide) ?_
                  exact j102 (-1) T1 _ _ ls (lv_sub hl [] rfl) h hle f_a0 hw
                · have hw := hw.2 c3
                  refine lv_aload_n X.1 X.2.1 dX12_duty__92 rfl (lv_at hl 0 rfl) ?_
                  obtain ⟨b2, e_b2, hw⟩ := hw
                  have f_b2 := h.2.2.2.rf (c := 12) (k := 61) f_a0 (by decide) (by decide) e_b2 (t := 14) rfl
                  refine kp_get X h f_a0 ff_12_151.l (v := .ref b2) (congrArg va_rf e_b2) dX12_duty__93 ?_
                  refine lv_iload_n X.1 X.2.1 dX12_duty__96 rfl (lv_at hl 1 rfl) ?_
                  obtain ⟨hi, hw⟩ := hw
                  refine kp_iald X h f_b2 hi dX12_duty__97 ?_
                  refine lv_goto (tgt := 102) X.1 X.2.1 dX12_duty__98 (by decide) ?_
                  exact j102 (kp_A T1 b2 x1.toNatClampNeg) T1 _ _ ls (lv_sub hl [] rfl) h hle f_a0 hw
              · have hw := hw.2 c5
                refine lv_aload_n X.1 X.2.1 dX12_duty__78 rfl (lv_at hl 0 rfl) ?_
                obtain ⟨b4, e_b4, hw⟩ := hw
                have f_b4 := h.2.2.2.rf (c := 12) (k := 60) f_a0 (by decide) (by decide) e_b4 (t := 14) rfl
                refine kp_get X h f_a0 ff_12_148.l (v := .ref b4) (congrArg va_rf e_b4) dX12_duty__79 ?_
                refine lv_iload_n X.1 X.2.1 dX12_duty__82 rfl (lv_at hl 1 rfl) ?_
                obtain ⟨hi, hw⟩ := hw
                refine kp_iald X h f_b4 hi dX12_duty__83 ?_
                refine lv_goto (tgt := 102) X.1 X.2.1 dX12_duty__84 (by decide) ?_
                exact j102 (kp_A T1 b4 x1.toNatClampNeg) T1 _ _ ls (lv_sub hl [] rfl) h hle f_a0 hw
            · have hw := hw.2 c7
              refine lv_aload_n X.1 X.2.1 dX12_duty__64 rfl (lv_at hl 0 rfl) ?_
              obtain ⟨b6, e_b6, hw⟩ := hw
              have f_b6 := h.2.2.2.rf (c := 12) (k := 59) f_a0 (by decide) (by decide) e_b6 (t := 14) rfl
              refine kp_get X h f_a0 ff_12_145.l (v := .ref b6) (congrArg va_rf e_b6) dX12_duty__65 ?_
              refine lv_iload_n X.1 X.2.1 dX12_duty__68 rfl (lv_at hl 1 rfl) ?_
              obtain ⟨hi, hw⟩ := hw
              refine kp_iald X h f_b6 hi dX12_duty__69 ?_
              refine lv_goto (tgt := 102) X.1 X.2.1 dX12_duty__70 (by decide) ?_
              exact j102 (kp_A T1 b6 x1.toNatClampNeg) T1 _ _ ls (lv_sub hl [] rfl) h hle f_a0 hw
          · have hw := hw.2 c9
            refine lv_aload_n X.1 X.2.1 dX12_duty__50 rfl (lv_at hl 0 rfl) ?_
            obtain ⟨b8, e_b8, hw⟩ := hw
            have f_b8 := h.2.2.2.rf (c := 12) (k := 58) f_a0 (by decide) (by decide) e_b8 (t := 14) rfl
            refine kp_get X h f_a0 ff_12_142.l (v := .ref b8) (congrArg va_rf e_b8) dX12_duty__51 ?_
            refine lv_iload_n X.1 X.2.1 dX12_duty__54 rfl (lv_at hl 1 rfl) ?_
            obtain ⟨hi, hw⟩ := hw
            refine kp_iald X h f_b8 hi dX12_duty__55 ?_
            refine lv_goto (tgt := 102) X.1 X.2.1 dX12_duty__56 (by decide) ?_
            exact j102 (kp_A T1 b8 x1.toNatClampNeg) T1 _ _ ls (lv_sub hl [] rfl) h hle f_a0 hw
        · have hw := hw.2 c10
          exact j44  T1 _ _ ls (lv_sub hl [] rfl) h hle f_a0 hw
    · have hw := hw.2 c13
      refine lv_iload_n X.1 X.2.1 dX12_duty__19 rfl (lv_at hl 2 rfl) ?_
      refine lv_if_ne (tgt := 30) X.1 X.2.1 dX12_duty__20 (by decide) (fun c12 => ?_) (fun c12 => ?_)
      · have hw := hw.1 c12
        refine lv_iconst (v := (-1)) X.1 X.2.1 dX12_duty__30 (by decide) ?_
        exact j31 (-1) T1 _ _ ls (lv_sub hl [] rfl) h hle f_a0 hw
      · have hw := hw.2 c12
        refine lv_aload_n X.1 X.2.1 dX12_duty__23 rfl (lv_at hl 0 rfl) ?_
        refine kp_get X h f_a0 fp_12_586.l (v := .int (kp_I T1 2462 a0)) rfl dX12_duty__24 ?_
        refine lv_goto (tgt := 31) X.1 X.2.1 dX12_duty__27 (by decide) ?_
        exact j31 (kp_I T1 2462 a0) T1 _ _ ls (lv_sub hl [] rfl) h hle f_a0 hw
  · have hw := hw.2 c14
    refine lv_iconst (v := (-1)) X.1 X.2.1 dX12_duty__12 (by decide) ?_
    exact kp_reti X hr hlocks h hle rfl hw dX12_duty__13
theorem dX12_in_0 : decode cX12_in 0 = .ok (.iload_n 0, 1) := by decide +kernel
theorem dX12_in_1 : decode cX12_in 1 = .ok (.iload_n 1, 1) := by decide +kernel
theorem dX12_in_2 : decode cX12_in 2 = .ok (.if_icmp .lt 12, 3) := by decide +kernel
theorem dX12_in_5 : decode cX12_in 5 = .ok (.iload_n 0, 1) := by decide +kernel
theorem dX12_in_6 : decode cX12_in 6 = .ok (.iload_n 2, 1) := by decide +kernel
theorem dX12_in_7 : decode cX12_in 7 = .ok (.if_icmp .gt 7, 3) := by decide +kernel
theorem dX12_in_10 : decode cX12_in 10 = .ok (.iconst 1, 1) := by decide +kernel
theorem dX12_in_11 : decode cX12_in 11 = .ok (.goto 4, 3) := by decide +kernel
theorem dX12_in_14 : decode cX12_in 14 = .ok (.iconst 0, 1) := by decide +kernel
theorem dX12_in_15 : decode cX12_in 15 = .ok (.ireturn, 1) := by decide +kernel
def wX12_in_b15 (x0 : Int32) (x1 : Int32) (x2 : Int32) (xt0 : Int32)  (Sn : kp_S) (post : Int32 → kp_S → Prop) : Prop :=
  kp_b xt0 ∧ post xt0 Sn
def wX12_in_b14 (x0 : Int32) (x1 : Int32) (x2 : Int32)  (Sn : kp_S) (post : Int32 → kp_S → Prop) : Prop :=
  wX12_in_b15 x0 x1 x2 0  Sn post
def wX12_in (x0 : Int32) (x1 : Int32) (x2 : Int32) (S : kp_S) (post : Int32 → kp_S → Prop) : Prop :=
  ((x0 < x1 →
  wX12_in_b14 x0 x1 x2   S post) ∧ (¬ x0 < x1 →
  ((x2 < x0 →
  wX12_in_b14 x0 x1 x2   S post) ∧ (¬ x2 < x0 →
  wX12_in_b15 x0 x1 x2 1  S post))))
set_option maxHeartbeats 4000000 in
set_option maxRecDepth 100000 in
theorem c_X12_in (l : Launch) (D : va_G) (cy : Nat → ClassId) (ad : (Nat → Nat) × (Nat → Nat)) (S : kp_S) (x0 : Int32) (x1 : Int32) (x2 : Int32) (post : Int32 → kp_S → Prop) (hS : kp_ok S)  (hw : wX12_in x0 x1 x2 S post) : kp_M l yX12_in cX12_in 3 (some .boolean) { frames := 0, cells := 0, slots := 0, locals := 0 } D cy ad S [.int x0, .int x1, .int x2] 0 0 (fun A => kp_Qi D cy A S post) := by
  refine kp_start (own := RX12) (by decide) rfl (Nat.le_of_ble_eq_true rfl) hS ?_
  intro p e s m below meth c A ls X hr hlocks hname h hl
  have hle : kp_le S S := kp_le.rf
  have hl : lv_has ls 3 [(0, .int x0), (1, .int x1), (2, .int x2)] := hl
  have j15 : ∀ (xt0 : Int32) (Sn : kp_S) (H : Heap) (locs : List Loc) (ls : Array Slot), lv_has ls 3 [] → kp_H D cy A Sn s.heap H locs → kp_le S Sn → wX12_in_b15 x0 x1 x2 xt0  Sn post → W p l e { frames := 0, cells := 0, slots := 0, locals := 0 } s m ([.int x0, .int x1, .int x2] : List Value).toArray below meth c H locs 0 0 (MQ below (kp_Qi D cy A S post) ([.int x0, .int x1, .int x2] : List Value).toArray s 0 0 A) (F0 m 15 ls [.int xt0]) := by
    intro xt0 Sn H locs ls hl h hle  hw
    unfold wX12_in_b15 at hw
    exact kp_reti X hr hlocks h hle (kp_bz hw.1).1 hw.2 dX12_in_15
  have j14 : ∀  (Sn : kp_S) (H : Heap) (locs : List Loc) (ls : Array Slot), lv_has ls 3 [] → kp_H D cy A Sn s.heap H locs → kp_le S Sn → wX12_in_b14 x0 x1 x2   Sn post → W p l e { frames := 0, cells := 0, slots := 0, locals := 0 } s m ([.int x0, .int x1, .int x2] : List Value).toArray below meth c H locs 0 0 (MQ below (kp_Qi D cy A S post) ([.int x0, .int x1, .int x2] : List Value).toArray s 0 0 A) (F0 m 14 ls []) := by
    intro  Sn H locs ls hl h hle  hw
    unfold wX12_in_b14 at hw
    refine lv_iconst (v := 0) X.1 X.2.1 dX12_in_14 (by decide) ?_
    exact j15 0 Sn H locs ls (lv_sub hl [] rfl) h hle  hw
  unfold wX12_in at hw
  have h : kp_H D cy A S s.heap s.heap [] := h
  revert h
  intro h
  refine lv_iload_n X.1 X.2.1 dX12_in_0 rfl (lv_at hl 0 rfl) ?_
  refine lv_iload_n X.1 X.2.1 dX12_in_1 rfl (lv_at hl 1 rfl) ?_
  refine lv_icmp_lt (tgt := 14) X.1 X.2.1 dX12_in_2 (by decide) (fun c2 => ?_) (fun c2 => ?_)
  · have hw := hw.1 c2
    exact j14  S _ _ ls (lv_sub hl [] rfl) h hle  hw
  · have hw := hw.2 c2
    refine lv_iload_n X.1 X.2.1 dX12_in_5 rfl (lv_at hl 0 rfl) ?_
    refine lv_iload_n X.1 X.2.1 dX12_in_6 rfl (lv_at hl 2 rfl) ?_
    refine lv_icmp_gt (tgt := 14) X.1 X.2.1 dX12_in_7 (by decide) (fun c1 => ?_) (fun c1 => ?_)
    · have hw := hw.1 c1
      exact j14  S _ _ ls (lv_sub hl [] rfl) h hle  hw
    · have hw := hw.2 c1
      refine lv_iconst (v := 1) X.1 X.2.1 dX12_in_10 (by decide) ?_
      refine lv_goto (tgt := 15) X.1 X.2.1 dX12_in_11 (by decide) ?_
      exact j15 1 S _ _ ls (lv_sub hl [] rfl) h hle  hw
theorem dX12_fill_0 : decode cX12_fill 0 = .ok (.aload_n 0, 1) := by decide +kernel
theorem dX12_fill_1 : decode cX12_fill 1 = .ok (.iconst 0, 1) := by decide +kernel
theorem dX12_fill_2 : decode cX12_fill 2 = .ok (.putfield 1, 3) := by decide +kernel
theorem dX12_fill_5 : decode cX12_fill 5 = .ok (.iload_n 1, 1) := by decide +kernel
theorem dX12_fill_6 : decode cX12_fill 6 = .ok (.iconst 0, 1) := by decide +kernel
theorem dX12_fill_7 : decode cX12_fill 7 = .ok (.bipush 6, 2) := by decide +kernel
theorem dX12_fill_9 : decode cX12_fill 9 = .ok (.invokestatic 589, 3) := by decide +kernel
theorem dX12_fill_12 : decode cX12_fill 12 = .ok (.ifCond .eq 14, 3) := by decide +kernel
theorem dX12_fill_15 : decode cX12_fill 15 = .ok (.iload_n 2, 1) := by decide +kernel
theorem dX12_fill_16 : decode cX12_fill 16 = .ok (.iconst 0, 1) := by decide +kernel
theorem dX12_fill_17 : decode cX12_fill 17 = .ok (.ldc_w 593, 3) := by decide +kernel
theorem dX12_fill_20 : decode cX12_fill 20 = .ok (.invokestatic 589, 3) := by decide +kernel
theorem dX12_fill_23 : decode cX12_fill 23 = .ok (.ifCond .ne 5, 3) := by decide +kernel
theorem dX12_fill_26 : decode cX12_fill 26 = .ok (.iconst 0, 1) := by decide +kernel
theorem dX12_fill_27 : decode cX12_fill 27 = .ok (.ireturn, 1) := by decide +kernel
theorem dX12_fill_28 : decode cX12_fill 28 = .ok (.aload_n 0, 1) := by decide +kernel
theorem dX12_fill_29 : decode cX12_fill 29 = .ok (.getfield 164, 3) := by decide +kernel
theorem dX12_fill_32 : decode cX12_fill 32 = .ok (.iload_n 1, 1) := by decide +kernel
theorem dX12_fill_33 : decode cX12_fill 33 = .ok (.iload_n 2, 1) := by decide +kernel
theorem dX12_fill_34 : decode cX12_fill 34 = .ok (.iastore, 1) := by decide +kernel
theorem dX12_fill_35 : decode cX12_fill 35 = .ok (.iconst 1, 1) := by decide +kernel
theorem dX12_fill_36 : decode cX12_fill 36 = .ok (.ireturn, 1) := by decide +kernel
def wX12_fill_b26 (a0 : Nat) (x1 : Int32) (x2 : Int32)  (Sn : kp_S) (post : Int32 → kp_S → Prop) : Prop :=
  post 0 Sn
def wX12_fill (a0 : Nat) (x1 : Int32) (x2 : Int32) (S : kp_S) (post : Int32 → kp_S → Prop) : Prop :=
  ∀ T1 : kp_S, T1 = kp_sI S 2400 a0 0 →
  wX12_in x1 0 6 T1 (fun y3 T2 =>
  ((y3 = 0 →
  wX12_fill_b26 a0 x1 x2   T2 post) ∧ (¬ y3 = 0 →
  wX12_in x2 0 100000 T2 (fun y5 T4 =>
  ((¬ y5 = 0 →
  ∃ b6 : Nat, kp_R T4 2466 a0 = some b6 ∧
  vp_in x1 (kp_N T4 b6) ∧ ∀ T7 : kp_S, T7 = kp_sA T4 b6 (upd (kp_A T4 b6) (x1.toNatClampNeg) x2) →
  post 1 T7) ∧ (y5 = 0 →
  wX12_fill_b26 a0 x1 x2   T4 post))))))
set_option maxHeartbeats 4000000 in
set_option maxRecDepth 100000 in
theorem c_X12_fill (l : Launch) (D : va_G) (cy : Nat → ClassId) (ad : (Nat → Nat) × (Nat → Nat)) (S : kp_S) (a0 : Nat) (x1 : Int32) (x2 : Int32) (post : Int32 → kp_S → Prop) (hS : kp_ok S) (f_a0 : kp_is S a0 12) (hw : wX12_fill a0 x1 x2 S post) : kp_M l yX12_fill cX12_fill 3 (some .boolean) { frames := 1, cells := 0, slots := 0, locals := 22 } D cy ad S [.ref a0, .int x1, .int x2] 0 0 (fun A => kp_Qi D cy A S post) := by
  refine kp_start (own := RX12) (by decide) rfl (Nat.le_of_ble_eq_true rfl) hS ?_
  intro p e s m below meth c A ls X hr hlocks hname h hl
  have hle : kp_le S S := kp_le.rf
  have hl : lv_has ls 3 [(0, .ref a0), (1, .int x1), (2, .int x2)] := hl
  have j26 : ∀  (Sn : kp_S) (H : Heap) (locs : List Loc) (ls : Array Slot), lv_has ls 3 [] → kp_H D cy A Sn s.heap H locs → kp_le S Sn → kp_is Sn a0 12 → wX12_fill_b26 a0 x1 x2   Sn post → W p l e { frames := 1, cells := 0, slots := 0, locals := 22 } s m ([.ref a0, .int x1, .int x2] : List Value).toArray below meth c H locs 0 0 (MQ below (kp_Qi D cy A S post) ([.ref a0, .int x1, .int x2] : List Value).toArray s 0 0 A) (F0 m 26 ls []) := by
    intro  Sn H locs ls hl h hle f_a0 hw
    unfold wX12_fill_b26 at hw
    refine lv_iconst (v := 0) X.1 X.2.1 dX12_fill_26 (by decide) ?_
    exact kp_reti X hr hlocks h hle (by decide) hw dX12_fill_27
  unfold wX12_fill at hw
  have h : kp_H D cy A S s.heap s.heap [] := h
  revert h
  intro h
  refine lv_aload_n X.1 X.2.1 dX12_fill_0 rfl (lv_at hl 0 rfl) ?_
  refine lv_iconst (v := 0) X.1 X.2.1 dX12_fill_1 (by decide) ?_
  refine kp_putI X h f_a0 fp_12_1 rfl ⟨rfl, rfl⟩ dX12_fill_2 (fun T1 e_T1 l_T1 H locs h => ?_)
  have hw := hw T1 e_T1
  have f_a0 := l_T1.is f_a0
  have hle := hle.tr l_T1
  refine lv_iload_n X.1 X.2.1 dX12_fill_5 rfl (lv_at hl 1 rfl) ?_
  refine lv_iconst (v := 0) X.1 X.2.1 dX12_fill_6 (by decide) ?_
  refine lv_bipush (v := 6) X.1 X.2.1 dX12_fill_7 (by decide) ?_
  refine kp_calli X h (kp_runS (rm := { frames := 0, cells := 0, slots := 0, locals := 0 }) (mc := 0) (ms := 0) (rest := []) (Qc := fun A => kp_Qi D cy A T1 _) X h (c_X12_in l D cy ad T1 x1 0 6 _ h.2.2.2  hw) cs_12_589 ⟨by decide, by decide, rfl, rfl, by decide, by decide⟩ rfl hl.1 rfl (Nat.le_of_ble_eq_true rfl) dX12_fill_9) (fun y3 T2 hw l_T2 H locs h => ?_)
  have f_a0 := l_T2.is f_a0
  have hle := hle.tr l_T2
  refine lv_if_eq (tgt := 26) X.1 X.2.1 dX12_fill_12 (by decide) (fun c9 => ?_) (fun c9 => ?_)
  · have hw := hw.1 c9
    exact j26  T2 _ _ ls (lv_sub hl [] rfl) h hle f_a0 hw
  · have hw := hw.2 c9
    refine lv_iload_n X.1 X.2.1 dX12_fill_15 rfl (lv_at hl 2 rfl) ?_
    refine lv_iconst (v := 0) X.1 X.2.1 dX12_fill_16 (by decide) ?_
    refine lv_ldcw (v := 100000) X.1 X.2.1 X.2.2.2.1 (X.2.2.2.2.1 _ kc_12_593) dX12_fill_17 ?_
    refine kp_calli X h (kp_runS (rm := { frames := 0, cells := 0, slots := 0, locals := 0 }) (mc := 0) (ms := 0) (rest := []) (Qc := fun A => kp_Qi D cy A T2 _) X h (c_X12_in l D cy ad T2 x2 0 100000 _ h.2.2.2  hw) cs_12_589 ⟨by decide, by decide, rfl, rfl, by decide, by decide⟩ rfl hl.1 rfl (Nat.le_of_ble_eq_true rfl) dX12_fill_20) (fun y5 T4 hw l_T4 H locs h => ?_)
    have f_a0 := l_T4.is f_a0
    have hle := hle.tr l_T4
    refine lv_if_ne (tgt := 28) X.1 X.2.1 dX12_fill_23 (by decide) (fun c8 => ?_) (fun c8 => ?_)
    · have hw := hw.1 c8
      refine lv_aload_n X.1 X.2.1 dX12_fill_28 rfl (lv_at hl 0 rfl) ?_
      obtain ⟨b6, e_b6, hw⟩ := hw
      have f_b6 := h.2.2.2.rf (c := 12) (k := 66) f_a0 (by decide) (by decide) e_b6 (t := 14) rfl
      refine kp_get X h f_a0 ff_12_164.l (v := .ref b6) (congrArg va_rf e_b6) dX12_fill_29 ?_
      refine lv_iload_n X.1 X.2.1 dX12_fill_32 rfl (lv_at hl 1 rfl) ?_
      refine lv_iload_n X.1 X.2.1 dX12_fill_33 rfl (lv_at hl 2 rfl) ?_
      obtain ⟨hi, hw⟩ := hw
      refine kp_iast X h f_b6 hi dX12_fill_34 (fun T7 e_T7 l_T7 H locs h => ?_)
      have hw := hw T7 e_T7
      have f_a0 := l_T7.is f_a0
      have f_b6 := l_T7.is f_b6
      have hle := hle.tr l_T7
      have e_b6 : kp_R T7 2466 a0 = some b6 := by rw [e_T7]; exact e_b6
      refine lv_iconst (v := 1) X.1 X.2.1 dX12_fill_35 (by decide) ?_
      exact kp_reti X hr hlocks h hle (by decide) hw dX12_fill_36
    · have hw := hw.2 c8
      exact j26  T4 _ _ ls (lv_sub hl [] rfl) h hle f_a0 hw
theorem dX12_chamber_0 : decode cX12_chamber 0 = .ok (.aload_n 0, 1) := by decide +kernel
theorem dX12_chamber_1 : decode cX12_chamber 1 = .ok (.iconst 0, 1) := by decide +kernel
theorem dX12_chamber_2 : decode cX12_chamber 2 = .ok (.putfield 1, 3) := by decide +kernel
theorem dX12_chamber_5 : decode cX12_chamber 5 = .ok (.iload_n 1, 1) := by decide +kernel
theorem dX12_chamber_6 : decode cX12_chamber 6 = .ok (.iconst 0, 1) := by decide +kernel
theorem dX12_chamber_7 : decode cX12_chamber 7 = .ok (.iconst 5, 1) := by decide +kernel
theorem dX12_chamber_8 : decode cX12_chamber 8 = .ok (.invokestatic 589, 3) := by decide +kernel
theorem dX12_chamber_11 : decode cX12_chamber 11 = .ok (.ifCond .eq 38, 3) := by decide +kernel
theorem dX12_chamber_14 : decode cX12_chamber 14 = .ok (.iload_n 2, 1) := by decide +kernel
theorem dX12_chamber_15 : decode cX12_chamber 15 = .ok (.iconst 0, 1) := by decide +kernel
theorem dX12_chamber_16 : decode cX12_chamber 16 = .ok (.sipush 10000, 3) := by decide +kernel
theorem dX12_chamber_19 : decode cX12_chamber 19 = .ok (.invokestatic 589, 3) := by decide +kernel
theorem dX12_chamber_22 : decode cX12_chamber 22 = .ok (.ifCond .eq 27, 3) := by decide +kernel
theorem dX12_chamber_25 : decode cX12_chamber 25 = .ok (.aload_n 0, 1) := by decide +kernel
theorem dX12_chamber_26 : decode cX12_chamber 26 = .ok (.getfield 157, 3) := by decide +kernel
theorem dX12_chamber_29 : decode cX12_chamber 29 = .ok (.iconst 2, 1) := by decide +kernel
theorem dX12_chamber_30 : decode cX12_chamber 30 = .ok (.iload_n 1, 1) := by decide +kernel
theorem dX12_chamber_31 : decode cX12_chamber 31 = .ok (.imul, 1) := by decide +kernel
theorem dX12_chamber_32 : decode cX12_chamber 32 = .ok (.baload, 1) := by decide +kernel
theorem dX12_chamber_33 : decode cX12_chamber 33 = .ok (.ifCond .ne 16, 3) := by decide +kernel
theorem dX12_chamber_36 : decode cX12_chamber 36 = .ok (.aload_n 0, 1) := by decide +kernel
theorem dX12_chamber_37 : decode cX12_chamber 37 = .ok (.getfield 157, 3) := by decide +kernel
theorem dX12_chamber_40 : decode cX12_chamber 40 = .ok (.iconst 2, 1) := by decide +kernel
theorem dX12_chamber_41 : decode cX12_chamber 41 = .ok (.iload_n 1, 1) := by decide +kernel
theorem dX12_chamber_42 : decode cX12_chamber 42 = .ok (.imul, 1) := by decide +kernel
theorem dX12_chamber_43 : decode cX12_chamber 43 = .ok (.iconst 1, 1) := by decide +kernel
theorem dX12_chamber_44 : decode cX12_chamber 44 = .ok (.iadd, 1) := by decide +kernel
theorem dX12_chamber_45 : decode cX12_chamber 45 = .ok (.baload, 1) := by decide +kernel
theorem dX12_chamber_46 : decode cX12_chamber 46 = .ok (.ifCond .eq 5, 3) := by decide +kernel
theorem dX12_chamber_49 : decode cX12_chamber 49 = .ok (.iconst 0, 1) := by decide +kernel
theorem dX12_chamber_50 : decode cX12_chamber 50 = .ok (.ireturn, 1) := by decide +kernel
theorem dX12_chamber_51 : decode cX12_chamber 51 = .ok (.aload_n 0, 1) := by decide +kernel
theorem dX12_chamber_52 : decode cX12_chamber 52 = .ok (.getfield 154, 3) := by decide +kernel
theorem dX12_chamber_55 : decode cX12_chamber 55 = .ok (.iload_n 1, 1) := by decide +kernel
theorem dX12_chamber_56 : decode cX12_chamber 56 = .ok (.iload_n 2, 1) := by decide +kernel
theorem dX12_chamber_57 : decode cX12_chamber 57 = .ok (.iastore, 1) := by decide +kernel
theorem dX12_chamber_58 : decode cX12_chamber 58 = .ok (.iconst 1, 1) := by decide +kernel
theorem dX12_chamber_59 : decode cX12_chamber 59 = .ok (.ireturn, 1) := by decide +kernel
def wX12_chamber_b49 (a0 : Nat) (x1 : Int32) (x2 : Int32)  (Sn : kp_S) (post : Int32 → kp_S → Prop) : Prop :=
  post 0 Sn
def wX12_chamber (a0 : Nat) (x1 : Int32) (x2 : Int32) (S : kp_S) (post : Int32 → kp_S → Prop) : Prop :=
  ∀ T1 : kp_S, T1 = kp_sI S 2400 a0 0 →
  wX12_in x1 0 5 T1 (fun y3 T2 =>
  ((y3 = 0 →
  wX12_chamber_b49 a0 x1 x2   T2 post) ∧ (¬ y3 = 0 →
  wX12_in x2 0 10000 T2 (fun y5 T4 =>
  ((y5 = 0 →
  wX12_chamber_b49 a0 x1 x2   T4 post) ∧ (¬ y5 = 0 →
  ∃ b6 : Nat, kp_R T4 2464 a0 = some b6 ∧
  vp_in (2 * x1) (kp_N T4 b6) ∧
  ((¬ (kp_A T4 b6 (2 * x1).toNatClampNeg) = 0 →
  wX12_chamber_b49 a0 x1 x2   T4 post) ∧ ((kp_A T4 b6 (2 * x1).toNatClampNeg) = 0 →
  vp_in ((2 * x1) + 1) (kp_N T4 b6) ∧
  (((kp_A T4 b6 ((2 * x1) + 1).toNatClampNeg) = 0 →
  ∃ b7 : Nat, kp_R T4 2463 a0 = some b7 ∧
  vp_in x1 (kp_N T4 b7) ∧ ∀ T8 : kp_S, T8 = kp_sA T4 b7 (upd (kp_A T4 b7) (x1.toNatClampNeg) x2) →
  post 1 T8) ∧ (¬ (kp_A T4 b6 ((2 * x1) + 1).toNatClampNeg) = 0 →
  wX12_chamber_b49 a0 x1 x2   T4 post))))))))))
set_option maxHeartbeats 4000000 in
set_option maxRecDepth 100000 in
theorem c_X12_chamber (l : Launch) (D : va_G) (cy : Nat → ClassId) (ad : (Nat → Nat) × (Nat → Nat)) (S : kp_S) (a0 : Nat) (x1 : Int32) (x2 : Int32) (post : Int32 → kp_S → Prop) (hS : kp_ok S) (f_a0 : kp_is S a0 12) (hw : wX12_chamber a0 x1 x2 S post) : kp_M l yX12_chamber cX12_chamber 3 (some .boolean) { frames := 1, cells := 0, slots := 0, locals := 22 } D cy ad S [.ref a0, .int x1, .int x2] 0 0 (fun A => kp_Qi D cy A S post) := by
  refine kp_start (own := RX12) (by decide) rfl (Nat.le_of_ble_eq_true rfl) hS ?_
  intro p e s m below meth c A ls X hr hlocks hname h hl
  have hle : kp_le S S := kp_le.rf
  have hl : lv_has ls 3 [(0, .ref a0), (1, .int x1), (2, .int x2)] := hl
  have j49 : ∀  (Sn : kp_S) (H : Heap) (locs : List Loc) (ls : Array Slot), lv_has ls 3 [] → kp_H D cy A Sn s.heap H locs → kp_le S Sn → kp_is Sn a0 12 → wX12_chamber_b49 a0 x1 x2   Sn post → W p l e { frames := 1, cells := 0, slots := 0, locals := 22 } s m ([.ref a0, .int x1, .int x2] : List Value).toArray below meth c H locs 0 0 (MQ below (kp_Qi D cy A S post) ([.ref a0, .int x1, .int x2] : List Value).toArray s 0 0 A) (F0 m 49 ls []) := by
    intro  Sn H locs ls hl h hle f_a0 hw
    unfold wX12_chamber_b49 at hw
    refine lv_iconst (v := 0) X.1 X.2.1 dX12_chamber_49 (by decide) ?_
    exact kp_reti X hr hlocks h hle (by decide) hw dX12_chamber_50
  unfold wX12_chamber at hw
  have h : kp_H D cy A S s.heap s.heap [] := h
  revert h
  intro h
  refine lv_aload_n X.1 X.2.1 dX12_chamber_0 rfl (lv_at hl 0 rfl) ?_
  refine lv_iconst (v := 0) X.1 X.2.1 dX12_chamber_1 (by decide) ?_
  refine kp_putI X h f_a0 fp_12_1 rfl ⟨rfl, rfl⟩ dX12_chamber_2 (fun T1 e_T1 l_T1 H locs h => ?_)
  have hw := hw T1 e_T1
  have f_a0 := l_T1.is f_a0
  have hle := hle.tr l_T1
  refine lv_iload_n X.1 X.2.1 dX12_chamber_5 rfl (lv_at hl 1 rfl) ?_
  refine lv_iconst (v := 0) X.1 X.2.1 dX12_chamber_6 (by decide) ?_
  refine lv_iconst (v := 5) X.1 X.2.1 dX12_chamber_7 (by decide) ?_
  refine kp_calli X h (kp_runS (rm := { frames := 0, cells := 0, slots := 0, locals := 0 }) (mc := 0) (ms := 0) (rest := []) (Qc := fun A => kp_Qi D cy A T1 _) X h (c_X12_in l D cy ad T1 x1 0 5 _ h.2.2.2  hw) cs_12_589 ⟨by decide, by decide, rfl, rfl, by decide, by decide⟩ rfl hl.1 rfl (Nat.le_of_ble_eq_true rfl) dX12_chamber_8) (fun y3 T2 hw l_T2 H locs h => ?_)
  have f_a0 := l_T2.is f_a0
  have hle := hle.tr l_T2
  refine lv_if_eq (tgt := 49) X.1 X.2.1 dX12_chamber_11 (by decide) (fun c12 => ?_) (fun c12 => ?_)
  · have hw := hw.1 c12
    exact j49  T2 _ _ ls (lv_sub hl [] rfl) h hle f_a0 hw
  · have hw := hw.2 c12
    refine lv_iload_n X.1 X.2.1 dX12_chamber_14 rfl (lv_at hl 2 rfl) ?_
    refine lv_iconst (v := 0) X.1 X.2.1 dX12_chamber_15 (by decide) ?_
    refine lv_sipush (v := 10000) X.1 X.2.1 dX12_chamber_16 (by decide) ?_
    refine kp_calli X h (kp_runS (rm := { frames := 0, cells := 0, slots := 0, locals := 0 }) (mc := 0) (ms := 0) (rest := []) (Qc := fun A => kp_Qi D cy A T2 _) X h (c_X12_in l D cy ad T2 x2 0 10000 _ h.2.2.2  hw) cs_12_589 ⟨by decide, by decide, rfl, rfl, by decide, by decide⟩ rfl hl.1 rfl (Nat.le_of_ble_eq_true rfl) dX12_chamber_19) (fun y5 T4 hw l_T4 H locs h => ?_)
    have f_a0 := l_T4.is f_a0
    have hle := hle.tr l_T4
    refine lv_if_eq (tgt := 49) X.1 X.2.1 dX12_chamber_22 (by decide) (fun c11 => ?_) (fun c11 => ?_)
    · have hw := hw.1 c11
      exact j49  T4 _ _ ls (lv_sub hl [] rfl) h hle f_a0 hw
    · have hw := hw.2 c11
      refine lv_aload_n X.1 X.2.1 dX12_chamber_25 rfl (lv_at hl 0 rfl) ?_
      obtain ⟨b6, e_b6, hw⟩ := hw
      have f_b6 := h.2.2.2.rf (c := 12) (k := 64) f_a0 (by decide) (by decide) e_b6 (t := 16) rfl
      refine kp_get X h f_a0 ff_12_157.l (v := .ref b6) (congrArg va_rf e_b6) dX12_chamber_26 ?_
      refine lv_iconst (v := 2) X.1 X.2.1 dX12_chamber_29 (by decide) ?_
      refine lv_iload_n X.1 X.2.1 dX12_chamber_30 rfl (lv_at hl 1 rfl) ?_
      refine lv_imul X.1 X.2.1 dX12_chamber_31 ?_
      obtain ⟨hi, hw⟩ := hw
      refine kp_zald X h f_b6 hi dX12_chamber_32 ?_
      refine lv_if_ne (tgt := 49) X.1 X.2.1 dX12_chamber_33 (by decide) (fun c10 => ?_) (fun c10 => ?_)
      · have hw := hw.1 c10
        exact j49  T4 _ _ ls (lv_sub hl [] rfl) h hle f_a0 hw
      · have hw := hw.2 c10
        refine lv_aload_n X.1 X.2.1 dX12_chamber_36 rfl (lv_at hl 0 rfl) ?_
        refine kp_get X h f_a0 ff_12_157.l (v := .ref b6) (congrArg va_rf e_b6) dX12_chamber_37 ?_
        refine lv_iconst (v := 2) X.1 X.2.1 dX12_chamber_40 (by decide) ?_
        refine lv_iload_n X.1 X.2.1 dX12_chamber_41 rfl (lv_at hl 1 rfl) ?_
        refine lv_imul X.1 X.2.1 dX12_chamber_42 ?_
        refine lv_iconst (v := 1) X.1 X.2.1 dX12_chamber_43 (by decide) ?_
        refine lv_iadd X.1 X.2.1 dX12_chamber_44 ?_
        obtain ⟨hi, hw⟩ := hw
        refine kp_zald X h f_b6 hi dX12_chamber_45 ?_
        refine lv_if_eq (tgt := 51) X.1 X.2.1 dX12_chamber_46 (by decide) (fun c9 => ?_) (fun c9 => ?_)
        · have hw := hw.1 c9
          refine lv_aload_n X.1 X.2.1 dX12_chamber_51 rfl (lv_at hl 0 rfl) ?_
          obtain ⟨b7, e_b7, hw⟩ := hw
          have f_b7 := h.2.2.2.rf (c := 12) (k := 63) f_a0 (by decide) (by decide) e_b7 (t := 14) rfl
          refine kp_get X h f_a0 ff_12_154.l (v := .ref b7) (congrArg va_rf e_b7) dX12_chamber_52 ?_
          refine lv_iload_n X.1 X.2.1 dX12_chamber_55 rfl (lv_at hl 1 rfl) ?_
          refine lv_iload_n X.1 X.2.1 dX12_chamber_56 rfl (lv_at hl 2 rfl) ?_
          obtain ⟨hi, hw⟩ := hw
          refine kp_iast X h f_b7 hi dX12_chamber_57 (fun T8 e_T8 l_T8 H locs h => ?_)
          have hw := hw T8 e_T8
          have f_a0 := l_T8.is f_a0
          have f_b6 := l_T8.is f_b6
          have f_b7 := l_T8.is f_b7
          have hle := hle.tr l_T8
          have e_b6 : kp_R T8 2464 a0 = some b6 := by rw [e_T8]; exact e_b6
          have e_b7 : kp_R T8 2463 a0 = some b7 := by rw [e_T8]; exact e_b7
          refine lv_iconst (v := 1) X.1 X.2.1 dX12_chamber_58 (by decide) ?_
          exact kp_reti X hr hlocks h hle (by decide) hw dX12_chamber_59
        · have hw := hw.2 c9
          exact j49  T4 _ _ ls (lv_sub hl [] rfl) h hle f_a0 hw
theorem dX12_isTaken_0 : decode cX12_isTaken 0 = .ok (.iconst 0, 1) := by decide +kernel
theorem dX12_isTaken_1 : decode cX12_isTaken 1 = .ok (.istore_n 3, 1) := by decide +kernel
theorem dX12_isTaken_2 : decode cX12_isTaken 2 = .ok (.iconst 0, 1) := by decide +kernel
theorem dX12_isTaken_3 : decode cX12_isTaken 3 = .ok (.istore 4, 2) := by decide +kernel
theorem dX12_isTaken_5 : decode cX12_isTaken 5 = .ok (.iload 4, 2) := by decide +kernel
theorem dX12_isTaken_7 : decode cX12_isTaken 7 = .ok (.bipush 8, 2) := by decide +kernel
theorem dX12_isTaken_9 : decode cX12_isTaken 9 = .ok (.if_icmp .ge 36, 3) := by decide +kernel
theorem dX12_isTaken_12 : decode cX12_isTaken 12 = .ok (.iload_n 3, 1) := by decide +kernel
theorem dX12_isTaken_13 : decode cX12_isTaken 13 = .ok (.ifCond .ne 20, 3) := by decide +kernel
theorem dX12_isTaken_16 : decode cX12_isTaken 16 = .ok (.iload 4, 2) := by decide +kernel
theorem dX12_isTaken_18 : decode cX12_isTaken 18 = .ok (.iload_n 2, 1) := by decide +kernel
theorem dX12_isTaken_19 : decode cX12_isTaken 19 = .ok (.if_icmp .eq 18, 3) := by decide +kernel
theorem dX12_isTaken_22 : decode cX12_isTaken 22 = .ok (.aload_n 0, 1) := by decide +kernel
theorem dX12_isTaken_23 : decode cX12_isTaken 23 = .ok (.getfield 167, 3) := by decide +kernel
theorem dX12_isTaken_26 : decode cX12_isTaken 26 = .ok (.iload 4, 2) := by decide +kernel
theorem dX12_isTaken_28 : decode cX12_isTaken 28 = .ok (.iaload, 1) := by decide +kernel
theorem dX12_isTaken_29 : decode cX12_isTaken 29 = .ok (.iload_n 1, 1) := by decide +kernel
theorem dX12_isTaken_30 : decode cX12_isTaken 30 = .ok (.if_icmp .ne 7, 3) := by decide +kernel
theorem dX12_isTaken_33 : decode cX12_isTaken 33 = .ok (.iconst 1, 1) := by decide +kernel
theorem dX12_isTaken_34 : decode cX12_isTaken 34 = .ok (.goto 4, 3) := by decide +kernel
theorem dX12_isTaken_37 : decode cX12_isTaken 37 = .ok (.iconst 0, 1) := by decide +kernel
theorem dX12_isTaken_38 : decode cX12_isTaken 38 = .ok (.istore_n 3, 1) := by decide +kernel
theorem dX12_isTaken_39 : decode cX12_isTaken 39 = .ok (.iinc 4 1, 3) := by decide +kernel
theorem dX12_isTaken_42 : decode cX12_isTaken 42 = .ok (.goto (-37), 3) := by decide +kernel
theorem dX12_isTaken_45 : decode cX12_isTaken 45 = .ok (.iload_n 3, 1) := by decide +kernel
theorem dX12_isTaken_46 : decode cX12_isTaken 46 = .ok (.ireturn, 1) := by decide +kernel
def wX12_isTaken_b38 (a0 : Nat) (x1 : Int32) (x2 : Int32) (xn4 : Int32) (xt0 : Int32) (K5 : Int32 → Int32 → kp_S → Prop) (Sn : kp_S) (post : Int32 → kp_S → Prop) : Prop :=
  ∀ y1001 : Int32, y1001 = xn4 + 1 →
  K5 xt0 y1001 Sn
def wX12_isTaken_b33 (a0 : Nat) (x1 : Int32) (x2 : Int32) (xn4 : Int32) (K5 : Int32 → Int32 → kp_S → Prop) (Sn : kp_S) (post : Int32 → kp_S → Prop) : Prop :=
  wX12_isTaken_b38 a0 x1 x2 xn4 1 K5 Sn post
def wX12_isTaken_b37 (a0 : Nat) (x1 : Int32) (x2 : Int32) (xn4 : Int32) (K5 : Int32 → Int32 → kp_S → Prop) (Sn : kp_S) (post : Int32 → kp_S → Prop) : Prop :=
  wX12_isTaken_b38 a0 x1 x2 xn4 0 K5 Sn post
def wX12_isTaken_L5 (a0 : Nat) (x1 : Int32) (x2 : Int32)  (post : Int32 → kp_S → Prop) : Nat → Int32 → Int32 → kp_S → Prop
  | 0, _, _, _ => False
  | n + 1, xn3, xn4, Sn =>
  ((8 ≤ xn4 →
  kp_b xn3 ∧ post xn3 Sn) ∧ (¬ 8 ≤ xn4 →
  ((¬ xn3 = 0 →
  wX12_isTaken_b33 a0 x1 x2 xn4 (fun xn3_ xn4_ S_ => wX12_isTaken_L5 a0 x1 x2  post n xn3_ xn4_ S_) Sn post) ∧ (xn3 = 0 →
  ((xn4 = x2 →
  wX12_isTaken_b37 a0 x1 x2 xn4 (fun xn3_ xn4_ S_ => wX12_isTaken_L5 a0 x1 x2  post n xn3_ xn4_ S_) Sn post) ∧ (¬ xn4 = x2 →
  ∃ b4001 : Nat, kp_R Sn 2467 a0 = some b4001 ∧
  vp_in xn4 (kp_N Sn b4001) ∧
  ((¬ (kp_A Sn b4001 xn4.toNatClampNeg) = x1 →
  wX12_isTaken_b37 a0 x1 x2 xn4 (fun xn3_ xn4_ S_ => wX12_isTaken_L5 a0 x1 x2  post n xn3_ xn4_ S_) Sn post) ∧ ((kp_A Sn b4001 xn4.toNatClampNeg) = x1 →
  wX12_isTaken_b33 a0 x1 x2 xn4 (fun xn3_ xn4_ S_ => wX12_isTaken_L5 a0 x1 x2  post n xn3_ xn4_ S_) Sn post))))))))
def wX12_isTaken (a0 : Nat) (x1 : Int32) (x2 : Int32) (S : kp_S) (post : Int32 → kp_S → Prop) : Prop :=
  ∃ n0 : Nat, wX12_isTaken_L5 a0 x1 x2  post n0 0 0 S
set_option maxHeartbeats 4000000 in
set_option maxRecDepth 100000 in
theorem c_X12_isTaken (l : Launch) (D : va_G) (cy : Nat → ClassId) (ad : (Nat → Nat) × (Nat → Nat)) (S : kp_S) (a0 : Nat) (x1 : Int32) (x2 : Int32) (post : Int32 → kp_S → Prop) (hS : kp_ok S) (f_a0 : kp_is S a0 12) (hw : wX12_isTaken a0 x1 x2 S post) : kp_M l yX12_isTaken cX12_isTaken 5 (some .boolean) { frames := 0, cells := 0, slots := 0, locals := 0 } D cy ad S [.ref a0, .int x1, .int x2] 0 0 (fun A => kp_Qi D cy A S post) := by
  refine kp_start (own := RX12) (by decide) rfl (Nat.le_of_ble_eq_true rfl) hS ?_
  intro p e s m below meth c A ls X hr hlocks hname h hl
  have hle : kp_le S S := kp_le.rf
  have hl : lv_has ls 5 [(0, .ref a0), (1, .int x1), (2, .int x2)] := hl
  have L5 : ∀ n5 : Nat, ∀ (xn3 : Int32) (xn4 : Int32) (Sn : kp_S) (H : Heap) (locs : List Loc) (ls : Array Slot), lv_has ls 5 [(0, .ref a0), (1, .int x1), (2, .int x2), (3, .int xn3), (4, .int xn4)] → kp_H D cy A Sn s.heap H locs → kp_le S Sn → kp_is Sn a0 12 → wX12_isTaken_L5 a0 x1 x2  post n5 xn3 xn4 Sn → W p l e { frames := 0, cells := 0, slots := 0, locals := 0 } s m ([.ref a0, .int x1, .int x2] : List Value).toArray below meth c H locs 0 0 (MQ below (kp_Qi D cy A S post) ([.ref a0, .int x1, .int x2] : List Value).toArray s 0 0 A) (F0 m 5 ls []) := by
    intro n5
    induction n5 with
    | zero => intro xn3 xn4 Sn H locs ls hl h hle f_a0 hw; exact hw.elim
    | succ n5 ih5 =>
      have j38 : ∀ (xn4 : Int32) (xt0 : Int32) (Sn : kp_S) (H : Heap) (locs : List Loc) (ls : Array Slot), lv_has ls 5 [(0, .ref a0), (1, .int x1), (2, .int x2), (4, .int xn4)] → kp_H D cy A Sn s.heap H locs → kp_le S Sn → kp_is Sn a0 12 → wX12_isTaken_b38 a0 x1 x2 xn4 xt0 (fun xn3_ xn4_ S_ => wX12_isTaken_L5 a0 x1 x2  post n5 xn3_ xn4_ S_) Sn post → W p l e { frames := 0, cells := 0, slots := 0, locals := 0 } s m ([.ref a0, .int x1, .int x2] : List Value).toArray below meth c H locs 0 0 (MQ below (kp_Qi D cy A S post) ([.ref a0, .int x1, .int x2] : List Value).toArray s 0 0 A) (F0 m 38 ls [.int xt0]) := by
        intro xn4 xt0 Sn H locs ls hl h hle f_a0 hw
        unfold wX12_isTaken_b38 at hw
        refine lv_istore_n (lv' := [(3, .int xt0), (0, .ref a0), (1, .int x1), (2, .int x2), (4, .int xn4)]) X.1 X.2.1 dX12_isTaken_38 rfl hl (by decide) rfl (fun ls hl => ?_)
        obtain ⟨y1001, e_y1001⟩ : ∃ y : Int32, y = xn4 + 1 := ⟨_, rfl⟩
        have hw := hw y1001 e_y1001
        refine lv_iinc (v := y1001) (lv' := [(4, .int y1001), (3, .int xt0), (0, .ref a0), (1, .int x1), (2, .int x2)]) X.1 X.2.1 dX12_isTaken_39 hl (k := 4) rfl (by rw [e_y1001]; rfl) (by decide) rfl (fun ls hl => ?_)
        refine lv_goto (tgt := 5) X.1 X.2.1 dX12_isTaken_42 (by decide) ?_
        exact ih5 xt0 y1001 Sn H locs ls (lv_sub hl [2, 3, 4, 1, 0] rfl) h hle f_a0 hw
      have j33 : ∀ (xn4 : Int32) (Sn : kp_S) (H : Heap) (locs : List Loc) (ls : Array Slot), lv_has ls 5 [(0, .ref a0), (1, .int x1), (2, .int x2), (4, .int xn4)] → kp_H D cy A Sn s.heap H locs → kp_le S Sn → kp_is Sn a0 12 → wX12_isTaken_b33 a0 x1 x2 xn4 (fun xn3_ xn4_ S_ => wX12_isTaken_L5 a0 x1 x2  post n5 xn3_ xn4_ S_) Sn post → W p l e { frames := 0, cells := 0, slots := 0, locals := 0 } s m ([.ref a0, .int x1, .int x2] : List Value).toArray below meth c H locs 0 0 (MQ below (kp_Qi D cy A S post) ([.ref a0, .int x1, .int x2] : List Value).toArray s 0 0 A) (F0 m 33 ls []) := by
        intro xn4 Sn H locs ls hl h hle f_a0 hw
        unfold wX12_isTaken_b33 at hw
        refine lv_iconst (v := 1) X.1 X.2.1 dX12_isTaken_33 (by decide) ?_
        refine lv_goto (tgt := 38) X.1 X.2.1 dX12_isTaken_34 (by decide) ?_
        exact j38 xn4 1 Sn H locs ls (lv_sub hl [0, 1, 2, 3] rfl) h hle f_a0 hw
      have j37 : ∀ (xn4 : Int32) (Sn : kp_S) (H : Heap) (locs : List Loc) (ls : Array Slot), lv_has ls 5 [(0, .ref a0), (1, .int x1), (2, .int x2), (4, .int xn4)] → kp_H D cy A Sn s.heap H locs → kp_le S Sn → kp_is Sn a0 12 → wX12_isTaken_b37 a0 x1 x2 xn4 (fun xn3_ xn4_ S_ => wX12_isTaken_L5 a0 x1 x2  post n5 xn3_ xn4_ S_) Sn post → W p l e { frames := 0, cells := 0, slots := 0, locals := 0 } s m ([.ref a0, .int x1, .int x2] : List Value).toArray below meth c H locs 0 0 (MQ below (kp_Qi D cy A S post) ([.ref a0, .int x1, .int x2] : List Value).toArray s 0 0 A) (F0 m 37 ls []) := by
        intro xn4 Sn H locs ls hl h hle f_a0 hw
        unfold wX12_isTaken_b37 at hw
        refine lv_iconst (v := 0) X.1 X.2.1 dX12_isTaken_37 (by decide) ?_
        exact j38 xn4 0 Sn H locs ls (lv_sub hl [0, 1, 2, 3] rfl) h hle f_a0 hw
      intro xn3 xn4 Sn H locs ls hl h hle f_a0 hw
      unfold wX12_isTaken_L5 at hw
      refine lv_iload X.1 X.2.1 dX12_isTaken_5 (lv_at hl 4 rfl) ?_
      refine lv_bipush (v := 8) X.1 X.2.1 dX12_isTaken_7 (by decide) ?_
      refine lv_icmp_ge (tgt := 45) X.1 X.2.1 dX12_isTaken_9 (by decide) (fun c4005 => ?_) (fun c4005 => ?_)
      · have hw := hw.1 c4005
        refine lv_iload_n X.1 X.2.1 dX12_isTaken_45 rfl (lv_at hl 3 rfl) ?_
        exact kp_reti X hr hlocks h hle (kp_bz hw.1).1 hw.2 dX12_isTaken_46
      · have hw := hw.2 c4005
        refine lv_iload_n X.1 X.2.1 dX12_isTaken_12 rfl (lv_at hl 3 rfl) ?_
        refine lv_if_ne (tgt := 33) X.1 X.2.1 dX12_isTaken_13 (by decide) (fun c4004 => ?_) (fun c4004 => ?_)
        · have hw := hw.1 c4004
          exact j33 xn4 Sn H locs ls (lv_sub hl [0, 1, 2, 4] rfl) h hle f_a0 hw
        · have hw := hw.2 c4004
          refine lv_iload X.1 X.2.1 dX12_isTaken_16 (lv_at hl 4 rfl) ?_
          refine lv_iload_n X.1 X.2.1 dX12_isTaken_18 rfl (lv_at hl 2 rfl) ?_
          refine lv_icmp_eq (tgt := 37) X.1 X.2.1 dX12_isTaken_19 (by decide) (fun c4003 => ?_) (fun c4003 => ?_)
          · have hw := hw.1 c4003
            exact j37 xn4 Sn H locs ls (lv_sub hl [0, 1, 2, 4] rfl) h hle f_a0 hw
          · have hw := hw.2 c4003
            refine lv_aload_n X.1 X.2.1 dX12_isTaken_22 rfl (lv_at hl 0 rfl) ?_
            obtain ⟨b4001, e_b4001, hw⟩ := hw
            have f_b4001 := h.2.2.2.rf (c := 12) (k := 67) f_a0 (by decide) (by decide) e_b4001 (t := 14) rfl
            refine kp_get X h f_a0 ff_12_167.l (v := .ref b4001) (congrArg va_rf e_b4001) dX12_isTaken_23 ?_
            refine lv_iload X.1 X.2.1 dX12_isTaken_26 (lv_at hl 4 rfl) ?_
            obtain ⟨hi, hw⟩ := hw
            refine kp_iald X h f_b4001 hi dX12_isTaken_28 ?_
            refine lv_iload_n X.1 X.2.1 dX12_isTaken_29 rfl (lv_at hl 1 rfl) ?_
            refine lv_icmp_ne (tgt := 37) X.1 X.2.1 dX12_isTaken_30 (by decide) (fun c4002 => ?_) (fun c4002 => ?_)
            · have hw := hw.1 c4002
              exact j37 xn4 Sn H locs ls (lv_sub hl [0, 1, 2, 4] rfl) h hle f_a0 hw
            · have hw := hw.2 c4002
              exact j33 xn4 Sn H locs ls (lv_sub hl [0, 1, 2, 4] rfl) h hle f_a0 hw
  unfold wX12_isTaken at hw
  have h : kp_H D cy A S s.heap s.heap [] := h
  revert h
  intro h
  refine lv_iconst (v := 0) X.1 X.2.1 dX12_isTaken_0 (by decide) ?_
  refine lv_istore_n (lv' := [(3, .int 0), (0, .ref a0), (1, .int x1), (2, .int x2)]) X.1 X.2.1 dX12_isTaken_1 rfl hl (by decide) rfl (fun ls hl => ?_)
  refine lv_iconst (v := 0) X.1 X.2.1 dX12_isTaken_2 (by decide) ?_
  refine lv_istore (lv' := [(4, .int 0), (3, .int 0), (0, .ref a0), (1, .int x1), (2, .int x2)]) X.1 X.2.1 dX12_isTaken_3 hl (by decide) rfl (fun ls hl => ?_)
  obtain ⟨n0, hw⟩ := hw
  exact L5 n0 0 0 S _ _ ls (lv_sub hl [2, 3, 4, 1, 0] rfl) h hle f_a0 hw
theorem dX12_berth_0 : decode cX12_berth 0 = .ok (.aload_n 0, 1) := by decide +kernel
theorem dX12_berth_1 : decode cX12_berth 1 = .ok (.iconst 0, 1) := by decide +kernel
theorem dX12_berth_2 : decode cX12_berth 2 = .ok (.putfield 1, 3) := by decide +kernel
theorem dX12_berth_5 : decode cX12_berth 5 = .ok (.iload_n 1, 1) := by decide +kernel
theorem dX12_berth_6 : decode cX12_berth 6 = .ok (.iconst 0, 1) := by decide +kernel
theorem dX12_berth_7 : decode cX12_berth 7 = .ok (.bipush 7, 2) := by decide +kernel
theorem dX12_berth_9 : decode cX12_berth 9 = .ok (.invokestatic 589, 3) := by decide +kernel
theorem dX12_berth_12 : decode cX12_berth 12 = .ok (.ifCond .eq 29, 3) := by decide +kernel
theorem dX12_berth_15 : decode cX12_berth 15 = .ok (.iload_n 2, 1) := by decide +kernel
theorem dX12_berth_16 : decode cX12_berth 16 = .ok (.iconst 0, 1) := by decide +kernel
theorem dX12_berth_17 : decode cX12_berth 17 = .ok (.bipush 12, 2) := by decide +kernel
theorem dX12_berth_19 : decode cX12_berth 19 = .ok (.invokestatic 589, 3) := by decide +kernel
theorem dX12_berth_22 : decode cX12_berth 22 = .ok (.ifCond .eq 19, 3) := by decide +kernel
theorem dX12_berth_25 : decode cX12_berth 25 = .ok (.iload_n 2, 1) := by decide +kernel
theorem dX12_berth_26 : decode cX12_berth 26 = .ok (.iconst 2, 1) := by decide +kernel
theorem dX12_berth_27 : decode cX12_berth 27 = .ok (.irem, 1) := by decide +kernel
theorem dX12_berth_28 : decode cX12_berth 28 = .ok (.iconst 1, 1) := by decide +kernel
theorem dX12_berth_29 : decode cX12_berth 29 = .ok (.if_icmp .ne 14, 3) := by decide +kernel
theorem dX12_berth_32 : decode cX12_berth 32 = .ok (.aload_n 0, 1) := by decide +kernel
theorem dX12_berth_33 : decode cX12_berth 33 = .ok (.iload_n 2, 1) := by decide +kernel
theorem dX12_berth_34 : decode cX12_berth 34 = .ok (.iload_n 1, 1) := by decide +kernel
theorem dX12_berth_35 : decode cX12_berth 35 = .ok (.invokevirtual 594, 3) := by decide +kernel
theorem dX12_berth_38 : decode cX12_berth 38 = .ok (.ifCond .eq 5, 3) := by decide +kernel
theorem dX12_berth_41 : decode cX12_berth 41 = .ok (.iconst 0, 1) := by decide +kernel
theorem dX12_berth_42 : decode cX12_berth 42 = .ok (.ireturn, 1) := by decide +kernel
theorem dX12_berth_43 : decode cX12_berth 43 = .ok (.aload_n 0, 1) := by decide +kernel
theorem dX12_berth_44 : decode cX12_berth 44 = .ok (.getfield 167, 3) := by decide +kernel
theorem dX12_berth_47 : decode cX12_berth 47 = .ok (.iload_n 1, 1) := by decide +kernel
theorem dX12_berth_48 : decode cX12_berth 48 = .ok (.iload_n 2, 1) := by decide +kernel
theorem dX12_berth_49 : decode cX12_berth 49 = .ok (.iastore, 1) := by decide +kernel
theorem dX12_berth_50 : decode cX12_berth 50 = .ok (.iconst 1, 1) := by decide +kernel
theorem dX12_berth_51 : decode cX12_berth 51 = .ok (.ireturn, 1) := by decide +kernel
def wX12_berth_b41 (a0 : Nat) (x1 : Int32) (x2 : Int32)  (Sn : kp_S) (post : Int32 → kp_S → Prop) : Prop :=
  post 0 Sn
def wX12_berth_b43 (a0 : Nat) (x1 : Int32) (x2 : Int32)  (Sn : kp_S) (post : Int32 → kp_S → Prop) : Prop :=
  ∃ b2001 : Nat, kp_R Sn 2467 a0 = some b2001 ∧
  vp_in x1 (kp_N Sn b2001) ∧ ∀ T2002 : kp_S, T2002 = kp_sA Sn b2001 (upd (kp_A Sn b2001) (x1.toNatClampNeg) x2) →
  post 1 T2002
def wX12_berth (a0 : Nat) (x1 : Int32) (x2 : Int32) (S : kp_S) (post : Int32 → kp_S → Prop) : Prop :=
  ∀ T1 : kp_S, T1 = kp_sI S 2400 a0 0 →
  wX12_in x1 0 7 T1 (fun y3 T2 =>
  ((y3 = 0 →
  wX12_berth_b41 a0 x1 x2   T2 post) ∧ (¬ y3 = 0 →
  wX12_in x2 0 12 T2 (fun y5 T4 =>
  ((y5 = 0 →
  wX12_berth_b41 a0 x1 x2   T4 post) ∧ (¬ y5 = 0 →
  ((¬ (x2 - x2 / 2 * 2) = 1 →
  wX12_berth_b43 a0 x1 x2   T4 post) ∧ ((x2 - x2 / 2 * 2) = 1 →
  wX12_isTaken a0 x2 x1 T4 (fun y7 T6 =>
  ((y7 = 0 →
  wX12_berth_b43 a0 x1 x2   T6 post) ∧ (¬ y7 = 0 →
  wX12_berth_b41 a0 x1 x2   T6 post)))))))))))
set_option maxHeartbeats 4000000 in
set_option maxRecDepth 100000 in
theorem c_X12_berth (l : Launch) (D : va_G) (cy : Nat → ClassId) (ad : (Nat → Nat) × (Nat → Nat)) (S : kp_S) (a0 : Nat) (x1 : Int32) (x2 : Int32) (post : Int32 → kp_S → Prop) (hS : kp_ok S) (f_a0 : kp_is S a0 12) (hw : wX12_berth a0 x1 x2 S post) : kp_M l yX12_berth cX12_berth 3 (some .boolean) { frames := 1, cells := 0, slots := 0, locals := 24 } D cy ad S [.ref a0, .int x1, .int x2] 0 0 (fun A => kp_Qi D cy A S post) := by
  refine kp_start (own := RX12) (by decide) rfl (Nat.le_of_ble_eq_true rfl) hS ?_
  intro p e s m below meth c A ls X hr hlocks hname h hl
  have hle : kp_le S S := kp_le.rf
  have hl : lv_has ls 3 [(0, .ref a0), (1, .int x1), (2, .int x2)] := hl
  have j41 : ∀  (Sn : kp_S) (H : Heap) (locs : List Loc) (ls : Array Slot), lv_has ls 3 [] → kp_H D cy A Sn s.heap H locs → kp_le S Sn → kp_is Sn a0 12 → wX12_berth_b41 a0 x1 x2   Sn post → W p l e { frames := 1, cells := 0, slots := 0, locals := 24 } s m ([.ref a0, .int x1, .int x2] : List Value).toArray below meth c H locs 0 0 (MQ below (kp_Qi D cy A S post) ([.ref a0, .int x1, .int x2] : List Value).toArray s 0 0 A) (F0 m 41 ls []) := by
    intro  Sn H locs ls hl h hle f_a0 hw
    unfold wX12_berth_b41 at hw
    refine lv_iconst (v := 0) X.1 X.2.1 dX12_berth_41 (by decide) ?_
    exact kp_reti X hr hlocks h hle (by decide) hw dX12_berth_42
  have j43 : ∀  (Sn : kp_S) (H : Heap) (locs : List Loc) (ls : Array Slot), lv_has ls 3 [(0, .ref a0), (1, .int x1), (2, .int x2)] → kp_H D cy A Sn s.heap H locs → kp_le S Sn → kp_is Sn a0 12 → wX12_berth_b43 a0 x1 x2   Sn post → W p l e { frames := 1, cells := 0, slots := 0, locals := 24 } s m ([.ref a0, .int x1, .int x2] : List Value).toArray below meth c H locs 0 0 (MQ below (kp_Qi D cy A S post) ([.ref a0, .int x1, .int x2] : List Value).toArray s 0 0 A) (F0 m 43 ls []) := by
    intro  Sn H locs ls hl h hle f_a0 hw
    unfold wX12_berth_b43 at hw
    refine lv_aload_n X.1 X.2.1 dX12_berth_43 rfl (lv_at hl 0 rfl) ?_
    obtain ⟨b2001, e_b2001, hw⟩ := hw
    have f_b2001 := h.2.2.2.rf (c := 12) (k := 67) f_a0 (by decide) (by decide) e_b2001 (t := 14) rfl
    refine kp_get X h f_a0 ff_12_167.l (v := .ref b2001) (congrArg va_rf e_b2001) dX12_berth_44 ?_
    refine lv_iload_n X.1 X.2.1 dX12_berth_47 rfl (lv_at hl 1 rfl) ?_
    refine lv_iload_n X.1 X.2.1 dX12_berth_48 rfl (lv_at hl 2 rfl) ?_
    obtain ⟨hi, hw⟩ := hw
    refine kp_iast X h f_b2001 hi dX12_berth_49 (fun T2002 e_T2002 l_T2002 H locs h => ?_)
    have hw := hw T2002 e_T2002
    have f_a0 := l_T2002.is f_a0
    have f_b2001 := l_T2002.is f_b2001
    have hle := hle.tr l_T2002
    have e_b2001 : kp_R T2002 2467 a0 = some b2001 := by rw [e_T2002]; exact e_b2001
    refine lv_iconst (v := 1) X.1 X.2.1 dX12_berth_50 (by decide) ?_
    exact kp_reti X hr hlocks h hle (by decide) hw dX12_berth_51
  unfold wX12_berth at hw
  have h : kp_H D cy A S s.heap s.heap [] := h
  revert h
  intro h
  refine lv_aload_n X.1 X.2.1 dX12_berth_0 rfl (lv_at hl 0 rfl) ?_
  refine lv_iconst (v := 0) X.1 X.2.1 dX12_berth_1 (by decide) ?_
  refine kp_putI X h f_a0 fp_12_1 rfl ⟨rfl, rfl⟩ dX12_berth_2 (fun T1 e_T1 l_T1 H locs h => ?_)
  have hw := hw T1 e_T1
  have f_a0 := l_T1.is f_a0
  have hle := hle.tr l_T1
  refine lv_iload_n X.1 X.2.1 dX12_berth_5 rfl (lv_at hl 1 rfl) ?_
  refine lv_iconst (v := 0) X.1 X.2.1 dX12_berth_6 (by decide) ?_
  refine lv_bipush (v := 7) X.1 X.2.1 dX12_berth_7 (by decide) ?_
  refine kp_calli X h (kp_runS (rm := { frames := 0, cells := 0, slots := 0, locals := 0 }) (mc := 0) (ms := 0) (rest := []) (Qc := fun A => kp_Qi D cy A T1 _) X h (c_X12_in l D cy ad T1 x1 0 7 _ h.2.2.2  hw) cs_12_589 ⟨by decide, by decide, rfl, rfl, by decide, by decide⟩ rfl hl.1 rfl (Nat.le_of_ble_eq_true rfl) dX12_berth_9) (fun y3 T2 hw l_T2 H locs h => ?_)
  have f_a0 := l_T2.is f_a0
  have hle := hle.tr l_T2
  refine lv_if_eq (tgt := 41) X.1 X.2.1 dX12_berth_12 (by decide) (fun c11 => ?_) (fun c11 => ?_)
  · have hw := hw.1 c11
    exact j41  T2 _ _ ls (lv_sub hl [] rfl) h hle f_a0 hw
  · have hw := hw.2 c11
    refine lv_iload_n X.1 X.2.1 dX12_berth_15 rfl (lv_at hl 2 rfl) ?_
    refine lv_iconst (v := 0) X.1 X.2.1 dX12_berth_16 (by decide) ?_
    refine lv_bipush (v := 12) X.1 X.2.1 dX12_berth_17 (by decide) ?_
    refine kp_calli X h (kp_runS (rm := { frames := 0, cells := 0, slots := 0, locals := 0 }) (mc := 0) (ms := 0) (rest := []) (Qc := fun A => kp_Qi D cy A T2 _) X h (c_X12_in l D cy ad T2 x2 0 12 _ h.2.2.2  hw) cs_12_589 ⟨by decide, by decide, rfl, rfl, by decide, by decide⟩ rfl hl.1 rfl (Nat.le_of_ble_eq_true rfl) dX12_berth_19) (fun y5 T4 hw l_T4 H locs h => ?_)
    have f_a0 := l_T4.is f_a0
    have hle := hle.tr l_T4
    refine lv_if_eq (tgt := 41) X.1 X.2.1 dX12_berth_22 (by decide) (fun c10 => ?_) (fun c10 => ?_)
    · have hw := hw.1 c10
      exact j41  T4 _ _ ls (lv_sub hl [] rfl) h hle f_a0 hw
    · have hw := hw.2 c10
      refine lv_iload_n X.1 X.2.1 dX12_berth_25 rfl (lv_at hl 2 rfl) ?_
      refine lv_iconst (v := 2) X.1 X.2.1 dX12_berth_26 (by decide) ?_
      refine lv_irem X.1 X.2.1 dX12_berth_27 (by decide) ?_
      refine lv_iconst (v := 1) X.1 X.2.1 dX12_berth_28 (by decide) ?_
      refine lv_icmp_ne (tgt := 43) X.1 X.2.1 dX12_berth_29 (by decide) (fun c9 => ?_) (fun c9 => ?_)
      · have hw := hw.1 c9
        exact j43  T4 _ _ ls (lv_sub hl [0, 1, 2] rfl) h hle f_a0 hw
      · have hw := hw.2 c9
        refine lv_aload_n X.1 X.2.1 dX12_berth_32 rfl (lv_at hl 0 rfl) ?_
        refine lv_iload_n X.1 X.2.1 dX12_berth_33 rfl (lv_at hl 2 rfl) ?_
        refine lv_iload_n X.1 X.2.1 dX12_berth_34 rfl (lv_at hl 1 rfl) ?_
        refine kp_calli X h (kp_runV (rm := { frames := 0, cells := 0, slots := 0, locals := 0 }) (mc := 0) (ms := 0) (rest := []) (Qc := fun A => kp_Qi D cy A T4 _) X h (c_X12_isTaken l D cy ad T4 a0 x2 x1 _ h.2.2.2 f_a0 hw) f_a0 cv_12_594 ⟨by decide, by decide, rfl, rfl, by decide, by decide⟩ rfl hl.1 rfl (Nat.le_of_ble_eq_true rfl) dX12_berth_35) (fun y7 T6 hw l_T6 H locs h => ?_)
        have f_a0 := l_T6.is f_a0
        have hle := hle.tr l_T6
        refine lv_if_eq (tgt := 43) X.1 X.2.1 dX12_berth_38 (by decide) (fun c8 => ?_) (fun c8 => ?_)
        · have hw := hw.1 c8
          exact j43  T6 _ _ ls (lv_sub hl [0, 1, 2] rfl) h hle f_a0 hw
        · have hw := hw.2 c8
          exact j41  T6 _ _ ls (lv_sub hl [] rfl) h hle f_a0 hw
theorem dX12_allWater_0 : decode cX12_allWater 0 = .ok (.iconst 0, 1) := by decide +kernel
theorem dX12_allWater_1 : decode cX12_allWater 1 = .ok (.istore_n 1, 1) := by decide +kernel
theorem dX12_allWater_2 : decode cX12_allWater 2 = .ok (.iconst 0, 1) := by decide +kernel
theorem dX12_allWater_3 : decode cX12_allWater 3 = .ok (.istore_n 2, 1) := by decide +kernel
theorem dX12_allWater_4 : decode cX12_allWater 4 = .ok (.iload_n 2, 1) := by decide +kernel
theorem dX12_allWater_5 : decode cX12_allWater 5 = .ok (.bipush 6, 2) := by decide +kernel
theorem dX12_allWater_7 : decode cX12_allWater 7 = .ok (.if_icmp .ge 18, 3) := by decide +kernel
theorem dX12_allWater_10 : decode cX12_allWater 10 = .ok (.iload_n 1, 1) := by decide +kernel
theorem dX12_allWater_11 : decode cX12_allWater 11 = .ok (.aload_n 0, 1) := by decide +kernel
theorem dX12_allWater_12 : decode cX12_allWater 12 = .ok (.getfield 154, 3) := by decide +kernel
theorem dX12_allWater_15 : decode cX12_allWater 15 = .ok (.iload_n 2, 1) := by decide +kernel
theorem dX12_allWater_16 : decode cX12_allWater 16 = .ok (.iaload, 1) := by decide +kernel
theorem dX12_allWater_17 : decode cX12_allWater 17 = .ok (.iadd, 1) := by decide +kernel
theorem dX12_allWater_18 : decode cX12_allWater 18 = .ok (.istore_n 1, 1) := by decide +kernel
theorem dX12_allWater_19 : decode cX12_allWater 19 = .ok (.iinc 2 1, 3) := by decide +kernel
theorem dX12_allWater_22 : decode cX12_allWater 22 = .ok (.goto (-18), 3) := by decide +kernel
theorem dX12_allWater_25 : decode cX12_allWater 25 = .ok (.iconst 0, 1) := by decide +kernel
theorem dX12_allWater_26 : decode cX12_allWater 26 = .ok (.istore_n 2, 1) := by decide +kernel
theorem dX12_allWater_27 : decode cX12_allWater 27 = .ok (.iload_n 2, 1) := by decide +kernel
theorem dX12_allWater_28 : decode cX12_allWater 28 = .ok (.bipush 7, 2) := by decide +kernel
theorem dX12_allWater_30 : decode cX12_allWater 30 = .ok (.if_icmp .ge 18, 3) := by decide +kernel
theorem dX12_allWater_33 : decode cX12_allWater 33 = .ok (.iload_n 1, 1) := by decide +kernel
theorem dX12_allWater_34 : decode cX12_allWater 34 = .ok (.aload_n 0, 1) := by decide +kernel
theorem dX12_allWater_35 : decode cX12_allWater 35 = .ok (.getfield 164, 3) := by decide +kernel
theorem dX12_allWater_38 : decode cX12_allWater 38 = .ok (.iload_n 2, 1) := by decide +kernel
theorem dX12_allWater_39 : decode cX12_allWater 39 = .ok (.iaload, 1) := by decide +kernel
theorem dX12_allWater_40 : decode cX12_allWater 40 = .ok (.iadd, 1) := by decide +kernel
theorem dX12_allWater_41 : decode cX12_allWater 41 = .ok (.istore_n 1, 1) := by decide +kernel
theorem dX12_allWater_42 : decode cX12_allWater 42 = .ok (.iinc 2 1, 3) := by decide +kernel
theorem dX12_allWater_45 : decode cX12_allWater 45 = .ok (.goto (-18), 3) := by decide +kernel
theorem dX12_allWater_48 : decode cX12_allWater 48 = .ok (.iload_n 1, 1) := by decide +kernel
theorem dX12_allWater_49 : decode cX12_allWater 49 = .ok (.ireturn, 1) := by decide +kernel
def wX12_allWater_L27 (a0 : Nat)  (post : Int32 → kp_S → Prop) : Nat → Int32 → Int32 → kp_S → Prop
  | 0, _, _, _ => False
  | n + 1, xn1, xn2, Sn =>
  ((7 ≤ xn2 →
  post xn1 Sn) ∧ (¬ 7 ≤ xn2 →
  ∃ b1001 : Nat, kp_R Sn 2466 a0 = some b1001 ∧
  vp_in xn2 (kp_N Sn b1001) ∧
  ∀ y1002 : Int32, y1002 = (xn1 + (kp_A Sn b1001 xn2.toNatClampNeg)) →
  ∀ y1003 : Int32, y1003 = xn2 + 1 →
  wX12_allWater_L27 a0  post n y1002 y1003 Sn))
def wX12_allWater_L4 (a0 : Nat)  (post : Int32 → kp_S → Prop) : Nat → Int32 → Int32 → kp_S → Prop
  | 0, _, _, _ => False
  | n + 1, xn1, xn2, Sn =>
  ((6 ≤ xn2 →
  ∃ n0 : Nat, wX12_allWater_L27 a0  post n0 xn1 0 Sn) ∧ (¬ 6 ≤ xn2 →
  ∃ b2001 : Nat, kp_R Sn 2463 a0 = some b2001 ∧
  vp_in xn2 (kp_N Sn b2001) ∧
  ∀ y2002 : Int32, y2002 = (xn1 + (kp_A Sn b2001 xn2.toNatClampNeg)) →
  ∀ y2003 : Int32, y2003 = xn2 + 1 →
  wX12_allWater_L4 a0  post n y2002 y2003 Sn))
def wX12_allWater (a0 : Nat) (S : kp_S) (post : Int32 → kp_S → Prop) : Prop :=
  ∃ n0 : Nat, wX12_allWater_L4 a0  post n0 0 0 S
set_option maxHeartbeats 4000000 in
set_option maxRecDepth 100000 in
theorem c_X12_allWater (l : Launch) (D : va_G) (cy : Nat → ClassId) (ad : (Nat → Nat) × (Nat → Nat)) (S : kp_S) (a0 : Nat) (post : Int32 → kp_S → Prop) (hS : kp_ok S) (f_a0 : kp_is S a0 12) (hw : wX12_allWater a0 S post) : kp_M l yX12_allWater cX12_allWater 3 (some .int) { frames := 0, cells := 0, slots := 0, locals := 0 } D cy ad S [.ref a0] 0 0 (fun A => kp_Qi D cy A S post) := by
  refine kp_start (own := RX12) (by decide) rfl (Nat.le_of_ble_eq_true rfl) hS ?_
  intro p e s m below meth c A ls X hr hlocks hname h hl
  have hle : kp_le S S := kp_le.rf
  have hl : lv_has ls 3 [(0, .ref a0)] := hl
  have L27 : ∀ n27 : Nat, ∀ (xn1 : Int32) (xn2 : Int32) (Sn : kp_S) (H : Heap) (locs : List Loc) (ls : Array Slot), lv_has ls 3 [(0, .ref a0), (1, .int xn1), (2, .int xn2)] → kp_H D cy A Sn s.heap H locs → kp_le S Sn → kp_is Sn a0 12 → wX12_allWater_L27 a0  post n27 xn1 xn2 Sn → W p l e { frames := 0, cells := 0, slots := 0, locals := 0 } s m ([.ref a0] : List Value).toArray below meth c H locs 0 0 (MQ below (kp_Qi D cy A S post) ([.ref a0] : List Value).toArray s 0 0 A) (F0 m 27 ls []) := by
    intro n27
    induction n27 with
    | zero => intro xn1 xn2 Sn H locs ls hl h hle f_a0 hw; exact hw.elim
    | succ n27 ih27 =>
      intro xn1 xn2 Sn H locs ls hl h hle f_a0 hw
      unfold wX12_allWater_L27 at hw
      refine lv_iload_n X.1 X.2.1 dX12_allWater_27 rfl (lv_at hl 2 rfl) ?_
      refine lv_bipush (v := 7) X.1 X.2.1 dX12_allWater_28 (by decide) ?_
      refine lv_icmp_ge (tgt := 48) X.1 X.2.1 dX12_allWater_30 (by decide) (fun c1004 => ?_) (fun c1004 => ?_)
      · have hw := hw.1 c1004
        refine lv_iload_n X.1 X.2.1 dX12_allWater_48 rfl (lv_at hl 1 rfl) ?_
        exact kp_reti X hr hlocks h hle rfl hw dX12_allWater_49
      · have hw := hw.2 c1004
        refine lv_iload_n X.1 X.2.1 dX12_allWater_33 rfl (lv_at hl 1 rfl) ?_
        refine lv_aload_n X.1 X.2.1 dX12_allWater_34 rfl (lv_at hl 0 rfl) ?_
        obtain ⟨b1001, e_b1001, hw⟩ := hw
        have f_b1001 := h.2.2.2.rf (c := 12) (k := 66) f_a0 (by decide) (by decide) e_b1001 (t := 14) rfl
        refine kp_get X h f_a0 ff_12_164.l (v := .ref b1001) (congrArg va_rf e_b1001) dX12_allWater_35 ?_
        refine lv_iload_n X.1 X.2.1 dX12_allWater_38 rfl (lv_at hl 2 rfl) ?_
        obtain ⟨hi, hw⟩ := hw
        refine kp_iald X h f_b1001 hi dX12_allWater_39 ?_
        refine lv_iadd X.1 X.2.1 dX12_allWater_40 ?_
        refine lv_topi (fun y1002 e_y1002 => ?_)
        have hw := hw y1002 e_y1002
        refine lv_istore_n (lv' := [(1, .int y1002), (0, .ref a0), (2, .int xn2)]) X.1 X.2.1 dX12_allWater_41 rfl hl (by decide) rfl (fun ls hl => ?_)
        obtain ⟨y1003, e_y1003⟩ : ∃ y : Int32, y = xn2 + 1 := ⟨_, rfl⟩
        have hw := hw y1003 e_y1003
        refine lv_iinc (v := y1003) (lv' := [(2, .int y1003), (1, .int y1002), (0, .ref a0)]) X.1 X.2.1 dX12_allWater_42 hl (k := 2) rfl (by rw [e_y1003]; rfl) (by decide) rfl (fun ls hl => ?_)
        refine lv_goto (tgt := 27) X.1 X.2.1 dX12_allWater_45 (by decide) ?_
        exact ih27 y1002 y1003 Sn H locs ls (lv_sub hl [2, 1, 0] rfl) h hle f_a0 hw
  have L4 : ∀ n4 : Nat, ∀ (xn1 : Int32) (xn2 : Int32) (Sn : kp_S) (H : Heap) (locs : List Loc) (ls : Array Slot), lv_has ls 3 [(0, .ref a0), (1, .int xn1), (2, .int xn2)] → kp_H D cy A Sn s.heap H locs → kp_le S Sn → kp_is Sn a0 12 → wX12_allWater_L4 a0  post n4 xn1 xn2 Sn → W p l e { frames := 0, cells := 0, slots := 0, locals := 0 } s m ([.ref a0] : List Value).toArray below meth c H locs 0 0 (MQ below (kp_Qi D cy A S post) ([.ref a0] : List Value).toArray s 0 0 A) (F0 m 4 ls []) := by
    intro n4
    induction n4 with
    | zero => intro xn1 xn2 Sn H locs ls hl h hle f_a0 hw; exact hw.elim
    | succ n4 ih4 =>
      intro xn1 xn2 Sn H locs ls hl h hle f_a0 hw
      unfold wX12_allWater_L4 at hw
      refine lv_iload_n X.1 X.2.1 dX12_allWater_4 rfl (lv_at hl 2 rfl) ?_
      refine lv_bipush (v := 6) X.1 X.2.1 dX12_allWater_5 (by decide) ?_
      refine lv_icmp_ge (tgt := 25) X.1 X.2.1 dX12_allWater_7 (by decide) (fun c2004 => ?_) (fun c2004 => ?_)
      · have hw := hw.1 c2004
        refine lv_iconst (v := 0) X.1 X.2.1 dX12_allWater_25 (by decide) ?_
        refine lv_istore_n (lv' := [(2, .int 0), (0, .ref a0), (1, .int xn1)]) X.1 X.2.1 dX12_allWater_26 rfl hl (by decide) rfl (fun ls hl => ?_)
        obtain ⟨n0, hw⟩ := hw
        exact L27 n0 xn1 0 Sn H locs ls (lv_sub hl [1, 2, 0] rfl) h hle f_a0 hw
      · have hw := hw.2 c2004
        refine lv_iload_n X.1 X.2.1 dX12_allWater_10 rfl (lv_at hl 1 rfl) ?_
        refine lv_aload_n X.1 X.2.1 dX12_allWater_11 rfl (lv_at hl 0 rfl) ?_
        obtain ⟨b2001, e_b2001, hw⟩ := hw
        have f_b2001 := h.2.2.2.rf (c := 12) (k := 63) f_a0 (by decide) (by decide) e_b2001 (t := 14) rfl
        refine kp_get X h f_a0 ff_12_154.l (v := .ref b2001) (congrArg va_rf e_b2001) dX12_allWater_12 ?_
        refine lv_iload_n X.1 X.2.1 dX12_allWater_15 rfl (lv_at hl 2 rfl) ?_
        obtain ⟨hi, hw⟩ := hw
        refine kp_iald X h f_b2001 hi dX12_allWater_16 ?_
        refine lv_iadd X.1 X.2.1 dX12_allWater_17 ?_
        refine lv_topi (fun y2002 e_y2002 => ?_)
        have hw := hw y2002 e_y2002
        refine lv_istore_n (lv' := [(1, .int y2002), (0, .ref a0), (2, .int xn2)]) X.1 X.2.1 dX12_allWater_18 rfl hl (by decide) rfl (fun ls hl => ?_)
        obtain ⟨y2003, e_y2003⟩ : ∃ y : Int32, y = xn2 + 1 := ⟨_, rfl⟩
        have hw := hw y2003 e_y2003
        refine lv_iinc (v := y2003) (lv' := [(2, .int y2003), (1, .int y2002), (0, .ref a0)]) X.1 X.2.1 dX12_allWater_19 hl (k := 2) rfl (by rw [e_y2003]; rfl) (by decide) rfl (fun ls hl => ?_)
        refine lv_goto (tgt := 4) X.1 X.2.1 dX12_allWater_22 (by decide) ?_
        exact ih4 y2002 y2003 Sn H locs ls (lv_sub hl [2, 1, 0] rfl) h hle f_a0 hw
  unfold wX12_allWater at hw
  have h : kp_H D cy A S s.heap s.heap [] := h
  revert h
  intro h
  refine lv_iconst (v := 0) X.1 X.2.1 dX12_allWater_0 (by decide) ?_
  refine lv_istore_n (lv' := [(1, .int 0), (0, .ref a0)]) X.1 X.2.1 dX12_allWater_1 rfl hl (by decide) rfl (fun ls hl => ?_)
  refine lv_iconst (v := 0) X.1 X.2.1 dX12_allWater_2 (by decide) ?_
  refine lv_istore_n (lv' := [(2, .int 0), (1, .int 0), (0, .ref a0)]) X.1 X.2.1 dX12_allWater_3 rfl hl (by decide) rfl (fun ls hl => ?_)
  obtain ⟨n0, hw⟩ := hw
  exact L4 n0 0 0 S _ _ ls (lv_sub hl [2, 1, 0] rfl) h hle f_a0 hw
theorem dX12_look_0 : decode cX12_look 0 = .ok (.aload_n 0, 1) := by decide +kernel
theorem dX12_look_1 : decode cX12_look 1 = .ok (.iconst 0, 1) := by decide +kernel
theorem dX12_look_2 : decode cX12_look 2 = .ok (.putfield 1, 3) := by decide +kernel
theorem dX12_look_5 : decode cX12_look 5 = .ok (.iload_n 1, 1) := by decide +kernel
theorem dX12_look_6 : decode cX12_look 6 = .ok (.tableswitch 191 0 6 #[42, 62, 92, 124, 144, 165, 186], 42) := by decide +kernel
theorem dX12_look_48 : decode cX12_look 48 = .ok (.iload_n 2, 1) := by decide +kernel
theorem dX12_look_49 : decode cX12_look 49 = .ok (.iconst 0, 1) := by decide +kernel
theorem dX12_look_50 : decode cX12_look 50 = .ok (.iconst 5, 1) := by decide +kernel
theorem dX12_look_51 : decode cX12_look 51 = .ok (.invokestatic 589, 3) := by decide +kernel
theorem dX12_look_54 : decode cX12_look 54 = .ok (.ifCond .eq 12, 3) := by decide +kernel
theorem dX12_look_57 : decode cX12_look 57 = .ok (.aload_n 0, 1) := by decide +kernel
theorem dX12_look_58 : decode cX12_look 58 = .ok (.getfield 154, 3) := by decide +kernel
theorem dX12_look_61 : decode cX12_look 61 = .ok (.iload_n 2, 1) := by decide +kernel
theorem dX12_look_62 : decode cX12_look 62 = .ok (.iaload, 1) := by decide +kernel
theorem dX12_look_63 : decode cX12_look 63 = .ok (.goto 4, 3) := by decide +kernel
theorem dX12_look_66 : decode cX12_look 66 = .ok (.iconst (-1), 1) := by decide +kernel
theorem dX12_look_67 : decode cX12_look 67 = .ok (.ireturn, 1) := by decide +kernel
theorem dX12_look_68 : decode cX12_look 68 = .ok (.iload_n 2, 1) := by decide +kernel
theorem dX12_look_69 : decode cX12_look 69 = .ok (.iconst 0, 1) := by decide +kernel
theorem dX12_look_70 : decode cX12_look 70 = .ok (.iconst 5, 1) := by decide +kernel
theorem dX12_look_71 : decode cX12_look 71 = .ok (.invokestatic 589, 3) := by decide +kernel
theorem dX12_look_74 : decode cX12_look 74 = .ok (.ifCond .eq 22, 3) := by decide +kernel
theorem dX12_look_77 : decode cX12_look 77 = .ok (.aload_n 0, 1) := by decide +kernel
theorem dX12_look_78 : decode cX12_look 78 = .ok (.getfield 157, 3) := by decide +kernel
theorem dX12_look_81 : decode cX12_look 81 = .ok (.iconst 2, 1) := by decide +kernel
theorem dX12_look_82 : decode cX12_look 82 = .ok (.iload_n 2, 1) := by decide +kernel
theorem dX12_look_83 : decode cX12_look 83 = .ok (.imul, 1) := by decide +kernel
theorem dX12_look_84 : decode cX12_look 84 = .ok (.baload, 1) := by decide +kernel
theorem dX12_look_85 : decode cX12_look 85 = .ok (.ifCond .eq 7, 3) := by decide +kernel
theorem dX12_look_88 : decode cX12_look 88 = .ok (.iconst 1, 1) := by decide +kernel
theorem dX12_look_89 : decode cX12_look 89 = .ok (.goto 8, 3) := by decide +kernel
theorem dX12_look_92 : decode cX12_look 92 = .ok (.iconst 0, 1) := by decide +kernel
theorem dX12_look_93 : decode cX12_look 93 = .ok (.goto 4, 3) := by decide +kernel
theorem dX12_look_96 : decode cX12_look 96 = .ok (.iconst (-1), 1) := by decide +kernel
theorem dX12_look_97 : decode cX12_look 97 = .ok (.ireturn, 1) := by decide +kernel
theorem dX12_look_98 : decode cX12_look 98 = .ok (.iload_n 2, 1) := by decide +kernel
theorem dX12_look_99 : decode cX12_look 99 = .ok (.iconst 0, 1) := by decide +kernel
theorem dX12_look_100 : decode cX12_look 100 = .ok (.iconst 5, 1) := by decide +kernel
theorem dX12_look_101 : decode cX12_look 101 = .ok (.invokestatic 589, 3) := by decide +kernel
theorem dX12_look_104 : decode cX12_look 104 = .ok (.ifCond .eq 24, 3) := by decide +kernel
theorem dX12_look_107 : decode cX12_look 107 = .ok (.aload_n 0, 1) := by decide +kernel
theorem dX12_look_108 : decode cX12_look 108 = .ok (.getfield 157, 3) := by decide +kernel
theorem dX12_look_111 : decode cX12_look 111 = .ok (.iconst 2, 1) := by decide +kernel
theorem dX12_look_112 : decode cX12_look 112 = .ok (.iload_n 2, 1) := by decide +kernel
theorem dX12_look_113 : decode cX12_look 113 = .ok (.imul, 1) := by decide +kernel
theorem dX12_look_114 : decode cX12_look 114 = .ok (.iconst 1, 1) := by decide +kernel
theorem dX12_look_115 : decode cX12_look 115 = .ok (.iadd, 1) := by decide +kernel
theorem dX12_look_116 : decode cX12_look 116 = .ok (.baload, 1) := by decide +kernel
theorem dX12_look_117 : decode cX12_look 117 = .ok (.ifCond .eq 7, 3) := by decide +kernel
theorem dX12_look_120 : decode cX12_look 120 = .ok (.iconst 1, 1) := by decide +kernel
theorem dX12_look_121 : decode cX12_look 121 = .ok (.goto 8, 3) := by decide +kernel
theorem dX12_look_124 : decode cX12_look 124 = .ok (.iconst 0, 1) := by decide +kernel
theorem dX12_look_125 : decode cX12_look 125 = .ok (.goto 4, 3) := by decide +kernel
theorem dX12_look_128 : decode cX12_look 128 = .ok (.iconst (-1), 1) := by decide +kernel
theorem dX12_look_129 : decode cX12_look 129 = .ok (.ireturn, 1) := by decide +kernel
theorem dX12_look_130 : decode cX12_look 130 = .ok (.iload_n 2, 1) := by decide +kernel
theorem dX12_look_131 : decode cX12_look 131 = .ok (.iconst 0, 1) := by decide +kernel
theorem dX12_look_132 : decode cX12_look 132 = .ok (.iconst 5, 1) := by decide +kernel
theorem dX12_look_133 : decode cX12_look 133 = .ok (.invokestatic 589, 3) := by decide +kernel
theorem dX12_look_136 : decode cX12_look 136 = .ok (.ifCond .eq 12, 3) := by decide +kernel
theorem dX12_look_139 : decode cX12_look 139 = .ok (.aload_n 0, 1) := by decide +kernel
theorem dX12_look_140 : decode cX12_look 140 = .ok (.getfield 161, 3) := by decide +kernel
theorem dX12_look_143 : decode cX12_look 143 = .ok (.iload_n 2, 1) := by decide +kernel
theorem dX12_look_144 : decode cX12_look 144 = .ok (.iaload, 1) := by decide +kernel
theorem dX12_look_145 : decode cX12_look 145 = .ok (.goto 4, 3) := by decide +kernel
theorem dX12_look_148 : decode cX12_look 148 = .ok (.iconst (-1), 1) := by decide +kernel
theorem dX12_look_149 : decode cX12_look 149 = .ok (.ireturn, 1) := by decide +kernel
theorem dX12_look_150 : decode cX12_look 150 = .ok (.iload_n 2, 1) := by decide +kernel
theorem dX12_look_151 : decode cX12_look 151 = .ok (.iconst 0, 1) := by decide +kernel
theorem dX12_look_152 : decode cX12_look 152 = .ok (.bipush 6, 2) := by decide +kernel
theorem dX12_look_154 : decode cX12_look 154 = .ok (.invokestatic 589, 3) := by decide +kernel
theorem dX12_look_157 : decode cX12_look 157 = .ok (.ifCond .eq 12, 3) := by decide +kernel
theorem dX12_look_160 : decode cX12_look 160 = .ok (.aload_n 0, 1) := by decide +kernel
theorem dX12_look_161 : decode cX12_look 161 = .ok (.getfield 164, 3) := by decide +kernel
theorem dX12_look_164 : decode cX12_look 164 = .ok (.iload_n 2, 1) := by decide +kernel
theorem dX12_look_165 : decode cX12_look 165 = .ok (.iaload, 1) := by decide +kernel
theorem dX12_look_166 : decode cX12_look 166 = .ok (.goto 4, 3) := by decide +kernel
theorem dX12_look_169 : decode cX12_look 169 = .ok (.iconst (-1), 1) := by decide +kernel
theorem dX12_look_170 : decode cX12_look 170 = .ok (.ireturn, 1) := by decide +kernel
theorem dX12_look_171 : decode cX12_look 171 = .ok (.iload_n 2, 1) := by decide +kernel
theorem dX12_look_172 : decode cX12_look 172 = .ok (.iconst 0, 1) := by decide +kernel
theorem dX12_look_173 : decode cX12_look 173 = .ok (.bipush 7, 2) := by decide +kernel
theorem dX12_look_175 : decode cX12_look 175 = .ok (.invokestatic 589, 3) := by decide +kernel
theorem dX12_look_178 : decode cX12_look 178 = .ok (.ifCond .eq 12, 3) := by decide +kernel
theorem dX12_look_181 : decode cX12_look 181 = .ok (.aload_n 0, 1) := by decide +kernel
theorem dX12_look_182 : decode cX12_look 182 = .ok (.getfield 167, 3) := by decide +kernel
theorem dX12_look_185 : decode cX12_look 185 = .ok (.iload_n 2, 1) := by decide +kernel
theorem dX12_look_186 : decode cX12_look 186 = .ok (.iaload, 1) := by decide +kernel
theorem dX12_look_187 : decode cX12_look 187 = .ok (.goto 4, 3) := by decide +kernel
theorem dX12_look_190 : decode cX12_look 190 = .ok (.iconst (-1), 1) := by decide +kernel
theorem dX12_look_191 : decode cX12_look 191 = .ok (.ireturn, 1) := by decide +kernel
theorem dX12_look_192 : decode cX12_look 192 = .ok (.aload_n 0, 1) := by decide +kernel
theorem dX12_look_193 : decode cX12_look 193 = .ok (.invokevirtual 598, 3) := by decide +kernel
theorem dX12_look_196 : decode cX12_look 196 = .ok (.ireturn, 1) := by decide +kernel
theorem dX12_look_197 : decode cX12_look 197 = .ok (.iconst (-1), 1) := by decide +kernel
theorem dX12_look_198 : decode cX12_look 198 = .ok (.ireturn, 1) := by decide +kernel
def wX12_look_b67 (a0 : Nat) (x1 : Int32) (x2 : Int32) (xt0 : Int32)  (Sn : kp_S) (post : Int32 → kp_S → Prop) : Prop :=
  post xt0 Sn
def wX12_look_b97 (a0 : Nat) (x1 : Int32) (x2 : Int32) (xt0 : Int32)  (Sn : kp_S) (post : Int32 → kp_S → Prop) : Prop :=
  post xt0 Sn
def wX12_look_b129 (a0 : Nat) (x1 : Int32) (x2 : Int32) (xt0 : Int32)  (Sn : kp_S) (post : Int32 → kp_S → Prop) : Prop :=
  post xt0 Sn
def wX12_look_b149 (a0 : Nat) (x1 : Int32) (x2 : Int32) (xt0 : Int32)  (Sn : kp_S) (post : Int32 → kp_S → Prop) : Prop :=
  post xt0 Sn
def wX12_look_b170 (a0 : Nat) (x1 : Int32) (x2 : Int32) (xt0 : Int32)  (Sn : kp_S) (post : Int32 → kp_S → Prop) : Prop :=
  post xt0 Sn
def wX12_look_b191 (a0 : Nat) (x1 : Int32) (x2 : Int32) (xt0 : Int32)  (Sn : kp_S) (post : Int32 → kp_S → Prop) : Prop :=
  post xt0 Sn
def wX12_look (a0 : Nat) (x1 : Int32) (x2 : Int32) (S : kp_S) (post : Int32 → kp_S → Prop) : Prop :=
  ∀ T1 : kp_S, T1 = kp_sI S 2400 a0 0 →
  ((x1 = 0 →
  wX12_in x2 0 5 T1 (fun y4 T3 =>
  ((y4 = 0 →
  wX12_look_b67 a0 x1 x2 (-1)  T3 post) ∧ (¬ y4 = 0 →
  ∃ b5 : Nat, kp_R T3 2463 a0 = some b5 ∧
  vp_in x2 (kp_N T3 b5) ∧
  wX12_look_b67 a0 x1 x2 (kp_A T3 b5 x2.toNatClampNeg)  T3 post)))) ∧ (¬ x1 = 0 →
  ((x1 = 1 →
  wX12_in x2 0 5 T1 (fun y9 T8 =>
  ((y9 = 0 →
  wX12_look_b97 a0 x1 x2 (-1)  T8 post) ∧ (¬ y9 = 0 →
  ∃ b10 : Nat, kp_R T8 2464 a0 = some b10 ∧
  vp_in (2 * x2) (kp_N T8 b10) ∧
  (((kp_A T8 b10 (2 * x2).toNatClampNeg) = 0 →
  wX12_look_b97 a0 x1 x2 0  T8 post) ∧ (¬ (kp_A T8 b10 (2 * x2).toNatClampNeg) = 0 →
  wX12_look_b97 a0 x1 x2 1  T8 post)))))) ∧ (¬ x1 = 1 →
  ((x1 = 2 →
  wX12_in x2 0 5 T1 (fun y15 T14 =>
  ((y15 = 0 →
  wX12_look_b129 a0 x1 x2 (-1)  T14 post) ∧ (¬ y15 = 0 →
  ∃ b16 : Nat, kp_R T14 2464 a0 = some b16 ∧
  vp_in ((2 * x2) + 1) (kp_N T14 b16) ∧
  (((kp_A T14 b16 ((2 * x2) + 1).toNatClampNeg) = 0 →
  wX12_look_b129 a0 x1 x2 0  T14 post) ∧ (¬ (kp_A T14 b16 ((2 * x2) + 1).toNatClampNeg) = 0 →
  wX12_look_b129 a0 x1 x2 1  T14 post)))))) ∧ (¬ x1 = 2 →
  ((x1 = 3 →
  wX12_in x2 0 5 T1 (fun y21 T20 =>
  ((y21 = 0 →
  wX12_look_b149 a0 x1 x2 (-1)  T20 post) ∧ (¬ y21 = 0 →
  ∃ b22 : Nat, kp_R T20 2465 a0 = some b22 ∧
  vp_in x2 (kp_N T20 b22) ∧
  wX12_look_b149 a0 x1 x2 (kp_A T20 b22 x2.toNatClampNeg)  T20 post)))) ∧ (¬ x1 = 3 →
  ((x1 = 4 →
  wX12_in x2 0 6 T1 (fun y26 T25 =>
  ((y26 = 0 →
  wX12_look_b170 a0 x1 x2 (-1)  T25 post) ∧ (¬ y26 = 0 →
  ∃ b27 : Nat, kp_R T25 2466 a0 = some b27 ∧
  vp_in x2 (kp_N T25 b27) ∧
  wX12_look_b170 a0 x1 x2 (kp_A T25 b27 x2.toNatClampNeg)  T25 post)))) ∧ (¬ x1 = 4 →
  ((x1 = 5 →
  wX12_in x2 0 7 T1 (fun y31 T30 =>
  ((y31 = 0 →
  wX12_look_b191 a0 x1 x2 (-1)  T30 post) ∧ (¬ y31 = 0 →
  ∃ b32 : Nat, kp_R T30 2467 a0 = some b32 ∧
  vp_in x2 (kp_N T30 b32) ∧
  wX12_look_b191 a0 x1 x2 (kp_A T30 b32 x2.toNatClampNeg)  T30 post)))) ∧ (¬ x1 = 5 →
  ((x1 = 6 →
  wX12_allWater a0 T1 (fun y36 T35 =>
  post y36 T35)) ∧ (¬ x1 = 6 →
  post (-1) T1))))))))))))))
set_option maxHeartbeats 4000000 in
set_option maxRecDepth 100000 in
theorem c_X12_look (l : Launch) (D : va_G) (cy : Nat → ClassId) (ad : (Nat → Nat) × (Nat → Nat)) (S : kp_S) (a0 : Nat) (x1 : Int32) (x2 : Int32) (post : Int32 → kp_S → Prop) (hS : kp_ok S) (f_a0 : kp_is S a0 12) (hw : wX12_look a0 x1 x2 S post) : kp_M l yX12_look cX12_look 3 (some .int) { frames := 1, cells := 0, slots := 0, locals := 22 } D cy ad S [.ref a0, .int x1, .int x2] 0 0 (fun A => kp_Qi D cy A S post) := by
  refine kp_start (own := RX12) (by decide) rfl (Nat.le_of_ble_eq_true rfl) hS ?_
  intro p e s m below meth c A ls X hr hlocks hname h hl
  have hle : kp_le S S := kp_le.rf
  have hl : lv_has ls 3 [(0, .ref a0), (1, .int x1), (2, .int x2)] := hl
  have j67 : ∀ (xt0 : Int32) (Sn : kp_S) (H : Heap) (locs : List Loc) (ls : Array Slot), lv_has ls 3 [] → kp_H D cy A Sn s.heap H locs → kp_le S Sn → kp_is Sn a0 12 → wX12_look_b67 a0 x1 x2 xt0  Sn post → W p l e { frames := 1, cells := 0, slots := 0, locals := 22 } s m ([.ref a0, .int x1, .int x2] : List Value).toArray below meth c H locs 0 0 (MQ below (kp_Qi D cy A S post) ([.ref a0, .int x1, .int x2] : List Value).toArray s 0 0 A) (F0 m 67 ls [.int xt0]) := by
    intro xt0 Sn H locs ls hl h hle f_a0 hw
    unfold wX12_look_b67 at hw
    exact kp_reti X hr hlocks h hle rfl hw dX12_look_67
  have j97 : ∀ (xt0 : Int32) (Sn : kp_S) (H : Heap) (locs : List Loc) (ls : Array Slot), lv_has ls 3 [] → kp_H D cy A Sn s.heap H locs → kp_le S Sn → kp_is Sn a0 12 → wX12_look_b97 a0 x1 x2 xt0  Sn post → W p l e { frames := 1, cells := 0, slots := 0, locals := 22 } s m ([.ref a0, .int x1, .int x2] : List Value).toArray below meth c H locs 0 0 (MQ below (kp_Qi D cy A S post) ([.ref a0, .int x1, .int x2] : List Value).toArray s 0 0 A) (F0 m 97 ls [.int xt0]) := by
    intro xt0 Sn H locs ls hl h hle f_a0 hw
    unfold wX12_look_b97 at hw
    exact kp_reti X hr hlocks h hle rfl hw dX12_look_97
  have j129 : ∀ (xt0 : Int32) (Sn : kp_S) (H : Heap) (locs : List Loc) (ls : Array Slot), lv_has ls 3 [] → kp_H D cy A Sn s.heap H locs → kp_le S Sn → kp_is Sn a0 12 → wX12_look_b129 a0 x1 x2 xt0  Sn post → W p l e { frames := 1, cells := 0, slots := 0, locals := 22 } s m ([.ref a0, .int x1, .int x2] : List Value).toArray below meth c H locs 0 0 (MQ below (kp_Qi D cy A S post) ([.ref a0, .int x1, .int x2] : List Value).toArray s 0 0 A) (F0 m 129 ls [.int xt0]) := by
    intro xt0 Sn H locs ls hl h hle f_a0 hw
    unfold wX12_look_b129 at hw
    exact kp_reti X hr hlocks h hle rfl hw dX12_look_129
  have j149 : ∀ (xt0 : Int32) (Sn : kp_S) (H : Heap) (locs : List Loc) (ls : Array Slot), lv_has ls 3 [] → kp_H D cy A Sn s.heap H locs → kp_le S Sn → kp_is Sn a0 12 → wX12_look_b149 a0 x1 x2 xt0  Sn post → W p l e { frames := 1, cells := 0, slots := 0, locals := 22 } s m ([.ref a0, .int x1, .int x2] : List Value).toArray below meth c H locs 0 0 (MQ below (kp_Qi D cy A S post) ([.ref a0, .int x1, .int x2] : List Value).toArray s 0 0 A) (F0 m 149 ls [.int xt0]) := by
    intro xt0 Sn H locs ls hl h hle f_a0 hw
    unfold wX12_look_b149 at hw
    exact kp_reti X hr hlocks h hle rfl hw dX12_look_149
  have j170 : ∀ (xt0 : Int32) (Sn : kp_S) (H : Heap) (locs : List Loc) (ls : Array Slot), lv_has ls 3 [] → kp_H D cy A Sn s.heap H locs → kp_le S Sn → kp_is Sn a0 12 → wX12_look_b170 a0 x1 x2 xt0  Sn post → W p l e { frames := 1, cells := 0, slots := 0, locals := 22 } s m ([.ref a0, .int x1, .int x2] : List Value).toArray below meth c H locs 0 0 (MQ below (kp_Qi D cy A S post) ([.ref a0, .int x1, .int x2] : List Value).toArray s 0 0 A) (F0 m 170 ls [.int xt0]) := by
    intro xt0 Sn H locs ls hl h hle f_a0 hw
    unfold wX12_look_b170 at hw
    exact kp_reti X hr hlocks h hle rfl hw dX12_look_170
  have j191 : ∀ (xt0 : Int32) (Sn : kp_S) (H : Heap) (locs : List Loc) (ls : Array Slot), lv_has ls 3 [] → kp_H D cy A Sn s.heap H locs → kp_le S Sn → kp_is Sn a0 12 → wX12_look_b191 a0 x1 x2 xt0  Sn post → W p l e { frames := 1, cells := 0, slots := 0, locals := 22 } s m ([.ref a0, .int x1, .int x2] : List Value).toArray below meth c H locs 0 0 (MQ below (kp_Qi D cy A S post) ([.ref a0, .int x1, .int x2] : List Value).toArray s 0 0 A) (F0 m 191 ls [.int xt0]) := by
    intro xt0 Sn H locs ls hl h hle f_a0 hw
    unfold wX12_look_b191 at hw
    exact kp_reti X hr hlocks h hle rfl hw dX12_look_191
  unfold wX12_look at hw
  have h : kp_H D cy A S s.heap s.heap [] := h
  revert h
  intro h
  refine lv_aload_n X.1 X.2.1 dX12_look_0 rfl (lv_at hl 0 rfl) ?_
  refine lv_iconst (v := 0) X.1 X.2.1 dX12_look_1 (by decide) ?_
  refine kp_putI X h f_a0 fp_12_1 rfl ⟨rfl, rfl⟩ dX12_look_2 (fun T1 e_T1 l_T1 H locs h => ?_)
  have hw := hw T1 e_T1
  have f_a0 := l_T1.is f_a0
  have hle := hle.tr l_T1
  refine lv_iload_n X.1 X.2.1 dX12_look_5 rfl (lv_at hl 1 rfl) ?_
  by_cases c2 : x1 = 0
  · have hw := hw.1 c2
    refine lv_tableIn (off := 42) (tgt := 48) X.1 X.2.1 dX12_look_6 (by rw [c2]; decide) (by rw [c2]; decide) (by rw [c2]; decide) (by decide) ?_
    refine lv_iload_n X.1 X.2.1 dX12_look_48 rfl (lv_at hl 2 rfl) ?_
    refine lv_iconst (v := 0) X.1 X.2.1 dX12_look_49 (by decide) ?_
    refine lv_iconst (v := 5) X.1 X.2.1 dX12_look_50 (by decide) ?_
    refine kp_calli X h (kp_runS (rm := { frames := 0, cells := 0, slots := 0, locals := 0 }) (mc := 0) (ms := 0) (rest := []) (Qc := fun A => kp_Qi D cy A T1 _) X h (c_X12_in l D cy ad T1 x2 0 5 _ h.2.2.2  hw) cs_12_589 ⟨by decide, by decide, rfl, rfl, by decide, by decide⟩ rfl hl.1 rfl (Nat.le_of_ble_eq_true rfl) dX12_look_51) (fun y4 T3 hw l_T3 H locs h => ?_)
    have f_a0 := l_T3.is f_a0
    have hle := hle.tr l_T3
    refine lv_if_eq (tgt := 66) X.1 X.2.1 dX12_look_54 (by decide) (fun c6 => ?_) (fun c6 => ?_)
    · have hw := hw.1 c6
      refine lv_iconst (v := (-1)) X.1 X.2.1 dX12_look_66 (by decide) ?_
      exact j67 (-1) T3 _ _ ls (lv_sub hl [] rfl) h hle f_a0 hw
    · have hw := hw.2 c6
      refine lv_aload_n X.1 X.2.1 dX12_look_57 rfl (lv_at hl 0 rfl) ?_
      obtain ⟨b5, e_b5, hw⟩ := hw
      have f_b5 := h.2.2.2.rf (c := 12) (k := 63) f_a0 (by decide) (by decide) e_b5 (t := 14) rfl
      refine kp_get X h f_a0 ff_12_154.l (v := .ref b5) (congrArg va_rf e_b5) dX12_look_58 ?_
      refine lv_iload_n X.1 X.2.1 dX12_look_61 rfl (lv_at hl 2 rfl) ?_
      obtain ⟨hi, hw⟩ := hw
      refine kp_iald X h f_b5 hi dX12_look_62 ?_
      refine lv_goto (tgt := 67) X.1 X.2.1 dX12_look_63 (by decide) ?_
      exact j67 (kp_A T3 b5 x2.toNatClampNeg) T3 _ _ ls (lv_sub hl [] rfl) h hle f_a0 hw
  have hw := hw.2 c2
  by_cases c7 : x1 = 1
  · have hw := hw.1 c7
    refine lv_tableIn (off := 62) (tgt := 68) X.1 X.2.1 dX12_look_6 (by rw [c7]; decide) (by rw [c7]; decide) (by rw [c7]; decide) (by decide) ?_
    refine lv_iload_n X.1 X.2.1 dX12_look_68 rfl (lv_at hl 2 rfl) ?_
    refine lv_iconst (v := 0) X.1 X.2.1 dX12_look_69 (by decide) ?_
    refine lv_iconst (v := 5) X.1 X.2.1 dX12_look_70 (by decide) ?_
    refine kp_calli X h (kp_runS (rm := { frames := 0, cells := 0, slots := 0, locals := 0 }) (mc := 0) (ms := 0) (rest := []) (Qc := fun A => kp_Qi D cy A T1 _) X h (c_X12_in l D cy ad T1 x2 0 5 _ h.2.2.2  hw) cs_12_589 ⟨by decide, by decide, rfl, rfl, by decide, by decide⟩ rfl hl.1 rfl (Nat.le_of_ble_eq_true rfl) dX12_look_71) (fun y9 T8 hw l_T8 H locs h => ?_)
    have f_a0 := l_T8.is f_a0
    have hle := hle.tr l_T8
    refine lv_if_eq (tgt := 96) X.1 X.2.1 dX12_look_74 (by decide) (fun c12 => ?_) (fun c12 => ?_)
    · have hw := hw.1 c12
      refine lv_iconst (v := (-1)) X.1 X.2.1 dX12_look_96 (by decide) ?_
      exact j97 (-1) T8 _ _ ls (lv_sub hl [] rfl) h hle f_a0 hw
    · have hw := hw.2 c12
      refine lv_aload_n X.1 X.2.1 dX12_look_77 rfl (lv_at hl 0 rfl) ?_
      obtain ⟨b10, e_b10, hw⟩ := hw
      have f_b10 := h.2.2.2.rf (c := 12) (k := 64) f_a0 (by decide) (by decide) e_b10 (t := 16) rfl
      refine kp_get X h f_a0 ff_12_157.l (v := .ref b10) (congrArg va_rf e_b10) dX12_look_78 ?_
      refine lv_iconst (v := 2) X.1 X.2.1 dX12_look_81 (by decide) ?_
      refine lv_iload_n X.1 X.2.1 dX12_look_82 rfl (lv_at hl 2 rfl) ?_
      refine lv_imul X.1 X.2.1 dX12_look_83 ?_
      obtain ⟨hi, hw⟩ := hw
      refine kp_zald X h f_b10 hi dX12_look_84 ?_
      refine lv_if_eq (tgt := 92) X.1 X.2.1 dX12_look_85 (by decide) (fun c11 => ?_) (fun c11 => ?_)
      · have hw := hw.1 c11
        refine lv_iconst (v := 0) X.1 X.2.1 dX12_look_92 (by decide) ?_
        refine lv_goto (tgt := 97) X.1 X.2.1 dX12_look_93 (by decide) ?_
        exact j97 0 T8 _ _ ls (lv_sub hl [] rfl) h hle f_a0 hw
      · have hw := hw.2 c11
        refine lv_iconst (v := 1) X.1 X.2.1 dX12_look_88 (by decide) ?_
        refine lv_goto (tgt := 97) X.1 X.2.1 dX12_look_89 (by decide) ?_
        exact j97 1 T8 _ _ ls (lv_sub hl [] rfl) h hle f_a0 hw
  have hw := hw.2 c7
  by_cases c13 : x1 = 2
  · have hw := hw.1 c13
    refine lv_tableIn (off := 92) (tgt := 98) X.1 X.2.1 dX12_look_6 (by rw [c13]; decide) (by rw [c13]; decide) (by rw [c13]; decide) (by decide) ?_
    refine lv_iload_n X.1 X.2.1 dX12_look_98 rfl (lv_at hl 2 rfl) ?_
    refine lv_iconst (v := 0) X.1 X.2.1 dX12_look_99 (by decide) ?_
    refine lv_iconst (v := 5) X.1 X.2.1 dX12_look_100 (by decide) ?_
    refine kp_calli X h (kp_runS (rm := { frames := 0, cells := 0, slots := 0, locals := 0 }) (mc := 0) (ms := 0) (rest := []) (Qc := fun A => kp_Qi D cy A T1 _) X h (c_X12_in l D cy ad T1 x2 0 5 _ h.2.2.2  hw) cs_12_589 ⟨by decide, by decide, rfl, rfl, by decide, by decide⟩ rfl hl.1 rfl (Nat.le_of_ble_eq_true rfl) dX12_look_101) (fun y15 T14 hw l_T14 H locs h => ?_)
    have f_a0 := l_T14.is f_a0
    have hle := hle.tr l_T14
    refine lv_if_eq (tgt := 128) X.1 X.2.1 dX12_look_104 (by decide) (fun c18 => ?_) (fun c18 => ?_)
    · have hw := hw.1 c18
      refine lv_iconst (v := (-1)) X.1 X.2.1 dX12_look_128 (by decide) ?_
      exact j129 (-1) T14 _ _ ls (lv_sub hl [] rfl) h hle f_a0 hw
    · have hw := hw.2 c18
      refine lv_aload_n X.1 X.2.1 dX12_look_107 rfl (lv_at hl 0 rfl) ?_
      obtain ⟨b16, e_b16, hw⟩ := hw
      have f_b16 := h.2.2.2.rf (c := 12) (k := 64) f_a0 (by decide) (by decide) e_b16 (t := 16) rfl
      refine kp_get X h f_a0 ff_12_157.l (v := .ref b16) (congrArg va_rf e_b16) dX12_look_108 ?_
      refine lv_iconst (v := 2) X.1 X.2.1 dX12_look_111 (by decide) ?_
      refine lv_iload_n X.1 X.2.1 dX12_look_112 rfl (lv_at hl 2 rfl) ?_
      refine lv_imul X.1 X.2.1 dX12_look_113 ?_
      refine lv_iconst (v := 1) X.1 X.2.1 dX12_look_114 (by decide) ?_
      refine lv_iadd X.1 X.2.1 dX12_look_115 ?_
      obtain ⟨hi, hw⟩ := hw
      refine kp_zald X h f_b16 hi dX12_look_116 ?_
      refine lv_if_eq (tgt := 124) X.1 X.2.1 dX12_look_117 (by decide) (fun c17 => ?_) (fun c17 => ?_)
      · have hw := hw.1 c17
        refine lv_iconst (v := 0) X.1 X.2.1 dX12_look_124 (by decide) ?_
        refine lv_goto (tgt := 129) X.1 X.2.1 dX12_look_125 (by decide) ?_
        exact j129 0 T14 _ _ ls (lv_sub hl [] rfl) h hle f_a0 hw
      · have hw := hw.2 c17
        refine lv_iconst (v := 1) X.1 X.2.1 dX12_look_120 (by decide) ?_
        refine lv_goto (tgt := 129) X.1 X.2.1 dX12_look_121 (by decide) ?_
        exact j129 1 T14 _ _ ls (lv_sub hl [] rfl) h hle f_a0 hw
  have hw := hw.2 c13
  by_cases c19 : x1 = 3
  · have hw := hw.1 c19
    refine lv_tableIn (off := 124) (tgt := 130) X.1 X.2.1 dX12_look_6 (by rw [c19]; decide) (by rw [c19]; decide) (by rw [c19]; decide) (by decide) ?_
    refine lv_iload_n X.1 X.2.1 dX12_look_130 rfl (lv_at hl 2 rfl) ?_
    refine lv_iconst (v := 0) X.1 X.2.1 dX12_look_131 (by decide) ?_
    refine lv_iconst (v := 5) X.1 X.2.1 dX12_look_132 (by decide) ?_
    refine kp_calli X h (kp_runS (rm := { frames := 0, cells := 0, slots := 0, locals := 0 }) (mc := 0) (ms := 0) (rest := []) (Qc := fun A => kp_Qi D cy A T1 _) X h (c_X12_in l D cy ad T1 x2 0 5 _ h.2.2.2  hw) cs_12_589 ⟨by decide, by decide, rfl, rfl, by decide, by decide⟩ rfl hl.1 rfl (Nat.le_of_ble_eq_true rfl) dX12_look_133) (fun y21 T20 hw l_T20 H locs h => ?_)
    have f_a0 := l_T20.is f_a0
    have hle := hle.tr l_T20
    refine lv_if_eq (tgt := 148) X.1 X.2.1 dX12_look_136 (by decide) (fun c23 => ?_) (fun c23 => ?_)
    · have hw := hw.1 c23
      refine lv_iconst (v := (-1)) X.1 X.2.1 dX12_look_148 (by decide) ?_
      exact j149 (-1) T20 _ _ ls (lv_sub hl [] rfl) h hle f_a0 hw
    · have hw := hw.2 c23
      refine lv_aload_n X.1 X.2.1 dX12_look_139 rfl (lv_at hl 0 rfl) ?_
      obtain ⟨b22, e_b22, hw⟩ := hw
      have f_b22 := h.2.2.2.rf (c := 12) (k := 65) f_a0 (by decide) (by decide) e_b22 (t := 14) rfl
      refine kp_get X h f_a0 ff_12_161.l (v := .ref b22) (congrArg va_rf e_b22) dX12_look_140 ?_
      refine lv_iload_n X.1 X.2.1 dX12_look_143 rfl (lv_at hl 2 rfl) ?_
      obtain ⟨hi, hw⟩ := hw
      refine kp_iald X h f_b22 hi dX12_look_144 ?_
      refine lv_goto (tgt := 149) X.1 X.2.1 dX12_look_145 (by decide) ?_
      exact j149 (kp_A T20 b22 x2.toNatClampNeg) T20 _ _ ls (lv_sub hl [] rfl) h hle f_a0 hw
  have hw := hw.2 c19
  by_cases c24 : x1 = 4
  · have hw := hw.1 c24
    refine lv_tableIn (off := 144) (tgt := 150) X.1 X.2.1 dX12_look_6 (by rw [c24]; decide) (by rw [c24]; decide) (by rw [c24]; decide) (by decide) ?_
    refine lv_iload_n X.1 X.2.1 dX12_look_150 rfl (lv_at hl 2 rfl) ?_
    refine lv_iconst (v := 0) X.1 X.2.1 dX12_look_151 (by decide) ?_
    refine lv_bipush (v := 6) X.1 X.2.1 dX12_look_152 (by decide) ?_
    refine kp_calli X h (kp_runS (rm := { frames := 0, cells := 0, slots := 0, locals := 0 }) (mc := 0) (ms := 0) (rest := []) (Qc := fun A => kp_Qi D cy A T1 _) X h (c_X12_in l D cy ad T1 x2 0 6 _ h.2.2.2  hw) cs_12_589 ⟨by decide, by decide, rfl, rfl, by decide, by decide⟩ rfl hl.1 rfl (Nat.le_of_ble_eq_true rfl) dX12_look_154) (fun y26 T25 hw l_T25 H locs h => ?_)
    have f_a0 := l_T25.is f_a0
    have hle := hle.tr l_T25
    refine lv_if_eq (tgt := 169) X.1 X.2.1 dX12_look_157 (by decide) (fun c28 => ?_) (fun c28 => ?_)
    · have hw := hw.1 c28
      refine lv_iconst (v := (-1)) X.1 X.2.1 dX12_look_169 (by decide) ?_
      exact j170 (-1) T25 _ _ ls (lv_sub hl [] rfl) h hle f_a0 hw
    · have hw := hw.2 c28
      refine lv_aload_n X.1 X.2.1 dX12_look_160 rfl (lv_at hl 0 rfl) ?_
      obtain ⟨b27, e_b27, hw⟩ := hw
      have f_b27 := h.2.2.2.rf (c := 12) (k := 66) f_a0 (by decide) (by decide) e_b27 (t := 14) rfl
      refine kp_get X h f_a0 ff_12_164.l (v := .ref b27) (congrArg va_rf e_b27) dX12_look_161 ?_
      refine lv_iload_n X.1 X.2.1 dX12_look_164 rfl (lv_at hl 2 rfl) ?_
      obtain ⟨hi, hw⟩ := hw
      refine kp_iald X h f_b27 hi dX12_look_165 ?_
      refine lv_goto (tgt := 170) X.1 X.2.1 dX12_look_166 (by decide) ?_
      exact j170 (kp_A T25 b27 x2.toNatClampNeg) T25 _ _ ls (lv_sub hl [] rfl) h hle f_a0 hw
  have hw := hw.2 c24
  by_cases c29 : x1 = 5
  · have hw := hw.1 c29
    refine lv_tableIn (off := 165) (tgt := 171) X.1 X.2.1 dX12_look_6 (by rw [c29]; decide) (by rw [c29]; decide) (by rw [c29]; decide) (by decide) ?_
    refine lv_iload_n X.1 X.2.1 dX12_look_171 rfl (lv_at hl 2 rfl) ?_
    refine lv_iconst (v := 0) X.1 X.2.1 dX12_look_172 (by decide) ?_
    refine lv_bipush (v := 7) X.1 X.2.1 dX12_look_173 (by decide) ?_
    refine kp_calli X h (kp_runS (rm := { frames := 0, cells := 0, slots := 0, locals := 0 }) (mc := 0) (ms := 0) (rest := []) (Qc := fun A => kp_Qi D cy A T1 _) X h (c_X12_in l D cy ad T1 x2 0 7 _ h.2.2.2  hw) cs_12_589 ⟨by decide, by decide, rfl, rfl, by decide, by decide⟩ rfl hl.1 rfl (Nat.le_of_ble_eq_true rfl) dX12_look_175) (fun y31 T30 hw l_T30 H locs h => ?_)
    have f_a0 := l_T30.is f_a0
    have hle := hle.tr l_T30
    refine lv_if_eq (tgt := 190) X.1 X.2.1 dX12_look_178 (by decide) (fun c33 => ?_) (fun c33 => ?_)
    · have hw := hw.1 c33
      refine lv_iconst (v := (-1)) X.1 X.2.1 dX12_look_190 (by decide) ?_
      exact j191 (-1) T30 _ _ ls (lv_sub hl [] rfl) h hle f_a0 hw
    · have hw := hw.2 c33
      refine lv_aload_n X.1 X.2.1 dX12_look_181 rfl (lv_at hl 0 rfl) ?_
      obtain ⟨b32, e_b32, hw⟩ := hw
      have f_b32 := h.2.2.2.rf (c := 12) (k := 67) f_a0 (by decide) (by decide) e_b32 (t := 14) rfl
      refine kp_get X h f_a0 ff_12_167.l (v := .ref b32) (congrArg va_rf e_b32) dX12_look_182 ?_
      refine lv_iload_n X.1 X.2.1 dX12_look_185 rfl (lv_at hl 2 rfl) ?_
      obtain ⟨hi, hw⟩ := hw
      refine kp_iald X h f_b32 hi dX12_look_186 ?_
      refine lv_goto (tgt := 191) X.1 X.2.1 dX12_look_187 (by decide) ?_
      exact j191 (kp_A T30 b32 x2.toNatClampNeg) T30 _ _ ls (lv_sub hl [] rfl) h hle f_a0 hw
  have hw := hw.2 c29
  by_cases c34 : x1 = 6
  · have hw := hw.1 c34
    refine lv_tableIn (off := 186) (tgt := 192) X.1 X.2.1 dX12_look_6 (by rw [c34]; decide) (by rw [c34]; decide) (by rw [c34]; decide) (by decide) ?_
    refine lv_aload_n X.1 X.2.1 dX12_look_192 rfl (lv_at hl 0 rfl) ?_
    refine kp_calli X h (kp_runV (rm := { frames := 0, cells := 0, slots := 0, locals := 0 }) (mc := 0) (ms := 0) (rest := []) (Qc := fun A => kp_Qi D cy A T1 _) X h (c_X12_allWater l D cy ad T1 a0 _ h.2.2.2 f_a0 hw) f_a0 cv_12_598 ⟨by decide, by decide, rfl, rfl, by decide, by decide⟩ rfl hl.1 rfl (Nat.le_of_ble_eq_true rfl) dX12_look_193) (fun y36 T35 hw l_T35 H locs h => ?_)
    have f_a0 := l_T35.is f_a0
    have hle := hle.tr l_T35
    exact kp_reti X hr hlocks h hle rfl hw dX12_look_196
  have hw := hw.2 c34
  have t_c2 := lv_neT (a := 0) c2 (by decide)
  have t_c7 := lv_neT (a := 1) c7 (by decide)
  have t_c13 := lv_neT (a := 2) c13 (by decide)
  have t_c19 := lv_neT (a := 3) c19 (by decide)
  have t_c24 := lv_neT (a := 4) c24 (by decide)
  have t_c29 := lv_neT (a := 5) c29 (by decide)
  have t_c34 := lv_neT (a := 6) c34 (by decide)
  refine lv_tableOut (tgt := 197) X.1 X.2.1 dX12_look_6 (by omega) (by decide) ?_
  refine lv_iconst (v := (-1)) X.1 X.2.1 dX12_look_197 (by decide) ?_
  exact kp_reti X hr hlocks h hle rfl hw dX12_look_198
theorem dX12_note_0 : decode cX12_note 0 = .ok (.aload_n 0, 1) := by decide +kernel
theorem dX12_note_1 : decode cX12_note 1 = .ok (.getfield 601, 3) := by decide +kernel
theorem dX12_note_4 : decode cX12_note 4 = .ok (.sipush 300, 3) := by decide +kernel
theorem dX12_note_7 : decode cX12_note 7 = .ok (.if_icmp .ge 23, 3) := by decide +kernel
theorem dX12_note_10 : decode cX12_note 10 = .ok (.aload_n 0, 1) := by decide +kernel
theorem dX12_note_11 : decode cX12_note 11 = .ok (.getfield 170, 3) := by decide +kernel
theorem dX12_note_14 : decode cX12_note 14 = .ok (.aload_n 0, 1) := by decide +kernel
theorem dX12_note_15 : decode cX12_note 15 = .ok (.getfield 601, 3) := by decide +kernel
theorem dX12_note_18 : decode cX12_note 18 = .ok (.iload_n 1, 1) := by decide +kernel
theorem dX12_note_19 : decode cX12_note 19 = .ok (.iastore, 1) := by decide +kernel
theorem dX12_note_20 : decode cX12_note 20 = .ok (.aload_n 0, 1) := by decide +kernel
theorem dX12_note_21 : decode cX12_note 21 = .ok (.getfield 173, 3) := by decide +kernel
theorem dX12_note_24 : decode cX12_note 24 = .ok (.aload_n 0, 1) := by decide +kernel
theorem dX12_note_25 : decode cX12_note 25 = .ok (.getfield 601, 3) := by decide +kernel
theorem dX12_note_28 : decode cX12_note 28 = .ok (.iload_n 2, 1) := by decide +kernel
theorem dX12_note_29 : decode cX12_note 29 = .ok (.iastore, 1) := by decide +kernel
theorem dX12_note_30 : decode cX12_note 30 = .ok (.aload_n 0, 1) := by decide +kernel
theorem dX12_note_31 : decode cX12_note 31 = .ok (.dup, 1) := by decide +kernel
theorem dX12_note_32 : decode cX12_note 32 = .ok (.getfield 601, 3) := by decide +kernel
theorem dX12_note_35 : decode cX12_note 35 = .ok (.iconst 1, 1) := by decide +kernel
theorem dX12_note_36 : decode cX12_note 36 = .ok (.iadd, 1) := by decide +kernel
theorem dX12_note_37 : decode cX12_note 37 = .ok (.putfield 601, 3) := by decide +kernel
theorem dX12_note_40 : decode cX12_note 40 = .ok (.return_, 1) := by decide +kernel
def wX12_note_b30 (a0 : Nat) (x1 : Int32) (x2 : Int32)  (Sn : kp_S) (post : kp_S → Prop) : Prop :=
  ∀ T1001 : kp_S, T1001 = kp_sI Sn 2470 a0 ((kp_I Sn 2470 a0) + 1) →
  post T1001
def wX12_note (a0 : Nat) (x1 : Int32) (x2 : Int32) (S : kp_S) (post : kp_S → Prop) : Prop :=
  ((300 ≤ (kp_I S 2470 a0) →
  wX12_note_b30 a0 x1 x2   S post) ∧ (¬ 300 ≤ (kp_I S 2470 a0) →
  ∃ b1 : Nat, kp_R S 2468 a0 = some b1 ∧
  vp_in (kp_I S 2470 a0) (kp_N S b1) ∧ ∀ T2 : kp_S, T2 = kp_sA S b1 (upd (kp_A S b1) ((kp_I S 2470 a0).toNatClampNeg) x1) →
  ∃ b3 : Nat, kp_R T2 2469 a0 = some b3 ∧
  vp_in (kp_I T2 2470 a0) (kp_N T2 b3) ∧ ∀ T4 : kp_S, T4 = kp_sA T2 b3 (upd (kp_A T2 b3) ((kp_I T2 2470 a0).toNatClampNeg) x2) →
  wX12_note_b30 a0 x1 x2   T4 post))
set_option maxHeartbeats 4000000 in
set_option maxRecDepth 100000 in
theorem c_X12_note (l : Launch) (D : va_G) (cy : Nat → ClassId) (ad : (Nat → Nat) × (Nat → Nat)) (S : kp_S) (a0 : Nat) (x1 : Int32) (x2 : Int32) (post : kp_S → Prop) (hS : kp_ok S) (f_a0 : kp_is S a0 12) (hw : wX12_note a0 x1 x2 S post) : kp_M l yX12_note cX12_note 3 none { frames := 0, cells := 0, slots := 0, locals := 0 } D cy ad S [.ref a0, .int x1, .int x2] 0 0 (fun A => kp_Qv D cy A S post) := by
  refine kp_start (own := RX12) (by decide) rfl (Nat.le_of_ble_eq_true rfl) hS ?_
  intro p e s m below meth c A ls X hr hlocks hname h hl
  have hle : kp_le S S := kp_le.rf
  have hl : lv_has ls 3 [(0, .ref a0), (1, .int x1), (2, .int x2)] := hl
  have j30 : ∀  (Sn : kp_S) (H : Heap) (locs : List Loc) (ls : Array Slot), lv_has ls 3 [(0, .ref a0)] → kp_H D cy A Sn s.heap H locs → kp_le S Sn → kp_is Sn a0 12 → wX12_note_b30 a0 x1 x2   Sn post → W p l e { frames := 0, cells := 0, slots := 0, locals := 0 } s m ([.ref a0, .int x1, .int x2] : List Value).toArray below meth c H locs 0 0 (MQ below (kp_Qv D cy A S post) ([.ref a0, .int x1, .int x2] : List Value).toArray s 0 0 A) (F0 m 30 ls []) := by
    intro  Sn H locs ls hl h hle f_a0 hw
    unfold wX12_note_b30 at hw
    refine lv_aload_n X.1 X.2.1 dX12_note_30 rfl (lv_at hl 0 rfl) ?_
    refine lv_dup X.1 X.2.1 dX12_note_31 rfl ?_
    refine kp_get X h f_a0 fp_12_601.l (v := .int (kp_I Sn 2470 a0)) rfl dX12_note_32 ?_
    refine lv_iconst (v := 1) X.1 X.2.1 dX12_note_35 (by decide) ?_
    refine lv_iadd X.1 X.2.1 dX12_note_36 ?_
    refine kp_putI X h f_a0 fp_12_601 rfl ⟨rfl, rfl⟩ dX12_note_37 (fun T1001 e_T1001 l_T1001 H locs h => ?_)
    have hw := hw T1001 e_T1001
    have f_a0 := l_T1001.is f_a0
    have hle := hle.tr l_T1001
    exact kp_retv X hr hlocks h hle hw dX12_note_40
  unfold wX12_note at hw
  have h : kp_H D cy A S s.heap s.heap [] := h
  revert h
  intro h
  refine lv_aload_n X.1 X.2.1 dX12_note_0 rfl (lv_at hl 0 rfl) ?_
  refine kp_get X h f_a0 fp_12_601.l (v := .int (kp_I S 2470 a0)) rfl dX12_note_1 ?_
  refine lv_sipush (v := 300) X.1 X.2.1 dX12_note_4 (by decide) ?_
  refine lv_icmp_ge (tgt := 30) X.1 X.2.1 dX12_note_7 (by decide) (fun c5 => ?_) (fun c5 => ?_)
  · have hw := hw.1 c5
    exact j30  S _ _ ls (lv_sub hl [0] rfl) h hle f_a0 hw
  · have hw := hw.2 c5
    refine lv_aload_n X.1 X.2.1 dX12_note_10 rfl (lv_at hl 0 rfl) ?_
    obtain ⟨b1, e_b1, hw⟩ := hw
    have f_b1 := h.2.2.2.rf (c := 12) (k := 68) f_a0 (by decide) (by decide) e_b1 (t := 14) rfl
    refine kp_get X h f_a0 ff_12_170.l (v := .ref b1) (congrArg va_rf e_b1) dX12_note_11 ?_
    refine lv_aload_n X.1 X.2.1 dX12_note_14 rfl (lv_at hl 0 rfl) ?_
    refine kp_get X h f_a0 fp_12_601.l (v := .int (kp_I S 2470 a0)) rfl dX12_note_15 ?_
    refine lv_iload_n X.1 X.2.1 dX12_note_18 rfl (lv_at hl 1 rfl) ?_
    obtain ⟨hi, hw⟩ := hw
    refine kp_iast X h f_b1 hi dX12_note_19 (fun T2 e_T2 l_T2 H locs h => ?_)
    have hw := hw T2 e_T2
    have f_a0 := l_T2.is f_a0
    have f_b1 := l_T2.is f_b1
    have hle := hle.tr l_T2
    have e_b1 : kp_R T2 2468 a0 = some b1 := by rw [e_T2]; exact e_b1
    refine lv_aload_n X.1 X.2.1 dX12_note_20 rfl (lv_at hl 0 rfl) ?_
    obtain ⟨b3, e_b3, hw⟩ := hw
    have f_b3 := h.2.2.2.rf (c := 12) (k := 69) f_a0 (by decide) (by decide) e_b3 (t := 14) rfl
    refine kp_get X h f_a0 ff_12_173.l (v := .ref b3) (congrArg va_rf e_b3) dX12_note_21 ?_
    refine lv_aload_n X.1 X.2.1 dX12_note_24 rfl (lv_at hl 0 rfl) ?_
    refine kp_get X h f_a0 fp_12_601.l (v := .int (kp_I T2 2470 a0)) rfl dX12_note_25 ?_
    refine lv_iload_n X.1 X.2.1 dX12_note_28 rfl (lv_at hl 2 rfl) ?_
    obtain ⟨hi, hw⟩ := hw
    refine kp_iast X h f_b3 hi dX12_note_29 (fun T4 e_T4 l_T4 H locs h => ?_)
    have hw := hw T4 e_T4
    have f_a0 := l_T4.is f_a0
    have f_b1 := l_T4.is f_b1
    have f_b3 := l_T4.is f_b3
    have hle := hle.tr l_T4
    have e_b1 : kp_R T4 2468 a0 = some b1 := by rw [e_T4]; exact e_b1
    have e_b3 : kp_R T4 2469 a0 = some b3 := by rw [e_T4]; exact e_b3
    exact j30  T4 _ _ ls (lv_sub hl [0] rfl) h hle f_a0 hw
theorem dX12_push_0 : decode cX12_push 0 = .ok (.aload_n 0, 1) := by decide +kernel
theorem dX12_push_1 : decode cX12_push 1 = .ok (.getfield 239, 3) := by decide +kernel
theorem dX12_push_4 : decode cX12_push 4 = .ok (.aload_n 0, 1) := by decide +kernel
theorem dX12_push_5 : decode cX12_push 5 = .ok (.getfield 604, 3) := by decide +kernel
theorem dX12_push_8 : decode cX12_push 8 = .ok (.iload_n 1, 1) := by decide +kernel
theorem dX12_push_9 : decode cX12_push 9 = .ok (.iastore, 1) := by decide +kernel
theorem dX12_push_10 : decode cX12_push 10 = .ok (.aload_n 0, 1) := by decide +kernel
theorem dX12_push_11 : decode cX12_push 11 = .ok (.dup, 1) := by decide +kernel
theorem dX12_push_12 : decode cX12_push 12 = .ok (.getfield 604, 3) := by decide +kernel
theorem dX12_push_15 : decode cX12_push 15 = .ok (.iconst 1, 1) := by decide +kernel
theorem dX12_push_16 : decode cX12_push 16 = .ok (.iadd, 1) := by decide +kernel
theorem dX12_push_17 : decode cX12_push 17 = .ok (.putfield 604, 3) := by decide +kernel
theorem dX12_push_20 : decode cX12_push 20 = .ok (.return_, 1) := by decide +kernel
def wX12_push (a0 : Nat) (x1 : Int32) (S : kp_S) (post : kp_S → Prop) : Prop :=
  ∃ b1 : Nat, kp_R S 2515 a0 = some b1 ∧
  vp_in (kp_I S 2516 a0) (kp_N S b1) ∧ ∀ T2 : kp_S, T2 = kp_sA S b1 (upd (kp_A S b1) ((kp_I S 2516 a0).toNatClampNeg) x1) →
  ∀ T3 : kp_S, T3 = kp_sI T2 2516 a0 ((kp_I T2 2516 a0) + 1) →
  post T3
set_option maxHeartbeats 4000000 in
set_option maxRecDepth 100000 in
theorem c_X12_push (l : Launch) (D : va_G) (cy : Nat → ClassId) (ad : (Nat → Nat) × (Nat → Nat)) (S : kp_S) (a0 : Nat) (x1 : Int32) (post : kp_S → Prop) (hS : kp_ok S) (f_a0 : kp_is S a0 12) (hw : wX12_push a0 x1 S post) : kp_M l yX12_push cX12_push 2 none { frames := 0, cells := 0, slots := 0, locals := 0 } D cy ad S [.ref a0, .int x1] 0 0 (fun A => kp_Qv D cy A S post) := by
  refine kp_start (own := RX12) (by decide) rfl (Nat.le_of_ble_eq_true rfl) hS ?_
  intro p e s m below meth c A ls X hr hlocks hname h hl
  have hle : kp_le S S := kp_le.rf
  have hl : lv_has ls 2 [(0, .ref a0), (1, .int x1)] := hl
  unfold wX12_push at hw
  have h : kp_H D cy A S s.heap s.heap [] := h
  revert h
  intro h
  refine lv_aload_n X.1 X.2.1 dX12_push_0 rfl (lv_at hl 0 rfl) ?_
  obtain ⟨b1, e_b1, hw⟩ := hw
  have f_b1 := h.2.2.2.rf (c := 12) (k := 115) f_a0 (by decide) (by decide) e_b1 (t := 14) rfl
  refine kp_get X h f_a0 ff_12_239.l (v := .ref b1) (congrArg va_rf e_b1) dX12_push_1 ?_
  refine lv_aload_n X.1 X.2.1 dX12_push_4 rfl (lv_at hl 0 rfl) ?_
  refine kp_get X h f_a0 fp_12_604.l (v := .int (kp_I S 2516 a0)) rfl dX12_push_5 ?_
  refine lv_iload_n X.1 X.2.1 dX12_push_8 rfl (lv_at hl 1 rfl) ?_
  obtain ⟨hi, hw⟩ := hw
  refine kp_iast X h f_b1 hi dX12_push_9 (fun T2 e_T2 l_T2 H locs h => ?_)
  have hw := hw T2 e_T2
  have f_a0 := l_T2.is f_a0
  have f_b1 := l_T2.is f_b1
  have hle := hle.tr l_T2
  have e_b1 : kp_R T2 2515 a0 = some b1 := by rw [e_T2]; exact e_b1
  refine lv_aload_n X.1 X.2.1 dX12_push_10 rfl (lv_at hl 0 rfl) ?_
  refine lv_dup X.1 X.2.1 dX12_push_11 rfl ?_
  refine kp_get X h f_a0 fp_12_604.l (v := .int (kp_I T2 2516 a0)) rfl dX12_push_12 ?_
  refine lv_iconst (v := 1) X.1 X.2.1 dX12_push_15 (by decide) ?_
  refine lv_iadd X.1 X.2.1 dX12_push_16 ?_
  refine kp_putI X h f_a0 fp_12_604 rfl ⟨rfl, rfl⟩ dX12_push_17 (fun T3 e_T3 l_T3 H locs h => ?_)
  have hw := hw T3 e_T3
  have f_a0 := l_T3.is f_a0
  have f_b1 := l_T3.is f_b1
  have hle := hle.tr l_T3
  have e_b1 : kp_R T3 2515 a0 = some b1 := by rw [e_T3]; exact e_b1
  exact kp_retv X hr hlocks h hle hw dX12_push_20
theorem dX12_pop_0 : decode cX12_pop 0 = .ok (.aload_n 0, 1) := by decide +kernel
theorem dX12_pop_1 : decode cX12_pop 1 = .ok (.dup, 1) := by decide +kernel
theorem dX12_pop_2 : decode cX12_pop 2 = .ok (.getfield 604, 3) := by decide +kernel
theorem dX12_pop_5 : decode cX12_pop 5 = .ok (.iconst 1, 1) := by decide +kernel
theorem dX12_pop_6 : decode cX12_pop 6 = .ok (.isub, 1) := by decide +kernel
theorem dX12_pop_7 : decode cX12_pop 7 = .ok (.putfield 604, 3) := by decide +kernel
theorem dX12_pop_10 : decode cX12_pop 10 = .ok (.aload_n 0, 1) := by decide +kernel
theorem dX12_pop_11 : decode cX12_pop 11 = .ok (.getfield 239, 3) := by decide +kernel
theorem dX12_pop_14 : decode cX12_pop 14 = .ok (.aload_n 0, 1) := by decide +kernel
theorem dX12_pop_15 : decode cX12_pop 15 = .ok (.getfield 604, 3) := by decide +kernel
theorem dX12_pop_18 : decode cX12_pop 18 = .ok (.iaload, 1) := by decide +kernel
theorem dX12_pop_19 : decode cX12_pop 19 = .ok (.ireturn, 1) := by decide +kernel
def wX12_pop (a0 : Nat) (S : kp_S) (post : Int32 → kp_S → Prop) : Prop :=
  ∀ T1 : kp_S, T1 = kp_sI S 2516 a0 ((kp_I S 2516 a0) - 1) →
  ∃ b2 : Nat, kp_R T1 2515 a0 = some b2 ∧
  vp_in (kp_I T1 2516 a0) (kp_N T1 b2) ∧
  post (kp_A T1 b2 (kp_I T1 2516 a0).toNatClampNeg) T1
set_option maxHeartbeats 4000000 in
set_option maxRecDepth 100000 in
theorem c_X12_pop (l : Launch) (D : va_G) (cy : Nat → ClassId) (ad : (Nat → Nat) × (Nat → Nat)) (S : kp_S) (a0 : Nat) (post : Int32 → kp_S → Prop) (hS : kp_ok S) (f_a0 : kp_is S a0 12) (hw : wX12_pop a0 S post) : kp_M l yX12_pop cX12_pop 1 (some .int) { frames := 0, cells := 0, slots := 0, locals := 0 } D cy ad S [.ref a0] 0 0 (fun A => kp_Qi D cy A S post) := by
  refine kp_start (own := RX12) (by decide) rfl (Nat.le_of_ble_eq_true rfl) hS ?_
  intro p e s m below meth c A ls X hr hlocks hname h hl
  have hle : kp_le S S := kp_le.rf
  have hl : lv_has ls 1 [(0, .ref a0)] := hl
  unfold wX12_pop at hw
  have h : kp_H D cy A S s.heap s.heap [] := h
  revert h
  intro h
  refine lv_aload_n X.1 X.2.1 dX12_pop_0 rfl (lv_at hl 0 rfl) ?_
  refine lv_dup X.1 X.2.1 dX12_pop_1 rfl ?_
  refine kp_get X h f_a0 fp_12_604.l (v := .int (kp_I S 2516 a0)) rfl dX12_pop_2 ?_
  refine lv_iconst (v := 1) X.1 X.2.1 dX12_pop_5 (by decide) ?_
  refine lv_isub X.1 X.2.1 dX12_pop_6 ?_
  refine kp_putI X h f_a0 fp_12_604 rfl ⟨rfl, rfl⟩ dX12_pop_7 (fun T1 e_T1 l_T1 H locs h => ?_)
  have hw := hw T1 e_T1
  have f_a0 := l_T1.is f_a0
  have hle := hle.tr l_T1
  refine lv_aload_n X.1 X.2.1 dX12_pop_10 rfl (lv_at hl 0 rfl) ?_
  obtain ⟨b2, e_b2, hw⟩ := hw
  have f_b2 := h.2.2.2.rf (c := 12) (k := 115) f_a0 (by decide) (by decide) e_b2 (t := 14) rfl
  refine kp_get X h f_a0 ff_12_239.l (v := .ref b2) (congrArg va_rf e_b2) dX12_pop_11 ?_
  refine lv_aload_n X.1 X.2.1 dX12_pop_14 rfl (lv_at hl 0 rfl) ?_
  refine kp_get X h f_a0 fp_12_604.l (v := .int (kp_I T1 2516 a0)) rfl dX12_pop_15 ?_
  obtain ⟨hi, hw⟩ := hw
  refine kp_iald X h f_b2 hi dX12_pop_18 ?_
  exact kp_reti X hr hlocks h hle rfl hw dX12_pop_19
theorem dX12_burns_0 : decode cX12_burns 0 = .ok (.aload_n 0, 1) := by decide +kernel
theorem dX12_burns_1 : decode cX12_burns 1 = .ok (.getfield 607, 3) := by decide +kernel
theorem dX12_burns_4 : decode cX12_burns 4 = .ok (.ifCond .ne 10, 3) := by decide +kernel
theorem dX12_burns_7 : decode cX12_burns 7 = .ok (.aload_n 0, 1) := by decide +kernel
theorem dX12_burns_8 : decode cX12_burns 8 = .ok (.iconst 2, 1) := by decide +kernel
theorem dX12_burns_9 : decode cX12_burns 9 = .ok (.putfield 610, 3) := by decide +kernel
theorem dX12_burns_12 : decode cX12_burns 12 = .ok (.iconst 0, 1) := by decide +kernel
theorem dX12_burns_13 : decode cX12_burns 13 = .ok (.ireturn, 1) := by decide +kernel
theorem dX12_burns_14 : decode cX12_burns 14 = .ok (.aload_n 0, 1) := by decide +kernel
theorem dX12_burns_15 : decode cX12_burns 15 = .ok (.dup, 1) := by decide +kernel
theorem dX12_burns_16 : decode cX12_burns 16 = .ok (.getfield 607, 3) := by decide +kernel
theorem dX12_burns_19 : decode cX12_burns 19 = .ok (.iconst 1, 1) := by decide +kernel
theorem dX12_burns_20 : decode cX12_burns 20 = .ok (.isub, 1) := by decide +kernel
theorem dX12_burns_21 : decode cX12_burns 21 = .ok (.putfield 607, 3) := by decide +kernel
theorem dX12_burns_24 : decode cX12_burns 24 = .ok (.iconst 1, 1) := by decide +kernel
theorem dX12_burns_25 : decode cX12_burns 25 = .ok (.ireturn, 1) := by decide +kernel
def wX12_burns (a0 : Nat) (S : kp_S) (post : Int32 → kp_S → Prop) : Prop :=
  ((¬ (kp_I S 2512 a0) = 0 →
  ∀ T1 : kp_S, T1 = kp_sI S 2512 a0 ((kp_I S 2512 a0) - 1) →
  post 1 T1) ∧ ((kp_I S 2512 a0) = 0 →
  ∀ T2 : kp_S, T2 = kp_sI S 2513 a0 2 →
  post 0 T2))
set_option maxHeartbeats 4000000 in
set_option maxRecDepth 100000 in
theorem c_X12_burns (l : Launch) (D : va_G) (cy : Nat → ClassId) (ad : (Nat → Nat) × (Nat → Nat)) (S : kp_S) (a0 : Nat) (post : Int32 → kp_S → Prop) (hS : kp_ok S) (f_a0 : kp_is S a0 12) (hw : wX12_burns a0 S post) : kp_M l yX12_burns cX12_burns 1 (some .boolean) { frames := 0, cells := 0, slots := 0, locals := 0 } D cy ad S [.ref a0] 0 0 (fun A => kp_Qi D cy A S post) := by
  refine kp_start (own := RX12) (by decide) rfl (Nat.le_of_ble_eq_true rfl) hS ?_
  intro p e s m below meth c A ls X hr hlocks hname h hl
  have hle : kp_le S S := kp_le.rf
  have hl : lv_has ls 1 [(0, .ref a0)] := hl
  unfold wX12_burns at hw
  have h : kp_H D cy A S s.heap s.heap [] := h
  revert h
  intro h
  refine lv_aload_n X.1 X.2.1 dX12_burns_0 rfl (lv_at hl 0 rfl) ?_
  refine kp_get X h f_a0 fp_12_607.l (v := .int (kp_I S 2512 a0)) rfl dX12_burns_1 ?_
  refine lv_if_ne (tgt := 14) X.1 X.2.1 dX12_burns_4 (by decide) (fun c3 => ?_) (fun c3 => ?_)
  · have hw := hw.1 c3
    refine lv_aload_n X.1 X.2.1 dX12_burns_14 rfl (lv_at hl 0 rfl) ?_
    refine lv_dup X.1 X.2.1 dX12_burns_15 rfl ?_
    refine kp_get X h f_a0 fp_12_607.l (v := .int (kp_I S 2512 a0)) rfl dX12_burns_16 ?_
    refine lv_iconst (v := 1) X.1 X.2.1 dX12_burns_19 (by decide) ?_
    refine lv_isub X.1 X.2.1 dX12_burns_20 ?_
    refine kp_putI X h f_a0 fp_12_607 rfl ⟨rfl, rfl⟩ dX12_burns_21 (fun T1 e_T1 l_T1 H locs h => ?_)
    have hw := hw T1 e_T1
    have f_a0 := l_T1.is f_a0
    have hle := hle.tr l_T1
    refine lv_iconst (v := 1) X.1 X.2.1 dX12_burns_24 (by decide) ?_
    exact kp_reti X hr hlocks h hle (by decide) hw dX12_burns_25
  · have hw := hw.2 c3
    refine lv_aload_n X.1 X.2.1 dX12_burns_7 rfl (lv_at hl 0 rfl) ?_
    refine lv_iconst (v := 2) X.1 X.2.1 dX12_burns_8 (by decide) ?_
    refine kp_putI X h f_a0 fp_12_610 rfl ⟨rfl, rfl⟩ dX12_burns_9 (fun T2 e_T2 l_T2 H locs h => ?_)
    have hw := hw T2 e_T2
    have f_a0 := l_T2.is f_a0
    have hle := hle.tr l_T2
    refine lv_iconst (v := 0) X.1 X.2.1 dX12_burns_12 (by decide) ?_
    exact kp_reti X hr hlocks h hle (by decide) hw dX12_burns_13
