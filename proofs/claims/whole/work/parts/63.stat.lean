theorem cv_8_237 : kp_CV RX8 237 yX0_size cX0_size 1 (some .int) 0 0 := ⟨⟨kp_mem 973 (by decide +kernel) (by decide +kernel), kp_mem 206 (by decide +kernel) (by decide +kernel), by decide +kernel⟩, kp_mem 1017 (by decide +kernel) (by decide +kernel), kp_mem 971 (by decide +kernel) (by decide +kernel), kp_mem 972 (by decide +kernel) (by decide +kernel), by decide, TX0, 4, rfl⟩
theorem cv_8_120 : kp_CV RX8 120 yX8_block cX8_block 5 (some .int) 0 8 := ⟨⟨kp_mem 854 (by decide +kernel) (by decide +kernel), kp_mem 207 (by decide +kernel) (by decide +kernel), by decide +kernel⟩, kp_mem 851 (by decide +kernel) (by decide +kernel), kp_mem 853 (by decide +kernel) (by decide +kernel), kp_mem 16 (by decide +kernel) (by decide +kernel), by decide, TX8, 5, rfl⟩
theorem cv_8_276 : kp_CV RX8 276 yX5_enterLoop cX5_enterLoop 4 none 2 5 := ⟨⟨kp_mem 1011 (by decide +kernel) (by decide +kernel), kp_mem 213 (by decide +kernel) (by decide +kernel), by decide +kernel⟩, kp_mem 1008 (by decide +kernel) (by decide +kernel), kp_mem 1009 (by decide +kernel) (by decide +kernel), kp_mem 1010 (by decide +kernel) (by decide +kernel), by decide, TX5, 13, rfl⟩
theorem cv_8_279 : kp_CV RX8 279 yX8_alwaysPart cX8_alwaysPart 4 (some .int) 2 8 := ⟨⟨kp_mem 1016 (by decide +kernel) (by decide +kernel), kp_mem 207 (by decide +kernel) (by decide +kernel), by decide +kernel⟩, kp_mem 1013 (by decide +kernel) (by decide +kernel), kp_mem 1015 (by decide +kernel) (by decide +kernel), kp_mem 37 (by decide +kernel) (by decide +kernel), by decide, TX8, 5, rfl⟩
theorem cv_8_282 : kp_CV RX8 282 yX5_leaveLoop cX5_leaveLoop 1 none 0 5 := ⟨⟨kp_mem 1022 (by decide +kernel) (by decide +kernel), kp_mem 213 (by decide +kernel) (by decide +kernel), by decide +kernel⟩, kp_mem 1019 (by decide +kernel) (by decide +kernel), kp_mem 1020 (by decide +kernel) (by decide +kernel), kp_mem 1021 (by decide +kernel) (by decide +kernel), by decide, TX5, 13, rfl⟩
theorem cv_8_261 : kp_CV RX8 261 yX0_addPart cX0_addPart 4 (some .int) 2 0 := ⟨⟨kp_mem 1002 (by decide +kernel) (by decide +kernel), kp_mem 206 (by decide +kernel) (by decide +kernel), by decide +kernel⟩, kp_mem 999 (by decide +kernel) (by decide +kernel), kp_mem 1000 (by decide +kernel) (by decide +kernel), kp_mem 1001 (by decide +kernel) (by decide +kernel), by decide, TX0, 4, rfl⟩
theorem cv_8_264 : kp_CV RX8 264 yX8_round cX8_round 5 (some .int) 2 8 := ⟨⟨kp_mem 1007 (by decide +kernel) (by decide +kernel), kp_mem 207 (by decide +kernel) (by decide +kernel), by decide +kernel⟩, kp_mem 1004 (by decide +kernel) (by decide +kernel), kp_mem 1006 (by decide +kernel) (by decide +kernel), kp_mem 36 (by decide +kernel) (by decide +kernel), by decide, TX8, 5, rfl⟩
theorem cv_8_267 : kp_CV RX8 267 yX8_setRound cX8_setRound 4 none 3 8 := ⟨⟨kp_mem 1026 (by decide +kernel) (by decide +kernel), kp_mem 207 (by decide +kernel) (by decide +kernel), by decide +kernel⟩, kp_mem 1023 (by decide +kernel) (by decide +kernel), kp_mem 1025 (by decide +kernel) (by decide +kernel), kp_mem 38 (by decide +kernel) (by decide +kernel), by decide, TX8, 5, rfl⟩
theorem cv_8_270 : kp_CV RX8 270 yX8_ownWays cX8_ownWays 1 (some .int) 0 8 := ⟨⟨kp_mem 1030 (by decide +kernel) (by decide +kernel), kp_mem 207 (by decide +kernel) (by decide +kernel), by decide +kernel⟩, kp_mem 1027 (by decide +kernel) (by decide +kernel), kp_mem 1029 (by decide +kernel) (by decide +kernel), kp_mem 39 (by decide +kernel) (by decide +kernel), by decide, TX8, 5, rfl⟩
theorem cv_8_151 : kp_CV RX8 151 yX5_forgetBehind cX5_forgetBehind 2 none 1 5 := ⟨⟨kp_mem 1049 (by decide +kernel) (by decide +kernel), kp_mem 213 (by decide +kernel) (by decide +kernel), by decide +kernel⟩, kp_mem 1046 (by decide +kernel) (by decide +kernel), kp_mem 1047 (by decide +kernel) (by decide +kernel), kp_mem 1048 (by decide +kernel) (by decide +kernel), by decide, TX5, 13, rfl⟩
theorem cv_8_143 : kp_CV RX8 143 yX5_knownNow cX5_knownNow 1 (some .int) 0 5 := ⟨⟨kp_mem 862 (by decide +kernel) (by decide +kernel), kp_mem 213 (by decide +kernel) (by decide +kernel), by decide +kernel⟩, kp_mem 859 (by decide +kernel) (by decide +kernel), kp_mem 860 (by decide +kernel) (by decide +kernel), kp_mem 861 (by decide +kernel) (by decide +kernel), by decide, TX5, 13, rfl⟩
theorem cv_8_252 : kp_CV RX8 252 yX8_whileLoop cX8_whileLoop 9 (some .int) 2 8 := ⟨⟨kp_mem 998 (by decide +kernel) (by decide +kernel), kp_mem 207 (by decide +kernel) (by decide +kernel), by decide +kernel⟩, kp_mem 995 (by decide +kernel) (by decide +kernel), kp_mem 997 (by decide +kernel) (by decide +kernel), kp_mem 35 (by decide +kernel) (by decide +kernel), by decide, TX8, 5, rfl⟩
theorem cv_8_255 : kp_CV RX8 255 yX8_eachLoop cX8_eachLoop 15 (some .int) 2 8 := ⟨⟨kp_mem 1044 (by decide +kernel) (by decide +kernel), kp_mem 207 (by decide +kernel) (by decide +kernel), by decide +kernel⟩, kp_mem 1041 (by decide +kernel) (by decide +kernel), kp_mem 1043 (by decide +kernel) (by decide +kernel), kp_mem 40 (by decide +kernel) (by decide +kernel), by decide, TX8, 5, rfl⟩
theorem cv_8_258 : kp_CV RX8 258 yX8_repeatLoop cX8_repeatLoop 12 (some .int) 2 8 := ⟨⟨kp_mem 1053 (by decide +kernel) (by decide +kernel), kp_mem 207 (by decide +kernel) (by decide +kernel), by decide +kernel⟩, kp_mem 1050 (by decide +kernel) (by decide +kernel), kp_mem 1052 (by decide +kernel) (by decide +kernel), kp_mem 41 (by decide +kernel) (by decide +kernel), by decide, TX8, 5, rfl⟩
theorem cv_8_69 : kp_CV RX8 69 yX9_refuse cX9_refuse 1 none 0 9 := ⟨⟨kp_mem 798 (by decide +kernel) (by decide +kernel), kp_mem 208 (by decide +kernel) (by decide +kernel), by decide +kernel⟩, kp_mem 1054 (by decide +kernel) (by decide +kernel), kp_mem 796 (by decide +kernel) (by decide +kernel), kp_mem 797 (by decide +kernel) (by decide +kernel), by decide, TX9, 11, rfl⟩
theorem cv_8_207 : kp_CV RX8 207 yX2_callOf cX2_callOf 6 none 2 2 := ⟨⟨kp_mem 945 (by decide +kernel) (by decide +kernel), kp_mem 214 (by decide +kernel) (by decide +kernel), by decide +kernel⟩, kp_mem 981 (by decide +kernel) (by decide +kernel), kp_mem 943 (by decide +kernel) (by decide +kernel), kp_mem 944 (by decide +kernel) (by decide +kernel), by decide, TX2, 3, rfl⟩
theorem cv_8_210 : kp_CV RX8 210 yX5_tellLabel cX5_tellLabel 4 none 2 5 := ⟨⟨kp_mem 985 (by decide +kernel) (by decide +kernel), kp_mem 213 (by decide +kernel) (by decide +kernel), by decide +kernel⟩, kp_mem 982 (by decide +kernel) (by decide +kernel), kp_mem 983 (by decide +kernel) (by decide +kernel), kp_mem 984 (by decide +kernel) (by decide +kernel), by decide, TX5, 13, rfl⟩
theorem cv_8_185 : kp_CV RX8 185 yX8_loop cX8_loop 4 (some .int) 2 8 := ⟨⟨kp_mem 994 (by decide +kernel) (by decide +kernel), kp_mem 207 (by decide +kernel) (by decide +kernel), by decide +kernel⟩, kp_mem 991 (by decide +kernel) (by decide +kernel), kp_mem 993 (by decide +kernel) (by decide +kernel), kp_mem 34 (by decide +kernel) (by decide +kernel), by decide, TX8, 5, rfl⟩
theorem cv_8_201 : kp_CV RX8 201 yX5_slotOf cX5_slotOf 5 (some .int) 2 5 := ⟨⟨kp_mem 882 (by decide +kernel) (by decide +kernel), kp_mem 213 (by decide +kernel) (by decide +kernel), by decide +kernel⟩, kp_mem 879 (by decide +kernel) (by decide +kernel), kp_mem 880 (by decide +kernel) (by decide +kernel), kp_mem 881 (by decide +kernel) (by decide +kernel), by decide, TX5, 13, rfl⟩
theorem cv_8_204 : kp_CV RX8 204 yX8_assign cX8_assign 3 (some .int) 1 8 := ⟨⟨kp_mem 886 (by decide +kernel) (by decide +kernel), kp_mem 207 (by decide +kernel) (by decide +kernel), by decide +kernel⟩, kp_mem 883 (by decide +kernel) (by decide +kernel), kp_mem 885 (by decide +kernel) (by decide +kernel), kp_mem 19 (by decide +kernel) (by decide +kernel), by decide, TX8, 5, rfl⟩
theorem cv_8_154 : kp_CV RX8 154 yX9_endNest cX9_endNest 1 none 0 9 := ⟨⟨kp_mem 924 (by decide +kernel) (by decide +kernel), kp_mem 208 (by decide +kernel) (by decide +kernel), by decide +kernel⟩, kp_mem 1107 (by decide +kernel) (by decide +kernel), kp_mem 922 (by decide +kernel) (by decide +kernel), kp_mem 923 (by decide +kernel) (by decide +kernel), by decide, TX9, 11, rfl⟩
theorem cv_8_249 : kp_CV RX8 249 yX8_list cX8_list 5 (some .int) 1 8 := ⟨⟨kp_mem 1102 (by decide +kernel) (by decide +kernel), kp_mem 207 (by decide +kernel) (by decide +kernel), by decide +kernel⟩, kp_mem 1099 (by decide +kernel) (by decide +kernel), kp_mem 1101 (by decide +kernel) (by decide +kernel), kp_mem 50 (by decide +kernel) (by decide +kernel), by decide, TX8, 5, rfl⟩
theorem cv_8_246 : kp_CV RX8 246 yX8_dropForAny cX8_dropForAny 1 (some .int) 0 8 := ⟨⟨kp_mem 1098 (by decide +kernel) (by decide +kernel), kp_mem 207 (by decide +kernel) (by decide +kernel), by decide +kernel⟩, kp_mem 1095 (by decide +kernel) (by decide +kernel), kp_mem 1097 (by decide +kernel) (by decide +kernel), kp_mem 49 (by decide +kernel) (by decide +kernel), by decide, TX8, 5, rfl⟩
theorem cv_8_140 : kp_CV RX8 140 yX9_expectNest cX9_expectNest 2 none 1 9 := ⟨⟨kp_mem 858 (by decide +kernel) (by decide +kernel), kp_mem 208 (by decide +kernel) (by decide +kernel), by decide +kernel⟩, kp_mem 855 (by decide +kernel) (by decide +kernel), kp_mem 856 (by decide +kernel) (by decide +kernel), kp_mem 857 (by decide +kernel) (by decide +kernel), by decide, TX9, 11, rfl⟩
theorem cv_8_285 : kp_CV RX8 285 yX8_mends cX8_mends 11 (some .int) 2 8 := ⟨⟨kp_mem 1123 (by decide +kernel) (by decide +kernel), kp_mem 207 (by decide +kernel) (by decide +kernel), by decide +kernel⟩, kp_mem 1120 (by decide +kernel) (by decide +kernel), kp_mem 1122 (by decide +kernel) (by decide +kernel), kp_mem 54 (by decide +kernel) (by decide +kernel), by decide, TX8, 5, rfl⟩
theorem cv_8_288 : kp_CV RX8 288 yX5_enterLater cX5_enterLater 2 (some .int) 0 5 := ⟨⟨kp_mem 1131 (by decide +kernel) (by decide +kernel), kp_mem 213 (by decide +kernel) (by decide +kernel), by decide +kernel⟩, kp_mem 1128 (by decide +kernel) (by decide +kernel), kp_mem 1129 (by decide +kernel) (by decide +kernel), kp_mem 1130 (by decide +kernel) (by decide +kernel), by decide, TX5, 13, rfl⟩
theorem fp_8_117 : kp_FP RX8 117 8 4 := ⟨RX8, TX8, 5, cl_8, by decide, kp_mem 432 (by decide +kernel) (by decide +kernel), rfl⟩
theorem cv_8_291 : kp_CV RX8 291 yX5_leaveLater cX5_leaveLater 2 none 1 5 := ⟨⟨kp_mem 1135 (by decide +kernel) (by decide +kernel), kp_mem 213 (by decide +kernel) (by decide +kernel), by decide +kernel⟩, kp_mem 1132 (by decide +kernel) (by decide +kernel), kp_mem 1133 (by decide +kernel) (by decide +kernel), kp_mem 1134 (by decide +kernel) (by decide +kernel), by decide, TX5, 13, rfl⟩
theorem cv_8_160 : kp_CV RX8 160 yX8_named cX8_named 4 (some .int) 1 8 := ⟨⟨kp_mem 878 (by decide +kernel) (by decide +kernel), kp_mem 207 (by decide +kernel) (by decide +kernel), by decide +kernel⟩, kp_mem 875 (by decide +kernel) (by decide +kernel), kp_mem 877 (by decide +kernel) (by decide +kernel), kp_mem 18 (by decide +kernel) (by decide +kernel), by decide, TX8, 5, rfl⟩
theorem cv_8_163 : kp_CV RX8 163 yX8_variable cX8_variable 5 (some .int) 0 8 := ⟨⟨kp_mem 1058 (by decide +kernel) (by decide +kernel), kp_mem 207 (by decide +kernel) (by decide +kernel), by decide +kernel⟩, kp_mem 1055 (by decide +kernel) (by decide +kernel), kp_mem 1057 (by decide +kernel) (by decide +kernel), kp_mem 42 (by decide +kernel) (by decide +kernel), by decide, TX8, 5, rfl⟩
theorem cv_8_166 : kp_CV RX8 166 yX8_order cX8_order 6 (some .int) 3 8 := ⟨⟨kp_mem 1062 (by decide +kernel) (by decide +kernel), kp_mem 207 (by decide +kernel) (by decide +kernel), by decide +kernel⟩, kp_mem 1059 (by decide +kernel) (by decide +kernel), kp_mem 1061 (by decide +kernel) (by decide +kernel), kp_mem 43 (by decide +kernel) (by decide +kernel), by decide, TX8, 5, rfl⟩
theorem cv_8_179 : kp_CV RX8 179 yX8_ifElse cX8_ifElse 5 (some .int) 0 8 := ⟨⟨kp_mem 1090 (by decide +kernel) (by decide +kernel), kp_mem 207 (by decide +kernel) (by decide +kernel), by decide +kernel⟩, kp_mem 1087 (by decide +kernel) (by decide +kernel), kp_mem 1089 (by decide +kernel) (by decide +kernel), kp_mem 47 (by decide +kernel) (by decide +kernel), by decide, TX8, 5, rfl⟩
theorem cv_8_173 : kp_CV RX8 173 yX8_leaveOrAgain cX8_leaveOrAgain 4 (some .int) 1 8 := ⟨⟨kp_mem 1070 (by decide +kernel) (by decide +kernel), kp_mem 207 (by decide +kernel) (by decide +kernel), by decide +kernel⟩, kp_mem 1067 (by decide +kernel) (by decide +kernel), kp_mem 1069 (by decide +kernel) (by decide +kernel), kp_mem 45 (by decide +kernel) (by decide +kernel), by decide, TX8, 5, rfl⟩
theorem cv_8_170 : kp_CV RX8 170 yX8_answer cX8_answer 2 (some .int) 0 8 := ⟨⟨kp_mem 1066 (by decide +kernel) (by decide +kernel), kp_mem 207 (by decide +kernel) (by decide +kernel), by decide +kernel⟩, kp_mem 1063 (by decide +kernel) (by decide +kernel), kp_mem 1065 (by decide +kernel) (by decide +kernel), kp_mem 44 (by decide +kernel) (by decide +kernel), by decide, TX8, 5, rfl⟩
theorem cv_8_189 : kp_CV RX8 189 yX8_hold cX8_hold 2 (some .int) 0 8 := ⟨⟨kp_mem 1111 (by decide +kernel) (by decide +kernel), kp_mem 207 (by decide +kernel) (by decide +kernel), by decide +kernel⟩, kp_mem 1108 (by decide +kernel) (by decide +kernel), kp_mem 1110 (by decide +kernel) (by decide +kernel), kp_mem 51 (by decide +kernel) (by decide +kernel), by decide, TX8, 5, rfl⟩
theorem cv_8_195 : kp_CV RX8 195 yX8_trial cX8_trial 4 (some .int) 1 8 := ⟨⟨kp_mem 1119 (by decide +kernel) (by decide +kernel), kp_mem 207 (by decide +kernel) (by decide +kernel), by decide +kernel⟩, kp_mem 1116 (by decide +kernel) (by decide +kernel), kp_mem 1118 (by decide +kernel) (by decide +kernel), kp_mem 53 (by decide +kernel) (by decide +kernel), by decide, TX8, 5, rfl⟩
theorem cv_8_198 : kp_CV RX8 198 yX8_later cX8_later 5 (some .int) 1 8 := ⟨⟨kp_mem 1127 (by decide +kernel) (by decide +kernel), kp_mem 207 (by decide +kernel) (by decide +kernel), by decide +kernel⟩, kp_mem 1124 (by decide +kernel) (by decide +kernel), kp_mem 1126 (by decide +kernel) (by decide +kernel), kp_mem 55 (by decide +kernel) (by decide +kernel), by decide, TX8, 5, rfl⟩
theorem cv_8_176 : kp_CV RX8 176 yX8_stop cX8_stop 1 (some .int) 0 8 := ⟨⟨kp_mem 1086 (by decide +kernel) (by decide +kernel), kp_mem 207 (by decide +kernel) (by decide +kernel), by decide +kernel⟩, kp_mem 1083 (by decide +kernel) (by decide +kernel), kp_mem 1085 (by decide +kernel) (by decide +kernel), kp_mem 46 (by decide +kernel) (by decide +kernel), by decide, TX8, 5, rfl⟩
theorem cv_8_192 : kp_CV RX8 192 yX8_ensure cX8_ensure 4 (some .int) 1 8 := ⟨⟨kp_mem 1115 (by decide +kernel) (by decide +kernel), kp_mem 207 (by decide +kernel) (by decide +kernel), by decide +kernel⟩, kp_mem 1112 (by decide +kernel) (by decide +kernel), kp_mem 1114 (by decide +kernel) (by decide +kernel), kp_mem 52 (by decide +kernel) (by decide +kernel), by decide, TX8, 5, rfl⟩
theorem cv_8_182 : kp_CV RX8 182 yX8_choose cX8_choose 10 (some .int) 0 8 := ⟨⟨kp_mem 1094 (by decide +kernel) (by decide +kernel), kp_mem 207 (by decide +kernel) (by decide +kernel), by decide +kernel⟩, kp_mem 1091 (by decide +kernel) (by decide +kernel), kp_mem 1093 (by decide +kernel) (by decide +kernel), kp_mem 48 (by decide +kernel) (by decide +kernel), by decide, TX8, 5, rfl⟩
theorem cv_8_148 : kp_CV RX8 148 yX8_statement cX8_statement 2 (some .int) 0 8 := ⟨⟨kp_mem 866 (by decide +kernel) (by decide +kernel), kp_mem 207 (by decide +kernel) (by decide +kernel), by decide +kernel⟩, kp_mem 863 (by decide +kernel) (by decide +kernel), kp_mem 865 (by decide +kernel) (by decide +kernel), kp_mem 17 (by decide +kernel) (by decide +kernel), by decide, TX8, 5, rfl⟩
theorem dX8_alwaysPart_0 : decode cX8_alwaysPart 0 = .ok (.aload_n 0, 1) := by decide +kernel
theorem dX8_alwaysPart_1 : decode cX8_alwaysPart 1 = .ok (.getfield 14, 3) := by decide +kernel
theorem dX8_alwaysPart_4 : decode cX8_alwaysPart 4 = .ok (.getfield 66, 3) := by decide +kernel
theorem dX8_alwaysPart_7 : decode cX8_alwaysPart 7 = .ok (.sipush 317, 3) := by decide +kernel
theorem dX8_alwaysPart_10 : decode cX8_alwaysPart 10 = .ok (.if_icmp .eq 5, 3) := by decide +kernel
theorem dX8_alwaysPart_13 : decode cX8_alwaysPart 13 = .ok (.iload_n 2, 1) := by decide +kernel
theorem dX8_alwaysPart_14 : decode cX8_alwaysPart 14 = .ok (.ireturn, 1) := by decide +kernel
theorem dX8_alwaysPart_15 : decode cX8_alwaysPart 15 = .ok (.aload_n 0, 1) := by decide +kernel
theorem dX8_alwaysPart_16 : decode cX8_alwaysPart 16 = .ok (.getfield 14, 3) := by decide +kernel
theorem dX8_alwaysPart_19 : decode cX8_alwaysPart 19 = .ok (.invokevirtual 75, 3) := by decide +kernel
theorem dX8_alwaysPart_22 : decode cX8_alwaysPart 22 = .ok (.aload_n 0, 1) := by decide +kernel
theorem dX8_alwaysPart_23 : decode cX8_alwaysPart 23 = .ok (.getfield 27, 3) := by decide +kernel
theorem dX8_alwaysPart_26 : decode cX8_alwaysPart 26 = .ok (.iload_n 1, 1) := by decide +kernel
theorem dX8_alwaysPart_27 : decode cX8_alwaysPart 27 = .ok (.iconst 4, 1) := by decide +kernel
theorem dX8_alwaysPart_28 : decode cX8_alwaysPart 28 = .ok (.iadd, 1) := by decide +kernel
theorem dX8_alwaysPart_29 : decode cX8_alwaysPart 29 = .ok (.aload_n 0, 1) := by decide +kernel
theorem dX8_alwaysPart_30 : decode cX8_alwaysPart 30 = .ok (.getfield 27, 3) := by decide +kernel
theorem dX8_alwaysPart_33 : decode cX8_alwaysPart 33 = .ok (.invokevirtual 237, 3) := by decide +kernel
theorem dX8_alwaysPart_36 : decode cX8_alwaysPart 36 = .ok (.invokevirtual 240, 3) := by decide +kernel
theorem dX8_alwaysPart_39 : decode cX8_alwaysPart 39 = .ok (.aload_n 0, 1) := by decide +kernel
theorem dX8_alwaysPart_40 : decode cX8_alwaysPart 40 = .ok (.invokevirtual 120, 3) := by decide +kernel
theorem dX8_alwaysPart_43 : decode cX8_alwaysPart 43 = .ok (.istore_n 3, 1) := by decide +kernel
theorem dX8_alwaysPart_44 : decode cX8_alwaysPart 44 = .ok (.aload_n 0, 1) := by decide +kernel
theorem dX8_alwaysPart_45 : decode cX8_alwaysPart 45 = .ok (.getfield 27, 3) := by decide +kernel
theorem dX8_alwaysPart_48 : decode cX8_alwaysPart 48 = .ok (.bipush 54, 2) := by decide +kernel
theorem dX8_alwaysPart_50 : decode cX8_alwaysPart 50 = .ok (.invokevirtual 123, 3) := by decide +kernel
theorem dX8_alwaysPart_53 : decode cX8_alwaysPart 53 = .ok (.pop, 1) := by decide +kernel
theorem dX8_alwaysPart_54 : decode cX8_alwaysPart 54 = .ok (.iload_n 2, 1) := by decide +kernel
theorem dX8_alwaysPart_55 : decode cX8_alwaysPart 55 = .ok (.ifCond .ne 5, 3) := by decide +kernel
theorem dX8_alwaysPart_58 : decode cX8_alwaysPart 58 = .ok (.iconst 0, 1) := by decide +kernel
theorem dX8_alwaysPart_59 : decode cX8_alwaysPart 59 = .ok (.ireturn, 1) := by decide +kernel
theorem dX8_alwaysPart_60 : decode cX8_alwaysPart 60 = .ok (.iload_n 3, 1) := by decide +kernel
theorem dX8_alwaysPart_61 : decode cX8_alwaysPart 61 = .ok (.iconst 1, 1) := by decide +kernel
theorem dX8_alwaysPart_62 : decode cX8_alwaysPart 62 = .ok (.iand, 1) := by decide +kernel
theorem dX8_alwaysPart_63 : decode cX8_alwaysPart 63 = .ok (.ifCond .eq 12, 3) := by decide +kernel
theorem dX8_alwaysPart_66 : decode cX8_alwaysPart 66 = .ok (.iload_n 3, 1) := by decide +kernel
theorem dX8_alwaysPart_67 : decode cX8_alwaysPart 67 = .ok (.bipush (-2), 2) := by decide +kernel
theorem dX8_alwaysPart_69 : decode cX8_alwaysPart 69 = .ok (.iand, 1) := by decide +kernel
theorem dX8_alwaysPart_70 : decode cX8_alwaysPart 70 = .ok (.iload_n 2, 1) := by decide +kernel
theorem dX8_alwaysPart_71 : decode cX8_alwaysPart 71 = .ok (.ior, 1) := by decide +kernel
theorem dX8_alwaysPart_72 : decode cX8_alwaysPart 72 = .ok (.goto 4, 3) := by decide +kernel
theorem dX8_alwaysPart_75 : decode cX8_alwaysPart 75 = .ok (.iload_n 3, 1) := by decide +kernel
theorem dX8_alwaysPart_76 : decode cX8_alwaysPart 76 = .ok (.ireturn, 1) := by decide +kernel
def wX8_alwaysPart_b76 (B : Nat → kp_S → (Int32 → kp_S → Prop) → Prop) (a0 : Nat) (x1 : Int32) (x2 : Int32) (xt0 : Int32)  (Sn : kp_S) (post : Int32 → kp_S → Prop) : Prop :=
  post xt0 Sn
def wX8_alwaysPart (B : Nat → kp_S → (Int32 → kp_S → Prop) → Prop) (a0 : Nat) (x1 : Int32) (x2 : Int32) (S : kp_S) (post : Int32 → kp_S → Prop) : Prop :=
  ∃ b1 : Nat, kp_R S 1600 a0 = some b1 ∧
  (((kp_I S 1805 b1) = 317 →
  wX9_advance b1 S (fun T2 =>
  ∃ b3 : Nat, kp_R T2 1603 a0 = some b3 ∧
  wX0_size b3 T2 (fun y5 T4 =>
  wX0_set b3 (x1 + 4) y5 T4 (fun T6 =>
  B a0 T6 (fun y8 T7 =>
  ∃ b9 : Nat, kp_R T7 1603 a0 = some b9 ∧
  wX0_add b9 54 T7 (fun y11 T10 =>
  ((¬ x2 = 0 →
  (((y8 &&& 1) = 0 →
  wX8_alwaysPart_b76 B a0 x1 x2 y8  T10 post) ∧ (¬ (y8 &&& 1) = 0 →
  wX8_alwaysPart_b76 B a0 x1 x2 ((y8 &&& (-2)) ||| x2)  T10 post))) ∧ (x2 = 0 →
  post 0 T10)))))))) ∧ (¬ (kp_I S 1805 b1) = 317 →
  post x2 S))
set_option maxHeartbeats 4000000 in
set_option maxRecDepth 100000 in
theorem c_X8_alwaysPart (l : Launch) (D : va_G) (cy : Nat → ClassId) (ad : (Nat → Nat) × (Nat → Nat)) (F L : Nat) (B : Nat → kp_S → (Int32 → kp_S → Prop) → Prop) (hB : ∀ (S : kp_S) (a0 : Nat) (post : Int32 → kp_S → Prop), kp_ok S → kp_is S a0 8 → B a0 S post → kp_M l yX8_block cX8_block 5 (some .int) { frames := F, cells := 0, slots := 0, locals := L } D cy ad S [.ref a0] 0 0 (fun A => kp_Qi D cy A S post)) (hF : 191 ≤ F) (hL : 4387 ≤ L) (S : kp_S) (a0 : Nat) (x1 : Int32) (x2 : Int32) (post : Int32 → kp_S → Prop) (hS : kp_ok S) (f_a0 : kp_is S a0 8) (hw : wX8_alwaysPart B a0 x1 x2 S post) : kp_M l yX8_alwaysPart cX8_alwaysPart 4 (some .int) { frames := F + 1, cells := 0, slots := 0, locals := L + 24 } D cy ad S [.ref a0, .int x1, .int x2] 0 0 (fun A => kp_Qi D cy A S post) := by
  refine kp_start (own := RX8) (by decide) rfl (Nat.le_of_ble_eq_true rfl) hS ?_
  intro p e s m below meth c A ls X hr hlocks hname h hl
  have hle : kp_le S S := kp_le.rf
  have hl : lv_has ls 4 [(0, .ref a0), (1, .int x1), (2, .int x2)] := hl
  have j76 : ∀ (xt0 : Int32) (Sn : kp_S) (H : Heap) (locs : List Loc) (ls : Array Slot), lv_has ls 4 [] → kp_H D cy A Sn s.heap H locs → kp_le S Sn → kp_is Sn a0 8 → wX8_alwaysPart_b76 B a0 x1 x2 xt0  Sn post → W p l e { frames := F + 1, cells := 0, slots := 0, locals := L + 24 } s m ([.ref a0, .int x1, .int x2] : List Value).toArray below meth c H locs 0 0 (MQ below (kp_Qi D cy A S post) ([.ref a0, .int x1, .int x2] : List Value).toArray s 0 0 A) (F0 m 76 ls [.int xt0]) := by
    intro xt0 Sn H locs ls hl h hle f_a0 hw
    unfold wX8_alwaysPart_b76 at hw
    exact kp_reti X hr hlocks h hle rfl hw dX8_alwaysPart_76
  unfold wX8_alwaysPart at hw
  have h : kp_H D cy A S s.heap s.heap [] := h
  revert h
  intro h
  refine lv_aload_n X.1 X.2.1 dX8_alwaysPart_0 rfl (lv_at hl 0 rfl) ?_
  obtain ⟨b1, e_b1, hw⟩ := hw
  have f_b1 := h.2.2.2.rf (c := 8) (k := 0) f_a0 (by decide) (by decide) e_b1 (t := 9) rfl
  refine kp_get X h f_a0 ff_8_14.l (v := .ref b1) (congrArg va_rf e_b1) dX8_alwaysPart_1 ?_
  refine kp_get X h f_b1 fp_8_66.l (v := .int (kp_I S 1805 b1)) rfl dX8_alwaysPart_4 ?_
  refine lv_sipush (v := 317) X.1 X.2.1 dX8_alwaysPart_7 (by decide) ?_
  refine lv_icmp_eq (tgt := 15) X.1 X.2.1 dX8_alwaysPart_10 (by decide) (fun c14 => ?_) (fun c14 => ?_)
  · have hw := hw.1 c14
    refine lv_aload_n X.1 X.2.1 dX8_alwaysPart_15 rfl (lv_at hl 0 rfl) ?_
    refine kp_get X h f_a0 ff_8_14.l (v := .ref b1) (congrArg va_rf e_b1) dX8_alwaysPart_16 ?_
    refine kp_callv X h (kp_runV (rm := { frames := 5, cells := 0, slots := 0, locals := 113 }) (mc := 0) (ms := 0) (rest := []) (Qc := fun A => kp_Qv D cy A S _) X h (c_X9_advance l D cy ad S b1 _ h.2.2.2 f_b1 hw) f_b1 cv_8_75 ⟨by dsimp only; omega, by dsimp only; omega, rfl, rfl, by dsimp only; omega, by dsimp only; omega⟩ rfl hl.1 rfl (Nat.le_of_ble_eq_true rfl) dX8_alwaysPart_19) (fun T2 hw l_T2 H locs h => ?_)
    have f_a0 := l_T2.is f_a0
    have f_b1 := l_T2.is f_b1
    have hle := hle.tr l_T2
    refine lv_aload_n X.1 X.2.1 dX8_alwaysPart_22 rfl (lv_at hl 0 rfl) ?_
    obtain ⟨b3, e_b3, hw⟩ := hw
    have f_b3 := h.2.2.2.rf (c := 8) (k := 3) f_a0 (by decide) (by decide) e_b3 (t := 0) rfl
    refine kp_get X h f_a0 fp_8_27.l (v := .ref b3) (congrArg va_rf e_b3) dX8_alwaysPart_23 ?_
    refine lv_iload_n X.1 X.2.1 dX8_alwaysPart_26 rfl (lv_at hl 1 rfl) ?_
    refine lv_iconst (v := 4) X.1 X.2.1 dX8_alwaysPart_27 (by decide) ?_
    refine lv_iadd X.1 X.2.1 dX8_alwaysPart_28 ?_
    refine lv_aload_n X.1 X.2.1 dX8_alwaysPart_29 rfl (lv_at hl 0 rfl) ?_
    refine kp_get X h f_a0 fp_8_27.l (v := .ref b3) (congrArg va_rf e_b3) dX8_alwaysPart_30 ?_
    refine kp_calli X h (kp_runV (rm := { frames := 0, cells := 0, slots := 0, locals := 0 }) (mc := 0) (ms := 0) (rest := [.int (x1 + 4), .ref b3]) (Qc := fun A => kp_Qi D cy A T2 _) X h (c_X0_size l D cy ad T2 b3 _ h.2.2.2 f_b3 hw) f_b3 cv_8_237 ⟨by dsimp only; omega, by dsimp only; omega, rfl, rfl, by dsimp only; omega, by dsimp only; omega⟩ rfl hl.1 rfl (Nat.le_of_ble_eq_true rfl) dX8_alwaysPart_33) (fun y5 T4 hw l_T4 H locs h => ?_)
    have f_a0 := l_T4.is f_a0
    have f_b1 := l_T4.is f_b1
    have f_b3 := l_T4.is f_b3
    have hle := hle.tr l_T4
    refine kp_callv X h (kp_runV (rm := { frames := 0, cells := 0, slots := 0, locals := 0 }) (mc := 0) (ms := 0) (rest := []) (Qc := fun A => kp_Qv D cy A T4 _) X h (c_X0_set l D cy ad T4 b3 (x1 + 4) y5 _ h.2.2.2 f_b3 hw) f_b3 cv_8_240 ⟨by dsimp only; omega, by dsimp only; omega, rfl, rfl, by dsimp only; omega, by dsimp only; omega⟩ rfl hl.1 rfl (Nat.le_of_ble_eq_true rfl) dX8_alwaysPart_36) (fun T6 hw l_T6 H locs h => ?_)
    have f_a0 := l_T6.is f_a0
    have f_b1 := l_T6.is f_b1
    have f_b3 := l_T6.is f_b3
    have hle := hle.tr l_T6
    refine lv_aload_n X.1 X.2.1 dX8_alwaysPart_39 rfl (lv_at hl 0 rfl) ?_
    refine kp_calli X h (kp_runV (rm := { frames := F, cells := 0, slots := 0, locals := L }) (mc := 0) (ms := 0) (rest := []) (Qc := fun A => kp_Qi D cy A T6 _) X h (hB T6 a0 _ h.2.2.2 f_a0 hw) f_a0 cv_8_120 ⟨by dsimp only; omega, by dsimp only; omega, rfl, rfl, by dsimp only; omega, by dsimp only; omega⟩ rfl hl.1 rfl (Nat.le_of_ble_eq_true rfl) dX8_alwaysPart_40) (fun y8 T7 hw l_T7 H locs h => ?_)
    have f_a0 := l_T7.is f_a0
    have f_b1 := l_T7.is f_b1
    have f_b3 := l_T7.is f_b3
    have hle := hle.tr l_T7
    refine lv_istore_n (lv' := [(3, .int y8), (0, .ref a0), (1, .int x1), (2, .int x2)]) X.1 X.2.1 dX8_alwaysPart_43 rfl hl (by decide) rfl (fun ls hl => ?_)
    refine lv_aload_n X.1 X.2.1 dX8_alwaysPart_44 rfl (lv_at hl 1 rfl) ?_
    obtain ⟨b9, e_b9, hw⟩ := hw
    have f_b9 := h.2.2.2.rf (c := 8) (k := 3) f_a0 (by decide) (by decide) e_b9 (t := 0) rfl
    refine kp_get X h f_a0 fp_8_27.l (v := .ref b9) (congrArg va_rf e_b9) dX8_alwaysPart_45 ?_
    refine lv_bipush (v := 54) X.1 X.2.1 dX8_alwaysPart_48 (by decide) ?_
    refine kp_calli X h (kp_runV (rm := { frames := 0, cells := 0, slots := 0, locals := 0 }) (mc := 0) (ms := 0) (rest := []) (Qc := fun A => kp_Qi D cy A T7 _) X h (c_X0_add l D cy ad T7 b9 54 _ h.2.2.2 f_b9 hw) f_b9 cv_8_123 ⟨by dsimp only; omega, by dsimp only; omega, rfl, rfl, by dsimp only; omega, by dsimp only; omega⟩ rfl hl.1 rfl (Nat.le_of_ble_eq_true rfl) dX8_alwaysPart_50) (fun y11 T10 hw l_T10 H locs h => ?_)
    have f_a0 := l_T10.is f_a0
    have f_b1 := l_T10.is f_b1
    have f_b3 := l_T10.is f_b3
    have f_b9 := l_T10.is f_b9
    have hle := hle.tr l_T10
    refine lv_pop X.1 X.2.1 dX8_alwaysPart_53 rfl ?_
    refine lv_iload_n X.1 X.2.1 dX8_alwaysPart_54 rfl (lv_at hl 3 rfl) ?_
    refine lv_if_ne (tgt := 60) X.1 X.2.1 dX8_alwaysPart_55 (by decide) (fun c13 => ?_) (fun c13 => ?_)
    · have hw := hw.1 c13
      refine lv_iload_n X.1 X.2.1 dX8_alwaysPart_60 rfl (lv_at hl 0 rfl) ?_
      refine lv_iconst (v := 1) X.1 X.2.1 dX8_alwaysPart_61 (by decide) ?_
      refine lv_iand X.1 X.2.1 dX8_alwaysPart_62 ?_
      refine lv_if_eq (tgt := 75) X.1 X.2.1 dX8_alwaysPart_63 (by decide) (fun c12 => ?_) (fun c12 => ?_)
      · have hw := hw.1 c12
        refine lv_iload_n X.1 X.2.1 dX8_alwaysPart_75 rfl (lv_at hl 0 rfl) ?_
        exact j76 y8 T10 _ _ ls (lv_sub hl [] rfl) h hle f_a0 hw
      · have hw := hw.2 c12
        refine lv_iload_n X.1 X.2.1 dX8_alwaysPart_66 rfl (lv_at hl 0 rfl) ?_
        refine lv_bipush (v := (-2)) X.1 X.2.1 dX8_alwaysPart_67 (by decide) ?_
        refine lv_iand X.1 X.2.1 dX8_alwaysPart_69 ?_
        refine lv_iload_n X.1 X.2.1 dX8_alwaysPart_70 rfl (lv_at hl 3 rfl) ?_
        refine lv_ior X.1 X.2.1 dX8_alwaysPart_71 ?_
        refine lv_goto (tgt := 76) X.1 X.2.1 dX8_alwaysPart_72 (by decide) ?_
        exact j76 ((y8 &&& (-2)) ||| x2) T10 _ _ ls (lv_sub hl [] rfl) h hle f_a0 hw
    · have hw := hw.2 c13
      refine lv_iconst (v := 0) X.1 X.2.1 dX8_alwaysPart_58 (by decide) ?_
      exact kp_reti X hr hlocks h hle rfl hw dX8_alwaysPart_59
  · have hw := hw.2 c14
    refine lv_iload_n X.1 X.2.1 dX8_alwaysPart_13 rfl (lv_at hl 2 rfl) ?_
    exact kp_reti X hr hlocks h hle rfl hw dX8_alwaysPart_14
theorem dX8_round_0 : decode cX8_round 0 = .ok (.aload_n 0, 1) := by decide +kernel
theorem dX8_round_1 : decode cX8_round 1 = .ok (.getfield 23, 3) := by decide +kernel
theorem dX8_round_4 : decode cX8_round 4 = .ok (.lload_n 1, 1) := by decide +kernel
theorem dX8_round_5 : decode cX8_round 5 = .ok (.iload_n 3, 1) := by decide +kernel
theorem dX8_round_6 : decode cX8_round 6 = .ok (.invokevirtual 276, 3) := by decide +kernel
theorem dX8_round_9 : decode cX8_round 9 = .ok (.aload_n 0, 1) := by decide +kernel
theorem dX8_round_10 : decode cX8_round 10 = .ok (.invokevirtual 120, 3) := by decide +kernel
theorem dX8_round_13 : decode cX8_round 13 = .ok (.istore 4, 2) := by decide +kernel
theorem dX8_round_15 : decode cX8_round 15 = .ok (.aload_n 0, 1) := by decide +kernel
theorem dX8_round_16 : decode cX8_round 16 = .ok (.getfield 27, 3) := by decide +kernel
theorem dX8_round_19 : decode cX8_round 19 = .ok (.bipush 54, 2) := by decide +kernel
theorem dX8_round_21 : decode cX8_round 21 = .ok (.invokevirtual 123, 3) := by decide +kernel
theorem dX8_round_24 : decode cX8_round 24 = .ok (.pop, 1) := by decide +kernel
theorem dX8_round_25 : decode cX8_round 25 = .ok (.aload_n 0, 1) := by decide +kernel
theorem dX8_round_26 : decode cX8_round 26 = .ok (.iload_n 3, 1) := by decide +kernel
theorem dX8_round_27 : decode cX8_round 27 = .ok (.iload 4, 2) := by decide +kernel
theorem dX8_round_29 : decode cX8_round 29 = .ok (.invokevirtual 279, 3) := by decide +kernel
theorem dX8_round_32 : decode cX8_round 32 = .ok (.istore 4, 2) := by decide +kernel
theorem dX8_round_34 : decode cX8_round 34 = .ok (.aload_n 0, 1) := by decide +kernel
theorem dX8_round_35 : decode cX8_round 35 = .ok (.getfield 23, 3) := by decide +kernel
theorem dX8_round_38 : decode cX8_round 38 = .ok (.invokevirtual 282, 3) := by decide +kernel
theorem dX8_round_41 : decode cX8_round 41 = .ok (.iload 4, 2) := by decide +kernel
theorem dX8_round_43 : decode cX8_round 43 = .ok (.ireturn, 1) := by decide +kernel
def wX8_round (B : Nat → kp_S → (Int32 → kp_S → Prop) → Prop) (a0 : Nat) (w1 : Int64) (x3 : Int32) (S : kp_S) (post : Int32 → kp_S → Prop) : Prop :=
  ∃ b1 : Nat, kp_R S 1601 a0 = some b1 ∧
  wX5_enterLoop b1 w1 x3 S (fun T2 =>
  B a0 T2 (fun y4 T3 =>
  ∃ b5 : Nat, kp_R T3 1603 a0 = some b5 ∧
  wX0_add b5 54 T3 (fun y7 T6 =>
  wX8_alwaysPart B a0 x3 y4 T6 (fun y9 T8 =>
  ∃ b10 : Nat, kp_R T8 1601 a0 = some b10 ∧
  wX5_leaveLoop b10 T8 (fun T11 =>
  post y9 T11)))))
set_option maxHeartbeats 4000000 in
set_option maxRecDepth 100000 in
theorem c_X8_round (l : Launch) (D : va_G) (cy : Nat → ClassId) (ad : (Nat → Nat) × (Nat → Nat)) (F L : Nat) (B : Nat → kp_S → (Int32 → kp_S → Prop) → Prop) (hB : ∀ (S : kp_S) (a0 : Nat) (post : Int32 → kp_S → Prop), kp_ok S → kp_is S a0 8 → B a0 S post → kp_M l yX8_block cX8_block 5 (some .int) { frames := F, cells := 0, slots := 0, locals := L } D cy ad S [.ref a0] 0 0 (fun A => kp_Qi D cy A S post)) (hF : 191 ≤ F) (hL : 4387 ≤ L) (S : kp_S) (a0 : Nat) (w1 : Int64) (x3 : Int32) (post : Int32 → kp_S → Prop) (hS : kp_ok S) (f_a0 : kp_is S a0 8) (hw : wX8_round B a0 w1 x3 S post) : kp_M l yX8_round cX8_round 5 (some .int) { frames := F + 2, cells := 0, slots := 0, locals := L + 47 } D cy ad S [.ref a0, .long w1, .int x3] 0 0 (fun A => kp_Qi D cy A S post) := by
  refine kp_start (own := RX8) (by decide) rfl (Nat.le_of_ble_eq_true rfl) hS ?_
  intro p e s m below meth c A ls X hr hlocks hname h hl
  have hle : kp_le S S := kp_le.rf
  have hl : lv_has ls 5 [(0, .ref a0), (1, .long w1), (3, .int x3)] := hl
  unfold wX8_round at hw
  have h : kp_H D cy A S s.heap s.heap [] := h
  revert h
  intro h
  refine lv_aload_n X.1 X.2.1 dX8_round_0 rfl (lv_at hl 0 rfl) ?_
  obtain ⟨b1, e_b1, hw⟩ := hw
  have f_b1 := h.2.2.2.rf (c := 8) (k := 1) f_a0 (by decide) (by decide) e_b1 (t := 5) rfl
  refine kp_get X h f_a0 ff_8_23.l (v := .ref b1) (congrArg va_rf e_b1) dX8_round_1 ?_
  refine lv_lload_n X.1 X.2.1 dX8_round_4 rfl (lv_at hl 1 rfl) ?_
  refine lv_iload_n X.1 X.2.1 dX8_round_5 rfl (lv_at hl 2 rfl) ?_
  refine kp_callv X h (kp_runV (rm := { frames := 0, cells := 0, slots := 0, locals := 0 }) (mc := 0) (ms := 0) (rest := []) (Qc := fun A => kp_Qv D cy A S _) X h (c_X5_enterLoop l D cy ad S b1 w1 x3 _ h.2.2.2 f_b1 hw) f_b1 cv_8_276 ⟨by dsimp only; omega, by dsimp only; omega, rfl, rfl, by dsimp only; omega, by dsimp only; omega⟩ rfl hl.1 rfl (Nat.le_of_ble_eq_true rfl) dX8_round_6) (fun T2 hw l_T2 H locs h => ?_)
  have f_a0 := l_T2.is f_a0
  have f_b1 := l_T2.is f_b1
  have hle := hle.tr l_T2
  refine lv_aload_n X.1 X.2.1 dX8_round_9 rfl (lv_at hl 0 rfl) ?_
  refine kp_calli X h (kp_runV (rm := { frames := F, cells := 0, slots := 0, locals := L }) (mc := 0) (ms := 0) (rest := []) (Qc := fun A => kp_Qi D cy A T2 _) X h (hB T2 a0 _ h.2.2.2 f_a0 hw) f_a0 cv_8_120 ⟨by dsimp only; omega, by dsimp only; omega, rfl, rfl, by dsimp only; omega, by dsimp only; omega⟩ rfl hl.1 rfl (Nat.le_of_ble_eq_true rfl) dX8_round_10) (fun y4 T3 hw l_T3 H locs h => ?_)
  have f_a0 := l_T3.is f_a0
  have f_b1 := l_T3.is f_b1
  have hle := hle.tr l_T3
  refine lv_istore (lv' := [(4, .int y4), (0, .ref a0), (1, .long w1), (3, .int x3)]) X.1 X.2.1 dX8_round_13 hl (by decide) rfl (fun ls hl => ?_)
  refine lv_aload_n X.1 X.2.1 dX8_round_15 rfl (lv_at hl 1 rfl) ?_
  obtain ⟨b5, e_b5, hw⟩ := hw
  have f_b5 := h.2.2.2.rf (c := 8) (k := 3) f_a0 (by decide) (by decide) e_b5 (t := 0) rfl
  refine kp_get X h f_a0 fp_8_27.l (v := .ref b5) (congrArg va_rf e_b5) dX8_round_16 ?_
  refine lv_bipush (v := 54) X.1 X.2.1 dX8_round_19 (by decide) ?_
  refine kp_calli X h (kp_runV (rm := { frames := 0, cells := 0, slots := 0, locals := 0 }) (mc := 0) (ms := 0) (rest := []) (Qc := fun A => kp_Qi D cy A T3 _) X h (c_X0_add l D cy ad T3 b5 54 _ h.2.2.2 f_b5 hw) f_b5 cv_8_123 ⟨by dsimp only; omega, by dsimp only; omega, rfl, rfl, by dsimp only; omega, by dsimp only; omega⟩ rfl hl.1 rfl (Nat.le_of_ble_eq_true rfl) dX8_round_21) (fun y7 T6 hw l_T6 H locs h => ?_)
  have f_a0 := l_T6.is f_a0
  have f_b1 := l_T6.is f_b1
  have f_b5 := l_T6.is f_b5
  have hle := hle.tr l_T6
  refine lv_pop X.1 X.2.1 dX8_round_24 rfl ?_
  refine lv_aload_n X.1 X.2.1 dX8_round_25 rfl (lv_at hl 1 rfl) ?_
  refine lv_iload_n X.1 X.2.1 dX8_round_26 rfl (lv_at hl 3 rfl) ?_
  refine lv_iload X.1 X.2.1 dX8_round_27 (lv_at hl 0 rfl) ?_
  refine kp_calli X h (kp_runV (rm := { frames := F + 1, cells := 0, slots := 0, locals := L + 24 }) (mc := 0) (ms := 0) (rest := []) (Qc := fun A => kp_Qi D cy A T6 _) X h (c_X8_alwaysPart l D cy ad F L B hB hF hL T6 a0 x3 y4 _ h.2.2.2 f_a0 hw) f_a0 cv_8_279 ⟨by dsimp only; omega, by dsimp only; omega, rfl, rfl, by dsimp only; omega, by dsimp only; omega⟩ rfl hl.1 rfl (Nat.le_of_ble_eq_true rfl) dX8_round_29) (fun y9 T8 hw l_T8 H locs h => ?_)
  have f_a0 := l_T8.is f_a0
  have f_b1 := l_T8.is f_b1
  have f_b5 := l_T8.is f_b5
  have hle := hle.tr l_T8
  refine lv_istore (lv' := [(4, .int y9), (0, .ref a0), (1, .long w1), (3, .int x3)]) X.1 X.2.1 dX8_round_32 hl (by decide) rfl (fun ls hl => ?_)
  refine lv_aload_n X.1 X.2.1 dX8_round_34 rfl (lv_at hl 1 rfl) ?_
  obtain ⟨b10, e_b10, hw⟩ := hw
  have f_b10 := h.2.2.2.rf (c := 8) (k := 1) f_a0 (by decide) (by decide) e_b10 (t := 5) rfl
  refine kp_get X h f_a0 ff_8_23.l (v := .ref b10) (congrArg va_rf e_b10) dX8_round_35 ?_
  refine kp_callv X h (kp_runV (rm := { frames := 0, cells := 0, slots := 0, locals := 0 }) (mc := 0) (ms := 0) (rest := []) (Qc := fun A => kp_Qv D cy A T8 _) X h (c_X5_leaveLoop l D cy ad T8 b10 _ h.2.2.2 f_b10 hw) f_b10 cv_8_282 ⟨by dsimp only; omega, by dsimp only; omega, rfl, rfl, by dsimp only; omega, by dsimp only; omega⟩ rfl hl.1 rfl (Nat.le_of_ble_eq_true rfl) dX8_round_38) (fun T11 hw l_T11 H locs h => ?_)
  have f_a0 := l_T11.is f_a0
  have f_b1 := l_T11.is f_b1
  have f_b5 := l_T11.is f_b5
  have f_b10 := l_T11.is f_b10
  have hle := hle.tr l_T11
  refine lv_iload X.1 X.2.1 dX8_round_41 (lv_at hl 0 rfl) ?_
  exact kp_reti X hr hlocks h hle rfl hw dX8_round_43
theorem dX8_whileLoop_0 : decode cX8_whileLoop 0 = .ok (.aload_n 0, 1) := by decide +kernel
theorem dX8_whileLoop_1 : decode cX8_whileLoop 1 = .ok (.getfield 14, 3) := by decide +kernel
theorem dX8_whileLoop_4 : decode cX8_whileLoop 4 = .ok (.invokevirtual 75, 3) := by decide +kernel
theorem dX8_whileLoop_7 : decode cX8_whileLoop 7 = .ok (.aload_n 0, 1) := by decide +kernel
theorem dX8_whileLoop_8 : decode cX8_whileLoop 8 = .ok (.getfield 27, 3) := by decide +kernel
theorem dX8_whileLoop_11 : decode cX8_whileLoop 11 = .ok (.bipush 30, 2) := by decide +kernel
theorem dX8_whileLoop_13 : decode cX8_whileLoop 13 = .ok (.iload_n 3, 1) := by decide +kernel
theorem dX8_whileLoop_14 : decode cX8_whileLoop 14 = .ok (.invokevirtual 157, 3) := by decide +kernel
theorem dX8_whileLoop_17 : decode cX8_whileLoop 17 = .ok (.istore 4, 2) := by decide +kernel
theorem dX8_whileLoop_19 : decode cX8_whileLoop 19 = .ok (.aload_n 0, 1) := by decide +kernel
theorem dX8_whileLoop_20 : decode cX8_whileLoop 20 = .ok (.getfield 36, 3) := by decide +kernel
theorem dX8_whileLoop_23 : decode cX8_whileLoop 23 = .ok (.invokevirtual 213, 3) := by decide +kernel
theorem dX8_whileLoop_26 : decode cX8_whileLoop 26 = .ok (.invokestatic 216, 3) := by decide +kernel
theorem dX8_whileLoop_29 : decode cX8_whileLoop 29 = .ok (.istore 5, 2) := by decide +kernel
theorem dX8_whileLoop_31 : decode cX8_whileLoop 31 = .ok (.aload_n 0, 1) := by decide +kernel
theorem dX8_whileLoop_32 : decode cX8_whileLoop 32 = .ok (.getfield 27, 3) := by decide +kernel
theorem dX8_whileLoop_35 : decode cX8_whileLoop 35 = .ok (.bipush 23, 2) := by decide +kernel
theorem dX8_whileLoop_37 : decode cX8_whileLoop 37 = .ok (.iconst 0, 1) := by decide +kernel
theorem dX8_whileLoop_38 : decode cX8_whileLoop 38 = .ok (.invokevirtual 157, 3) := by decide +kernel
theorem dX8_whileLoop_41 : decode cX8_whileLoop 41 = .ok (.istore 6, 2) := by decide +kernel
theorem dX8_whileLoop_43 : decode cX8_whileLoop 43 = .ok (.aload_n 0, 1) := by decide +kernel
theorem dX8_whileLoop_44 : decode cX8_whileLoop 44 = .ok (.getfield 27, 3) := by decide +kernel
theorem dX8_whileLoop_47 : decode cX8_whileLoop 47 = .ok (.bipush 46, 2) := by decide +kernel
theorem dX8_whileLoop_49 : decode cX8_whileLoop 49 = .ok (.iload_n 3, 1) := by decide +kernel
theorem dX8_whileLoop_50 : decode cX8_whileLoop 50 = .ok (.invokevirtual 261, 3) := by decide +kernel
theorem dX8_whileLoop_53 : decode cX8_whileLoop 53 = .ok (.istore 7, 2) := by decide +kernel
theorem dX8_whileLoop_55 : decode cX8_whileLoop 55 = .ok (.aload_n 0, 1) := by decide +kernel
theorem dX8_whileLoop_56 : decode cX8_whileLoop 56 = .ok (.lload_n 1, 1) := by decide +kernel
theorem dX8_whileLoop_57 : decode cX8_whileLoop 57 = .ok (.iload 7, 2) := by decide +kernel
theorem dX8_whileLoop_59 : decode cX8_whileLoop 59 = .ok (.invokevirtual 264, 3) := by decide +kernel
theorem dX8_whileLoop_62 : decode cX8_whileLoop 62 = .ok (.istore 8, 2) := by decide +kernel
theorem dX8_whileLoop_64 : decode cX8_whileLoop 64 = .ok (.aload_n 0, 1) := by decide +kernel
theorem dX8_whileLoop_65 : decode cX8_whileLoop 65 = .ok (.getfield 27, 3) := by decide +kernel
theorem dX8_whileLoop_68 : decode cX8_whileLoop 68 = .ok (.iload 6, 2) := by decide +kernel
theorem dX8_whileLoop_70 : decode cX8_whileLoop 70 = .ok (.iconst 1, 1) := by decide +kernel
theorem dX8_whileLoop_71 : decode cX8_whileLoop 71 = .ok (.iadd, 1) := by decide +kernel
theorem dX8_whileLoop_72 : decode cX8_whileLoop 72 = .ok (.aload_n 0, 1) := by decide +kernel
theorem dX8_whileLoop_73 : decode cX8_whileLoop 73 = .ok (.getfield 27, 3) := by decide +kernel
theorem dX8_whileLoop_76 : decode cX8_whileLoop 76 = .ok (.invokevirtual 237, 3) := by decide +kernel
theorem dX8_whileLoop_79 : decode cX8_whileLoop 79 = .ok (.invokevirtual 240, 3) := by decide +kernel
theorem dX8_whileLoop_82 : decode cX8_whileLoop 82 = .ok (.aload_n 0, 1) := by decide +kernel
theorem dX8_whileLoop_83 : decode cX8_whileLoop 83 = .ok (.iload 7, 2) := by decide +kernel
theorem dX8_whileLoop_85 : decode cX8_whileLoop 85 = .ok (.iload 4, 2) := by decide +kernel
theorem dX8_whileLoop_87 : decode cX8_whileLoop 87 = .ok (.aload_n 0, 1) := by decide +kernel
theorem dX8_whileLoop_88 : decode cX8_whileLoop 88 = .ok (.getfield 27, 3) := by decide +kernel
theorem dX8_whileLoop_91 : decode cX8_whileLoop 91 = .ok (.invokevirtual 237, 3) := by decide +kernel
theorem dX8_whileLoop_94 : decode cX8_whileLoop 94 = .ok (.invokevirtual 267, 3) := by decide +kernel
theorem dX8_whileLoop_97 : decode cX8_whileLoop 97 = .ok (.iload 8, 2) := by decide +kernel
theorem dX8_whileLoop_99 : decode cX8_whileLoop 99 = .ok (.aload_n 0, 1) := by decide +kernel
theorem dX8_whileLoop_100 : decode cX8_whileLoop 100 = .ok (.invokevirtual 270, 3) := by decide +kernel
theorem dX8_whileLoop_103 : decode cX8_whileLoop 103 = .ok (.iconst (-1), 1) := by decide +kernel
theorem dX8_whileLoop_104 : decode cX8_whileLoop 104 = .ok (.ixor, 1) := by decide +kernel
theorem dX8_whileLoop_105 : decode cX8_whileLoop 105 = .ok (.iand, 1) := by decide +kernel
theorem dX8_whileLoop_106 : decode cX8_whileLoop 106 = .ok (.bipush (-2), 2) := by decide +kernel
theorem dX8_whileLoop_108 : decode cX8_whileLoop 108 = .ok (.iand, 1) := by decide +kernel
theorem dX8_whileLoop_109 : decode cX8_whileLoop 109 = .ok (.iconst 1, 1) := by decide +kernel
theorem dX8_whileLoop_110 : decode cX8_whileLoop 110 = .ok (.ior, 1) := by decide +kernel
theorem dX8_whileLoop_111 : decode cX8_whileLoop 111 = .ok (.iload 5, 2) := by decide +kernel
theorem dX8_whileLoop_113 : decode cX8_whileLoop 113 = .ok (.ior, 1) := by decide +kernel
theorem dX8_whileLoop_114 : decode cX8_whileLoop 114 = .ok (.ireturn, 1) := by decide +kernel
def wX8_whileLoop (B : Nat → kp_S → (Int32 → kp_S → Prop) → Prop) (a0 : Nat) (w1 : Int64) (x3 : Int32) (S : kp_S) (post : Int32 → kp_S → Prop) : Prop :=
  ∃ b1 : Nat, kp_R S 1600 a0 = some b1 ∧
  wX9_advance b1 S (fun T2 =>
  ∃ b3 : Nat, kp_R T2 1603 a0 = some b3 ∧
  wX0_add_ b3 30 x3 T2 (fun y5 T4 =>
  ∃ b6 : Nat, kp_R T4 1602 a0 = some b6 ∧
  wX2_whole_t b6 T4 (fun y8 T7 =>
  wX8_troubleOf y8 T7 (fun y10 T9 =>
  ∃ b11 : Nat, kp_R T9 1603 a0 = some b11 ∧
  wX0_add_ b11 23 0 T9 (fun y13 T12 =>
  ∃ b14 : Nat, kp_R T12 1603 a0 = some b14 ∧
  wX0_addPart b14 46 x3 T12 (fun y16 T15 =>
  wX8_round B a0 w1 y16 T15 (fun y18 T17 =>
  ∃ b19 : Nat, kp_R T17 1603 a0 = some b19 ∧
  wX0_size b19 T17 (fun y21 T20 =>
  wX0_set b19 (y13 + 1) y21 T20 (fun T22 =>
  ∃ b23 : Nat, kp_R T22 1603 a0 = some b23 ∧
  wX0_size b23 T22 (fun y25 T24 =>
  wX8_setRound a0 y16 y5 y25 T24 (fun T26 =>
  wX8_ownWays a0 T26 (fun y28 T27 =>
  post ((((y18 &&& (y28 ^^^ (-1))) &&& (-2)) ||| 1) ||| y10) T27))))))))))))
set_option maxHeartbeats 4000000 in
set_option maxRecDepth 100000 in
theorem c_X8_whileLoop (l : Launch) (D : va_G) (cy : Nat → ClassId) (ad : (Nat → Nat) × (Nat → Nat)) (F L : Nat) (B : Nat → kp_S → (Int32 → kp_S → Prop) → Prop) (hB : ∀ (S : kp_S) (a0 : Nat) (post : Int32 → kp_S → Prop), kp_ok S → kp_is S a0 8 → B a0 S post → kp_M l yX8_block cX8_block 5 (some .int) { frames := F, cells := 0, slots := 0, locals := L } D cy ad S [.ref a0] 0 0 (fun A => kp_Qi D cy A S post)) (hF : 191 ≤ F) (hL : 4387 ≤ L) (S : kp_S) (a0 : Nat) (w1 : Int64) (x3 : Int32) (post : Int32 → kp_S → Prop) (hS : kp_ok S) (f_a0 : kp_is S a0 8) (hw : wX8_whileLoop B a0 w1 x3 S post) : kp_M l yX8_whileLoop cX8_whileLoop 9 (some .int) { frames := F + 3, cells := 0, slots := 0, locals := L + 71 } D cy ad S [.ref a0, .long w1, .int x3] 0 0 (fun A => kp_Qi D cy A S post) := by
  refine kp_start (own := RX8) (by decide) rfl (Nat.le_of_ble_eq_true rfl) hS ?_
  intro p e s m below meth c A ls X hr hlocks hname h hl
  have hle : kp_le S S := kp_le.rf
  have hl : lv_has ls 9 [(0, .ref a0), (1, .long w1), (3, .int x3)] := hl
  unfold wX8_whileLoop at hw
  have h : kp_H D cy A S s.heap s.heap [] := h
  revert h
  intro h
  refine lv_aload_n X.1 X.2.1 dX8_whileLoop_0 rfl (lv_at hl 0 rfl) ?_
  obtain ⟨b1, e_b1, hw⟩ := hw
  have f_b1 := h.2.2.2.rf (c := 8) (k := 0) f_a0 (by decide) (by decide) e_b1 (t := 9) rfl
  refine kp_get X h f_a0 ff_8_14.l (v := .ref b1) (congrArg va_rf e_b1) dX8_whileLoop_1 ?_
  refine kp_callv X h (kp_runV (rm := { frames := 5, cells := 0, slots := 0, locals := 113 }) (mc := 0) (ms := 0) (rest := []) (Qc := fun A => kp_Qv D cy A S _) X h (c_X9_advance l D cy ad S b1 _ h.2.2.2 f_b1 hw) f_b1 cv_8_75 ⟨by dsimp only; omega, by dsimp only; omega, rfl, rfl, by dsimp only; omega, by dsimp only; omega⟩ rfl hl.1 rfl (Nat.le_of_ble_eq_true rfl) dX8_whileLoop_4) (fun T2 hw l_T2 H locs h => ?_)
  have f_a0 := l_T2.is f_a0
  have f_b1 := l_T2.is f_b1
  have hle := hle.tr l_T2
  refine lv_aload_n X.1 X.2.1 dX8_whileLoop_7 rfl (lv_at hl 0 rfl) ?_
  obtain ⟨b3, e_b3, hw⟩ := hw
  have f_b3 := h.2.2.2.rf (c := 8) (k := 3) f_a0 (by decide) (by decide) e_b3 (t := 0) rfl
  refine kp_get X h f_a0 fp_8_27.l (v := .ref b3) (congrArg va_rf e_b3) dX8_whileLoop_8 ?_
  refine lv_bipush (v := 30) X.1 X.2.1 dX8_whileLoop_11 (by decide) ?_
  refine lv_iload_n X.1 X.2.1 dX8_whileLoop_13 rfl (lv_at hl 2 rfl) ?_
  refine kp_calli X h (kp_runV (rm := { frames := 1, cells := 0, slots := 0, locals := 22 }) (mc := 0) (ms := 0) (rest := []) (Qc := fun A => kp_Qi D cy A T2 _) X h (c_X0_add_ l D cy ad T2 b3 30 x3 _ h.2.2.2 f_b3 hw) f_b3 cv_8_157 ⟨by dsimp only; omega, by dsimp only; omega, rfl, rfl, by dsimp only; omega, by dsimp only; omega⟩ rfl hl.1 rfl (Nat.le_of_ble_eq_true rfl) dX8_whileLoop_14) (fun y5 T4 hw l_T4 H locs h => ?_)
  have f_a0 := l_T4.is f_a0
  have f_b1 := l_T4.is f_b1
  have f_b3 := l_T4.is f_b3
  have hle := hle.tr l_T4
  refine lv_istore (lv' := [(4, .int y5), (0, .ref a0), (1, .long w1), (3, .int x3)]) X.1 X.2.1 dX8_whileLoop_17 hl (by decide) rfl (fun ls hl => ?_)
  refine lv_aload_n X.1 X.2.1 dX8_whileLoop_19 rfl (lv_at hl 1 rfl) ?_
  obtain ⟨b6, e_b6, hw⟩ := hw
  have f_b6 := h.2.2.2.rf (c := 8) (k := 2) f_a0 (by decide) (by decide) e_b6 (t := 2) rfl
  refine kp_get X h f_a0 ff_8_36.l (v := .ref b6) (congrArg va_rf e_b6) dX8_whileLoop_20 ?_
  refine kp_calli X h (kp_runV (rm := { frames := 189, cells := 0, slots := 0, locals := 4339 }) (mc := 0) (ms := 0) (rest := []) (Qc := fun A => kp_Qi D cy A T4 _) X h (c_X2_whole_t l D cy ad T4 b6 _ h.2.2.2 f_b6 hw) f_b6 cv_8_213 ⟨by dsimp only; omega, by dsimp only; omega, rfl, rfl, by dsimp only; omega, by dsimp only; omega⟩ rfl hl.1 rfl (Nat.le_of_ble_eq_true rfl) dX8_whileLoop_23) (fun y8 T7 hw l_T7 H locs h => ?_)
  have f_a0 := l_T7.is f_a0
  have f_b1 := l_T7.is f_b1
  have f_b3 := l_T7.is f_b3
  have f_b6 := l_T7.is f_b6
  have hle := hle.tr l_T7
  refine kp_calli X h (kp_runS (rm := { frames := 0, cells := 0, slots := 0, locals := 0 }) (mc := 0) (ms := 0) (rest := []) (Qc := fun A => kp_Qi D cy A T7 _) X h (c_X8_troubleOf l D cy ad T7 y8 _ h.2.2.2  hw) cs_8_216 ⟨by dsimp only; omega, by dsimp only; omega, rfl, rfl, by dsimp only; omega, by dsimp only; omega⟩ rfl hl.1 rfl (Nat.le_of_ble_eq_true rfl) dX8_whileLoop_26) (fun y10 T9 hw l_T9 H locs h => ?_)
  have f_a0 := l_T9.is f_a0
  have f_b1 := l_T9.is f_b1
  have f_b3 := l_T9.is f_b3
  have f_b6 := l_T9.is f_b6
  have hle := hle.tr l_T9
  refine lv_istore (lv' := [(5, .int y10), (4, .int y5), (0, .ref a0), (1, .long w1), (3, .int x3)]) X.1 X.2.1 dX8_whileLoop_29 hl (by decide) rfl (fun ls hl => ?_)
  refine lv_aload_n X.1 X.2.1 dX8_whileLoop_31 rfl (lv_at hl 2 rfl) ?_
  obtain ⟨b11, e_b11, hw⟩ := hw
  have f_b11 := h.2.2.2.rf (c := 8) (k := 3) f_a0 (by decide) (by decide) e_b11 (t := 0) rfl
  refine kp_get X h f_a0 fp_8_27.l (v := .ref b11) (congrArg va_rf e_b11) dX8_whileLoop_32 ?_
  refine lv_bipush (v := 23) X.1 X.2.1 dX8_whileLoop_35 (by decide) ?_
  refine lv_iconst (v := 0) X.1 X.2.1 dX8_whileLoop_37 (by decide) ?_
  refine kp_calli X h (kp_runV (rm := { frames := 1, cells := 0, slots := 0, locals := 22 }) (mc := 0) (ms := 0) (rest := []) (Qc := fun A => kp_Qi D cy A T9 _) X h (c_X0_add_ l D cy ad T9 b11 23 0 _ h.2.2.2 f_b11 hw) f_b11 cv_8_157 ⟨by dsimp only; omega, by dsimp only; omega, rfl, rfl, by dsimp only; omega, by dsimp only; omega⟩ rfl hl.1 rfl (Nat.le_of_ble_eq_true rfl) dX8_whileLoop_38) (fun y13 T12 hw l_T12 H locs h => ?_)
  have f_a0 := l_T12.is f_a0
  have f_b1 := l_T12.is f_b1
  have f_b3 := l_T12.is f_b3
  have f_b6 := l_T12.is f_b6
  have f_b11 := l_T12.is f_b11
  have hle := hle.tr l_T12
  refine lv_istore (lv' := [(6, .int y13), (5, .int y10), (4, .int y5), (0, .ref a0), (1, .long w1), (3, .int x3)]) X.1 X.2.1 dX8_whileLoop_41 hl (by decide) rfl (fun ls hl => ?_)
  refine lv_aload_n X.1 X.2.1 dX8_whileLoop_43 rfl (lv_at hl 3 rfl) ?_
  obtain ⟨b14, e_b14, hw⟩ := hw
  have f_b14 := h.2.2.2.rf (c := 8) (k := 3) f_a0 (by decide) (by decide) e_b14 (t := 0) rfl
  refine kp_get X h f_a0 fp_8_27.l (v := .ref b14) (congrArg va_rf e_b14) dX8_whileLoop_44 ?_
  refine lv_bipush (v := 46) X.1 X.2.1 dX8_whileLoop_47 (by decide) ?_
  refine lv_iload_n X.1 X.2.1 dX8_whileLoop_49 rfl (lv_at hl 5 rfl) ?_
  refine kp_calli X h (kp_runV (rm := { frames := 2, cells := 0, slots := 0, locals := 45 }) (mc := 0) (ms := 0) (rest := []) (Qc := fun A => kp_Qi D cy A T12 _) X h (c_X0_addPart l D cy ad T12 b14 46 x3 _ h.2.2.2 f_b14 hw) f_b14 cv_8_261 ⟨by dsimp only; omega, by dsimp only; omega, rfl, rfl, by dsimp only; omega, by dsimp only; omega⟩ rfl hl.1 rfl (Nat.le_of_ble_eq_true rfl) dX8_whileLoop_50) (fun y16 T15 hw l_T15 H locs h => ?_)
  have f_a0 := l_T15.is f_a0
  have f_b1 := l_T15.is f_b1
  have f_b3 := l_T15.is f_b3
  have f_b6 := l_T15.is f_b6
  have f_b11 := l_T15.is f_b11
  have f_b14 := l_T15.is f_b14
  have hle := hle.tr l_T15
  refine lv_istore (lv' := [(7, .int y16), (6, .int y13), (5, .int y10), (4, .int y5), (0, .ref a0), (1, .long w1), (3, .int x3)]) X.1 X.2.1 dX8_whileLoop_53 hl (by decide) rfl (fun ls hl => ?_)
  refine lv_aload_n X.1 X.2.1 dX8_whileLoop_55 rfl (lv_at hl 4 rfl) ?_
  refine lv_lload_n X.1 X.2.1 dX8_whileLoop_56 rfl (lv_at hl 5 rfl) ?_
  refine lv_iload X.1 X.2.1 dX8_whileLoop_57 (lv_at hl 0 rfl) ?_
  refine kp_calli X h (kp_runV (rm := { frames := F + 2, cells := 0, slots := 0, locals := L + 47 }) (mc := 0) (ms := 0) (rest := []) (Qc := fun A => kp_Qi D cy A T15 _) X h (c_X8_round l D cy ad F L B hB hF hL T15 a0 w1 y16 _ h.2.2.2 f_a0 hw) f_a0 cv_8_264 ⟨by dsimp only; omega, by dsimp only; omega, rfl, rfl, by dsimp only; omega, by dsimp only; omega⟩ rfl hl.1 rfl (Nat.le_of_ble_eq_true rfl) dX8_whileLoop_59) (fun y18 T17 hw l_T17 H locs h => ?_)
  have f_a0 := l_T17.is f_a0
  have f_b1 := l_T17.is f_b1
  have f_b3 := l_T17.is f_b3
  have f_b6 := l_T17.is f_b6
  have f_b11 := l_T17.is f_b11
  have f_b14 := l_T17.is f_b14
  have hle := hle.tr l_T17
  refine lv_istore (lv' := [(8, .int y18), (7, .int y16), (6, .int y13), (5, .int y10), (4, .int y5), (0, .ref a0), (1, .long w1), (3, .int x3)]) X.1 X.2.1 dX8_whileLoop_62 hl (by decide) rfl (fun ls hl => ?_)
  refine lv_aload_n X.1 X.2.1 dX8_whileLoop_64 rfl (lv_at hl 5 rfl) ?_
  obtain ⟨b19, e_b19, hw⟩ := hw
  have f_b19 := h.2.2.2.rf (c := 8) (k := 3) f_a0 (by decide) (by decide) e_b19 (t := 0) rfl
  refine kp_get X h f_a0 fp_8_27.l (v := .ref b19) (congrArg va_rf e_b19) dX8_whileLoop_65 ?_
  refine lv_iload X.1 X.2.1 dX8_whileLoop_68 (lv_at hl 2 rfl) ?_
  refine lv_iconst (v := 1) X.1 X.2.1 dX8_whileLoop_70 (by decide) ?_
  refine lv_iadd X.1 X.2.1 dX8_whileLoop_71 ?_
  refine lv_aload_n X.1 X.2.1 dX8_whileLoop_72 rfl (lv_at hl 5 rfl) ?_
  refine kp_get X h f_a0 fp_8_27.l (v := .ref b19) (congrArg va_rf e_b19) dX8_whileLoop_73 ?_
  refine kp_calli X h (kp_runV (rm := { frames := 0, cells := 0, slots := 0, locals := 0 }) (mc := 0) (ms := 0) (rest := [.int (y13 + 1), .ref b19]) (Qc := fun A => kp_Qi D cy A T17 _) X h (c_X0_size l D cy ad T17 b19 _ h.2.2.2 f_b19 hw) f_b19 cv_8_237 ⟨by dsimp only; omega, by dsimp only; omega, rfl, rfl, by dsimp only; omega, by dsimp only; omega⟩ rfl hl.1 rfl (Nat.le_of_ble_eq_true rfl) dX8_whileLoop_76) (fun y21 T20 hw l_T20 H locs h => ?_)
  have f_a0 := l_T20.is f_a0
  have f_b1 := l_T20.is f_b1
  have f_b3 := l_T20.is f_b3
  have f_b6 := l_T20.is f_b6
  have f_b11 := l_T20.is f_b11
  have f_b14 := l_T20.is f_b14
  have f_b19 := l_T20.is f_b19
  have hle := hle.tr l_T20
  refine kp_callv X h (kp_runV (rm := { frames := 0, cells := 0, slots := 0, locals := 0 }) (mc := 0) (ms := 0) (rest := []) (Qc := fun A => kp_Qv D cy A T20 _) X h (c_X0_set l D cy ad T20 b19 (y13 + 1) y21 _ h.2.2.2 f_b19 hw) f_b19 cv_8_240 ⟨by dsimp only; omega, by dsimp only; omega, rfl, rfl, by dsimp only; omega, by dsimp only; omega⟩ rfl hl.1 rfl (Nat.le_of_ble_eq_true rfl) dX8_whileLoop_79) (fun T22 hw l_T22 H locs h => ?_)
  have f_a0 := l_T22.is f_a0
  have f_b1 := l_T22.is f_b1
  have f_b3 := l_T22.is f_b3
  have f_b6 := l_T22.is f_b6
  have f_b11 := l_T22.is f_b11
  have f_b14 := l_T22.is f_b14
  have f_b19 := l_T22.is f_b19
  have hle := hle.tr l_T22
  refine lv_aload_n X.1 X.2.1 dX8_whileLoop_82 rfl (lv_at hl 5 rfl) ?_
  refine lv_iload X.1 X.2.1 dX8_whileLoop_83 (lv_at hl 1 rfl) ?_
  refine lv_iload X.1 X.2.1 dX8_whileLoop_85 (lv_at hl 4 rfl) ?_
  refine lv_aload_n X.1 X.2.1 dX8_whileLoop_87 rfl (lv_at hl 5 rfl) ?_
  obtain ⟨b23, e_b23, hw⟩ := hw
  have f_b23 := h.2.2.2.rf (c := 8) (k := 3) f_a0 (by decide) (by decide) e_b23 (t := 0) rfl
  refine kp_get X h f_a0 fp_8_27.l (v := .ref b23) (congrArg va_rf e_b23) dX8_whileLoop_88 ?_
  refine kp_calli X h (kp_runV (rm := { frames := 0, cells := 0, slots := 0, locals := 0 }) (mc := 0) (ms := 0) (rest := [.int y5, .int y16, .ref a0]) (Qc := fun A => kp_Qi D cy A T22 _) X h (c_X0_size l D cy ad T22 b23 _ h.2.2.2 f_b23 hw) f_b23 cv_8_237 ⟨by dsimp only; omega, by dsimp only; omega, rfl, rfl, by dsimp only; omega, by dsimp only; omega⟩ rfl hl.1 rfl (Nat.le_of_ble_eq_true rfl) dX8_whileLoop_91) (fun y25 T24 hw l_T24 H locs h => ?_)
  have f_a0 := l_T24.is f_a0
  have f_b1 := l_T24.is f_b1
  have f_b3 := l_T24.is f_b3
  have f_b6 := l_T24.is f_b6
  have f_b11 := l_T24.is f_b11
  have f_b14 := l_T24.is f_b14
  have f_b19 := l_T24.is f_b19
  have f_b23 := l_T24.is f_b23
  have hle := hle.tr l_T24
  refine kp_callv X h (kp_runV (rm := { frames := 1, cells := 0, slots := 0, locals := 22 }) (mc := 0) (ms := 0) (rest := []) (Qc := fun A => kp_Qv D cy A T24 _) X h (c_X8_setRound l D cy ad T24 a0 y16 y5 y25 _ h.2.2.2 f_a0 hw) f_a0 cv_8_267 ⟨by dsimp only; omega, by dsimp only; omega, rfl, rfl, by dsimp only; omega, by dsimp only; omega⟩ rfl hl.1 rfl (Nat.le_of_ble_eq_true rfl) dX8_whileLoop_94) (fun T26 hw l_T26 H locs h => ?_)
  have f_a0 := l_T26.is f_a0
  have f_b1 := l_T26.is f_b1
  have f_b3 := l_T26.is f_b3
  have f_b6 := l_T26.is f_b6
  have f_b11 := l_T26.is f_b11
  have f_b14 := l_T26.is f_b14
  have f_b19 := l_T26.is f_b19
  have f_b23 := l_T26.is f_b23
  have hle := hle.tr l_T26
  refine lv_iload X.1 X.2.1 dX8_whileLoop_97 (lv_at hl 0 rfl) ?_
  refine lv_aload_n X.1 X.2.1 dX8_whileLoop_99 rfl (lv_at hl 5 rfl) ?_
  refine kp_calli X h (kp_runV (rm := { frames := 1, cells := 0, slots := 0, locals := 20 }) (mc := 0) (ms := 0) (rest := [.int y18]) (Qc := fun A => kp_Qi D cy A T26 _) X h (c_X8_ownWays l D cy ad T26 a0 _ h.2.2.2 f_a0 hw) f_a0 cv_8_270 ⟨by dsimp only; omega, by dsimp only; omega, rfl, rfl, by dsimp only; omega, by dsimp only; omega⟩ rfl hl.1 rfl (Nat.le_of_ble_eq_true rfl) dX8_whileLoop_100) (fun y28 T27 hw l_T27 H locs h => ?_)
  have f_a0 := l_T27.is f_a0
  have f_b1 := l_T27.is f_b1
  have f_b3 := l_T27.is f_b3
  have f_b6 := l_T27.is f_b6
  have f_b11 := l_T27.is f_b11
  have f_b14 := l_T27.is f_b14
  have f_b19 := l_T27.is f_b19
  have f_b23 := l_T27.is f_b23
  have hle := hle.tr l_T27
  refine lv_iconst (v := (-1)) X.1 X.2.1 dX8_whileLoop_103 (by decide) ?_
  refine lv_ixor X.1 X.2.1 dX8_whileLoop_104 ?_
  refine lv_iand X.1 X.2.1 dX8_whileLoop_105 ?_
  refine lv_bipush (v := (-2)) X.1 X.2.1 dX8_whileLoop_106 (by decide) ?_
  refine lv_iand X.1 X.2.1 dX8_whileLoop_108 ?_
  refine lv_iconst (v := 1) X.1 X.2.1 dX8_whileLoop_109 (by decide) ?_
  refine lv_ior X.1 X.2.1 dX8_whileLoop_110 ?_
  refine lv_iload X.1 X.2.1 dX8_whileLoop_111 (lv_at hl 3 rfl) ?_
  refine lv_ior X.1 X.2.1 dX8_whileLoop_113 ?_
  exact kp_reti X hr hlocks h hle rfl hw dX8_whileLoop_114
theorem dX8_eachLoop_0 : decode cX8_eachLoop 0 = .ok (.aload_n 0, 1) := by decide +kernel
theorem dX8_eachLoop_1 : decode cX8_eachLoop 1 = .ok (.getfield 14, 3) := by decide +kernel
theorem dX8_eachLoop_4 : decode cX8_eachLoop 4 = .ok (.invokevirtual 75, 3) := by decide +kernel
theorem dX8_eachLoop_7 : decode cX8_eachLoop 7 = .ok (.aload_n 0, 1) := by decide +kernel
theorem dX8_eachLoop_8 : decode cX8_eachLoop 8 = .ok (.getfield 14, 3) := by decide +kernel
theorem dX8_eachLoop_11 : decode cX8_eachLoop 11 = .ok (.getfield 78, 3) := by decide +kernel
theorem dX8_eachLoop_14 : decode cX8_eachLoop 14 = .ok (.lstore 4, 2) := by decide +kernel
theorem dX8_eachLoop_16 : decode cX8_eachLoop 16 = .ok (.aload_n 0, 1) := by decide +kernel
theorem dX8_eachLoop_17 : decode cX8_eachLoop 17 = .ok (.getfield 14, 3) := by decide +kernel
theorem dX8_eachLoop_20 : decode cX8_eachLoop 20 = .ok (.getfield 93, 3) := by decide +kernel
theorem dX8_eachLoop_23 : decode cX8_eachLoop 23 = .ok (.istore 6, 2) := by decide +kernel
theorem dX8_eachLoop_25 : decode cX8_eachLoop 25 = .ok (.aload_n 0, 1) := by decide +kernel
theorem dX8_eachLoop_26 : decode cX8_eachLoop 26 = .ok (.getfield 14, 3) := by decide +kernel
theorem dX8_eachLoop_29 : decode cX8_eachLoop 29 = .ok (.sipush 259, 3) := by decide +kernel
theorem dX8_eachLoop_32 : decode cX8_eachLoop 32 = .ok (.invokevirtual 90, 3) := by decide +kernel
theorem dX8_eachLoop_35 : decode cX8_eachLoop 35 = .ok (.aload_n 0, 1) := by decide +kernel
theorem dX8_eachLoop_36 : decode cX8_eachLoop 36 = .ok (.getfield 14, 3) := by decide +kernel
theorem dX8_eachLoop_39 : decode cX8_eachLoop 39 = .ok (.sipush 307, 3) := by decide +kernel
theorem dX8_eachLoop_42 : decode cX8_eachLoop 42 = .ok (.invokevirtual 90, 3) := by decide +kernel
theorem dX8_eachLoop_45 : decode cX8_eachLoop 45 = .ok (.aload_n 0, 1) := by decide +kernel
theorem dX8_eachLoop_46 : decode cX8_eachLoop 46 = .ok (.getfield 36, 3) := by decide +kernel
theorem dX8_eachLoop_49 : decode cX8_eachLoop 49 = .ok (.invokevirtual 213, 3) := by decide +kernel
theorem dX8_eachLoop_52 : decode cX8_eachLoop 52 = .ok (.istore 7, 2) := by decide +kernel
theorem dX8_eachLoop_54 : decode cX8_eachLoop 54 = .ok (.aload_n 0, 1) := by decide +kernel
theorem dX8_eachLoop_55 : decode cX8_eachLoop 55 = .ok (.getfield 14, 3) := by decide +kernel
theorem dX8_eachLoop_58 : decode cX8_eachLoop 58 = .ok (.sipush 308, 3) := by decide +kernel
theorem dX8_eachLoop_61 : decode cX8_eachLoop 61 = .ok (.invokevirtual 90, 3) := by decide +kernel
theorem dX8_eachLoop_64 : decode cX8_eachLoop 64 = .ok (.iload 7, 2) := by decide +kernel
theorem dX8_eachLoop_66 : decode cX8_eachLoop 66 = .ok (.aload_n 0, 1) := by decide +kernel
theorem dX8_eachLoop_67 : decode cX8_eachLoop 67 = .ok (.getfield 36, 3) := by decide +kernel
theorem dX8_eachLoop_70 : decode cX8_eachLoop 70 = .ok (.invokevirtual 213, 3) := by decide +kernel
theorem dX8_eachLoop_73 : decode cX8_eachLoop 73 = .ok (.ior, 1) := by decide +kernel
theorem dX8_eachLoop_74 : decode cX8_eachLoop 74 = .ok (.istore 7, 2) := by decide +kernel
theorem dX8_eachLoop_76 : decode cX8_eachLoop 76 = .ok (.aload_n 0, 1) := by decide +kernel
theorem dX8_eachLoop_77 : decode cX8_eachLoop 77 = .ok (.getfield 23, 3) := by decide +kernel
theorem dX8_eachLoop_80 : decode cX8_eachLoop 80 = .ok (.invokevirtual 143, 3) := by decide +kernel
theorem dX8_eachLoop_83 : decode cX8_eachLoop 83 = .ok (.istore 8, 2) := by decide +kernel
theorem dX8_eachLoop_85 : decode cX8_eachLoop 85 = .ok (.aload_n 0, 1) := by decide +kernel
theorem dX8_eachLoop_86 : decode cX8_eachLoop 86 = .ok (.getfield 14, 3) := by decide +kernel
theorem dX8_eachLoop_89 : decode cX8_eachLoop 89 = .ok (.invokevirtual 96, 3) := by decide +kernel
theorem dX8_eachLoop_92 : decode cX8_eachLoop 92 = .ok (.ifCond .eq 7, 3) := by decide +kernel
theorem dX8_eachLoop_95 : decode cX8_eachLoop 95 = .ok (.iconst 0, 1) := by decide +kernel
theorem dX8_eachLoop_96 : decode cX8_eachLoop 96 = .ok (.goto 14, 3) := by decide +kernel
theorem dX8_eachLoop_99 : decode cX8_eachLoop 99 = .ok (.aload_n 0, 1) := by decide +kernel
theorem dX8_eachLoop_100 : decode cX8_eachLoop 100 = .ok (.getfield 23, 3) := by decide +kernel
theorem dX8_eachLoop_103 : decode cX8_eachLoop 103 = .ok (.lload 4, 2) := by decide +kernel
theorem dX8_eachLoop_105 : decode cX8_eachLoop 105 = .ok (.iload 6, 2) := by decide +kernel
theorem dX8_eachLoop_107 : decode cX8_eachLoop 107 = .ok (.invokevirtual 219, 3) := by decide +kernel
theorem dX8_eachLoop_110 : decode cX8_eachLoop 110 = .ok (.istore 9, 2) := by decide +kernel
theorem dX8_eachLoop_112 : decode cX8_eachLoop 112 = .ok (.aload_n 0, 1) := by decide +kernel
theorem dX8_eachLoop_113 : decode cX8_eachLoop 113 = .ok (.getfield 27, 3) := by decide +kernel
theorem dX8_eachLoop_116 : decode cX8_eachLoop 116 = .ok (.bipush 33, 2) := by decide +kernel
theorem dX8_eachLoop_118 : decode cX8_eachLoop 118 = .ok (.iload 9, 2) := by decide +kernel
theorem dX8_eachLoop_120 : decode cX8_eachLoop 120 = .ok (.invokevirtual 157, 3) := by decide +kernel
theorem dX8_eachLoop_123 : decode cX8_eachLoop 123 = .ok (.istore 10, 2) := by decide +kernel
theorem dX8_eachLoop_125 : decode cX8_eachLoop 125 = .ok (.aload_n 0, 1) := by decide +kernel
theorem dX8_eachLoop_126 : decode cX8_eachLoop 126 = .ok (.getfield 27, 3) := by decide +kernel
theorem dX8_eachLoop_129 : decode cX8_eachLoop 129 = .ok (.iconst 0, 1) := by decide +kernel
theorem dX8_eachLoop_130 : decode cX8_eachLoop 130 = .ok (.invokevirtual 123, 3) := by decide +kernel
theorem dX8_eachLoop_133 : decode cX8_eachLoop 133 = .ok (.istore 11, 2) := by decide +kernel
theorem dX8_eachLoop_135 : decode cX8_eachLoop 135 = .ok (.aload_n 0, 1) := by decide +kernel
theorem dX8_eachLoop_136 : decode cX8_eachLoop 136 = .ok (.getfield 27, 3) := by decide +kernel
theorem dX8_eachLoop_139 : decode cX8_eachLoop 139 = .ok (.bipush 46, 2) := by decide +kernel
theorem dX8_eachLoop_141 : decode cX8_eachLoop 141 = .ok (.iload_n 3, 1) := by decide +kernel
theorem dX8_eachLoop_142 : decode cX8_eachLoop 142 = .ok (.invokevirtual 261, 3) := by decide +kernel
theorem dX8_eachLoop_145 : decode cX8_eachLoop 145 = .ok (.istore 12, 2) := by decide +kernel
theorem dX8_eachLoop_147 : decode cX8_eachLoop 147 = .ok (.aload_n 0, 1) := by decide +kernel
theorem dX8_eachLoop_148 : decode cX8_eachLoop 148 = .ok (.lload_n 1, 1) := by decide +kernel
theorem dX8_eachLoop_149 : decode cX8_eachLoop 149 = .ok (.iload 12, 2) := by decide +kernel
theorem dX8_eachLoop_151 : decode cX8_eachLoop 151 = .ok (.invokevirtual 264, 3) := by decide +kernel
theorem dX8_eachLoop_154 : decode cX8_eachLoop 154 = .ok (.istore 13, 2) := by decide +kernel
theorem dX8_eachLoop_156 : decode cX8_eachLoop 156 = .ok (.aload_n 0, 1) := by decide +kernel
theorem dX8_eachLoop_157 : decode cX8_eachLoop 157 = .ok (.getfield 23, 3) := by decide +kernel
theorem dX8_eachLoop_160 : decode cX8_eachLoop 160 = .ok (.iload 8, 2) := by decide +kernel
theorem dX8_eachLoop_162 : decode cX8_eachLoop 162 = .ok (.invokevirtual 151, 3) := by decide +kernel
theorem dX8_eachLoop_165 : decode cX8_eachLoop 165 = .ok (.aload_n 0, 1) := by decide +kernel
theorem dX8_eachLoop_166 : decode cX8_eachLoop 166 = .ok (.getfield 27, 3) := by decide +kernel
theorem dX8_eachLoop_169 : decode cX8_eachLoop 169 = .ok (.bipush 34, 2) := by decide +kernel
theorem dX8_eachLoop_171 : decode cX8_eachLoop 171 = .ok (.iload 10, 2) := by decide +kernel
theorem dX8_eachLoop_173 : decode cX8_eachLoop 173 = .ok (.invokevirtual 157, 3) := by decide +kernel
theorem dX8_eachLoop_176 : decode cX8_eachLoop 176 = .ok (.istore 14, 2) := by decide +kernel
theorem dX8_eachLoop_178 : decode cX8_eachLoop 178 = .ok (.aload_n 0, 1) := by decide +kernel
theorem dX8_eachLoop_179 : decode cX8_eachLoop 179 = .ok (.getfield 27, 3) := by decide +kernel
theorem dX8_eachLoop_182 : decode cX8_eachLoop 182 = .ok (.iload 11, 2) := by decide +kernel
theorem dX8_eachLoop_184 : decode cX8_eachLoop 184 = .ok (.aload_n 0, 1) := by decide +kernel
theorem dX8_eachLoop_185 : decode cX8_eachLoop 185 = .ok (.getfield 27, 3) := by decide +kernel
theorem dX8_eachLoop_188 : decode cX8_eachLoop 188 = .ok (.invokevirtual 237, 3) := by decide +kernel
theorem dX8_eachLoop_191 : decode cX8_eachLoop 191 = .ok (.invokevirtual 240, 3) := by decide +kernel
theorem dX8_eachLoop_194 : decode cX8_eachLoop 194 = .ok (.aload_n 0, 1) := by decide +kernel
theorem dX8_eachLoop_195 : decode cX8_eachLoop 195 = .ok (.iload 12, 2) := by decide +kernel
theorem dX8_eachLoop_197 : decode cX8_eachLoop 197 = .ok (.iload 14, 2) := by decide +kernel
theorem dX8_eachLoop_199 : decode cX8_eachLoop 199 = .ok (.aload_n 0, 1) := by decide +kernel
theorem dX8_eachLoop_200 : decode cX8_eachLoop 200 = .ok (.getfield 27, 3) := by decide +kernel
theorem dX8_eachLoop_203 : decode cX8_eachLoop 203 = .ok (.invokevirtual 237, 3) := by decide +kernel
theorem dX8_eachLoop_206 : decode cX8_eachLoop 206 = .ok (.invokevirtual 267, 3) := by decide +kernel
theorem dX8_eachLoop_209 : decode cX8_eachLoop 209 = .ok (.aload_n 0, 1) := by decide +kernel
theorem dX8_eachLoop_210 : decode cX8_eachLoop 210 = .ok (.getfield 27, 3) := by decide +kernel
theorem dX8_eachLoop_213 : decode cX8_eachLoop 213 = .ok (.bipush 26, 2) := by decide +kernel
theorem dX8_eachLoop_215 : decode cX8_eachLoop 215 = .ok (.iconst 2, 1) := by decide +kernel
theorem dX8_eachLoop_216 : decode cX8_eachLoop 216 = .ok (.invokevirtual 157, 3) := by decide +kernel
theorem dX8_eachLoop_219 : decode cX8_eachLoop 219 = .ok (.pop, 1) := by decide +kernel
theorem dX8_eachLoop_220 : decode cX8_eachLoop 220 = .ok (.iload 13, 2) := by decide +kernel
theorem dX8_eachLoop_222 : decode cX8_eachLoop 222 = .ok (.aload_n 0, 1) := by decide +kernel
theorem dX8_eachLoop_223 : decode cX8_eachLoop 223 = .ok (.invokevirtual 270, 3) := by decide +kernel
theorem dX8_eachLoop_226 : decode cX8_eachLoop 226 = .ok (.iconst (-1), 1) := by decide +kernel
theorem dX8_eachLoop_227 : decode cX8_eachLoop 227 = .ok (.ixor, 1) := by decide +kernel
theorem dX8_eachLoop_228 : decode cX8_eachLoop 228 = .ok (.iand, 1) := by decide +kernel
theorem dX8_eachLoop_229 : decode cX8_eachLoop 229 = .ok (.bipush (-2), 2) := by decide +kernel
theorem dX8_eachLoop_231 : decode cX8_eachLoop 231 = .ok (.iand, 1) := by decide +kernel
theorem dX8_eachLoop_232 : decode cX8_eachLoop 232 = .ok (.iconst 1, 1) := by decide +kernel
theorem dX8_eachLoop_233 : decode cX8_eachLoop 233 = .ok (.ior, 1) := by decide +kernel
theorem dX8_eachLoop_234 : decode cX8_eachLoop 234 = .ok (.iload 7, 2) := by decide +kernel
theorem dX8_eachLoop_236 : decode cX8_eachLoop 236 = .ok (.invokestatic 216, 3) := by decide +kernel
theorem dX8_eachLoop_239 : decode cX8_eachLoop 239 = .ok (.ior, 1) := by decide +kernel
theorem dX8_eachLoop_240 : decode cX8_eachLoop 240 = .ok (.ireturn, 1) := by decide +kernel
def wX8_eachLoop_b110 (B : Nat → kp_S → (Int32 → kp_S → Prop) → Prop) (a0 : Nat) (w1 : Int64) (x3 : Int32) (xn7 : Int32) (xn8 : Int32) (xt0 : Int32)  (Sn : kp_S) (post : Int32 → kp_S → Prop) : Prop :=
  ∃ b1001 : Nat, kp_R Sn 1603 a0 = some b1001 ∧
  wX0_add_ b1001 33 xt0 Sn (fun y1003 T1002 =>
  ∃ b1004 : Nat, kp_R T1002 1603 a0 = some b1004 ∧
  wX0_add b1004 0 T1002 (fun y1006 T1005 =>
  ∃ b1007 : Nat, kp_R T1005 1603 a0 = some b1007 ∧
  wX0_addPart b1007 46 x3 T1005 (fun y1009 T1008 =>
  wX8_round B a0 w1 y1009 T1008 (fun y1011 T1010 =>
  ∃ b1012 : Nat, kp_R T1010 1601 a0 = some b1012 ∧
  wX5_forgetBehind b1012 xn8 T1010 (fun T1013 =>
  ∃ b1014 : Nat, kp_R T1013 1603 a0 = some b1014 ∧
  wX0_add_ b1014 34 y1003 T1013 (fun y1016 T1015 =>
  ∃ b1017 : Nat, kp_R T1015 1603 a0 = some b1017 ∧
  wX0_size b1017 T1015 (fun y1019 T1018 =>
  wX0_set b1017 y1006 y1019 T1018 (fun T1020 =>
  ∃ b1021 : Nat, kp_R T1020 1603 a0 = some b1021 ∧
  wX0_size b1021 T1020 (fun y1023 T1022 =>
  wX8_setRound a0 y1009 y1016 y1023 T1022 (fun T1024 =>
  ∃ b1025 : Nat, kp_R T1024 1603 a0 = some b1025 ∧
  wX0_add_ b1025 26 2 T1024 (fun y1027 T1026 =>
  wX8_ownWays a0 T1026 (fun y1029 T1028 =>
  wX8_troubleOf xn7 T1028 (fun y1031 T1030 =>
  post ((((y1011 &&& (y1029 ^^^ (-1))) &&& (-2)) ||| 1) ||| y1031) T1030)))))))))))))
def wX8_eachLoop (B : Nat → kp_S → (Int32 → kp_S → Prop) → Prop) (a0 : Nat) (w1 : Int64) (x3 : Int32) (S : kp_S) (post : Int32 → kp_S → Prop) : Prop :=
  ∃ b1 : Nat, kp_R S 1600 a0 = some b1 ∧
  wX9_advance b1 S (fun T2 =>
  ∃ b3 : Nat, kp_R T2 1600 a0 = some b3 ∧
  ∀ z4 : Int64, z4 = (kp_J T2 1808 b3) →
  ∀ y5 : Int32, y5 = (kp_I T2 1806 b3) →
  wX9_expect b3 259 T2 (fun T6 =>
  ∃ b7 : Nat, kp_R T6 1600 a0 = some b7 ∧
  wX9_expect b7 307 T6 (fun T8 =>
  ∃ b9 : Nat, kp_R T8 1602 a0 = some b9 ∧
  wX2_whole_t b9 T8 (fun y11 T10 =>
  ∃ b12 : Nat, kp_R T10 1600 a0 = some b12 ∧
  wX9_expect b12 308 T10 (fun T13 =>
  ∃ b14 : Nat, kp_R T13 1602 a0 = some b14 ∧
  wX2_whole_t b14 T13 (fun y16 T15 =>
  ∀ y17 : Int32, y17 = (y11 ||| y16) →
  ∃ b18 : Nat, kp_R T15 1601 a0 = some b18 ∧
  wX5_knownNow b18 T15 (fun y20 T19 =>
  ∃ b21 : Nat, kp_R T19 1600 a0 = some b21 ∧
  wX9_isStopped b21 T19 (fun y23 T22 =>
  ((y23 = 0 →
  ∃ b24 : Nat, kp_R T22 1601 a0 = some b24 ∧
  wX5_tellVariable b24 z4 y5 T22 (fun y26 T25 =>
  wX8_eachLoop_b110 B a0 w1 x3 y17 y20 y26  T25 post)) ∧ (¬ y23 = 0 →
  wX8_eachLoop_b110 B a0 w1 x3 y17 y20 0  T22 post))))))))))
set_option maxHeartbeats 4000000 in
set_option maxRecDepth 100000 in
theorem c_X8_eachLoop (l : Launch) (D : va_G) (cy : Nat → ClassId) (ad : (Nat → Nat) × (Nat → Nat)) (F L : Nat) (B : Nat → kp_S → (Int32 → kp_S → Prop) → Prop) (hB : ∀ (S : kp_S) (a0 : Nat) (post : Int32 → kp_S → Prop), kp_ok S → kp_is S a0 8 → B a0 S post → kp_M l yX8_block cX8_block 5 (some .int) { frames := F, cells := 0, slots := 0, locals := L } D cy ad S [.ref a0] 0 0 (fun A => kp_Qi D cy A S post)) (hF : 191 ≤ F) (hL : 4387 ≤ L) (S : kp_S) (a0 : Nat) (w1 : Int64) (x3 : Int32) (post : Int32 → kp_S → Prop) (hS : kp_ok S) (f_a0 : kp_is S a0 8) (hw : wX8_eachLoop B a0 w1 x3 S post) : kp_M l yX8_eachLoop cX8_eachLoop 15 (some .int) { frames := F + 3, cells := 0, slots := 0, locals := L + 71 } D cy ad S [.ref a0, .long w1, .int x3] 0 0 (fun A => kp_Qi D cy A S post) := by
  refine kp_start (own := RX8) (by decide) rfl (Nat.le_of_ble_eq_true rfl) hS ?_
  intro p e s m below meth c A ls X hr hlocks hname h hl
  have hle : kp_le S S := kp_le.rf
  have hl : lv_has ls 15 [(0, .ref a0), (1, .long w1), (3, .int x3)] := hl
  have j110 : ∀ (xn7 : Int32) (xn8 : Int32) (xt0 : Int32) (Sn : kp_S) (H : Heap) (locs : List Loc) (ls : Array Slot), lv_has ls 15 [(0, .ref a0), (1, .long w1), (3, .int x3), (7, .int xn7), (8, .int xn8)] → kp_H D cy A Sn s.heap H locs → kp_le S Sn → kp_is Sn a0 8 → wX8_eachLoop_b110 B a0 w1 x3 xn7 xn8 xt0  Sn post → W p l e { frames := F + 3, cells := 0, slots := 0, locals := L + 71 } s m ([.ref a0, .long w1, .int x3] : List Value).toArray below meth c H locs 0 0 (MQ below (kp_Qi D cy A S post) ([.ref a0, .long w1, .int x3] : List Value).toArray s 0 0 A) (F0 m 110 ls [.int xt0]) := by
    intro xn7 xn8 xt0 Sn H locs ls hl h hle f_a0 hw
    unfold wX8_eachLoop_b110 at hw
    refine lv_istore (lv' := [(9, .int xt0), (0, .ref a0), (1, .long w1), (3, .int x3), (7, .int xn7), (8, .int xn8)]) X.1 X.2.1 dX8_eachLoop_110 hl (by decide) rfl (fun ls hl => ?_)
    refine lv_aload_n X.1 X.2.1 dX8_eachLoop_112 rfl (lv_at hl 1 rfl) ?_
    obtain ⟨b1001, e_b1001, hw⟩ := hw
    have f_b1001 := h.2.2.2.rf (c := 8) (k := 3) f_a0 (by decide) (by decide) e_b1001 (t := 0) rfl
    refine kp_get X h f_a0 fp_8_27.l (v := .ref b1001) (congrArg va_rf e_b1001) dX8_eachLoop_113 ?_
    refine lv_bipush (v := 33) X.1 X.2.1 dX8_eachLoop_116 (by decide) ?_
    refine lv_iload X.1 X.2.1 dX8_eachLoop_118 (lv_at hl 0 rfl) ?_
    refine kp_calli X h (kp_runV (rm := { frames := 1, cells := 0, slots := 0, locals := 22 }) (mc := 0) (ms := 0) (rest := []) (Qc := fun A => kp_Qi D cy A Sn _) X h (c_X0_add_ l D cy ad Sn b1001 33 xt0 _ h.2.2.2 f_b1001 hw) f_b1001 cv_8_157 ⟨by dsimp only; omega, by dsimp only; omega, rfl, rfl, by dsimp only; omega, by dsimp only; omega⟩ rfl hl.1 rfl (Nat.le_of_ble_eq_true rfl) dX8_eachLoop_120) (fun y1003 T1002 hw l_T1002 H locs h => ?_)
    have f_a0 := l_T1002.is f_a0
    have f_b1001 := l_T1002.is f_b1001
    have hle := hle.tr l_T1002
    refine lv_istore (lv' := [(10, .int y1003), (9, .int xt0), (0, .ref a0), (1, .long w1), (3, .int x3), (7, .int xn7), (8, .int xn8)]) X.1 X.2.1 dX8_eachLoop_123 hl (by decide) rfl (fun ls hl => ?_)
    refine lv_aload_n X.1 X.2.1 dX8_eachLoop_125 rfl (lv_at hl 2 rfl) ?_
    obtain ⟨b1004, e_b1004, hw⟩ := hw
    have f_b1004 := h.2.2.2.rf (c := 8) (k := 3) f_a0 (by decide) (by decide) e_b1004 (t := 0) rfl
    refine kp_get X h f_a0 fp_8_27.l (v := .ref b1004) (congrArg va_rf e_b1004) dX8_eachLoop_126 ?_
    refine lv_iconst (v := 0) X.1 X.2.1 dX8_eachLoop_129 (by decide) ?_
    refine kp_calli X h (kp_runV (rm := { frames := 0, cells := 0, slots := 0, locals := 0 }) (mc := 0) (ms := 0) (rest := []) (Qc := fun A => kp_Qi D cy A T1002 _) X h (c_X0_add l D cy ad T1002 b1004 0 _ h.2.2.2 f_b1004 hw) f_b1004 cv_8_123 ⟨by dsimp only; omega, by dsimp only; omega, rfl, rfl, by dsimp only; omega, by dsimp only; omega⟩ rfl hl.1 rfl (Nat.le_of_ble_eq_true rfl) dX8_eachLoop_130) (fun y1006 T1005 hw l_T1005 H locs h => ?_)
    have f_a0 := l_T1005.is f_a0
    have f_b1001 := l_T1005.is f_b1001
    have f_b1004 := l_T1005.is f_b1004
    have hle := hle.tr l_T1005
    refine lv_istore (lv' := [(11, .int y1006), (10, .int y1003), (9, .int xt0), (0, .ref a0), (1, .long w1), (3, .int x3), (7, .int xn7), (8, .int xn8)]) X.1 X.2.1 dX8_eachLoop_133 hl (by decide) rfl (fun ls hl => ?_)
    refine lv_aload_n X.1 X.2.1 dX8_eachLoop_135 rfl (lv_at hl 3 rfl) ?_
    obtain ⟨b1007, e_b1007, hw⟩ := hw
    have f_b1007 := h.2.2.2.rf (c := 8) (k := 3) f_a0 (by decide) (by decide) e_b1007 (t := 0) rfl
    refine kp_get X h f_a0 fp_8_27.l (v := .ref b1007) (congrArg va_rf e_b1007) dX8_eachLoop_136 ?_
    refine lv_bipush (v := 46) X.1 X.2.1 dX8_eachLoop_139 (by decide) ?_
    refine lv_iload_n X.1 X.2.1 dX8_eachLoop_141 rfl (lv_at hl 5 rfl) ?_
    refine kp_calli X h (kp_runV (rm := { frames := 2, cells := 0, slots := 0, locals := 45 }) (mc := 0) (ms := 0) (rest := []) (Qc := fun A => kp_Qi D cy A T1005 _) X h (c_X0_addPart l D cy ad T1005 b1007 46 x3 _ h.2.2.2 f_b1007 hw) f_b1007 cv_8_261 ⟨by dsimp only; omega, by dsimp only; omega, rfl, rfl, by dsimp only; omega, by dsimp only; omega⟩ rfl hl.1 rfl (Nat.le_of_ble_eq_true rfl) dX8_eachLoop_142) (fun y1009 T1008 hw l_T1008 H locs h => ?_)
    have f_a0 := l_T1008.is f_a0
    have f_b1001 := l_T1008.is f_b1001
    have f_b1004 := l_T1008.is f_b1004
    have f_b1007 := l_T1008.is f_b1007
    have hle := hle.tr l_T1008
    refine lv_istore (lv' := [(12, .int y1009), (11, .int y1006), (10, .int y1003), (9, .int xt0), (0, .ref a0), (1, .long w1), (3, .int x3), (7, .int xn7), (8, .int xn8)]) X.1 X.2.1 dX8_eachLoop_145 hl (by decide) rfl (fun ls hl => ?_)
    refine lv_aload_n X.1 X.2.1 dX8_eachLoop_147 rfl (lv_at hl 4 rfl) ?_
    refine lv_lload_n X.1 X.2.1 dX8_eachLoop_148 rfl (lv_at hl 5 rfl) ?_
    refine lv_iload X.1 X.2.1 dX8_eachLoop_149 (lv_at hl 0 rfl) ?_
    refine kp_calli X h (kp_runV (rm := { frames := F + 2, cells := 0, slots := 0, locals := L + 47 }) (mc := 0) (ms := 0) (rest := []) (Qc := fun A => kp_Qi D cy A T1008 _) X h (c_X8_round l D cy ad F L B hB hF hL T1008 a0 w1 y1009 _ h.2.2.2 f_a0 hw) f_a0 cv_8_264 ⟨by dsimp only; omega, by dsimp only; omega, rfl, rfl, by dsimp only; omega, by dsimp only; omega⟩ rfl hl.1 rfl (Nat.le_of_ble_eq_true rfl) dX8_eachLoop_151) (fun y1011 T1010 hw l_T1010 H locs h => ?_)
    have f_a0 := l_T1010.is f_a0
    have f_b1001 := l_T1010.is f_b1001
    have f_b1004 := l_T1010.is f_b1004
    have f_b1007 := l_T1010.is f_b1007
    have hle := hle.tr l_T1010
    refine lv_istore (lv' := [(13, .int y1011), (12, .int y1009), (11, .int y1006), (10, .int y1003), (9, .int xt0), (0, .ref a0), (1, .long w1), (3, .int x3), (7, .int xn7), (8, .int xn8)]) X.1 X.2.1 dX8_eachLoop_154 hl (by decide) rfl (fun ls hl => ?_)
    refine lv_aload_n X.1 X.2.1 dX8_eachLoop_156 rfl (lv_at hl 5 rfl) ?_
    obtain ⟨b1012, e_b1012, hw⟩ := hw
    have f_b1012 := h.2.2.2.rf (c := 8) (k := 1) f_a0 (by decide) (by decide) e_b1012 (t := 5) rfl
    refine kp_get X h f_a0 ff_8_23.l (v := .ref b1012) (congrArg va_rf e_b1012) dX8_eachLoop_157 ?_
    refine lv_iload X.1 X.2.1 dX8_eachLoop_160 (lv_at hl 9 rfl) ?_
    refine kp_callv X h (kp_runV (rm := { frames := 0, cells := 0, slots := 0, locals := 0 }) (mc := 0) (ms := 0) (rest := []) (Qc := fun A => kp_Qv D cy A T1010 _) X h (c_X5_forgetBehind l D cy ad T1010 b1012 xn8 _ h.2.2.2 f_b1012 hw) f_b1012 cv_8_151 ⟨by dsimp only; omega, by dsimp only; omega, rfl, rfl, by dsimp only; omega, by dsimp only; omega⟩ rfl hl.1 rfl (Nat.le_of_ble_eq_true rfl) dX8_eachLoop_162) (fun T1013 hw l_T1013 H locs h => ?_)
    have f_a0 := l_T1013.is f_a0
    have f_b1001 := l_T1013.is f_b1001
    have f_b1004 := l_T1013.is f_b1004
    have f_b1007 := l_T1013.is f_b1007
    have f_b1012 := l_T1013.is f_b1012
    have hle := hle.tr l_T1013
    refine lv_aload_n X.1 X.2.1 dX8_eachLoop_165 rfl (lv_at hl 5 rfl) ?_
    obtain ⟨b1014, e_b1014, hw⟩ := hw
    have f_b1014 := h.2.2.2.rf (c := 8) (k := 3) f_a0 (by decide) (by decide) e_b1014 (t := 0) rfl
    refine kp_get X h f_a0 fp_8_27.l (v := .ref b1014) (congrArg va_rf e_b1014) dX8_eachLoop_166 ?_
    refine lv_bipush (v := 34) X.1 X.2.1 dX8_eachLoop_169 (by decide) ?_
    refine lv_iload X.1 X.2.1 dX8_eachLoop_171 (lv_at hl 3 rfl) ?_
    refine kp_calli X h (kp_runV (rm := { frames := 1, cells := 0, slots := 0, locals := 22 }) (mc := 0) (ms := 0) (rest := []) (Qc := fun A => kp_Qi D cy A T1013 _) X h (c_X0_add_ l D cy ad T1013 b1014 34 y1003 _ h.2.2.2 f_b1014 hw) f_b1014 cv_8_157 ⟨by dsimp only; omega, by dsimp only; omega, rfl, rfl, by dsimp only; omega, by dsimp only; omega⟩ rfl hl.1 rfl (Nat.le_of_ble_eq_true rfl) dX8_eachLoop_173) (fun y1016 T1015 hw l_T1015 H locs h => ?_)
    have f_a0 := l_T1015.is f_a0
    have f_b1001 := l_T1015.is f_b1001
    have f_b1004 := l_T1015.is f_b1004
    have f_b1007 := l_T1015.is f_b1007
    have f_b1012 := l_T1015.is f_b1012
    have f_b1014 := l_T1015.is f_b1014
    have hle := hle.tr l_T1015
    refine lv_istore (lv' := [(14, .int y1016), (13, .int y1011), (12, .int y1009), (11, .int y1006), (10, .int y1003), (9, .int xt0), (0, .ref a0), (1, .long w1), (3, .int x3), (7, .int xn7), (8, .int xn8)]) X.1 X.2.1 dX8_eachLoop_176 hl (by decide) rfl (fun ls hl => ?_)
    refine lv_aload_n X.1 X.2.1 dX8_eachLoop_178 rfl (lv_at hl 6 rfl) ?_
    obtain ⟨b1017, e_b1017, hw⟩ := hw
    have f_b1017 := h.2.2.2.rf (c := 8) (k := 3) f_a0 (by decide) (by decide) e_b1017 (t := 0) rfl
    refine kp_get X h f_a0 fp_8_27.l (v := .ref b1017) (congrArg va_rf e_b1017) dX8_eachLoop_179 ?_
    refine lv_iload X.1 X.2.1 dX8_eachLoop_182 (lv_at hl 3 rfl) ?_
    refine lv_aload_n X.1 X.2.1 dX8_eachLoop_184 rfl (lv_at hl 6 rfl) ?_
    refine kp_get X h f_a0 fp_8_27.l (v := .ref b1017) (congrArg va_rf e_b1017) dX8_eachLoop_185 ?_
    refine kp_calli X h (kp_runV (rm := { frames := 0, cells := 0, slots := 0, locals := 0 }) (mc := 0) (ms := 0) (rest := [.int y1006, .ref b1017]) (Qc := fun A => kp_Qi D cy A T1015 _) X h (c_X0_size l D cy ad T1015 b1017 _ h.2.2.2 f_b1017 hw) f_b1017 cv_8_237 ⟨by dsimp only; omega, by dsimp only; omega, rfl, rfl, by dsimp only; omega, by dsimp only; omega⟩ rfl hl.1 rfl (Nat.le_of_ble_eq_true rfl) dX8_eachLoop_188) (fun y1019 T1018 hw l_T1018 H locs h => ?_)
    have f_a0 := l_T1018.is f_a0
    have f_b1001 := l_T1018.is f_b1001
    have f_b1004 := l_T1018.is f_b1004
    have f_b1007 := l_T1018.is f_b1007
    have f_b1012 := l_T1018.is f_b1012
    have f_b1014 := l_T1018.is f_b1014
    have f_b1017 := l_T1018.is f_b1017
    have hle := hle.tr l_T1018
    refine kp_callv X h (kp_runV (rm := { frames := 0, cells := 0, slots := 0, locals := 0 }) (mc := 0) (ms := 0) (rest := []) (Qc := fun A => kp_Qv D cy A T1018 _) X h (c_X0_set l D cy ad T1018 b1017 y1006 y1019 _ h.2.2.2 f_b1017 hw) f_b1017 cv_8_240 ⟨by dsimp only; omega, by dsimp only; omega, rfl, rfl, by dsimp only; omega, by dsimp only; omega⟩ rfl hl.1 rfl (Nat.le_of_ble_eq_true rfl) dX8_eachLoop_191) (fun T1020 hw l_T1020 H locs h => ?_)
    have f_a0 := l_T1020.is f_a0
    have f_b1001 := l_T1020.is f_b1001
    have f_b1004 := l_T1020.is f_b1004
    have f_b1007 := l_T1020.is f_b1007
    have f_b1012 := l_T1020.is f_b1012
    have f_b1014 := l_T1020.is f_b1014
    have f_b1017 := l_T1020.is f_b1017
    have hle := hle.tr l_T1020
    refine lv_aload_n X.1 X.2.1 dX8_eachLoop_194 rfl (lv_at hl 6 rfl) ?_
    refine lv_iload X.1 X.2.1 dX8_eachLoop_195 (lv_at hl 2 rfl) ?_
    refine lv_iload X.1 X.2.1 dX8_eachLoop_197 (lv_at hl 0 rfl) ?_
    refine lv_aload_n X.1 X.2.1 dX8_eachLoop_199 rfl (lv_at hl 6 rfl) ?_
    obtain ⟨b1021, e_b1021, hw⟩ := hw
    have f_b1021 := h.2.2.2.rf (c := 8) (k := 3) f_a0 (by decide) (by decide) e_b1021 (t := 0) rfl
    refine kp_get X h f_a0 fp_8_27.l (v := .ref b1021) (congrArg va_rf e_b1021) dX8_eachLoop_200 ?_
    refine kp_calli X h (kp_runV (rm := { frames := 0, cells := 0, slots := 0, locals := 0 }) (mc := 0) (ms := 0) (rest := [.int y1016, .int y1009, .ref a0]) (Qc := fun A => kp_Qi D cy A T1020 _) X h (c_X0_size l D cy ad T1020 b1021 _ h.2.2.2 f_b1021 hw) f_b1021 cv_8_237 ⟨by dsimp only; omega, by dsimp only; omega, rfl, rfl, by dsimp only; omega, by dsimp only; omega⟩ rfl hl.1 rfl (Nat.le_of_ble_eq_true rfl) dX8_eachLoop_203) (fun y1023 T1022 hw l_T1022 H locs h => ?_)
    have f_a0 := l_T1022.is f_a0
    have f_b1001 := l_T1022.is f_b1001
    have f_b1004 := l_T1022.is f_b1004
    have f_b1007 := l_T1022.is f_b1007
    have f_b1012 := l_T1022.is f_b1012
    have f_b1014 := l_T1022.is f_b1014
    have f_b1017 := l_T1022.is f_b1017
    have f_b1021 := l_T1022.is f_b1021
    have hle := hle.tr l_T1022
    refine kp_callv X h (kp_runV (rm := { frames := 1, cells := 0, slots := 0, locals := 22 }) (mc := 0) (ms := 0) (rest := []) (Qc := fun A => kp_Qv D cy A T1022 _) X h (c_X8_setRound l D cy ad T1022 a0 y1009 y1016 y1023 _ h.2.2.2 f_a0 hw) f_a0 cv_8_267 ⟨by dsimp only; omega, by dsimp only; omega, rfl, rfl, by dsimp only; omega, by dsimp only; omega⟩ rfl hl.1 rfl (Nat.le_of_ble_eq_true rfl) dX8_eachLoop_206) (fun T1024 hw l_T1024 H locs h => ?_)
    have f_a0 := l_T1024.is f_a0
    have f_b1001 := l_T1024.is f_b1001
    have f_b1004 := l_T1024.is f_b1004
    have f_b1007 := l_T1024.is f_b1007
    have f_b1012 := l_T1024.is f_b1012
    have f_b1014 := l_T1024.is f_b1014
    have f_b1017 := l_T1024.is f_b1017
    have f_b1021 := l_T1024.is f_b1021
    have hle := hle.tr l_T1024
    refine lv_aload_n X.1 X.2.1 dX8_eachLoop_209 rfl (lv_at hl 6 rfl) ?_
    obtain ⟨b1025, e_b1025, hw⟩ := hw
    have f_b1025 := h.2.2.2.rf (c := 8) (k := 3) f_a0 (by decide) (by decide) e_b1025 (t := 0) rfl
    refine kp_get X h f_a0 fp_8_27.l (v := .ref b1025) (congrArg va_rf e_b1025) dX8_eachLoop_210 ?_
    refine lv_bipush (v := 26) X.1 X.2.1 dX8_eachLoop_213 (by decide) ?_
    refine lv_iconst (v := 2) X.1 X.2.1 dX8_eachLoop_215 (by decide) ?_
    refine kp_calli X h (kp_runV (rm := { frames := 1, cells := 0, slots := 0, locals := 22 }) (mc := 0) (ms := 0) (rest := []) (Qc := fun A => kp_Qi D cy A T1024 _) X h (c_X0_add_ l D cy ad T1024 b1025 26 2 _ h.2.2.2 f_b1025 hw) f_b1025 cv_8_157 ⟨by dsimp only; omega, by dsimp only; omega, rfl, rfl, by dsimp only; omega, by dsimp only; omega⟩ rfl hl.1 rfl (Nat.le_of_ble_eq_true rfl) dX8_eachLoop_216) (fun y1027 T1026 hw l_T1026 H locs h => ?_)
    have f_a0 := l_T1026.is f_a0
    have f_b1001 := l_T1026.is f_b1001
    have f_b1004 := l_T1026.is f_b1004
    have f_b1007 := l_T1026.is f_b1007
    have f_b1012 := l_T1026.is f_b1012
    have f_b1014 := l_T1026.is f_b1014
    have f_b1017 := l_T1026.is f_b1017
    have f_b1021 := l_T1026.is f_b1021
    have f_b1025 := l_T1026.is f_b1025
    have hle := hle.tr l_T1026
    refine lv_pop X.1 X.2.1 dX8_eachLoop_219 rfl ?_
    refine lv_iload X.1 X.2.1 dX8_eachLoop_220 (lv_at hl 1 rfl) ?_
    refine lv_aload_n X.1 X.2.1 dX8_eachLoop_222 rfl (lv_at hl 6 rfl) ?_
    refine kp_calli X h (kp_runV (rm := { frames := 1, cells := 0, slots := 0, locals := 20 }) (mc := 0) (ms := 0) (rest := [.int y1011]) (Qc := fun A => kp_Qi D cy A T1026 _) X h (c_X8_ownWays l D cy ad T1026 a0 _ h.2.2.2 f_a0 hw) f_a0 cv_8_270 ⟨by dsimp only; omega, by dsimp only; omega, rfl, rfl, by dsimp only; omega, by dsimp only; omega⟩ rfl hl.1 rfl (Nat.le_of_ble_eq_true rfl) dX8_eachLoop_223) (fun y1029 T1028 hw l_T1028 H locs h => ?_)
    have f_a0 := l_T1028.is f_a0
    have f_b1001 := l_T1028.is f_b1001
    have f_b1004 := l_T1028.is f_b1004
    have f_b1007 := l_T1028.is f_b1007
    have f_b1012 := l_T1028.is f_b1012
    have f_b1014 := l_T1028.is f_b1014
    have f_b1017 := l_T1028.is f_b1017
    have f_b1021 := l_T1028.is f_b1021
    have f_b1025 := l_T1028.is f_b1025
    have hle := hle.tr l_T1028
    refine lv_iconst (v := (-1)) X.1 X.2.1 dX8_eachLoop_226 (by decide) ?_
    refine lv_ixor X.1 X.2.1 dX8_eachLoop_227 ?_
    refine lv_iand X.1 X.2.1 dX8_eachLoop_228 ?_
    refine lv_bipush (v := (-2)) X.1 X.2.1 dX8_eachLoop_229 (by decide) ?_
    refine lv_iand X.1 X.2.1 dX8_eachLoop_231 ?_
    refine lv_iconst (v := 1) X.1 X.2.1 dX8_eachLoop_232 (by decide) ?_
    refine lv_ior X.1 X.2.1 dX8_eachLoop_233 ?_
    refine lv_iload X.1 X.2.1 dX8_eachLoop_234 (lv_at hl 9 rfl) ?_
    refine kp_calli X h (kp_runS (rm := { frames := 0, cells := 0, slots := 0, locals := 0 }) (mc := 0) (ms := 0) (rest := [.int (((y1011 &&& (y1029 ^^^ (-1))) &&& (-2)) ||| 1)]) (Qc := fun A => kp_Qi D cy A T1028 _) X h (c_X8_troubleOf l D cy ad T1028 xn7 _ h.2.2.2  hw) cs_8_216 ⟨by dsimp only; omega, by dsimp only; omega, rfl, rfl, by dsimp only; omega, by dsimp only; omega⟩ rfl hl.1 rfl (Nat.le_of_ble_eq_true rfl) dX8_eachLoop_236) (fun y1031 T1030 hw l_T1030 H locs h => ?_)
    have f_a0 := l_T1030.is f_a0
    have f_b1001 := l_T1030.is f_b1001
    have f_b1004 := l_T1030.is f_b1004
    have f_b1007 := l_T1030.is f_b1007
    have f_b1012 := l_T1030.is f_b1012
    have f_b1014 := l_T1030.is f_b1014
    have f_b1017 := l_T1030.is f_b1017
    have f_b1021 := l_T1030.is f_b1021
    have f_b1025 := l_T1030.is f_b1025
    have hle := hle.tr l_T1030
    refine lv_ior X.1 X.2.1 dX8_eachLoop_239 ?_
    exact kp_reti X hr hlocks h hle rfl hw dX8_eachLoop_240
  unfold wX8_eachLoop at hw
  have h : kp_H D cy A S s.heap s.heap [] := h
  revert h
  intro h
  refine lv_aload_n X.1 X.2.1 dX8_eachLoop_0 rfl (lv_at hl 0 rfl) ?_
  obtain ⟨b1, e_b1, hw⟩ := hw
  have f_b1 := h.2.2.2.rf (c := 8) (k := 0) f_a0 (by decide) (by decide) e_b1 (t := 9) rfl
  refine kp_get X h f_a0 ff_8_14.l (v := .ref b1) (congrArg va_rf e_b1) dX8_eachLoop_1 ?_
  refine kp_callv X h (kp_runV (rm := { frames := 5, cells := 0, slots := 0, locals := 113 }) (mc := 0) (ms := 0) (rest := []) (Qc := fun A => kp_Qv D cy A S _) X h (c_X9_advance l D cy ad S b1 _ h.2.2.2 f_b1 hw) f_b1 cv_8_75 ⟨by dsimp only; omega, by dsimp only; omega, rfl, rfl, by dsimp only; omega, by dsimp only; omega⟩ rfl hl.1 rfl (Nat.le_of_ble_eq_true rfl) dX8_eachLoop_4) (fun T2 hw l_T2 H locs h => ?_)
  have f_a0 := l_T2.is f_a0
  have f_b1 := l_T2.is f_b1
  have hle := hle.tr l_T2
  refine lv_aload_n X.1 X.2.1 dX8_eachLoop_7 rfl (lv_at hl 0 rfl) ?_
  obtain ⟨b3, e_b3, hw⟩ := hw
  have f_b3 := h.2.2.2.rf (c := 8) (k := 0) f_a0 (by decide) (by decide) e_b3 (t := 9) rfl
  refine kp_get X h f_a0 ff_8_14.l (v := .ref b3) (congrArg va_rf e_b3) dX8_eachLoop_8 ?_
  refine kp_get X h f_b3 fp_8_78.l (v := .long (kp_J T2 1808 b3)) rfl dX8_eachLoop_11 ?_
  refine lv_topl (fun z4 e_z4 => ?_)
  have hw := hw z4 e_z4
  refine lv_lstore (lv' := [(4, .long z4), (0, .ref a0), (1, .long w1), (3, .int x3)]) X.1 X.2.1 dX8_eachLoop_14 hl (by decide) rfl (fun ls hl => ?_)
  refine lv_aload_n X.1 X.2.1 dX8_eachLoop_16 rfl (lv_at hl 1 rfl) ?_
  refine kp_get X h f_a0 ff_8_14.l (v := .ref b3) (congrArg va_rf e_b3) dX8_eachLoop_17 ?_
  refine kp_get X h f_b3 fp_8_93.l (v := .int (kp_I T2 1806 b3)) rfl dX8_eachLoop_20 ?_
  refine lv_topi (fun y5 e_y5 => ?_)
  have hw := hw y5 e_y5
  refine lv_istore (lv' := [(6, .int y5), (4, .long z4), (0, .ref a0), (1, .long w1), (3, .int x3)]) X.1 X.2.1 dX8_eachLoop_23 hl (by decide) rfl (fun ls hl => ?_)
  refine lv_aload_n X.1 X.2.1 dX8_eachLoop_25 rfl (lv_at hl 2 rfl) ?_
  refine kp_get X h f_a0 ff_8_14.l (v := .ref b3) (congrArg va_rf e_b3) dX8_eachLoop_26 ?_
  refine lv_sipush (v := 259) X.1 X.2.1 dX8_eachLoop_29 (by decide) ?_
  refine kp_callv X h (kp_runV (rm := { frames := 6, cells := 0, slots := 0, locals := 134 }) (mc := 0) (ms := 0) (rest := []) (Qc := fun A => kp_Qv D cy A T2 _) X h (c_X9_expect l D cy ad T2 b3 259 _ h.2.2.2 f_b3 hw) f_b3 cv_8_90 ⟨by dsimp only; omega, by dsimp only; omega, rfl, rfl, by dsimp only; omega, by dsimp only; omega⟩ rfl hl.1 rfl (Nat.le_of_ble_eq_true rfl) dX8_eachLoop_32) (fun T6 hw l_T6 H locs h => ?_)
  have f_a0 := l_T6.is f_a0
  have f_b1 := l_T6.is f_b1
  have f_b3 := l_T6.is f_b3
  have hle := hle.tr l_T6
  refine lv_aload_n X.1 X.2.1 dX8_eachLoop_35 rfl (lv_at hl 2 rfl) ?_
  obtain ⟨b7, e_b7, hw⟩ := hw
  have f_b7 := h.2.2.2.rf (c := 8) (k := 0) f_a0 (by decide) (by decide) e_b7 (t := 9) rfl
  refine kp_get X h f_a0 ff_8_14.l (v := .ref b7) (congrArg va_rf e_b7) dX8_eachLoop_36 ?_
  refine lv_sipush (v := 307) X.1 X.2.1 dX8_eachLoop_39 (by decide) ?_
  refine kp_callv X h (kp_runV (rm := { frames := 6, cells := 0, slots := 0, locals := 134 }) (mc := 0) (ms := 0) (rest := []) (Qc := fun A => kp_Qv D cy A T6 _) X h (c_X9_expect l D cy ad T6 b7 307 _ h.2.2.2 f_b7 hw) f_b7 cv_8_90 ⟨by dsimp only; omega, by dsimp only; omega, rfl, rfl, by dsimp only; omega, by dsimp only; omega⟩ rfl hl.1 rfl (Nat.le_of_ble_eq_true rfl) dX8_eachLoop_42) (fun T8 hw l_T8 H locs h => ?_)
  have f_a0 := l_T8.is f_a0
  have f_b1 := l_T8.is f_b1
  have f_b3 := l_T8.is f_b3
  have f_b7 := l_T8.is f_b7
  have hle := hle.tr l_T8
  refine lv_aload_n X.1 X.2.1 dX8_eachLoop_45 rfl (lv_at hl 2 rfl) ?_
  obtain ⟨b9, e_b9, hw⟩ := hw
  have f_b9 := h.2.2.2.rf (c := 8) (k := 2) f_a0 (by decide) (by decide) e_b9 (t := 2) rfl
  refine kp_get X h f_a0 ff_8_36.l (v := .ref b9) (congrArg va_rf e_b9) dX8_eachLoop_46 ?_
  refine kp_calli X h (kp_runV (rm := { frames := 189, cells := 0, slots := 0, locals := 4339 }) (mc := 0) (ms := 0) (rest := []) (Qc := fun A => kp_Qi D cy A T8 _) X h (c_X2_whole_t l D cy ad T8 b9 _ h.2.2.2 f_b9 hw) f_b9 cv_8_213 ⟨by dsimp only; omega, by dsimp only; omega, rfl, rfl, by dsimp only; omega, by dsimp only; omega⟩ rfl hl.1 rfl (Nat.le_of_ble_eq_true rfl) dX8_eachLoop_49) (fun y11 T10 hw l_T10 H locs h => ?_)
  have f_a0 := l_T10.is f_a0
  have f_b1 := l_T10.is f_b1
  have f_b3 := l_T10.is f_b3
  have f_b7 := l_T10.is f_b7
  have f_b9 := l_T10.is f_b9
  have hle := hle.tr l_T10
  refine lv_istore (lv' := [(7, .int y11), (6, .int y5), (4, .long z4), (0, .ref a0), (1, .long w1), (3, .int x3)]) X.1 X.2.1 dX8_eachLoop_52 hl (by decide) rfl (fun ls hl => ?_)
  refine lv_aload_n X.1 X.2.1 dX8_eachLoop_54 rfl (lv_at hl 3 rfl) ?_
  obtain ⟨b12, e_b12, hw⟩ := hw
  have f_b12 := h.2.2.2.rf (c := 8) (k := 0) f_a0 (by decide) (by decide) e_b12 (t := 9) rfl
  refine kp_get X h f_a0 ff_8_14.l (v := .ref b12) (congrArg va_rf e_b12) dX8_eachLoop_55 ?_
  refine lv_sipush (v := 308) X.1 X.2.1 dX8_eachLoop_58 (by decide) ?_
  refine kp_callv X h (kp_runV (rm := { frames := 6, cells := 0, slots := 0, locals := 134 }) (mc := 0) (ms := 0) (rest := []) (Qc := fun A => kp_Qv D cy A T10 _) X h (c_X9_expect l D cy ad T10 b12 308 _ h.2.2.2 f_b12 hw) f_b12 cv_8_90 ⟨by dsimp only; omega, by dsimp only; omega, rfl, rfl, by dsimp only; omega, by dsimp only; omega⟩ rfl hl.1 rfl (Nat.le_of_ble_eq_true rfl) dX8_eachLoop_61) (fun T13 hw l_T13 H locs h => ?_)
  have f_a0 := l_T13.is f_a0
  have f_b1 := l_T13.is f_b1
  have f_b3 := l_T13.is f_b3
  have f_b7 := l_T13.is f_b7
  have f_b9 := l_T13.is f_b9
  have f_b12 := l_T13.is f_b12
  have hle := hle.tr l_T13
  refine lv_iload X.1 X.2.1 dX8_eachLoop_64 (lv_at hl 0 rfl) ?_
  refine lv_aload_n X.1 X.2.1 dX8_eachLoop_66 rfl (lv_at hl 3 rfl) ?_
  obtain ⟨b14, e_b14, hw⟩ := hw
  have f_b14 := h.2.2.2.rf (c := 8) (k := 2) f_a0 (by decide) (by decide) e_b14 (t := 2) rfl
  refine kp_get X h f_a0 ff_8_36.l (v := .ref b14) (congrArg va_rf e_b14) dX8_eachLoop_67 ?_
  refine kp_calli X h (kp_runV (rm := { frames := 189, cells := 0, slots := 0, locals := 4339 }) (mc := 0) (ms := 0) (rest := [.int y11]) (Qc := fun A => kp_Qi D cy A T13 _) X h (c_X2_whole_t l D cy ad T13 b14 _ h.2.2.2 f_b14 hw) f_b14 cv_8_213 ⟨by dsimp only; omega, by dsimp only; omega, rfl, rfl, by dsimp only; omega, by dsimp only; omega⟩ rfl hl.1 rfl (Nat.le_of_ble_eq_true rfl) dX8_eachLoop_70) (fun y16 T15 hw l_T15 H locs h => ?_)
  have f_a0 := l_T15.is f_a0
  have f_b1 := l_T15.is f_b1
  have f_b3 := l_T15.is f_b3
  have f_b7 := l_T15.is f_b7
  have f_b9 := l_T15.is f_b9
  have f_b12 := l_T15.is f_b12
  have f_b14 := l_T15.is f_b14
  have hle := hle.tr l_T15
  refine lv_ior X.1 X.2.1 dX8_eachLoop_73 ?_
  refine lv_topi (fun y17 e_y17 => ?_)
  have hw := hw y17 e_y17
  refine lv_istore (lv' := [(7, .int y17), (6, .int y5), (4, .long z4), (0, .ref a0), (1, .long w1), (3, .int x3)]) X.1 X.2.1 dX8_eachLoop_74 hl (by decide) rfl (fun ls hl => ?_)
  refine lv_aload_n X.1 X.2.1 dX8_eachLoop_76 rfl (lv_at hl 3 rfl) ?_
  obtain ⟨b18, e_b18, hw⟩ := hw
  have f_b18 := h.2.2.2.rf (c := 8) (k := 1) f_a0 (by decide) (by decide) e_b18 (t := 5) rfl
  refine kp_get X h f_a0 ff_8_23.l (v := .ref b18) (congrArg va_rf e_b18) dX8_eachLoop_77 ?_
  refine kp_calli X h (kp_runV (rm := { frames := 0, cells := 0, slots := 0, locals := 0 }) (mc := 0) (ms := 0) (rest := []) (Qc := fun A => kp_Qi D cy A T15 _) X h (c_X5_knownNow l D cy ad T15 b18 _ h.2.2.2 f_b18 hw) f_b18 cv_8_143 ⟨by dsimp only; omega, by dsimp only; omega, rfl, rfl, by dsimp only; omega, by dsimp only; omega⟩ rfl hl.1 rfl (Nat.le_of_ble_eq_true rfl) dX8_eachLoop_80) (fun y20 T19 hw l_T19 H locs h => ?_)
  have f_a0 := l_T19.is f_a0
  have f_b1 := l_T19.is f_b1
  have f_b3 := l_T19.is f_b3
  have f_b7 := l_T19.is f_b7
  have f_b9 := l_T19.is f_b9
  have f_b12 := l_T19.is f_b12
  have f_b14 := l_T19.is f_b14
  have f_b18 := l_T19.is f_b18
  have hle := hle.tr l_T19
  refine lv_istore (lv' := [(8, .int y20), (7, .int y17), (6, .int y5), (4, .long z4), (0, .ref a0), (1, .long w1), (3, .int x3)]) X.1 X.2.1 dX8_eachLoop_83 hl (by decide) rfl (fun ls hl => ?_)
  refine lv_aload_n X.1 X.2.1 dX8_eachLoop_85 rfl (lv_at hl 4 rfl) ?_
  obtain ⟨b21, e_b21, hw⟩ := hw
  have f_b21 := h.2.2.2.rf (c := 8) (k := 0) f_a0 (by decide) (by decide) e_b21 (t := 9) rfl
  refine kp_get X h f_a0 ff_8_14.l (v := .ref b21) (congrArg va_rf e_b21) dX8_eachLoop_86 ?_
  refine kp_calli X h (kp_runV (rm := { frames := 0, cells := 0, slots := 0, locals := 0 }) (mc := 0) (ms := 0) (rest := []) (Qc := fun A => kp_Qi D cy A T19 _) X h (c_X9_isStopped l D cy ad T19 b21 _ h.2.2.2 f_b21 hw) f_b21 cv_8_96 ⟨by dsimp only; omega, by dsimp only; omega, rfl, rfl, by dsimp only; omega, by dsimp only; omega⟩ rfl hl.1 rfl (Nat.le_of_ble_eq_true rfl) dX8_eachLoop_89) (fun y23 T22 hw l_T22 H locs h => ?_)
  have f_a0 := l_T22.is f_a0
  have f_b1 := l_T22.is f_b1
  have f_b3 := l_T22.is f_b3
  have f_b7 := l_T22.is f_b7
  have f_b9 := l_T22.is f_b9
  have f_b12 := l_T22.is f_b12
  have f_b14 := l_T22.is f_b14
  have f_b18 := l_T22.is f_b18
  have f_b21 := l_T22.is f_b21
  have hle := hle.tr l_T22
  refine lv_if_eq (tgt := 99) X.1 X.2.1 dX8_eachLoop_92 (by decide) (fun c27 => ?_) (fun c27 => ?_)
  · have hw := hw.1 c27
    refine lv_aload_n X.1 X.2.1 dX8_eachLoop_99 rfl (lv_at hl 4 rfl) ?_
    obtain ⟨b24, e_b24, hw⟩ := hw
    have f_b24 := h.2.2.2.rf (c := 8) (k := 1) f_a0 (by decide) (by decide) e_b24 (t := 5) rfl
    refine kp_get X h f_a0 ff_8_23.l (v := .ref b24) (congrArg va_rf e_b24) dX8_eachLoop_100 ?_
    refine lv_lload X.1 X.2.1 dX8_eachLoop_103 (lv_at hl 3 rfl) ?_
    refine lv_iload X.1 X.2.1 dX8_eachLoop_105 (lv_at hl 2 rfl) ?_
    refine kp_calli X h (kp_runV (rm := { frames := 1, cells := 0, slots := 0, locals := 23 }) (mc := 0) (ms := 0) (rest := []) (Qc := fun A => kp_Qi D cy A T22 _) X h (c_X5_tellVariable l D cy ad T22 b24 z4 y5 _ h.2.2.2 f_b24 hw) f_b24 cv_8_219 ⟨by dsimp only; omega, by dsimp only; omega, rfl, rfl, by dsimp only; omega, by dsimp only; omega⟩ rfl hl.1 rfl (Nat.le_of_ble_eq_true rfl) dX8_eachLoop_107) (fun y26 T25 hw l_T25 H locs h => ?_)
    have f_a0 := l_T25.is f_a0
    have f_b1 := l_T25.is f_b1
    have f_b3 := l_T25.is f_b3
    have f_b7 := l_T25.is f_b7
    have f_b9 := l_T25.is f_b9
    have f_b12 := l_T25.is f_b12
    have f_b14 := l_T25.is f_b14
    have f_b18 := l_T25.is f_b18
    have f_b21 := l_T25.is f_b21
    have f_b24 := l_T25.is f_b24
    have hle := hle.tr l_T25
    exact j110 y17 y20 y26 T25 _ _ ls (lv_sub hl [4, 5, 6, 1, 0] rfl) h hle f_a0 hw
  · have hw := hw.2 c27
    refine lv_iconst (v := 0) X.1 X.2.1 dX8_eachLoop_95 (by decide) ?_
    refine lv_goto (tgt := 110) X.1 X.2.1 dX8_eachLoop_96 (by decide) ?_
    exact j110 y17 y20 0 T22 _ _ ls (lv_sub hl [4, 5, 6, 1, 0] rfl) h hle f_a0 hw
theorem dX8_repeatLoop_0 : decode cX8_repeatLoop 0 = .ok (.aload_n 0, 1) := by decide +kernel
theorem dX8_repeatLoop_1 : decode cX8_repeatLoop 1 = .ok (.getfield 14, 3) := by decide +kernel
theorem dX8_repeatLoop_4 : decode cX8_repeatLoop 4 = .ok (.invokevirtual 75, 3) := by decide +kernel
theorem dX8_repeatLoop_7 : decode cX8_repeatLoop 7 = .ok (.aload_n 0, 1) := by decide +kernel
theorem dX8_repeatLoop_8 : decode cX8_repeatLoop 8 = .ok (.getfield 27, 3) := by decide +kernel
theorem dX8_repeatLoop_11 : decode cX8_repeatLoop 11 = .ok (.bipush 32, 2) := by decide +kernel
theorem dX8_repeatLoop_13 : decode cX8_repeatLoop 13 = .ok (.invokevirtual 123, 3) := by decide +kernel
theorem dX8_repeatLoop_16 : decode cX8_repeatLoop 16 = .ok (.istore 4, 2) := by decide +kernel
theorem dX8_repeatLoop_18 : decode cX8_repeatLoop 18 = .ok (.aload_n 0, 1) := by decide +kernel
theorem dX8_repeatLoop_19 : decode cX8_repeatLoop 19 = .ok (.getfield 27, 3) := by decide +kernel
theorem dX8_repeatLoop_22 : decode cX8_repeatLoop 22 = .ok (.bipush 46, 2) := by decide +kernel
theorem dX8_repeatLoop_24 : decode cX8_repeatLoop 24 = .ok (.iload_n 3, 1) := by decide +kernel
theorem dX8_repeatLoop_25 : decode cX8_repeatLoop 25 = .ok (.invokevirtual 261, 3) := by decide +kernel
theorem dX8_repeatLoop_28 : decode cX8_repeatLoop 28 = .ok (.istore 5, 2) := by decide +kernel
theorem dX8_repeatLoop_30 : decode cX8_repeatLoop 30 = .ok (.aload_n 0, 1) := by decide +kernel
theorem dX8_repeatLoop_31 : decode cX8_repeatLoop 31 = .ok (.lload_n 1, 1) := by decide +kernel
theorem dX8_repeatLoop_32 : decode cX8_repeatLoop 32 = .ok (.iload 5, 2) := by decide +kernel
theorem dX8_repeatLoop_34 : decode cX8_repeatLoop 34 = .ok (.invokevirtual 264, 3) := by decide +kernel
theorem dX8_repeatLoop_37 : decode cX8_repeatLoop 37 = .ok (.istore 6, 2) := by decide +kernel
theorem dX8_repeatLoop_39 : decode cX8_repeatLoop 39 = .ok (.aload_n 0, 1) := by decide +kernel
theorem dX8_repeatLoop_40 : decode cX8_repeatLoop 40 = .ok (.invokevirtual 270, 3) := by decide +kernel
theorem dX8_repeatLoop_43 : decode cX8_repeatLoop 43 = .ok (.istore 7, 2) := by decide +kernel
theorem dX8_repeatLoop_45 : decode cX8_repeatLoop 45 = .ok (.aload_n 0, 1) := by decide +kernel
theorem dX8_repeatLoop_46 : decode cX8_repeatLoop 46 = .ok (.getfield 23, 3) := by decide +kernel
theorem dX8_repeatLoop_49 : decode cX8_repeatLoop 49 = .ok (.invokevirtual 273, 3) := by decide +kernel
theorem dX8_repeatLoop_52 : decode cX8_repeatLoop 52 = .ok (.invokestatic 234, 3) := by decide +kernel
theorem dX8_repeatLoop_55 : decode cX8_repeatLoop 55 = .ok (.istore 8, 2) := by decide +kernel
theorem dX8_repeatLoop_57 : decode cX8_repeatLoop 57 = .ok (.aload_n 0, 1) := by decide +kernel
theorem dX8_repeatLoop_58 : decode cX8_repeatLoop 58 = .ok (.getfield 14, 3) := by decide +kernel
theorem dX8_repeatLoop_61 : decode cX8_repeatLoop 61 = .ok (.sipush 322, 3) := by decide +kernel
theorem dX8_repeatLoop_64 : decode cX8_repeatLoop 64 = .ok (.invokevirtual 90, 3) := by decide +kernel
theorem dX8_repeatLoop_67 : decode cX8_repeatLoop 67 = .ok (.aload_n 0, 1) := by decide +kernel
theorem dX8_repeatLoop_68 : decode cX8_repeatLoop 68 = .ok (.getfield 27, 3) := by decide +kernel
theorem dX8_repeatLoop_71 : decode cX8_repeatLoop 71 = .ok (.bipush 31, 2) := by decide +kernel
theorem dX8_repeatLoop_73 : decode cX8_repeatLoop 73 = .ok (.iload_n 3, 1) := by decide +kernel
theorem dX8_repeatLoop_74 : decode cX8_repeatLoop 74 = .ok (.invokevirtual 157, 3) := by decide +kernel
theorem dX8_repeatLoop_77 : decode cX8_repeatLoop 77 = .ok (.istore 9, 2) := by decide +kernel
theorem dX8_repeatLoop_79 : decode cX8_repeatLoop 79 = .ok (.aload_n 0, 1) := by decide +kernel
theorem dX8_repeatLoop_80 : decode cX8_repeatLoop 80 = .ok (.getfield 36, 3) := by decide +kernel
theorem dX8_repeatLoop_83 : decode cX8_repeatLoop 83 = .ok (.invokevirtual 213, 3) := by decide +kernel
theorem dX8_repeatLoop_86 : decode cX8_repeatLoop 86 = .ok (.invokestatic 216, 3) := by decide +kernel
theorem dX8_repeatLoop_89 : decode cX8_repeatLoop 89 = .ok (.istore 10, 2) := by decide +kernel
theorem dX8_repeatLoop_91 : decode cX8_repeatLoop 91 = .ok (.aload_n 0, 1) := by decide +kernel
theorem dX8_repeatLoop_92 : decode cX8_repeatLoop 92 = .ok (.getfield 27, 3) := by decide +kernel
theorem dX8_repeatLoop_95 : decode cX8_repeatLoop 95 = .ok (.bipush 23, 2) := by decide +kernel
theorem dX8_repeatLoop_97 : decode cX8_repeatLoop 97 = .ok (.iload 4, 2) := by decide +kernel
theorem dX8_repeatLoop_99 : decode cX8_repeatLoop 99 = .ok (.invokevirtual 157, 3) := by decide +kernel
theorem dX8_repeatLoop_102 : decode cX8_repeatLoop 102 = .ok (.pop, 1) := by decide +kernel
theorem dX8_repeatLoop_103 : decode cX8_repeatLoop 103 = .ok (.aload_n 0, 1) := by decide +kernel
theorem dX8_repeatLoop_104 : decode cX8_repeatLoop 104 = .ok (.iload 5, 2) := by decide +kernel
theorem dX8_repeatLoop_106 : decode cX8_repeatLoop 106 = .ok (.iload 9, 2) := by decide +kernel
theorem dX8_repeatLoop_108 : decode cX8_repeatLoop 108 = .ok (.aload_n 0, 1) := by decide +kernel
theorem dX8_repeatLoop_109 : decode cX8_repeatLoop 109 = .ok (.getfield 27, 3) := by decide +kernel
theorem dX8_repeatLoop_112 : decode cX8_repeatLoop 112 = .ok (.invokevirtual 237, 3) := by decide +kernel
theorem dX8_repeatLoop_115 : decode cX8_repeatLoop 115 = .ok (.invokevirtual 267, 3) := by decide +kernel
theorem dX8_repeatLoop_118 : decode cX8_repeatLoop 118 = .ok (.aload_n 0, 1) := by decide +kernel
theorem dX8_repeatLoop_119 : decode cX8_repeatLoop 119 = .ok (.getfield 14, 3) := by decide +kernel
theorem dX8_repeatLoop_122 : decode cX8_repeatLoop 122 = .ok (.bipush 59, 2) := by decide +kernel
theorem dX8_repeatLoop_124 : decode cX8_repeatLoop 124 = .ok (.invokevirtual 90, 3) := by decide +kernel
theorem dX8_repeatLoop_127 : decode cX8_repeatLoop 127 = .ok (.iload 6, 2) := by decide +kernel
theorem dX8_repeatLoop_129 : decode cX8_repeatLoop 129 = .ok (.iload 7, 2) := by decide +kernel
theorem dX8_repeatLoop_131 : decode cX8_repeatLoop 131 = .ok (.iconst (-1), 1) := by decide +kernel
theorem dX8_repeatLoop_132 : decode cX8_repeatLoop 132 = .ok (.ixor, 1) := by decide +kernel
theorem dX8_repeatLoop_133 : decode cX8_repeatLoop 133 = .ok (.iand, 1) := by decide +kernel
theorem dX8_repeatLoop_134 : decode cX8_repeatLoop 134 = .ok (.bipush (-2), 2) := by decide +kernel
theorem dX8_repeatLoop_136 : decode cX8_repeatLoop 136 = .ok (.iand, 1) := by decide +kernel
theorem dX8_repeatLoop_137 : decode cX8_repeatLoop 137 = .ok (.istore 11, 2) := by decide +kernel
theorem dX8_repeatLoop_139 : decode cX8_repeatLoop 139 = .ok (.iload 6, 2) := by decide +kernel
theorem dX8_repeatLoop_141 : decode cX8_repeatLoop 141 = .ok (.iconst 1, 1) := by decide +kernel
theorem dX8_repeatLoop_142 : decode cX8_repeatLoop 142 = .ok (.iload 8, 2) := by decide +kernel
theorem dX8_repeatLoop_144 : decode cX8_repeatLoop 144 = .ok (.ior, 1) := by decide +kernel
theorem dX8_repeatLoop_145 : decode cX8_repeatLoop 145 = .ok (.iand, 1) := by decide +kernel
theorem dX8_repeatLoop_146 : decode cX8_repeatLoop 146 = .ok (.ifCond .eq 10, 3) := by decide +kernel
theorem dX8_repeatLoop_149 : decode cX8_repeatLoop 149 = .ok (.iload 11, 2) := by decide +kernel
theorem dX8_repeatLoop_151 : decode cX8_repeatLoop 151 = .ok (.iload 10, 2) := by decide +kernel
theorem dX8_repeatLoop_153 : decode cX8_repeatLoop 153 = .ok (.ior, 1) := by decide +kernel
theorem dX8_repeatLoop_154 : decode cX8_repeatLoop 154 = .ok (.istore 11, 2) := by decide +kernel
theorem dX8_repeatLoop_156 : decode cX8_repeatLoop 156 = .ok (.iload 6, 2) := by decide +kernel
theorem dX8_repeatLoop_158 : decode cX8_repeatLoop 158 = .ok (.iconst 1, 1) := by decide +kernel
theorem dX8_repeatLoop_159 : decode cX8_repeatLoop 159 = .ok (.iload 7, 2) := by decide +kernel
theorem dX8_repeatLoop_161 : decode cX8_repeatLoop 161 = .ok (.ior, 1) := by decide +kernel
theorem dX8_repeatLoop_162 : decode cX8_repeatLoop 162 = .ok (.iand, 1) := by decide +kernel
theorem dX8_repeatLoop_163 : decode cX8_repeatLoop 163 = .ok (.ifCond .eq 10, 3) := by decide +kernel
theorem dX8_repeatLoop_166 : decode cX8_repeatLoop 166 = .ok (.iload 11, 2) := by decide +kernel
theorem dX8_repeatLoop_168 : decode cX8_repeatLoop 168 = .ok (.iconst 1, 1) := by decide +kernel
theorem dX8_repeatLoop_169 : decode cX8_repeatLoop 169 = .ok (.ior, 1) := by decide +kernel
theorem dX8_repeatLoop_170 : decode cX8_repeatLoop 170 = .ok (.goto 5, 3) := by decide +kernel
theorem dX8_repeatLoop_173 : decode cX8_repeatLoop 173 = .ok (.iload 11, 2) := by decide +kernel
theorem dX8_repeatLoop_175 : decode cX8_repeatLoop 175 = .ok (.ireturn, 1) := by decide +kernel
def wX8_repeatLoop_b175 (B : Nat → kp_S → (Int32 → kp_S → Prop) → Prop) (a0 : Nat) (w1 : Int64) (x3 : Int32) (xt0 : Int32)  (Sn : kp_S) (post : Int32 → kp_S → Prop) : Prop :=
  post xt0 Sn
def wX8_repeatLoop_b156 (B : Nat → kp_S → (Int32 → kp_S → Prop) → Prop) (a0 : Nat) (w1 : Int64) (x3 : Int32) (xn6 : Int32) (xn7 : Int32) (xn11 : Int32)  (Sn : kp_S) (post : Int32 → kp_S → Prop) : Prop :=
  (((xn6 &&& (1 ||| xn7)) = 0 →
  wX8_repeatLoop_b175 B a0 w1 x3 xn11  Sn post) ∧ (¬ (xn6 &&& (1 ||| xn7)) = 0 →
  wX8_repeatLoop_b175 B a0 w1 x3 (xn11 ||| 1)  Sn post))
def wX8_repeatLoop (B : Nat → kp_S → (Int32 → kp_S → Prop) → Prop) (a0 : Nat) (w1 : Int64) (x3 : Int32) (S : kp_S) (post : Int32 → kp_S → Prop) : Prop :=
  ∃ b1 : Nat, kp_R S 1600 a0 = some b1 ∧
  wX9_advance b1 S (fun T2 =>
  ∃ b3 : Nat, kp_R T2 1603 a0 = some b3 ∧
  wX0_add b3 32 T2 (fun y5 T4 =>
  ∃ b6 : Nat, kp_R T4 1603 a0 = some b6 ∧
  wX0_addPart b6 46 x3 T4 (fun y8 T7 =>
  wX8_round B a0 w1 y8 T7 (fun y10 T9 =>
  wX8_ownWays a0 T9 (fun y12 T11 =>
  ∃ b13 : Nat, kp_R T11 1601 a0 = some b13 ∧
  wX5_loopsNow b13 T11 (fun y15 T14 =>
  wX10_againOf y15 T14 (fun y17 T16 =>
  ∃ b18 : Nat, kp_R T16 1600 a0 = some b18 ∧
  wX9_expect b18 322 T16 (fun T19 =>
  ∃ b20 : Nat, kp_R T19 1603 a0 = some b20 ∧
  wX0_add_ b20 31 x3 T19 (fun y22 T21 =>
  ∃ b23 : Nat, kp_R T21 1602 a0 = some b23 ∧
  wX2_whole_t b23 T21 (fun y25 T24 =>
  wX8_troubleOf y25 T24 (fun y27 T26 =>
  ∃ b28 : Nat, kp_R T26 1603 a0 = some b28 ∧
  wX0_add_ b28 23 y5 T26 (fun y30 T29 =>
  ∃ b31 : Nat, kp_R T29 1603 a0 = some b31 ∧
  wX0_size b31 T29 (fun y33 T32 =>
  wX8_setRound a0 y8 y22 y33 T32 (fun T34 =>
  ∃ b35 : Nat, kp_R T34 1600 a0 = some b35 ∧
  wX9_expect b35 59 T34 (fun T36 =>
  ∀ y37 : Int32, y37 = ((y10 &&& (y12 ^^^ (-1))) &&& (-2)) →
  (((y10 &&& (1 ||| y17)) = 0 →
  wX8_repeatLoop_b156 B a0 w1 x3 y10 y12 y37  T36 post) ∧ (¬ (y10 &&& (1 ||| y17)) = 0 →
  ∀ y38 : Int32, y38 = (y37 ||| y27) →
  wX8_repeatLoop_b156 B a0 w1 x3 y10 y12 y38  T36 post)))))))))))))))))
set_option maxHeartbeats 4000000 in
set_option maxRecDepth 100000 in
theorem c_X8_repeatLoop (l : Launch) (D : va_G) (cy : Nat → ClassId) (ad : (Nat → Nat) × (Nat → Nat)) (F L : Nat) (B : Nat → kp_S → (Int32 → kp_S → Prop) → Prop) (hB : ∀ (S : kp_S) (a0 : Nat) (post : Int32 → kp_S → Prop), kp_ok S → kp_is S a0 8 → B a0 S post → kp_M l yX8_block cX8_block 5 (some .int) { frames := F, cells := 0, slots := 0, locals := L } D cy ad S [.ref a0] 0 0 (fun A => kp_Qi D cy A S post)) (hF : 191 ≤ F) (hL : 4387 ≤ L) (S : kp_S) (a0 : Nat) (w1 : Int64) (x3 : Int32) (post : Int32 → kp_S → Prop) (hS : kp_ok S) (f_a0 : kp_is S a0 8) (hw : wX8_repeatLoop B a0 w1 x3 S post) : kp_M l yX8_repeatLoop cX8_repeatLoop 12 (some .int) { frames := F + 3, cells := 0, slots := 0, locals := L + 71 } D cy ad S [.ref a0, .long w1, .int x3] 0 0 (fun A => kp_Qi D cy A S post) := by
  refine kp_start (own := RX8) (by decide) rfl (Nat.le_of_ble_eq_true rfl) hS ?_
  intro p e s m below meth c A ls X hr hlocks hname h hl
  have hle : kp_le S S := kp_le.rf
  have hl : lv_has ls 12 [(0, .ref a0), (1, .long w1), (3, .int x3)] := hl
  have j175 : ∀ (xt0 : Int32) (Sn : kp_S) (H : Heap) (locs : List Loc) (ls : Array Slot), lv_has ls 12 [] → kp_H D cy A Sn s.heap H locs → kp_le S Sn → kp_is Sn a0 8 → wX8_repeatLoop_b175 B a0 w1 x3 xt0  Sn post → W p l e { frames := F + 3, cells := 0, slots := 0, locals := L + 71 } s m ([.ref a0, .long w1, .int x3] : List Value).toArray below meth c H locs 0 0 (MQ below (kp_Qi D cy A S post) ([.ref a0, .long w1, .int x3] : List Value).toArray s 0 0 A) (F0 m 175 ls [.int xt0]) := by
    intro xt0 Sn H locs ls hl h hle f_a0 hw
    unfold wX8_repeatLoop_b175 at hw
    exact kp_reti X hr hlocks h hle rfl hw dX8_repeatLoop_175
  have j156 : ∀ (xn6 : Int32) (xn7 : Int32) (xn11 : Int32) (Sn : kp_S) (H : Heap) (locs : List Loc) (ls : Array Slot), lv_has ls 12 [(6, .int xn6), (7, .int xn7), (11, .int xn11)] → kp_H D cy A Sn s.heap H locs → kp_le S Sn → kp_is Sn a0 8 → wX8_repeatLoop_b156 B a0 w1 x3 xn6 xn7 xn11  Sn post → W p l e { frames := F + 3, cells := 0, slots := 0, locals := L + 71 } s m ([.ref a0, .long w1, .int x3] : List Value).toArray below meth c H locs 0 0 (MQ below (kp_Qi D cy A S post) ([.ref a0, .long w1, .int x3] : List Value).toArray s 0 0 A) (F0 m 156 ls []) := by
    intro xn6 xn7 xn11 Sn H locs ls hl h hle f_a0 hw
    unfold wX8_repeatLoop_b156 at hw
    refine lv_iload X.1 X.2.1 dX8_repeatLoop_156 (lv_at hl 0 rfl) ?_
    refine lv_iconst (v := 1) X.1 X.2.1 dX8_repeatLoop_158 (by decide) ?_
    refine lv_iload X.1 X.2.1 dX8_repeatLoop_159 (lv_at hl 1 rfl) ?_
    refine lv_ior X.1 X.2.1 dX8_repeatLoop_161 ?_
    refine lv_iand X.1 X.2.1 dX8_repeatLoop_162 ?_
    refine lv_if_eq (tgt := 173) X.1 X.2.1 dX8_repeatLoop_163 (by decide) (fun c2001 => ?_) (fun c2001 => ?_)
    · have hw := hw.1 c2001
      refine lv_iload X.1 X.2.1 dX8_repeatLoop_173 (lv_at hl 2 rfl) ?_
      exact j175 xn11 Sn H locs ls (lv_sub hl [] rfl) h hle f_a0 hw
    · have hw := hw.2 c2001
      refine lv_iload X.1 X.2.1 dX8_repeatLoop_166 (lv_at hl 2 rfl) ?_
      refine lv_iconst (v := 1) X.1 X.2.1 dX8_repeatLoop_168 (by decide) ?_
      refine lv_ior X.1 X.2.1 dX8_repeatLoop_169 ?_
      refine lv_goto (tgt := 175) X.1 X.2.1 dX8_repeatLoop_170 (by decide) ?_
      exact j175 (xn11 ||| 1) Sn H locs ls (lv_sub hl [] rfl) h hle f_a0 hw
  unfold wX8_repeatLoop at hw
  have h : kp_H D cy A S s.heap s.heap [] := h
  revert h
  intro h
  refine lv_aload_n X.1 X.2.1 dX8_repeatLoop_0 rfl (lv_at hl 0 rfl) ?_
  obtain ⟨b1, e_b1, hw⟩ := hw
  have f_b1 := h.2.2.2.rf (c := 8) (k := 0) f_a0 (by decide) (by decide) e_b1 (t := 9) rfl
  refine kp_get X h f_a0 ff_8_14.l (v := .ref b1) (congrArg va_rf e_b1) dX8_repeatLoop_1 ?_
  refine kp_callv X h (kp_runV (rm := { frames := 5, cells := 0, slots := 0, locals := 113 }) (mc := 0) (ms := 0) (rest := []) (Qc := fun A => kp_Qv D cy A S _) X h (c_X9_advance l D cy ad S b1 _ h.2.2.2 f_b1 hw) f_b1 cv_8_75 ⟨by dsimp only; omega, by dsimp only; omega, rfl, rfl, by dsimp only; omega, by dsimp only; omega⟩ rfl hl.1 rfl (Nat.le_of_ble_eq_true rfl) dX8_repeatLoop_4) (fun T2 hw l_T2 H locs h => ?_)
  have f_a0 := l_T2.is f_a0
  have f_b1 := l_T2.is f_b1
  have hle := hle.tr l_T2
  refine lv_aload_n X.1 X.2.1 dX8_repeatLoop_7 rfl (lv_at hl 0 rfl) ?_
  obtain ⟨b3, e_b3, hw⟩ := hw
  have f_b3 := h.2.2.2.rf (c := 8) (k := 3) f_a0 (by decide) (by decide) e_b3 (t := 0) rfl
  refine kp_get X h f_a0 fp_8_27.l (v := .ref b3) (congrArg va_rf e_b3) dX8_repeatLoop_8 ?_
  refine lv_bipush (v := 32) X.1 X.2.1 dX8_repeatLoop_11 (by decide) ?_
  refine kp_calli X h (kp_runV (rm := { frames := 0, cells := 0, slots := 0, locals := 0 }) (mc := 0) (ms := 0) (rest := []) (Qc := fun A => kp_Qi D cy A T2 _) X h (c_X0_add l D cy ad T2 b3 32 _ h.2.2.2 f_b3 hw) f_b3 cv_8_123 ⟨by dsimp only; omega, by dsimp only; omega, rfl, rfl, by dsimp only; omega, by dsimp only; omega⟩ rfl hl.1 rfl (Nat.le_of_ble_eq_true rfl) dX8_repeatLoop_13) (fun y5 T4 hw l_T4 H locs h => ?_)
  have f_a0 := l_T4.is f_a0
  have f_b1 := l_T4.is f_b1
  have f_b3 := l_T4.is f_b3
  have hle := hle.tr l_T4
  refine lv_istore (lv' := [(4, .int y5), (0, .ref a0), (1, .long w1), (3, .int x3)]) X.1 X.2.1 dX8_repeatLoop_16 hl (by decide) rfl (fun ls hl => ?_)
  refine lv_aload_n X.1 X.2.1 dX8_repeatLoop_18 rfl (lv_at hl 1 rfl) ?_
  obtain ⟨b6, e_b6, hw⟩ := hw
  have f_b6 := h.2.2.2.rf (c := 8) (k := 3) f_a0 (by decide) (by decide) e_b6 (t := 0) rfl
  refine kp_get X h f_a0 fp_8_27.l (v := .ref b6) (congrArg va_rf e_b6) dX8_repeatLoop_19 ?_
  refine lv_bipush (v := 46) X.1 X.2.1 dX8_repeatLoop_22 (by decide) ?_
  refine lv_iload_n X.1 X.2.1 dX8_repeatLoop_24 rfl (lv_at hl 3 rfl) ?_
  refine kp_calli X h (kp_runV (rm := { frames := 2, cells := 0, slots := 0, locals := 45 }) (mc := 0) (ms := 0) (rest := []) (Qc := fun A => kp_Qi D cy A T4 _) X h (c_X0_addPart l D cy ad T4 b6 46 x3 _ h.2.2.2 f_b6 hw) f_b6 cv_8_261 ⟨by dsimp only; omega, by dsimp only; omega, rfl, rfl, by dsimp only; omega, by dsimp only; omega⟩ rfl hl.1 rfl (Nat.le_of_ble_eq_true rfl) dX8_repeatLoop_25) (fun y8 T7 hw l_T7 H locs h => ?_)
  have f_a0 := l_T7.is f_a0
  have f_b1 := l_T7.is f_b1
  have f_b3 := l_T7.is f_b3
  have f_b6 := l_T7.is f_b6
  have hle := hle.tr l_T7
  refine lv_istore (lv' := [(5, .int y8), (4, .int y5), (0, .ref a0), (1, .long w1), (3, .int x3)]) X.1 X.2.1 dX8_repeatLoop_28 hl (by decide) rfl (fun ls hl => ?_)
  refine lv_aload_n X.1 X.2.1 dX8_repeatLoop_30 rfl (lv_at hl 2 rfl) ?_
  refine lv_lload_n X.1 X.2.1 dX8_repeatLoop_31 rfl (lv_at hl 3 rfl) ?_
  refine lv_iload X.1 X.2.1 dX8_repeatLoop_32 (lv_at hl 0 rfl) ?_
  refine kp_calli X h (kp_runV (rm := { frames := F + 2, cells := 0, slots := 0, locals := L + 47 }) (mc := 0) (ms := 0) (rest := []) (Qc := fun A => kp_Qi D cy A T7 _) X h (c_X8_round l D cy ad F L B hB hF hL T7 a0 w1 y8 _ h.2.2.2 f_a0 hw) f_a0 cv_8_264 ⟨by dsimp only; omega, by dsimp only; omega, rfl, rfl, by dsimp only; omega, by dsimp only; omega⟩ rfl hl.1 rfl (Nat.le_of_ble_eq_true rfl) dX8_repeatLoop_34) (fun y10 T9 hw l_T9 H locs h => ?_)
  have f_a0 := l_T9.is f_a0
  have f_b1 := l_T9.is f_b1
  have f_b3 := l_T9.is f_b3
  have f_b6 := l_T9.is f_b6
  have hle := hle.tr l_T9
  refine lv_istore (lv' := [(6, .int y10), (5, .int y8), (4, .int y5), (0, .ref a0), (1, .long w1), (3, .int x3)]) X.1 X.2.1 dX8_repeatLoop_37 hl (by decide) rfl (fun ls hl => ?_)
  refine lv_aload_n X.1 X.2.1 dX8_repeatLoop_39 rfl (lv_at hl 3 rfl) ?_
  refine kp_calli X h (kp_runV (rm := { frames := 1, cells := 0, slots := 0, locals := 20 }) (mc := 0) (ms := 0) (rest := []) (Qc := fun A => kp_Qi D cy A T9 _) X h (c_X8_ownWays l D cy ad T9 a0 _ h.2.2.2 f_a0 hw) f_a0 cv_8_270 ⟨by dsimp only; omega, by dsimp only; omega, rfl, rfl, by dsimp only; omega, by dsimp only; omega⟩ rfl hl.1 rfl (Nat.le_of_ble_eq_true rfl) dX8_repeatLoop_40) (fun y12 T11 hw l_T11 H locs h => ?_)
  have f_a0 := l_T11.is f_a0
  have f_b1 := l_T11.is f_b1
  have f_b3 := l_T11.is f_b3
  have f_b6 := l_T11.is f_b6
  have hle := hle.tr l_T11
  refine lv_istore (lv' := [(7, .int y12), (6, .int y10), (5, .int y8), (4, .int y5), (0, .ref a0), (1, .long w1), (3, .int x3)]) X.1 X.2.1 dX8_repeatLoop_43 hl (by decide) rfl (fun ls hl => ?_)
  refine lv_aload_n X.1 X.2.1 dX8_repeatLoop_45 rfl (lv_at hl 4 rfl) ?_
  obtain ⟨b13, e_b13, hw⟩ := hw
  have f_b13 := h.2.2.2.rf (c := 8) (k := 1) f_a0 (by decide) (by decide) e_b13 (t := 5) rfl
  refine kp_get X h f_a0 ff_8_23.l (v := .ref b13) (congrArg va_rf e_b13) dX8_repeatLoop_46 ?_
  refine kp_calli X h (kp_runV (rm := { frames := 0, cells := 0, slots := 0, locals := 0 }) (mc := 0) (ms := 0) (rest := []) (Qc := fun A => kp_Qi D cy A T11 _) X h (c_X5_loopsNow l D cy ad T11 b13 _ h.2.2.2 f_b13 hw) f_b13 cv_8_273 ⟨by dsimp only; omega, by dsimp only; omega, rfl, rfl, by dsimp only; omega, by dsimp only; omega⟩ rfl hl.1 rfl (Nat.le_of_ble_eq_true rfl) dX8_repeatLoop_49) (fun y15 T14 hw l_T14 H locs h => ?_)
  have f_a0 := l_T14.is f_a0
  have f_b1 := l_T14.is f_b1
  have f_b3 := l_T14.is f_b3
  have f_b6 := l_T14.is f_b6
  have f_b13 := l_T14.is f_b13
  have hle := hle.tr l_T14
  refine kp_calli X h (kp_runS (rm := { frames := 0, cells := 0, slots := 0, locals := 0 }) (mc := 0) (ms := 0) (rest := []) (Qc := fun A => kp_Qi D cy A T14 _) X h (c_X10_againOf l D cy ad T14 y15 _ h.2.2.2  hw) cs_8_234 ⟨by dsimp only; omega, by dsimp only; omega, rfl, rfl, by dsimp only; omega, by dsimp only; omega⟩ rfl hl.1 rfl (Nat.le_of_ble_eq_true rfl) dX8_repeatLoop_52) (fun y17 T16 hw l_T16 H locs h => ?_)
  have f_a0 := l_T16.is f_a0
  have f_b1 := l_T16.is f_b1
  have f_b3 := l_T16.is f_b3
  have f_b6 := l_T16.is f_b6
  have f_b13 := l_T16.is f_b13
  have hle := hle.tr l_T16
  refine lv_istore (lv' := [(8, .int y17), (7, .int y12), (6, .int y10), (5, .int y8), (4, .int y5), (0, .ref a0), (1, .long w1), (3, .int x3)]) X.1 X.2.1 dX8_repeatLoop_55 hl (by decide) rfl (fun ls hl => ?_)
  refine lv_aload_n X.1 X.2.1 dX8_repeatLoop_57 rfl (lv_at hl 5 rfl) ?_
  obtain ⟨b18, e_b18, hw⟩ := hw
  have f_b18 := h.2.2.2.rf (c := 8) (k := 0) f_a0 (by decide) (by decide) e_b18 (t := 9) rfl
  refine kp_get X h f_a0 ff_8_14.l (v := .ref b18) (congrArg va_rf e_b18) dX8_repeatLoop_58 ?_
  refine lv_sipush (v := 322) X.1 X.2.1 dX8_repeatLoop_61 (by decide) ?_
  refine kp_callv X h (kp_runV (rm := { frames := 6, cells := 0, slots := 0, locals := 134 }) (mc := 0) (ms := 0) (rest := []) (Qc := fun A => kp_Qv D cy A T16 _) X h (c_X9_expect l D cy ad T16 b18 322 _ h.2.2.2 f_b18 hw) f_b18 cv_8_90 ⟨by dsimp only; omega, by dsimp only; omega, rfl, rfl, by dsimp only; omega, by dsimp only; omega⟩ rfl hl.1 rfl (Nat.le_of_ble_eq_true rfl) dX8_repeatLoop_64) (fun T19 hw l_T19 H locs h => ?_)
  have f_a0 := l_T19.is f_a0
  have f_b1 := l_T19.is f_b1
  have f_b3 := l_T19.is f_b3
  have f_b6 := l_T19.is f_b6
  have f_b13 := l_T19.is f_b13
  have f_b18 := l_T19.is f_b18
  have hle := hle.tr l_T19
  refine lv_aload_n X.1 X.2.1 dX8_repeatLoop_67 rfl (lv_at hl 5 rfl) ?_
  obtain ⟨b20, e_b20, hw⟩ := hw
  have f_b20 := h.2.2.2.rf (c := 8) (k := 3) f_a0 (by decide) (by decide) e_b20 (t := 0) rfl
  refine kp_get X h f_a0 fp_8_27.l (v := .ref b20) (congrArg va_rf e_b20) dX8_repeatLoop_68 ?_
  refine lv_bipush (v := 31) X.1 X.2.1 dX8_repeatLoop_71 (by decide) ?_
  refine lv_iload_n X.1 X.2.1 dX8_repeatLoop_73 rfl (lv_at hl 7 rfl) ?_
  refine kp_calli X h (kp_runV (rm := { frames := 1, cells := 0, slots := 0, locals := 22 }) (mc := 0) (ms := 0) (rest := []) (Qc := fun A => kp_Qi D cy A T19 _) X h (c_X0_add_ l D cy ad T19 b20 31 x3 _ h.2.2.2 f_b20 hw) f_b20 cv_8_157 ⟨by dsimp only; omega, by dsimp only; omega, rfl, rfl, by dsimp only; omega, by dsimp only; omega⟩ rfl hl.1 rfl (Nat.le_of_ble_eq_true rfl) dX8_repeatLoop_74) (fun y22 T21 hw l_T21 H locs h => ?_)
  have f_a0 := l_T21.is f_a0
  have f_b1 := l_T21.is f_b1
  have f_b3 := l_T21.is f_b3
  have f_b6 := l_T21.is f_b6
  have f_b13 := l_T21.is f_b13
  have f_b18 := l_T21.is f_b18
  have f_b20 := l_T21.is f_b20
  have hle := hle.tr l_T21
  refine lv_istore (lv' := [(9, .int y22), (8, .int y17), (7, .int y12), (6, .int y10), (5, .int y8), (4, .int y5), (0, .ref a0), (1, .long w1), (3, .int x3)]) X.1 X.2.1 dX8_repeatLoop_77 hl (by decide) rfl (fun ls hl => ?_)
  refine lv_aload_n X.1 X.2.1 dX8_repeatLoop_79 rfl (lv_at hl 6 rfl) ?_
  obtain ⟨b23, e_b23, hw⟩ := hw
  have f_b23 := h.2.2.2.rf (c := 8) (k := 2) f_a0 (by decide) (by decide) e_b23 (t := 2) rfl
  refine kp_get X h f_a0 ff_8_36.l (v := .ref b23) (congrArg va_rf e_b23) dX8_repeatLoop_80 ?_
  refine kp_calli X h (kp_runV (rm := { frames := 189, cells := 0, slots := 0, locals := 4339 }) (mc := 0) (ms := 0) (rest := []) (Qc := fun A => kp_Qi D cy A T21 _) X h (c_X2_whole_t l D cy ad T21 b23 _ h.2.2.2 f_b23 hw) f_b23 cv_8_213 ⟨by dsimp only; omega, by dsimp only; omega, rfl, rfl, by dsimp only; omega, by dsimp only; omega⟩ rfl hl.1 rfl (Nat.le_of_ble_eq_true rfl) dX8_repeatLoop_83) (fun y25 T24 hw l_T24 H locs h => ?_)
  have f_a0 := l_T24.is f_a0
  have f_b1 := l_T24.is f_b1
  have f_b3 := l_T24.is f_b3
  have f_b6 := l_T24.is f_b6
  have f_b13 := l_T24.is f_b13
  have f_b18 := l_T24.is f_b18
  have f_b20 := l_T24.is f_b20
  have f_b23 := l_T24.is f_b23
  have hle := hle.tr l_T24
  refine kp_calli X h (kp_runS (rm := { frames := 0, cells := 0, slots := 0, locals := 0 }) (mc := 0) (ms := 0) (rest := []) (Qc := fun A => kp_Qi D cy A T24 _) X h (c_X8_troubleOf l D cy ad T24 y25 _ h.2.2.2  hw) cs_8_216 ⟨by dsimp only; omega, by dsimp only; omega, rfl, rfl, by dsimp only; omega, by dsimp only; omega⟩ rfl hl.1 rfl (Nat.le_of_ble_eq_true rfl) dX8_repeatLoop_86) (fun y27 T26 hw l_T26 H locs h => ?_)
  have f_a0 := l_T26.is f_a0
  have f_b1 := l_T26.is f_b1
  have f_b3 := l_T26.is f_b3
  have f_b6 := l_T26.is f_b6
  have f_b13 := l_T26.is f_b13
  have f_b18 := l_T26.is f_b18
  have f_b20 := l_T26.is f_b20
  have f_b23 := l_T26.is f_b23
  have hle := hle.tr l_T26
  refine lv_istore (lv' := [(10, .int y27), (9, .int y22), (8, .int y17), (7, .int y12), (6, .int y10), (5, .int y8), (4, .int y5), (0, .ref a0), (1, .long w1), (3, .int x3)]) X.1 X.2.1 dX8_repeatLoop_89 hl (by decide) rfl (fun ls hl => ?_)
  refine lv_aload_n X.1 X.2.1 dX8_repeatLoop_91 rfl (lv_at hl 7 rfl) ?_
  obtain ⟨b28, e_b28, hw⟩ := hw
  have f_b28 := h.2.2.2.rf (c := 8) (k := 3) f_a0 (by decide) (by decide) e_b28 (t := 0) rfl
  refine kp_get X h f_a0 fp_8_27.l (v := .ref b28) (congrArg va_rf e_b28) dX8_repeatLoop_92 ?_
  refine lv_bipush (v := 23) X.1 X.2.1 dX8_repeatLoop_95 (by decide) ?_
  refine lv_iload X.1 X.2.1 dX8_repeatLoop_97 (lv_at hl 6 rfl) ?_
  refine kp_calli X h (kp_runV (rm := { frames := 1, cells := 0, slots := 0, locals := 22 }) (mc := 0) (ms := 0) (rest := []) (Qc := fun A => kp_Qi D cy A T26 _) X h (c_X0_add_ l D cy ad T26 b28 23 y5 _ h.2.2.2 f_b28 hw) f_b28 cv_8_157 ⟨by dsimp only; omega, by dsimp only; omega, rfl, rfl, by dsimp only; omega, by dsimp only; omega⟩ rfl hl.1 rfl (Nat.le_of_ble_eq_true rfl) dX8_repeatLoop_99) (fun y30 T29 hw l_T29 H locs h => ?_)
  have f_a0 := l_T29.is f_a0
  have f_b1 := l_T29.is f_b1
  have f_b3 := l_T29.is f_b3
  have f_b6 := l_T29.is f_b6
  have f_b13 := l_T29.is f_b13
  have f_b18 := l_T29.is f_b18
  have f_b20 := l_T29.is f_b20
  have f_b23 := l_T29.is f_b23
  have f_b28 := l_T29.is f_b28
  have hle := hle.tr l_T29
  refine lv_pop X.1 X.2.1 dX8_repeatLoop_102 rfl ?_
  refine lv_aload_n X.1 X.2.1 dX8_repeatLoop_103 rfl (lv_at hl 7 rfl) ?_
  refine lv_iload X.1 X.2.1 dX8_repeatLoop_104 (lv_at hl 5 rfl) ?_
  refine lv_iload X.1 X.2.1 dX8_repeatLoop_106 (lv_at hl 1 rfl) ?_
  refine lv_aload_n X.1 X.2.1 dX8_repeatLoop_108 rfl (lv_at hl 7 rfl) ?_
  obtain ⟨b31, e_b31, hw⟩ := hw
  have f_b31 := h.2.2.2.rf (c := 8) (k := 3) f_a0 (by decide) (by decide) e_b31 (t := 0) rfl
  refine kp_get X h f_a0 fp_8_27.l (v := .ref b31) (congrArg va_rf e_b31) dX8_repeatLoop_109 ?_
  refine kp_calli X h (kp_runV (rm := { frames := 0, cells := 0, slots := 0, locals := 0 }) (mc := 0) (ms := 0) (rest := [.int y22, .int y8, .ref a0]) (Qc := fun A => kp_Qi D cy A T29 _) X h (c_X0_size l D cy ad T29 b31 _ h.2.2.2 f_b31 hw) f_b31 cv_8_237 ⟨by dsimp only; omega, by dsimp only; omega, rfl, rfl, by dsimp only; omega, by dsimp only; omega⟩ rfl hl.1 rfl (Nat.le_of_ble_eq_true rfl) dX8_repeatLoop_112) (fun y33 T32 hw l_T32 H locs h => ?_)
  have f_a0 := l_T32.is f_a0
  have f_b1 := l_T32.is f_b1
  have f_b3 := l_T32.is f_b3
  have f_b6 := l_T32.is f_b6
  have f_b13 := l_T32.is f_b13
  have f_b18 := l_T32.is f_b18
  have f_b20 := l_T32.is f_b20
  have f_b23 := l_T32.is f_b23
  have f_b28 := l_T32.is f_b28
  have f_b31 := l_T32.is f_b31
  have hle := hle.tr l_T32
  refine kp_callv X h (kp_runV (rm := { frames := 1, cells := 0, slots := 0, locals := 22 }) (mc := 0) (ms := 0) (rest := []) (Qc := fun A => kp_Qv D cy A T32 _) X h (c_X8_setRound l D cy ad T32 a0 y8 y22 y33 _ h.2.2.2 f_a0 hw) f_a0 cv_8_267 ⟨by dsimp only; omega, by dsimp only; omega, rfl, rfl, by dsimp only; omega, by dsimp only; omega⟩ rfl hl.1 rfl (Nat.le_of_ble_eq_true rfl) dX8_repeatLoop_115) (fun T34 hw l_T34 H locs h => ?_)
  have f_a0 := l_T34.is f_a0
  have f_b1 := l_T34.is f_b1
  have f_b3 := l_T34.is f_b3
  have f_b6 := l_T34.is f_b6
  have f_b13 := l_T34.is f_b13
  have f_b18 := l_T34.is f_b18
  have f_b20 := l_T34.is f_b20
  have f_b23 := l_T34.is f_b23
  have f_b28 := l_T34.is f_b28
  have f_b31 := l_T34.is f_b31
  have hle := hle.tr l_T34
  refine lv_aload_n X.1 X.2.1 dX8_repeatLoop_118 rfl (lv_at hl 7 rfl) ?_
  obtain ⟨b35, e_b35, hw⟩ := hw
  have f_b35 := h.2.2.2.rf (c := 8) (k := 0) f_a0 (by decide) (by decide) e_b35 (t := 9) rfl
  refine kp_get X h f_a0 ff_8_14.l (v := .ref b35) (congrArg va_rf e_b35) dX8_repeatLoop_119 ?_
  refine lv_bipush (v := 59) X.1 X.2.1 dX8_repeatLoop_122 (by decide) ?_
  refine kp_callv X h (kp_runV (rm := { frames := 6, cells := 0, slots := 0, locals := 134 }) (mc := 0) (ms := 0) (rest := []) (Qc := fun A => kp_Qv D cy A T34 _) X h (c_X9_expect l D cy ad T34 b35 59 _ h.2.2.2 f_b35 hw) f_b35 cv_8_90 ⟨by dsimp only; omega, by dsimp only; omega, rfl, rfl, by dsimp only; omega, by dsimp only; omega⟩ rfl hl.1 rfl (Nat.le_of_ble_eq_true rfl) dX8_repeatLoop_124) (fun T36 hw l_T36 H locs h => ?_)
  have f_a0 := l_T36.is f_a0
  have f_b1 := l_T36.is f_b1
  have f_b3 := l_T36.is f_b3
  have f_b6 := l_T36.is f_b6
  have f_b13 := l_T36.is f_b13
  have f_b18 := l_T36.is f_b18
  have f_b20 := l_T36.is f_b20
  have f_b23 := l_T36.is f_b23
  have f_b28 := l_T36.is f_b28
  have f_b31 := l_T36.is f_b31
  have f_b35 := l_T36.is f_b35
  have hle := hle.tr l_T36
  refine lv_iload X.1 X.2.1 dX8_repeatLoop_127 (lv_at hl 4 rfl) ?_
  refine lv_iload X.1 X.2.1 dX8_repeatLoop_129 (lv_at hl 3 rfl) ?_
  refine lv_iconst (v := (-1)) X.1 X.2.1 dX8_repeatLoop_131 (by decide) ?_
  refine lv_ixor X.1 X.2.1 dX8_repeatLoop_132 ?_
  refine lv_iand X.1 X.2.1 dX8_repeatLoop_133 ?_
  refine lv_bipush (v := (-2)) X.1 X.2.1 dX8_repeatLoop_134 (by decide) ?_
  refine lv_iand X.1 X.2.1 dX8_repeatLoop_136 ?_
  refine lv_topi (fun y37 e_y37 => ?_)
  have hw := hw y37 e_y37
  refine lv_istore (lv' := [(11, .int y37), (10, .int y27), (9, .int y22), (8, .int y17), (7, .int y12), (6, .int y10), (5, .int y8), (4, .int y5), (0, .ref a0), (1, .long w1), (3, .int x3)]) X.1 X.2.1 dX8_repeatLoop_137 hl (by decide) rfl (fun ls hl => ?_)
  refine lv_iload X.1 X.2.1 dX8_repeatLoop_139 (lv_at hl 5 rfl) ?_
  refine lv_iconst (v := 1) X.1 X.2.1 dX8_repeatLoop_141 (by decide) ?_
  refine lv_iload X.1 X.2.1 dX8_repeatLoop_142 (lv_at hl 3 rfl) ?_
  refine lv_ior X.1 X.2.1 dX8_repeatLoop_144 ?_
  refine lv_iand X.1 X.2.1 dX8_repeatLoop_145 ?_
  refine lv_if_eq (tgt := 156) X.1 X.2.1 dX8_repeatLoop_146 (by decide) (fun c39 => ?_) (fun c39 => ?_)
  · have hw := hw.1 c39
    exact j156 y10 y12 y37 T36 _ _ ls (lv_sub hl [5, 4, 0] rfl) h hle f_a0 hw
  · have hw := hw.2 c39
    refine lv_iload X.1 X.2.1 dX8_repeatLoop_149 (lv_at hl 0 rfl) ?_
    refine lv_iload X.1 X.2.1 dX8_repeatLoop_151 (lv_at hl 1 rfl) ?_
    refine lv_ior X.1 X.2.1 dX8_repeatLoop_153 ?_
    refine lv_topi (fun y38 e_y38 => ?_)
    have hw := hw y38 e_y38
    refine lv_istore (lv' := [(11, .int y38), (10, .int y27), (9, .int y22), (8, .int y17), (7, .int y12), (6, .int y10), (5, .int y8), (4, .int y5), (0, .ref a0), (1, .long w1), (3, .int x3)]) X.1 X.2.1 dX8_repeatLoop_154 hl (by decide) rfl (fun ls hl => ?_)
    exact j156 y10 y12 y38 T36 _ _ ls (lv_sub hl [5, 4, 0] rfl) h hle f_a0 hw
theorem dX8_loop_0 : decode cX8_loop 0 = .ok (.aload_n 0, 1) := by decide +kernel
theorem dX8_loop_1 : decode cX8_loop 1 = .ok (.getfield 14, 3) := by decide +kernel
theorem dX8_loop_4 : decode cX8_loop 4 = .ok (.getfield 66, 3) := by decide +kernel
theorem dX8_loop_7 : decode cX8_loop 7 = .ok (.lookupswitch 54 #[(305, 33), (306, 40), (321, 47)], 33) := by decide +kernel
theorem dX8_loop_40 : decode cX8_loop 40 = .ok (.aload_n 0, 1) := by decide +kernel
theorem dX8_loop_41 : decode cX8_loop 41 = .ok (.lload_n 1, 1) := by decide +kernel
theorem dX8_loop_42 : decode cX8_loop 42 = .ok (.iload_n 3, 1) := by decide +kernel
theorem dX8_loop_43 : decode cX8_loop 43 = .ok (.invokevirtual 252, 3) := by decide +kernel
theorem dX8_loop_46 : decode cX8_loop 46 = .ok (.ireturn, 1) := by decide +kernel
theorem dX8_loop_47 : decode cX8_loop 47 = .ok (.aload_n 0, 1) := by decide +kernel
theorem dX8_loop_48 : decode cX8_loop 48 = .ok (.lload_n 1, 1) := by decide +kernel
theorem dX8_loop_49 : decode cX8_loop 49 = .ok (.iload_n 3, 1) := by decide +kernel
theorem dX8_loop_50 : decode cX8_loop 50 = .ok (.invokevirtual 255, 3) := by decide +kernel
theorem dX8_loop_53 : decode cX8_loop 53 = .ok (.ireturn, 1) := by decide +kernel
theorem dX8_loop_54 : decode cX8_loop 54 = .ok (.aload_n 0, 1) := by decide +kernel
theorem dX8_loop_55 : decode cX8_loop 55 = .ok (.lload_n 1, 1) := by decide +kernel
theorem dX8_loop_56 : decode cX8_loop 56 = .ok (.iload_n 3, 1) := by decide +kernel
theorem dX8_loop_57 : decode cX8_loop 57 = .ok (.invokevirtual 258, 3) := by decide +kernel
theorem dX8_loop_60 : decode cX8_loop 60 = .ok (.ireturn, 1) := by decide +kernel
theorem dX8_loop_61 : decode cX8_loop 61 = .ok (.aload_n 0, 1) := by decide +kernel
theorem dX8_loop_62 : decode cX8_loop 62 = .ok (.getfield 14, 3) := by decide +kernel
theorem dX8_loop_65 : decode cX8_loop 65 = .ok (.invokevirtual 69, 3) := by decide +kernel
theorem dX8_loop_68 : decode cX8_loop 68 = .ok (.iconst 0, 1) := by decide +kernel
theorem dX8_loop_69 : decode cX8_loop 69 = .ok (.ireturn, 1) := by decide +kernel
def wX8_loop (B : Nat → kp_S → (Int32 → kp_S → Prop) → Prop) (a0 : Nat) (w1 : Int64) (x3 : Int32) (S : kp_S) (post : Int32 → kp_S → Prop) : Prop :=
  ∃ b1 : Nat, kp_R S 1600 a0 = some b1 ∧
  ∀ y2 : Int32, y2 = (kp_I S 1805 b1) →
  ((y2 = 305 →
  wX8_whileLoop B a0 w1 x3 S (fun y5 T4 =>
  post y5 T4)) ∧ (¬ y2 = 305 →
  ((y2 = 306 →
  wX8_eachLoop B a0 w1 x3 S (fun y8 T7 =>
  post y8 T7)) ∧ (¬ y2 = 306 →
  ((y2 = 321 →
  wX8_repeatLoop B a0 w1 x3 S (fun y11 T10 =>
  post y11 T10)) ∧ (¬ y2 = 321 →
  wX9_refuse b1 S (fun T12 =>
  post 0 T12)))))))
set_option maxHeartbeats 4000000 in
set_option maxRecDepth 100000 in
theorem c_X8_loop (l : Launch) (D : va_G) (cy : Nat → ClassId) (ad : (Nat → Nat) × (Nat → Nat)) (F L : Nat) (B : Nat → kp_S → (Int32 → kp_S → Prop) → Prop) (hB : ∀ (S : kp_S) (a0 : Nat) (post : Int32 → kp_S → Prop), kp_ok S → kp_is S a0 8 → B a0 S post → kp_M l yX8_block cX8_block 5 (some .int) { frames := F, cells := 0, slots := 0, locals := L } D cy ad S [.ref a0] 0 0 (fun A => kp_Qi D cy A S post)) (hF : 191 ≤ F) (hL : 4387 ≤ L) (S : kp_S) (a0 : Nat) (w1 : Int64) (x3 : Int32) (post : Int32 → kp_S → Prop) (hS : kp_ok S) (f_a0 : kp_is S a0 8) (hw : wX8_loop B a0 w1 x3 S post) : kp_M l yX8_loop cX8_loop 4 (some .int) { frames := F + 4, cells := 0, slots := 0, locals := L + 105 } D cy ad S [.ref a0, .long w1, .int x3] 0 0 (fun A => kp_Qi D cy A S post) := by
  refine kp_start (own := RX8) (by decide) rfl (Nat.le_of_ble_eq_true rfl) hS ?_
  intro p e s m below meth c A ls X hr hlocks hname h hl
  have hle : kp_le S S := kp_le.rf
  have hl : lv_has ls 4 [(0, .ref a0), (1, .long w1), (3, .int x3)] := hl
  unfold wX8_loop at hw
  have h : kp_H D cy A S s.heap s.heap [] := h
  revert h
  intro h
  refine lv_aload_n X.1 X.2.1 dX8_loop_0 rfl (lv_at hl 0 rfl) ?_
  obtain ⟨b1, e_b1, hw⟩ := hw
  have f_b1 := h.2.2.2.rf (c := 8) (k := 0) f_a0 (by decide) (by decide) e_b1 (t := 9) rfl
  refine kp_get X h f_a0 ff_8_14.l (v := .ref b1) (congrArg va_rf e_b1) dX8_loop_1 ?_
  refine kp_get X h f_b1 fp_8_66.l (v := .int (kp_I S 1805 b1)) rfl dX8_loop_4 ?_
  refine lv_topi (fun y2 e_y2 => ?_)
  have hw := hw y2 e_y2
  by_cases c3 : y2 = 305
  · have hw := hw.1 c3
    refine lv_lookup (off := 33) (tgt := 40) X.1 X.2.1 dX8_loop_7 (by decide) (by rw [c3]; decide) (by decide) ?_
    refine lv_aload_n X.1 X.2.1 dX8_loop_40 rfl (lv_at hl 0 rfl) ?_
    refine lv_lload_n X.1 X.2.1 dX8_loop_41 rfl (lv_at hl 1 rfl) ?_
    refine lv_iload_n X.1 X.2.1 dX8_loop_42 rfl (lv_at hl 2 rfl) ?_
    refine kp_calli X h (kp_runV (rm := { frames := F + 3, cells := 0, slots := 0, locals := L + 71 }) (mc := 0) (ms := 0) (rest := []) (Qc := fun A => kp_Qi D cy A S _) X h (c_X8_whileLoop l D cy ad F L B hB hF hL S a0 w1 x3 _ h.2.2.2 f_a0 hw) f_a0 cv_8_252 ⟨by dsimp only; omega, by dsimp only; omega, rfl, rfl, by dsimp only; omega, by dsimp only; omega⟩ rfl hl.1 rfl (Nat.le_of_ble_eq_true rfl) dX8_loop_43) (fun y5 T4 hw l_T4 H locs h => ?_)
    have f_a0 := l_T4.is f_a0
    have f_b1 := l_T4.is f_b1
    have hle := hle.tr l_T4
    exact kp_reti X hr hlocks h hle rfl hw dX8_loop_46
  have hw := hw.2 c3
  by_cases c6 : y2 = 306
  · have hw := hw.1 c6
    refine lv_lookup (off := 40) (tgt := 47) X.1 X.2.1 dX8_loop_7 (by decide) (by rw [c6]; decide) (by decide) ?_
    refine lv_aload_n X.1 X.2.1 dX8_loop_47 rfl (lv_at hl 0 rfl) ?_
    refine lv_lload_n X.1 X.2.1 dX8_loop_48 rfl (lv_at hl 1 rfl) ?_
    refine lv_iload_n X.1 X.2.1 dX8_loop_49 rfl (lv_at hl 2 rfl) ?_
    refine kp_calli X h (kp_runV (rm := { frames := F + 3, cells := 0, slots := 0, locals := L + 71 }) (mc := 0) (ms := 0) (rest := []) (Qc := fun A => kp_Qi D cy A S _) X h (c_X8_eachLoop l D cy ad F L B hB hF hL S a0 w1 x3 _ h.2.2.2 f_a0 hw) f_a0 cv_8_255 ⟨by dsimp only; omega, by dsimp only; omega, rfl, rfl, by dsimp only; omega, by dsimp only; omega⟩ rfl hl.1 rfl (Nat.le_of_ble_eq_true rfl) dX8_loop_50) (fun y8 T7 hw l_T7 H locs h => ?_)
    have f_a0 := l_T7.is f_a0
    have f_b1 := l_T7.is f_b1
    have hle := hle.tr l_T7
    exact kp_reti X hr hlocks h hle rfl hw dX8_loop_53
  have hw := hw.2 c6
  by_cases c9 : y2 = 321
  · have hw := hw.1 c9
    refine lv_lookup (off := 47) (tgt := 54) X.1 X.2.1 dX8_loop_7 (by decide) (by rw [c9]; decide) (by decide) ?_
    refine lv_aload_n X.1 X.2.1 dX8_loop_54 rfl (lv_at hl 0 rfl) ?_
    refine lv_lload_n X.1 X.2.1 dX8_loop_55 rfl (lv_at hl 1 rfl) ?_
    refine lv_iload_n X.1 X.2.1 dX8_loop_56 rfl (lv_at hl 2 rfl) ?_
    refine kp_calli X h (kp_runV (rm := { frames := F + 3, cells := 0, slots := 0, locals := L + 71 }) (mc := 0) (ms := 0) (rest := []) (Qc := fun A => kp_Qi D cy A S _) X h (c_X8_repeatLoop l D cy ad F L B hB hF hL S a0 w1 x3 _ h.2.2.2 f_a0 hw) f_a0 cv_8_258 ⟨by dsimp only; omega, by dsimp only; omega, rfl, rfl, by dsimp only; omega, by dsimp only; omega⟩ rfl hl.1 rfl (Nat.le_of_ble_eq_true rfl) dX8_loop_57) (fun y11 T10 hw l_T10 H locs h => ?_)
    have f_a0 := l_T10.is f_a0
    have f_b1 := l_T10.is f_b1
    have hle := hle.tr l_T10
    exact kp_reti X hr hlocks h hle rfl hw dX8_loop_60
  have hw := hw.2 c9
  refine lv_lookup (off := 54) (tgt := 61) X.1 X.2.1 dX8_loop_7 (by decide) (by show Op.lookupswitch.offset [(305, 33), (306, 40), (321, 47)] _ _ = _; rw [lv_osw (a := 305) c3 (by decide), lv_osw (a := 306) c6 (by decide), lv_osw (a := 321) c9 (by decide)]; rfl) (by decide) ?_
  refine lv_aload_n X.1 X.2.1 dX8_loop_61 rfl (lv_at hl 0 rfl) ?_
  refine kp_get X h f_a0 ff_8_14.l (v := .ref b1) (congrArg va_rf e_b1) dX8_loop_62 ?_
  refine kp_callv X h (kp_runV (rm := { frames := 1, cells := 0, slots := 0, locals := 21 }) (mc := 0) (ms := 0) (rest := []) (Qc := fun A => kp_Qv D cy A S _) X h (c_X9_refuse l D cy ad S b1 _ h.2.2.2 f_b1 hw) f_b1 cv_8_69 ⟨by dsimp only; omega, by dsimp only; omega, rfl, rfl, by dsimp only; omega, by dsimp only; omega⟩ rfl hl.1 rfl (Nat.le_of_ble_eq_true rfl) dX8_loop_65) (fun T12 hw l_T12 H locs h => ?_)
  have f_a0 := l_T12.is f_a0
  have f_b1 := l_T12.is f_b1
  have hle := hle.tr l_T12
  refine lv_iconst (v := 0) X.1 X.2.1 dX8_loop_68 (by decide) ?_
  exact kp_reti X hr hlocks h hle rfl hw dX8_loop_69
theorem dX8_named_0 : decode cX8_named 0 = .ok (.aload_n 0, 1) := by decide +kernel
theorem dX8_named_1 : decode cX8_named 1 = .ok (.getfield 14, 3) := by decide +kernel
theorem dX8_named_4 : decode cX8_named 4 = .ok (.getfield 78, 3) := by decide +kernel
theorem dX8_named_7 : decode cX8_named 7 = .ok (.lstore_n 2, 1) := by decide +kernel
theorem dX8_named_8 : decode cX8_named 8 = .ok (.aload_n 0, 1) := by decide +kernel
theorem dX8_named_9 : decode cX8_named 9 = .ok (.getfield 14, 3) := by decide +kernel
theorem dX8_named_12 : decode cX8_named 12 = .ok (.invokevirtual 75, 3) := by decide +kernel
theorem dX8_named_15 : decode cX8_named 15 = .ok (.aload_n 0, 1) := by decide +kernel
theorem dX8_named_16 : decode cX8_named 16 = .ok (.getfield 14, 3) := by decide +kernel
theorem dX8_named_19 : decode cX8_named 19 = .ok (.getfield 66, 3) := by decide +kernel
theorem dX8_named_22 : decode cX8_named 22 = .ok (.lookupswitch 102 #[(40, 48), (58, 79), (61, 34)], 34) := by decide +kernel
theorem dX8_named_56 : decode cX8_named 56 = .ok (.aload_n 0, 1) := by decide +kernel
theorem dX8_named_57 : decode cX8_named 57 = .ok (.aload_n 0, 1) := by decide +kernel
theorem dX8_named_58 : decode cX8_named 58 = .ok (.getfield 23, 3) := by decide +kernel
theorem dX8_named_61 : decode cX8_named 61 = .ok (.lload_n 2, 1) := by decide +kernel
theorem dX8_named_62 : decode cX8_named 62 = .ok (.iload_n 1, 1) := by decide +kernel
theorem dX8_named_63 : decode cX8_named 63 = .ok (.invokevirtual 201, 3) := by decide +kernel
theorem dX8_named_66 : decode cX8_named 66 = .ok (.invokevirtual 204, 3) := by decide +kernel
theorem dX8_named_69 : decode cX8_named 69 = .ok (.ireturn, 1) := by decide +kernel
theorem dX8_named_70 : decode cX8_named 70 = .ok (.aload_n 0, 1) := by decide +kernel
theorem dX8_named_71 : decode cX8_named 71 = .ok (.getfield 36, 3) := by decide +kernel
theorem dX8_named_74 : decode cX8_named 74 = .ok (.lload_n 2, 1) := by decide +kernel
theorem dX8_named_75 : decode cX8_named 75 = .ok (.iload_n 1, 1) := by decide +kernel
theorem dX8_named_76 : decode cX8_named 76 = .ok (.invokevirtual 207, 3) := by decide +kernel
theorem dX8_named_79 : decode cX8_named 79 = .ok (.aload_n 0, 1) := by decide +kernel
theorem dX8_named_80 : decode cX8_named 80 = .ok (.getfield 27, 3) := by decide +kernel
theorem dX8_named_83 : decode cX8_named 83 = .ok (.bipush 26, 2) := by decide +kernel
theorem dX8_named_85 : decode cX8_named 85 = .ok (.iconst 1, 1) := by decide +kernel
theorem dX8_named_86 : decode cX8_named 86 = .ok (.invokevirtual 157, 3) := by decide +kernel
theorem dX8_named_89 : decode cX8_named 89 = .ok (.pop, 1) := by decide +kernel
theorem dX8_named_90 : decode cX8_named 90 = .ok (.aload_n 0, 1) := by decide +kernel
theorem dX8_named_91 : decode cX8_named 91 = .ok (.getfield 14, 3) := by decide +kernel
theorem dX8_named_94 : decode cX8_named 94 = .ok (.bipush 59, 2) := by decide +kernel
theorem dX8_named_96 : decode cX8_named 96 = .ok (.invokevirtual 90, 3) := by decide +kernel
theorem dX8_named_99 : decode cX8_named 99 = .ok (.iconst 5, 1) := by decide +kernel
theorem dX8_named_100 : decode cX8_named 100 = .ok (.ireturn, 1) := by decide +kernel
theorem dX8_named_101 : decode cX8_named 101 = .ok (.aload_n 0, 1) := by decide +kernel
theorem dX8_named_102 : decode cX8_named 102 = .ok (.getfield 23, 3) := by decide +kernel
theorem dX8_named_105 : decode cX8_named 105 = .ok (.lload_n 2, 1) := by decide +kernel
theorem dX8_named_106 : decode cX8_named 106 = .ok (.iload_n 1, 1) := by decide +kernel
theorem dX8_named_107 : decode cX8_named 107 = .ok (.invokevirtual 210, 3) := by decide +kernel
theorem dX8_named_110 : decode cX8_named 110 = .ok (.aload_n 0, 1) := by decide +kernel
theorem dX8_named_111 : decode cX8_named 111 = .ok (.getfield 14, 3) := by decide +kernel
theorem dX8_named_114 : decode cX8_named 114 = .ok (.invokevirtual 75, 3) := by decide +kernel
theorem dX8_named_117 : decode cX8_named 117 = .ok (.aload_n 0, 1) := by decide +kernel
theorem dX8_named_118 : decode cX8_named 118 = .ok (.lload_n 2, 1) := by decide +kernel
theorem dX8_named_119 : decode cX8_named 119 = .ok (.iload_n 1, 1) := by decide +kernel
theorem dX8_named_120 : decode cX8_named 120 = .ok (.invokevirtual 185, 3) := by decide +kernel
theorem dX8_named_123 : decode cX8_named 123 = .ok (.ireturn, 1) := by decide +kernel
theorem dX8_named_124 : decode cX8_named 124 = .ok (.aload_n 0, 1) := by decide +kernel
theorem dX8_named_125 : decode cX8_named 125 = .ok (.getfield 14, 3) := by decide +kernel
theorem dX8_named_128 : decode cX8_named 128 = .ok (.invokevirtual 69, 3) := by decide +kernel
theorem dX8_named_131 : decode cX8_named 131 = .ok (.iconst 0, 1) := by decide +kernel
theorem dX8_named_132 : decode cX8_named 132 = .ok (.ireturn, 1) := by decide +kernel
def wX8_named (B : Nat → kp_S → (Int32 → kp_S → Prop) → Prop) (a0 : Nat) (x1 : Int32) (S : kp_S) (post : Int32 → kp_S → Prop) : Prop :=
  ∃ b1 : Nat, kp_R S 1600 a0 = some b1 ∧
  ∀ z2 : Int64, z2 = (kp_J S 1808 b1) →
  wX9_advance b1 S (fun T3 =>
  ∃ b4 : Nat, kp_R T3 1600 a0 = some b4 ∧
  ∀ y5 : Int32, y5 = (kp_I T3 1805 b4) →
  ((y5 = 40 →
  ∃ b7 : Nat, kp_R T3 1602 a0 = some b7 ∧
  wX2_callOf_t b7 z2 x1 T3 (fun T8 =>
  ∃ b9 : Nat, kp_R T8 1603 a0 = some b9 ∧
  wX0_add_ b9 26 1 T8 (fun y11 T10 =>
  ∃ b12 : Nat, kp_R T10 1600 a0 = some b12 ∧
  wX9_expect b12 59 T10 (fun T13 =>
  post 5 T13)))) ∧ (¬ y5 = 40 →
  ((y5 = 58 →
  ∃ b15 : Nat, kp_R T3 1601 a0 = some b15 ∧
  wX5_tellLabel b15 z2 x1 T3 (fun T16 =>
  ∃ b17 : Nat, kp_R T16 1600 a0 = some b17 ∧
  wX9_advance b17 T16 (fun T18 =>
  wX8_loop B a0 z2 x1 T18 (fun y20 T19 =>
  post y20 T19)))) ∧ (¬ y5 = 58 →
  ((y5 = 61 →
  ∃ b22 : Nat, kp_R T3 1601 a0 = some b22 ∧
  wX5_slotOf b22 z2 x1 T3 (fun y24 T23 =>
  wX8_assign a0 y24 T23 (fun y26 T25 =>
  post y26 T25))) ∧ (¬ y5 = 61 →
  wX9_refuse b4 T3 (fun T27 =>
  post 0 T27))))))))
set_option maxHeartbeats 4000000 in
set_option maxRecDepth 100000 in
theorem c_X8_named (l : Launch) (D : va_G) (cy : Nat → ClassId) (ad : (Nat → Nat) × (Nat → Nat)) (F L : Nat) (B : Nat → kp_S → (Int32 → kp_S → Prop) → Prop) (hB : ∀ (S : kp_S) (a0 : Nat) (post : Int32 → kp_S → Prop), kp_ok S → kp_is S a0 8 → B a0 S post → kp_M l yX8_block cX8_block 5 (some .int) { frames := F, cells := 0, slots := 0, locals := L } D cy ad S [.ref a0] 0 0 (fun A => kp_Qi D cy A S post)) (hF : 191 ≤ F) (hL : 4387 ≤ L) (S : kp_S) (a0 : Nat) (x1 : Int32) (post : Int32 → kp_S → Prop) (hS : kp_ok S) (f_a0 : kp_is S a0 8) (hw : wX8_named B a0 x1 S post) : kp_M l yX8_named cX8_named 4 (some .int) { frames := F + 5, cells := 0, slots := 0, locals := L + 128 } D cy ad S [.ref a0, .int x1] 0 0 (fun A => kp_Qi D cy A S post) := by
  refine kp_start (own := RX8) (by decide) rfl (Nat.le_of_ble_eq_true rfl) hS ?_
  intro p e s m below meth c A ls X hr hlocks hname h hl
  have hle : kp_le S S := kp_le.rf
  have hl : lv_has ls 4 [(0, .ref a0), (1, .int x1)] := hl
  unfold wX8_named at hw
  have h : kp_H D cy A S s.heap s.heap [] := h
  revert h
  intro h
  refine lv_aload_n X.1 X.2.1 dX8_named_0 rfl (lv_at hl 0 rfl) ?_
  obtain ⟨b1, e_b1, hw⟩ := hw
  have f_b1 := h.2.2.2.rf (c := 8) (k := 0) f_a0 (by decide) (by decide) e_b1 (t := 9) rfl
  refine kp_get X h f_a0 ff_8_14.l (v := .ref b1) (congrArg va_rf e_b1) dX8_named_1 ?_
  refine kp_get X h f_b1 fp_8_78.l (v := .long (kp_J S 1808 b1)) rfl dX8_named_4 ?_
  refine lv_topl (fun z2 e_z2 => ?_)
  have hw := hw z2 e_z2
  refine lv_lstore_n (lv' := [(2, .long z2), (0, .ref a0), (1, .int x1)]) X.1 X.2.1 dX8_named_7 rfl hl (by decide) rfl (fun ls hl => ?_)
  refine lv_aload_n X.1 X.2.1 dX8_named_8 rfl (lv_at hl 1 rfl) ?_
  refine kp_get X h f_a0 ff_8_14.l (v := .ref b1) (congrArg va_rf e_b1) dX8_named_9 ?_
  refine kp_callv X h (kp_runV (rm := { frames := 5, cells := 0, slots := 0, locals := 113 }) (mc := 0) (ms := 0) (rest := []) (Qc := fun A => kp_Qv D cy A S _) X h (c_X9_advance l D cy ad S b1 _ h.2.2.2 f_b1 hw) f_b1 cv_8_75 ⟨by dsimp only; omega, by dsimp only; omega, rfl, rfl, by dsimp only; omega, by dsimp only; omega⟩ rfl hl.1 rfl (Nat.le_of_ble_eq_true rfl) dX8_named_12) (fun T3 hw l_T3 H locs h => ?_)
  have f_a0 := l_T3.is f_a0
  have f_b1 := l_T3.is f_b1
  have hle := hle.tr l_T3
  refine lv_aload_n X.1 X.2.1 dX8_named_15 rfl (lv_at hl 1 rfl) ?_
  obtain ⟨b4, e_b4, hw⟩ := hw
  have f_b4 := h.2.2.2.rf (c := 8) (k := 0) f_a0 (by decide) (by decide) e_b4 (t := 9) rfl
  refine kp_get X h f_a0 ff_8_14.l (v := .ref b4) (congrArg va_rf e_b4) dX8_named_16 ?_
  refine kp_get X h f_b4 fp_8_66.l (v := .int (kp_I T3 1805 b4)) rfl dX8_named_19 ?_
  refine lv_topi (fun y5 e_y5 => ?_)
  have hw := hw y5 e_y5
  by_cases c6 : y5 = 40
  · have hw := hw.1 c6
    refine lv_lookup (off := 48) (tgt := 70) X.1 X.2.1 dX8_named_22 (by decide) (by rw [c6]; decide) (by decide) ?_
    refine lv_aload_n X.1 X.2.1 dX8_named_70 rfl (lv_at hl 1 rfl) ?_
    obtain ⟨b7, e_b7, hw⟩ := hw
    have f_b7 := h.2.2.2.rf (c := 8) (k := 2) f_a0 (by decide) (by decide) e_b7 (t := 2) rfl
    refine kp_get X h f_a0 ff_8_36.l (v := .ref b7) (congrArg va_rf e_b7) dX8_named_71 ?_
    refine lv_lload_n X.1 X.2.1 dX8_named_74 rfl (lv_at hl 0 rfl) ?_
    refine lv_iload_n X.1 X.2.1 dX8_named_75 rfl (lv_at hl 2 rfl) ?_
    refine kp_callv X h (kp_runV (rm := { frames := 190, cells := 0, slots := 0, locals := 4362 }) (mc := 0) (ms := 0) (rest := []) (Qc := fun A => kp_Qv D cy A T3 _) X h (c_X2_callOf_t l D cy ad T3 b7 z2 x1 _ h.2.2.2 f_b7 hw) f_b7 cv_8_207 ⟨by dsimp only; omega, by dsimp only; omega, rfl, rfl, by dsimp only; omega, by dsimp only; omega⟩ rfl hl.1 rfl (Nat.le_of_ble_eq_true rfl) dX8_named_76) (fun T8 hw l_T8 H locs h => ?_)
    have f_a0 := l_T8.is f_a0
    have f_b1 := l_T8.is f_b1
    have f_b4 := l_T8.is f_b4
    have f_b7 := l_T8.is f_b7
    have hle := hle.tr l_T8
    refine lv_aload_n X.1 X.2.1 dX8_named_79 rfl (lv_at hl 1 rfl) ?_
    obtain ⟨b9, e_b9, hw⟩ := hw
    have f_b9 := h.2.2.2.rf (c := 8) (k := 3) f_a0 (by decide) (by decide) e_b9 (t := 0) rfl
    refine kp_get X h f_a0 fp_8_27.l (v := .ref b9) (congrArg va_rf e_b9) dX8_named_80 ?_
    refine lv_bipush (v := 26) X.1 X.2.1 dX8_named_83 (by decide) ?_
    refine lv_iconst (v := 1) X.1 X.2.1 dX8_named_85 (by decide) ?_
    refine kp_calli X h (kp_runV (rm := { frames := 1, cells := 0, slots := 0, locals := 22 }) (mc := 0) (ms := 0) (rest := []) (Qc := fun A => kp_Qi D cy A T8 _) X h (c_X0_add_ l D cy ad T8 b9 26 1 _ h.2.2.2 f_b9 hw) f_b9 cv_8_157 ⟨by dsimp only; omega, by dsimp only; omega, rfl, rfl, by dsimp only; omega, by dsimp only; omega⟩ rfl hl.1 rfl (Nat.le_of_ble_eq_true rfl) dX8_named_86) (fun y11 T10 hw l_T10 H locs h => ?_)
    have f_a0 := l_T10.is f_a0
    have f_b1 := l_T10.is f_b1
    have f_b4 := l_T10.is f_b4
    have f_b7 := l_T10.is f_b7
    have f_b9 := l_T10.is f_b9
    have hle := hle.tr l_T10
    refine lv_pop X.1 X.2.1 dX8_named_89 rfl ?_
    refine lv_aload_n X.1 X.2.1 dX8_named_90 rfl (lv_at hl 1 rfl) ?_
    obtain ⟨b12, e_b12, hw⟩ := hw
    have f_b12 := h.2.2.2.rf (c := 8) (k := 0) f_a0 (by decide) (by decide) e_b12 (t := 9) rfl
    refine kp_get X h f_a0 ff_8_14.l (v := .ref b12) (congrArg va_rf e_b12) dX8_named_91 ?_
    refine lv_bipush (v := 59) X.1 X.2.1 dX8_named_94 (by decide) ?_
    refine kp_callv X h (kp_runV (rm := { frames := 6, cells := 0, slots := 0, locals := 134 }) (mc := 0) (ms := 0) (rest := []) (Qc := fun A => kp_Qv D cy A T10 _) X h (c_X9_expect l D cy ad T10 b12 59 _ h.2.2.2 f_b12 hw) f_b12 cv_8_90 ⟨by dsimp only; omega, by dsimp only; omega, rfl, rfl, by dsimp only; omega, by dsimp only; omega⟩ rfl hl.1 rfl (Nat.le_of_ble_eq_true rfl) dX8_named_96) (fun T13 hw l_T13 H locs h => ?_)
    have f_a0 := l_T13.is f_a0
    have f_b1 := l_T13.is f_b1
    have f_b4 := l_T13.is f_b4
    have f_b7 := l_T13.is f_b7
    have f_b9 := l_T13.is f_b9
    have f_b12 := l_T13.is f_b12
    have hle := hle.tr l_T13
    refine lv_iconst (v := 5) X.1 X.2.1 dX8_named_99 (by decide) ?_
    exact kp_reti X hr hlocks h hle rfl hw dX8_named_100
  have hw := hw.2 c6
  by_cases c14 : y5 = 58
  · have hw := hw.1 c14
    refine lv_lookup (off := 79) (tgt := 101) X.1 X.2.1 dX8_named_22 (by decide) (by rw [c14]; decide) (by decide) ?_
    refine lv_aload_n X.1 X.2.1 dX8_named_101 rfl (lv_at hl 1 rfl) ?_
    obtain ⟨b15, e_b15, hw⟩ := hw
    have f_b15 := h.2.2.2.rf (c := 8) (k := 1) f_a0 (by decide) (by decide) e_b15 (t := 5) rfl
    refine kp_get X h f_a0 ff_8_23.l (v := .ref b15) (congrArg va_rf e_b15) dX8_named_102 ?_
    refine lv_lload_n X.1 X.2.1 dX8_named_105 rfl (lv_at hl 0 rfl) ?_
    refine lv_iload_n X.1 X.2.1 dX8_named_106 rfl (lv_at hl 2 rfl) ?_
    refine kp_callv X h (kp_runV (rm := { frames := 2, cells := 0, slots := 0, locals := 44 }) (mc := 0) (ms := 0) (rest := []) (Qc := fun A => kp_Qv D cy A T3 _) X h (c_X5_tellLabel l D cy ad T3 b15 z2 x1 _ h.2.2.2 f_b15 hw) f_b15 cv_8_210 ⟨by dsimp only; omega, by dsimp only; omega, rfl, rfl, by dsimp only; omega, by dsimp only; omega⟩ rfl hl.1 rfl (Nat.le_of_ble_eq_true rfl) dX8_named_107) (fun T16 hw l_T16 H locs h => ?_)
    have f_a0 := l_T16.is f_a0
    have f_b1 := l_T16.is f_b1
    have f_b4 := l_T16.is f_b4
    have f_b15 := l_T16.is f_b15
    have hle := hle.tr l_T16
    refine lv_aload_n X.1 X.2.1 dX8_named_110 rfl (lv_at hl 1 rfl) ?_
    obtain ⟨b17, e_b17, hw⟩ := hw
    have f_b17 := h.2.2.2.rf (c := 8) (k := 0) f_a0 (by decide) (by decide) e_b17 (t := 9) rfl
    refine kp_get X h f_a0 ff_8_14.l (v := .ref b17) (congrArg va_rf e_b17) dX8_named_111 ?_
    refine kp_callv X h (kp_runV (rm := { frames := 5, cells := 0, slots := 0, locals := 113 }) (mc := 0) (ms := 0) (rest := []) (Qc := fun A => kp_Qv D cy A T16 _) X h (c_X9_advance l D cy ad T16 b17 _ h.2.2.2 f_b17 hw) f_b17 cv_8_75 ⟨by dsimp only; omega, by dsimp only; omega, rfl, rfl, by dsimp only; omega, by dsimp only; omega⟩ rfl hl.1 rfl (Nat.le_of_ble_eq_true rfl) dX8_named_114) (fun T18 hw l_T18 H locs h => ?_)
    have f_a0 := l_T18.is f_a0
    have f_b1 := l_T18.is f_b1
    have f_b4 := l_T18.is f_b4
    have f_b15 := l_T18.is f_b15
    have f_b17 := l_T18.is f_b17
    have hle := hle.tr l_T18
    refine lv_aload_n X.1 X.2.1 dX8_named_117 rfl (lv_at hl 1 rfl) ?_
    refine lv_lload_n X.1 X.2.1 dX8_named_118 rfl (lv_at hl 0 rfl) ?_
    refine lv_iload_n X.1 X.2.1 dX8_named_119 rfl (lv_at hl 2 rfl) ?_
    refine kp_calli X h (kp_runV (rm := { frames := F + 4, cells := 0, slots := 0, locals := L + 105 }) (mc := 0) (ms := 0) (rest := []) (Qc := fun A => kp_Qi D cy A T18 _) X h (c_X8_loop l D cy ad F L B hB hF hL T18 a0 z2 x1 _ h.2.2.2 f_a0 hw) f_a0 cv_8_185 ⟨by dsimp only; omega, by dsimp only; omega, rfl, rfl, by dsimp only; omega, by dsimp only; omega⟩ rfl hl.1 rfl (Nat.le_of_ble_eq_true rfl) dX8_named_120) (fun y20 T19 hw l_T19 H locs h => ?_)
    have f_a0 := l_T19.is f_a0
    have f_b1 := l_T19.is f_b1
    have f_b4 := l_T19.is f_b4
    have f_b15 := l_T19.is f_b15
    have f_b17 := l_T19.is f_b17
    have hle := hle.tr l_T19
    exact kp_reti X hr hlocks h hle rfl hw dX8_named_123
  have hw := hw.2 c14
  by_cases c21 : y5 = 61
  · have hw := hw.1 c21
    refine lv_lookup (off := 34) (tgt := 56) X.1 X.2.1 dX8_named_22 (by decide) (by rw [c21]; decide) (by decide) ?_
    refine lv_aload_n X.1 X.2.1 dX8_named_56 rfl (lv_at hl 1 rfl) ?_
    refine lv_aload_n X.1 X.2.1 dX8_named_57 rfl (lv_at hl 1 rfl) ?_
    obtain ⟨b22, e_b22, hw⟩ := hw
    have f_b22 := h.2.2.2.rf (c := 8) (k := 1) f_a0 (by decide) (by decide) e_b22 (t := 5) rfl
    refine kp_get X h f_a0 ff_8_23.l (v := .ref b22) (congrArg va_rf e_b22) dX8_named_58 ?_
    refine lv_lload_n X.1 X.2.1 dX8_named_61 rfl (lv_at hl 0 rfl) ?_
    refine lv_iload_n X.1 X.2.1 dX8_named_62 rfl (lv_at hl 2 rfl) ?_
    refine kp_calli X h (kp_runV (rm := { frames := 1, cells := 0, slots := 0, locals := 23 }) (mc := 0) (ms := 0) (rest := [.ref a0]) (Qc := fun A => kp_Qi D cy A T3 _) X h (c_X5_slotOf l D cy ad T3 b22 z2 x1 _ h.2.2.2 f_b22 hw) f_b22 cv_8_201 ⟨by dsimp only; omega, by dsimp only; omega, rfl, rfl, by dsimp only; omega, by dsimp only; omega⟩ rfl hl.1 rfl (Nat.le_of_ble_eq_true rfl) dX8_named_63) (fun y24 T23 hw l_T23 H locs h => ?_)
    have f_a0 := l_T23.is f_a0
    have f_b1 := l_T23.is f_b1
    have f_b4 := l_T23.is f_b4
    have f_b22 := l_T23.is f_b22
    have hle := hle.tr l_T23
    refine kp_calli X h (kp_runV (rm := { frames := 190, cells := 0, slots := 0, locals := 4362 }) (mc := 0) (ms := 0) (rest := []) (Qc := fun A => kp_Qi D cy A T23 _) X h (c_X8_assign l D cy ad T23 a0 y24 _ h.2.2.2 f_a0 hw) f_a0 cv_8_204 ⟨by dsimp only; omega, by dsimp only; omega, rfl, rfl, by dsimp only; omega, by dsimp only; omega⟩ rfl hl.1 rfl (Nat.le_of_ble_eq_true rfl) dX8_named_66) (fun y26 T25 hw l_T25 H locs h => ?_)
    have f_a0 := l_T25.is f_a0
    have f_b1 := l_T25.is f_b1
    have f_b4 := l_T25.is f_b4
    have f_b22 := l_T25.is f_b22
    have hle := hle.tr l_T25
    exact kp_reti X hr hlocks h hle rfl hw dX8_named_69
  have hw := hw.2 c21
  refine lv_lookup (off := 102) (tgt := 124) X.1 X.2.1 dX8_named_22 (by decide) (by show Op.lookupswitch.offset [(40, 48), (58, 79), (61, 34)] _ _ = _; rw [lv_osw (a := 40) c6 (by decide), lv_osw (a := 58) c14 (by decide), lv_osw (a := 61) c21 (by decide)]; rfl) (by decide) ?_
  refine lv_aload_n X.1 X.2.1 dX8_named_124 rfl (lv_at hl 1 rfl) ?_
  refine kp_get X h f_a0 ff_8_14.l (v := .ref b4) (congrArg va_rf e_b4) dX8_named_125 ?_
  refine kp_callv X h (kp_runV (rm := { frames := 1, cells := 0, slots := 0, locals := 21 }) (mc := 0) (ms := 0) (rest := []) (Qc := fun A => kp_Qv D cy A T3 _) X h (c_X9_refuse l D cy ad T3 b4 _ h.2.2.2 f_b4 hw) f_b4 cv_8_69 ⟨by dsimp only; omega, by dsimp only; omega, rfl, rfl, by dsimp only; omega, by dsimp only; omega⟩ rfl hl.1 rfl (Nat.le_of_ble_eq_true rfl) dX8_named_128) (fun T27 hw l_T27 H locs h => ?_)
  have f_a0 := l_T27.is f_a0
  have f_b1 := l_T27.is f_b1
  have f_b4 := l_T27.is f_b4
  have hle := hle.tr l_T27
  refine lv_iconst (v := 0) X.1 X.2.1 dX8_named_131 (by decide) ?_
  exact kp_reti X hr hlocks h hle rfl hw dX8_named_132
theorem dX8_ifElse_0 : decode cX8_ifElse 0 = .ok (.aload_n 0, 1) := by decide +kernel
theorem dX8_ifElse_1 : decode cX8_ifElse 1 = .ok (.getfield 14, 3) := by decide +kernel
theorem dX8_ifElse_4 : decode cX8_ifElse 4 = .ok (.invokevirtual 75, 3) := by decide +kernel
theorem dX8_ifElse_7 : decode cX8_ifElse 7 = .ok (.aload_n 0, 1) := by decide +kernel
theorem dX8_ifElse_8 : decode cX8_ifElse 8 = .ok (.getfield 36, 3) := by decide +kernel
theorem dX8_ifElse_11 : decode cX8_ifElse 11 = .ok (.invokevirtual 213, 3) := by decide +kernel
theorem dX8_ifElse_14 : decode cX8_ifElse 14 = .ok (.invokestatic 216, 3) := by decide +kernel
theorem dX8_ifElse_17 : decode cX8_ifElse 17 = .ok (.istore_n 1, 1) := by decide +kernel
theorem dX8_ifElse_18 : decode cX8_ifElse 18 = .ok (.aload_n 0, 1) := by decide +kernel
theorem dX8_ifElse_19 : decode cX8_ifElse 19 = .ok (.getfield 27, 3) := by decide +kernel
theorem dX8_ifElse_22 : decode cX8_ifElse 22 = .ok (.bipush 23, 2) := by decide +kernel
theorem dX8_ifElse_24 : decode cX8_ifElse 24 = .ok (.iconst 0, 1) := by decide +kernel
theorem dX8_ifElse_25 : decode cX8_ifElse 25 = .ok (.invokevirtual 157, 3) := by decide +kernel
theorem dX8_ifElse_28 : decode cX8_ifElse 28 = .ok (.istore_n 2, 1) := by decide +kernel
theorem dX8_ifElse_29 : decode cX8_ifElse 29 = .ok (.aload_n 0, 1) := by decide +kernel
theorem dX8_ifElse_30 : decode cX8_ifElse 30 = .ok (.invokevirtual 120, 3) := by decide +kernel
theorem dX8_ifElse_33 : decode cX8_ifElse 33 = .ok (.istore_n 3, 1) := by decide +kernel
theorem dX8_ifElse_34 : decode cX8_ifElse 34 = .ok (.aload_n 0, 1) := by decide +kernel
theorem dX8_ifElse_35 : decode cX8_ifElse 35 = .ok (.getfield 14, 3) := by decide +kernel
theorem dX8_ifElse_38 : decode cX8_ifElse 38 = .ok (.getfield 66, 3) := by decide +kernel
theorem dX8_ifElse_41 : decode cX8_ifElse 41 = .ok (.sipush 304, 3) := by decide +kernel
theorem dX8_ifElse_44 : decode cX8_ifElse 44 = .ok (.if_icmp .eq 26, 3) := by decide +kernel
theorem dX8_ifElse_47 : decode cX8_ifElse 47 = .ok (.aload_n 0, 1) := by decide +kernel
theorem dX8_ifElse_48 : decode cX8_ifElse 48 = .ok (.getfield 27, 3) := by decide +kernel
theorem dX8_ifElse_51 : decode cX8_ifElse 51 = .ok (.iload_n 2, 1) := by decide +kernel
theorem dX8_ifElse_52 : decode cX8_ifElse 52 = .ok (.iconst 1, 1) := by decide +kernel
theorem dX8_ifElse_53 : decode cX8_ifElse 53 = .ok (.iadd, 1) := by decide +kernel
theorem dX8_ifElse_54 : decode cX8_ifElse 54 = .ok (.aload_n 0, 1) := by decide +kernel
theorem dX8_ifElse_55 : decode cX8_ifElse 55 = .ok (.getfield 27, 3) := by decide +kernel
theorem dX8_ifElse_58 : decode cX8_ifElse 58 = .ok (.invokevirtual 237, 3) := by decide +kernel
theorem dX8_ifElse_61 : decode cX8_ifElse 61 = .ok (.invokevirtual 240, 3) := by decide +kernel
theorem dX8_ifElse_64 : decode cX8_ifElse 64 = .ok (.iload_n 3, 1) := by decide +kernel
theorem dX8_ifElse_65 : decode cX8_ifElse 65 = .ok (.iconst 1, 1) := by decide +kernel
theorem dX8_ifElse_66 : decode cX8_ifElse 66 = .ok (.ior, 1) := by decide +kernel
theorem dX8_ifElse_67 : decode cX8_ifElse 67 = .ok (.iload_n 1, 1) := by decide +kernel
theorem dX8_ifElse_68 : decode cX8_ifElse 68 = .ok (.ior, 1) := by decide +kernel
theorem dX8_ifElse_69 : decode cX8_ifElse 69 = .ok (.ireturn, 1) := by decide +kernel
theorem dX8_ifElse_70 : decode cX8_ifElse 70 = .ok (.aload_n 0, 1) := by decide +kernel
theorem dX8_ifElse_71 : decode cX8_ifElse 71 = .ok (.getfield 14, 3) := by decide +kernel
theorem dX8_ifElse_74 : decode cX8_ifElse 74 = .ok (.invokevirtual 75, 3) := by decide +kernel
theorem dX8_ifElse_77 : decode cX8_ifElse 77 = .ok (.aload_n 0, 1) := by decide +kernel
theorem dX8_ifElse_78 : decode cX8_ifElse 78 = .ok (.getfield 27, 3) := by decide +kernel
theorem dX8_ifElse_81 : decode cX8_ifElse 81 = .ok (.bipush 22, 2) := by decide +kernel
theorem dX8_ifElse_83 : decode cX8_ifElse 83 = .ok (.iconst 0, 1) := by decide +kernel
theorem dX8_ifElse_84 : decode cX8_ifElse 84 = .ok (.invokevirtual 157, 3) := by decide +kernel
theorem dX8_ifElse_87 : decode cX8_ifElse 87 = .ok (.istore 4, 2) := by decide +kernel
theorem dX8_ifElse_89 : decode cX8_ifElse 89 = .ok (.aload_n 0, 1) := by decide +kernel
theorem dX8_ifElse_90 : decode cX8_ifElse 90 = .ok (.getfield 27, 3) := by decide +kernel
theorem dX8_ifElse_93 : decode cX8_ifElse 93 = .ok (.iload_n 2, 1) := by decide +kernel
theorem dX8_ifElse_94 : decode cX8_ifElse 94 = .ok (.iconst 1, 1) := by decide +kernel
theorem dX8_ifElse_95 : decode cX8_ifElse 95 = .ok (.iadd, 1) := by decide +kernel
theorem dX8_ifElse_96 : decode cX8_ifElse 96 = .ok (.aload_n 0, 1) := by decide +kernel
theorem dX8_ifElse_97 : decode cX8_ifElse 97 = .ok (.getfield 27, 3) := by decide +kernel
theorem dX8_ifElse_100 : decode cX8_ifElse 100 = .ok (.invokevirtual 237, 3) := by decide +kernel
theorem dX8_ifElse_103 : decode cX8_ifElse 103 = .ok (.invokevirtual 240, 3) := by decide +kernel
theorem dX8_ifElse_106 : decode cX8_ifElse 106 = .ok (.iload_n 3, 1) := by decide +kernel
theorem dX8_ifElse_107 : decode cX8_ifElse 107 = .ok (.aload_n 0, 1) := by decide +kernel
theorem dX8_ifElse_108 : decode cX8_ifElse 108 = .ok (.invokevirtual 120, 3) := by decide +kernel
theorem dX8_ifElse_111 : decode cX8_ifElse 111 = .ok (.ior, 1) := by decide +kernel
theorem dX8_ifElse_112 : decode cX8_ifElse 112 = .ok (.istore_n 3, 1) := by decide +kernel
theorem dX8_ifElse_113 : decode cX8_ifElse 113 = .ok (.aload_n 0, 1) := by decide +kernel
theorem dX8_ifElse_114 : decode cX8_ifElse 114 = .ok (.getfield 27, 3) := by decide +kernel
theorem dX8_ifElse_117 : decode cX8_ifElse 117 = .ok (.iload 4, 2) := by decide +kernel
theorem dX8_ifElse_119 : decode cX8_ifElse 119 = .ok (.iconst 1, 1) := by decide +kernel
theorem dX8_ifElse_120 : decode cX8_ifElse 120 = .ok (.iadd, 1) := by decide +kernel
theorem dX8_ifElse_121 : decode cX8_ifElse 121 = .ok (.aload_n 0, 1) := by decide +kernel
theorem dX8_ifElse_122 : decode cX8_ifElse 122 = .ok (.getfield 27, 3) := by decide +kernel
theorem dX8_ifElse_125 : decode cX8_ifElse 125 = .ok (.invokevirtual 237, 3) := by decide +kernel
theorem dX8_ifElse_128 : decode cX8_ifElse 128 = .ok (.invokevirtual 240, 3) := by decide +kernel
theorem dX8_ifElse_131 : decode cX8_ifElse 131 = .ok (.iload_n 3, 1) := by decide +kernel
theorem dX8_ifElse_132 : decode cX8_ifElse 132 = .ok (.iload_n 1, 1) := by decide +kernel
theorem dX8_ifElse_133 : decode cX8_ifElse 133 = .ok (.ior, 1) := by decide +kernel
theorem dX8_ifElse_134 : decode cX8_ifElse 134 = .ok (.ireturn, 1) := by decide +kernel
def wX8_ifElse (B : Nat → kp_S → (Int32 → kp_S → Prop) → Prop) (a0 : Nat) (S : kp_S) (post : Int32 → kp_S → Prop) : Prop :=
  ∃ b1 : Nat, kp_R S 1600 a0 = some b1 ∧
  wX9_advance b1 S (fun T2 =>
  ∃ b3 : Nat, kp_R T2 1602 a0 = some b3 ∧
  wX2_whole_t b3 T2 (fun y5 T4 =>
  wX8_troubleOf y5 T4 (fun y7 T6 =>
  ∃ b8 : Nat, kp_R T6 1603 a0 = some b8 ∧
  wX0_add_ b8 23 0 T6 (fun y10 T9 =>
  B a0 T9 (fun y12 T11 =>
  ∃ b13 : Nat, kp_R T11 1600 a0 = some b13 ∧
  (((kp_I T11 1805 b13) = 304 →
  wX9_advance b13 T11 (fun T14 =>
  ∃ b15 : Nat, kp_R T14 1603 a0 = some b15 ∧
  wX0_add_ b15 22 0 T14 (fun y17 T16 =>
  ∃ b18 : Nat, kp_R T16 1603 a0 = some b18 ∧
  wX0_size b18 T16 (fun y20 T19 =>
  wX0_set b18 (y10 + 1) y20 T19 (fun T21 =>
  B a0 T21 (fun y23 T22 =>
  ∀ y24 : Int32, y24 = (y12 ||| y23) →
  ∃ b25 : Nat, kp_R T22 1603 a0 = some b25 ∧
  wX0_size b25 T22 (fun y27 T26 =>
  wX0_set b25 (y17 + 1) y27 T26 (fun T28 =>
  post (y24 ||| y7) T28)))))))) ∧ (¬ (kp_I T11 1805 b13) = 304 →
  ∃ b29 : Nat, kp_R T11 1603 a0 = some b29 ∧
  wX0_size b29 T11 (fun y31 T30 =>
  wX0_set b29 (y10 + 1) y31 T30 (fun T32 =>
  post ((y12 ||| 1) ||| y7) T32)))))))))
set_option maxHeartbeats 4000000 in
set_option maxRecDepth 100000 in
theorem c_X8_ifElse (l : Launch) (D : va_G) (cy : Nat → ClassId) (ad : (Nat → Nat) × (Nat → Nat)) (F L : Nat) (B : Nat → kp_S → (Int32 → kp_S → Prop) → Prop) (hB : ∀ (S : kp_S) (a0 : Nat) (post : Int32 → kp_S → Prop), kp_ok S → kp_is S a0 8 → B a0 S post → kp_M l yX8_block cX8_block 5 (some .int) { frames := F, cells := 0, slots := 0, locals := L } D cy ad S [.ref a0] 0 0 (fun A => kp_Qi D cy A S post)) (hF : 191 ≤ F) (hL : 4387 ≤ L) (S : kp_S) (a0 : Nat) (post : Int32 → kp_S → Prop) (hS : kp_ok S) (f_a0 : kp_is S a0 8) (hw : wX8_ifElse B a0 S post) : kp_M l yX8_ifElse cX8_ifElse 5 (some .int) { frames := F + 1, cells := 0, slots := 0, locals := L + 24 } D cy ad S [.ref a0] 0 0 (fun A => kp_Qi D cy A S post) := by
  refine kp_start (own := RX8) (by decide) rfl (Nat.le_of_ble_eq_true rfl) hS ?_
  intro p e s m below meth c A ls X hr hlocks hname h hl
  have hle : kp_le S S := kp_le.rf
  have hl : lv_has ls 5 [(0, .ref a0)] := hl
  unfold wX8_ifElse at hw
  have h : kp_H D cy A S s.heap s.heap [] := h
  revert h
  intro h
  refine lv_aload_n X.1 X.2.1 dX8_ifElse_0 rfl (lv_at hl 0 rfl) ?_
  obtain ⟨b1, e_b1, hw⟩ := hw
  have f_b1 := h.2.2.2.rf (c := 8) (k := 0) f_a0 (by decide) (by decide) e_b1 (t := 9) rfl
  refine kp_get X h f_a0 ff_8_14.l (v := .ref b1) (congrArg va_rf e_b1) dX8_ifElse_1 ?_
  refine kp_callv X h (kp_runV (rm := { frames := 5, cells := 0, slots := 0, locals := 113 }) (mc := 0) (ms := 0) (rest := []) (Qc := fun A => kp_Qv D cy A S _) X h (c_X9_advance l D cy ad S b1 _ h.2.2.2 f_b1 hw) f_b1 cv_8_75 ⟨by dsimp only; omega, by dsimp only; omega, rfl, rfl, by dsimp only; omega, by dsimp only; omega⟩ rfl hl.1 rfl (Nat.le_of_ble_eq_true rfl) dX8_ifElse_4) (fun T2 hw l_T2 H locs h => ?_)
  have f_a0 := l_T2.is f_a0
  have f_b1 := l_T2.is f_b1
  have hle := hle.tr l_T2
  refine lv_aload_n X.1 X.2.1 dX8_ifElse_7 rfl (lv_at hl 0 rfl) ?_
  obtain ⟨b3, e_b3, hw⟩ := hw
  have f_b3 := h.2.2.2.rf (c := 8) (k := 2) f_a0 (by decide) (by decide) e_b3 (t := 2) rfl
  refine kp_get X h f_a0 ff_8_36.l (v := .ref b3) (congrArg va_rf e_b3) dX8_ifElse_8 ?_
  refine kp_calli X h (kp_runV (rm := { frames := 189, cells := 0, slots := 0, locals := 4339 }) (mc := 0) (ms := 0) (rest := []) (Qc := fun A => kp_Qi D cy A T2 _) X h (c_X2_whole_t l D cy ad T2 b3 _ h.2.2.2 f_b3 hw) f_b3 cv_8_213 ⟨by dsimp only; omega, by dsimp only; omega, rfl, rfl, by dsimp only; omega, by dsimp only; omega⟩ rfl hl.1 rfl (Nat.le_of_ble_eq_true rfl) dX8_ifElse_11) (fun y5 T4 hw l_T4 H locs h => ?_)
  have f_a0 := l_T4.is f_a0
  have f_b1 := l_T4.is f_b1
  have f_b3 := l_T4.is f_b3
  have hle := hle.tr l_T4
  refine kp_calli X h (kp_runS (rm := { frames := 0, cells := 0, slots := 0, locals := 0 }) (mc := 0) (ms := 0) (rest := []) (Qc := fun A => kp_Qi D cy A T4 _) X h (c_X8_troubleOf l D cy ad T4 y5 _ h.2.2.2  hw) cs_8_216 ⟨by dsimp only; omega, by dsimp only; omega, rfl, rfl, by dsimp only; omega, by dsimp only; omega⟩ rfl hl.1 rfl (Nat.le_of_ble_eq_true rfl) dX8_ifElse_14) (fun y7 T6 hw l_T6 H locs h => ?_)
  have f_a0 := l_T6.is f_a0
  have f_b1 := l_T6.is f_b1
  have f_b3 := l_T6.is f_b3
  have hle := hle.tr l_T6
  refine lv_istore_n (lv' := [(1, .int y7), (0, .ref a0)]) X.1 X.2.1 dX8_ifElse_17 rfl hl (by decide) rfl (fun ls hl => ?_)
  refine lv_aload_n X.1 X.2.1 dX8_ifElse_18 rfl (lv_at hl 1 rfl) ?_
  obtain ⟨b8, e_b8, hw⟩ := hw
  have f_b8 := h.2.2.2.rf (c := 8) (k := 3) f_a0 (by decide) (by decide) e_b8 (t := 0) rfl
  refine kp_get X h f_a0 fp_8_27.l (v := .ref b8) (congrArg va_rf e_b8) dX8_ifElse_19 ?_
  refine lv_bipush (v := 23) X.1 X.2.1 dX8_ifElse_22 (by decide) ?_
  refine lv_iconst (v := 0) X.1 X.2.1 dX8_ifElse_24 (by decide) ?_
  refine kp_calli X h (kp_runV (rm := { frames := 1, cells := 0, slots := 0, locals := 22 }) (mc := 0) (ms := 0) (rest := []) (Qc := fun A => kp_Qi D cy A T6 _) X h (c_X0_add_ l D cy ad T6 b8 23 0 _ h.2.2.2 f_b8 hw) f_b8 cv_8_157 ⟨by dsimp only; omega, by dsimp only; omega, rfl, rfl, by dsimp only; omega, by dsimp only; omega⟩ rfl hl.1 rfl (Nat.le_of_ble_eq_true rfl) dX8_ifElse_25) (fun y10 T9 hw l_T9 H locs h => ?_)
  have f_a0 := l_T9.is f_a0
  have f_b1 := l_T9.is f_b1
  have f_b3 := l_T9.is f_b3
  have f_b8 := l_T9.is f_b8
  have hle := hle.tr l_T9
  refine lv_istore_n (lv' := [(2, .int y10), (1, .int y7), (0, .ref a0)]) X.1 X.2.1 dX8_ifElse_28 rfl hl (by decide) rfl (fun ls hl => ?_)
  refine lv_aload_n X.1 X.2.1 dX8_ifElse_29 rfl (lv_at hl 2 rfl) ?_
  refine kp_calli X h (kp_runV (rm := { frames := F, cells := 0, slots := 0, locals := L }) (mc := 0) (ms := 0) (rest := []) (Qc := fun A => kp_Qi D cy A T9 _) X h (hB T9 a0 _ h.2.2.2 f_a0 hw) f_a0 cv_8_120 ⟨by dsimp only; omega, by dsimp only; omega, rfl, rfl, by dsimp only; omega, by dsimp only; omega⟩ rfl hl.1 rfl (Nat.le_of_ble_eq_true rfl) dX8_ifElse_30) (fun y12 T11 hw l_T11 H locs h => ?_)
  have f_a0 := l_T11.is f_a0
  have f_b1 := l_T11.is f_b1
  have f_b3 := l_T11.is f_b3
  have f_b8 := l_T11.is f_b8
  have hle := hle.tr l_T11
  refine lv_istore_n (lv' := [(3, .int y12), (2, .int y10), (1, .int y7), (0, .ref a0)]) X.1 X.2.1 dX8_ifElse_33 rfl hl (by decide) rfl (fun ls hl => ?_)
  refine lv_aload_n X.1 X.2.1 dX8_ifElse_34 rfl (lv_at hl 3 rfl) ?_
  obtain ⟨b13, e_b13, hw⟩ := hw
  have f_b13 := h.2.2.2.rf (c := 8) (k := 0) f_a0 (by decide) (by decide) e_b13 (t := 9) rfl
  refine kp_get X h f_a0 ff_8_14.l (v := .ref b13) (congrArg va_rf e_b13) dX8_ifElse_35 ?_
  refine kp_get X h f_b13 fp_8_66.l (v := .int (kp_I T11 1805 b13)) rfl dX8_ifElse_38 ?_
  refine lv_sipush (v := 304) X.1 X.2.1 dX8_ifElse_41 (by decide) ?_
  refine lv_icmp_eq (tgt := 70) X.1 X.2.1 dX8_ifElse_44 (by decide) (fun c33 => ?_) (fun c33 => ?_)
  · have hw := hw.1 c33
    refine lv_aload_n X.1 X.2.1 dX8_ifElse_70 rfl (lv_at hl 3 rfl) ?_
    refine kp_get X h f_a0 ff_8_14.l (v := .ref b13) (congrArg va_rf e_b13) dX8_ifElse_71 ?_
    refine kp_callv X h (kp_runV (rm := { frames := 5, cells := 0, slots := 0, locals := 113 }) (mc := 0) (ms := 0) (rest := []) (Qc := fun A => kp_Qv D cy A T11 _) X h (c_X9_advance l D cy ad T11 b13 _ h.2.2.2 f_b13 hw) f_b13 cv_8_75 ⟨by dsimp only; omega, by dsimp only; omega, rfl, rfl, by dsimp only; omega, by dsimp only; omega⟩ rfl hl.1 rfl (Nat.le_of_ble_eq_true rfl) dX8_ifElse_74) (fun T14 hw l_T14 H locs h => ?_)
    have f_a0 := l_T14.is f_a0
    have f_b1 := l_T14.is f_b1
    have f_b3 := l_T14.is f_b3
    have f_b8 := l_T14.is f_b8
    have f_b13 := l_T14.is f_b13
    have hle := hle.tr l_T14
    refine lv_aload_n X.1 X.2.1 dX8_ifElse_77 rfl (lv_at hl 3 rfl) ?_
    obtain ⟨b15, e_b15, hw⟩ := hw
    have f_b15 := h.2.2.2.rf (c := 8) (k := 3) f_a0 (by decide) (by decide) e_b15 (t := 0) rfl
    refine kp_get X h f_a0 fp_8_27.l (v := .ref b15) (congrArg va_rf e_b15) dX8_ifElse_78 ?_
    refine lv_bipush (v := 22) X.1 X.2.1 dX8_ifElse_81 (by decide) ?_
    refine lv_iconst (v := 0) X.1 X.2.1 dX8_ifElse_83 (by decide) ?_
    refine kp_calli X h (kp_runV (rm := { frames := 1, cells := 0, slots := 0, locals := 22 }) (mc := 0) (ms := 0) (rest := []) (Qc := fun A => kp_Qi D cy A T14 _) X h (c_X0_add_ l D cy ad T14 b15 22 0 _ h.2.2.2 f_b15 hw) f_b15 cv_8_157 ⟨by dsimp only; omega, by dsimp only; omega, rfl, rfl, by dsimp only; omega, by dsimp only; omega⟩ rfl hl.1 rfl (Nat.le_of_ble_eq_true rfl) dX8_ifElse_84) (fun y17 T16 hw l_T16 H locs h => ?_)
    have f_a0 := l_T16.is f_a0
    have f_b1 := l_T16.is f_b1
    have f_b3 := l_T16.is f_b3
    have f_b8 := l_T16.is f_b8
    have f_b13 := l_T16.is f_b13
    have f_b15 := l_T16.is f_b15
    have hle := hle.tr l_T16
    refine lv_istore (lv' := [(4, .int y17), (3, .int y12), (2, .int y10), (1, .int y7), (0, .ref a0)]) X.1 X.2.1 dX8_ifElse_87 hl (by decide) rfl (fun ls hl => ?_)
    refine lv_aload_n X.1 X.2.1 dX8_ifElse_89 rfl (lv_at hl 4 rfl) ?_
    obtain ⟨b18, e_b18, hw⟩ := hw
    have f_b18 := h.2.2.2.rf (c := 8) (k := 3) f_a0 (by decide) (by decide) e_b18 (t := 0) rfl
    refine kp_get X h f_a0 fp_8_27.l (v := .ref b18) (congrArg va_rf e_b18) dX8_ifElse_90 ?_
    refine lv_iload_n X.1 X.2.1 dX8_ifElse_93 rfl (lv_at hl 2 rfl) ?_
    refine lv_iconst (v := 1) X.1 X.2.1 dX8_ifElse_94 (by decide) ?_
    refine lv_iadd X.1 X.2.1 dX8_ifElse_95 ?_
    refine lv_aload_n X.1 X.2.1 dX8_ifElse_96 rfl (lv_at hl 4 rfl) ?_
    refine kp_get X h f_a0 fp_8_27.l (v := .ref b18) (congrArg va_rf e_b18) dX8_ifElse_97 ?_
    refine kp_calli X h (kp_runV (rm := { frames := 0, cells := 0, slots := 0, locals := 0 }) (mc := 0) (ms := 0) (rest := [.int (y10 + 1), .ref b18]) (Qc := fun A => kp_Qi D cy A T16 _) X h (c_X0_size l D cy ad T16 b18 _ h.2.2.2 f_b18 hw) f_b18 cv_8_237 ⟨by dsimp only; omega, by dsimp only; omega, rfl, rfl, by dsimp only; omega, by dsimp only; omega⟩ rfl hl.1 rfl (Nat.le_of_ble_eq_true rfl) dX8_ifElse_100) (fun y20 T19 hw l_T19 H locs h => ?_)
    have f_a0 := l_T19.is f_a0
    have f_b1 := l_T19.is f_b1
    have f_b3 := l_T19.is f_b3
    have f_b8 := l_T19.is f_b8
    have f_b13 := l_T19.is f_b13
    have f_b15 := l_T19.is f_b15
    have f_b18 := l_T19.is f_b18
    have hle := hle.tr l_T19
    refine kp_callv X h (kp_runV (rm := { frames := 0, cells := 0, slots := 0, locals := 0 }) (mc := 0) (ms := 0) (rest := []) (Qc := fun A => kp_Qv D cy A T19 _) X h (c_X0_set l D cy ad T19 b18 (y10 + 1) y20 _ h.2.2.2 f_b18 hw) f_b18 cv_8_240 ⟨by dsimp only; omega, by dsimp only; omega, rfl, rfl, by dsimp only; omega, by dsimp only; omega⟩ rfl hl.1 rfl (Nat.le_of_ble_eq_true rfl) dX8_ifElse_103) (fun T21 hw l_T21 H locs h => ?_)
    have f_a0 := l_T21.is f_a0
    have f_b1 := l_T21.is f_b1
    have f_b3 := l_T21.is f_b3
    have f_b8 := l_T21.is f_b8
    have f_b13 := l_T21.is f_b13
    have f_b15 := l_T21.is f_b15
    have f_b18 := l_T21.is f_b18
    have hle := hle.tr l_T21
    refine lv_iload_n X.1 X.2.1 dX8_ifElse_106 rfl (lv_at hl 1 rfl) ?_
    refine lv_aload_n X.1 X.2.1 dX8_ifElse_107 rfl (lv_at hl 4 rfl) ?_
    refine kp_calli X h (kp_runV (rm := { frames := F, cells := 0, slots := 0, locals := L }) (mc := 0) (ms := 0) (rest := [.int y12]) (Qc := fun A => kp_Qi D cy A T21 _) X h (hB T21 a0 _ h.2.2.2 f_a0 hw) f_a0 cv_8_120 ⟨by dsimp only; omega, by dsimp only; omega, rfl, rfl, by dsimp only; omega, by dsimp only; omega⟩ rfl hl.1 rfl (Nat.le_of_ble_eq_true rfl) dX8_ifElse_108) (fun y23 T22 hw l_T22 H locs h => ?_)
    have f_a0 := l_T22.is f_a0
    have f_b1 := l_T22.is f_b1
    have f_b3 := l_T22.is f_b3
    have f_b8 := l_T22.is f_b8
    have f_b13 := l_T22.is f_b13
    have f_b15 := l_T22.is f_b15
    have f_b18 := l_T22.is f_b18
    have hle := hle.tr l_T22
    refine lv_ior X.1 X.2.1 dX8_ifElse_111 ?_
    refine lv_topi (fun y24 e_y24 => ?_)
    have hw := hw y24 e_y24
    refine lv_istore_n (lv' := [(3, .int y24), (4, .int y17), (2, .int y10), (1, .int y7), (0, .ref a0)]) X.1 X.2.1 dX8_ifElse_112 rfl hl (by decide) rfl (fun ls hl => ?_)
    refine lv_aload_n X.1 X.2.1 dX8_ifElse_113 rfl (lv_at hl 4 rfl) ?_
    obtain ⟨b25, e_b25, hw⟩ := hw
    have f_b25 := h.2.2.2.rf (c := 8) (k := 3) f_a0 (by decide) (by decide) e_b25 (t := 0) rfl
    refine kp_get X h f_a0 fp_8_27.l (v := .ref b25) (congrArg va_rf e_b25) dX8_ifElse_114 ?_
    refine lv_iload X.1 X.2.1 dX8_ifElse_117 (lv_at hl 1 rfl) ?_
    refine lv_iconst (v := 1) X.1 X.2.1 dX8_ifElse_119 (by decide) ?_
    refine lv_iadd X.1 X.2.1 dX8_ifElse_120 ?_
    refine lv_aload_n X.1 X.2.1 dX8_ifElse_121 rfl (lv_at hl 4 rfl) ?_
    refine kp_get X h f_a0 fp_8_27.l (v := .ref b25) (congrArg va_rf e_b25) dX8_ifElse_122 ?_
    refine kp_calli X h (kp_runV (rm := { frames := 0, cells := 0, slots := 0, locals := 0 }) (mc := 0) (ms := 0) (rest := [.int (y17 + 1), .ref b25]) (Qc := fun A => kp_Qi D cy A T22 _) X h (c_X0_size l D cy ad T22 b25 _ h.2.2.2 f_b25 hw) f_b25 cv_8_237 ⟨by dsimp only; omega, by dsimp only; omega, rfl, rfl, by dsimp only; omega, by dsimp only; omega⟩ rfl hl.1 rfl (Nat.le_of_ble_eq_true rfl) dX8_ifElse_125) (fun y27 T26 hw l_T26 H locs h => ?_)
    have f_a0 := l_T26.is f_a0
    have f_b1 := l_T26.is f_b1
    have f_b3 := l_T26.is f_b3
    have f_b8 := l_T26.is f_b8
    have f_b13 := l_T26.is f_b13
    have f_b15 := l_T26.is f_b15
    have f_b18 := l_T26.is f_b18
    have f_b25 := l_T26.is f_b25
    have hle := hle.tr l_T26
    refine kp_callv X h (kp_runV (rm := { frames := 0, cells := 0, slots := 0, locals := 0 }) (mc := 0) (ms := 0) (rest := []) (Qc := fun A => kp_Qv D cy A T26 _) X h (c_X0_set l D cy ad T26 b25 (y17 + 1) y27 _ h.2.2.2 f_b25 hw) f_b25 cv_8_240 ⟨by dsimp only; omega, by dsimp only; omega, rfl, rfl, by dsimp only; omega, by dsimp only; omega⟩ rfl hl.1 rfl (Nat.le_of_ble_eq_true rfl) dX8_ifElse_128) (fun T28 hw l_T28 H locs h => ?_)
    have f_a0 := l_T28.is f_a0
    have f_b1 := l_T28.is f_b1
    have f_b3 := l_T28.is f_b3
    have f_b8 := l_T28.is f_b8
    have f_b13 := l_T28.is f_b13
    have f_b15 := l_T28.is f_b15
    have f_b18 := l_T28.is f_b18
    have f_b25 := l_T28.is f_b25
    have hle := hle.tr l_T28
    refine lv_iload_n X.1 X.2.1 dX8_ifElse_131 rfl (lv_at hl 0 rfl) ?_
    refine lv_iload_n X.1 X.2.1 dX8_ifElse_132 rfl (lv_at hl 3 rfl) ?_
    refine lv_ior X.1 X.2.1 dX8_ifElse_133 ?_
    exact kp_reti X hr hlocks h hle rfl hw dX8_ifElse_134
  · have hw := hw.2 c33
    refine lv_aload_n X.1 X.2.1 dX8_ifElse_47 rfl (lv_at hl 3 rfl) ?_
    obtain ⟨b29, e_b29, hw⟩ := hw
    have f_b29 := h.2.2.2.rf (c := 8) (k := 3) f_a0 (by decide) (by decide) e_b29 (t := 0) rfl
    refine kp_get X h f_a0 fp_8_27.l (v := .ref b29) (congrArg va_rf e_b29) dX8_ifElse_48 ?_
    refine lv_iload_n X.1 X.2.1 dX8_ifElse_51 rfl (lv_at hl 1 rfl) ?_
    refine lv_iconst (v := 1) X.1 X.2.1 dX8_ifElse_52 (by decide) ?_
    refine lv_iadd X.1 X.2.1 dX8_ifElse_53 ?_
    refine lv_aload_n X.1 X.2.1 dX8_ifElse_54 rfl (lv_at hl 3 rfl) ?_
    refine kp_get X h f_a0 fp_8_27.l (v := .ref b29) (congrArg va_rf e_b29) dX8_ifElse_55 ?_
    refine kp_calli X h (kp_runV (rm := { frames := 0, cells := 0, slots := 0, locals := 0 }) (mc := 0) (ms := 0) (rest := [.int (y10 + 1), .ref b29]) (Qc := fun A => kp_Qi D cy A T11 _) X h (c_X0_size l D cy ad T11 b29 _ h.2.2.2 f_b29 hw) f_b29 cv_8_237 ⟨by dsimp only; omega, by dsimp only; omega, rfl, rfl, by dsimp only; omega, by dsimp only; omega⟩ rfl hl.1 rfl (Nat.le_of_ble_eq_true rfl) dX8_ifElse_58) (fun y31 T30 hw l_T30 H locs h => ?_)
    have f_a0 := l_T30.is f_a0
    have f_b1 := l_T30.is f_b1
    have f_b3 := l_T30.is f_b3
    have f_b8 := l_T30.is f_b8
    have f_b13 := l_T30.is f_b13
    have f_b29 := l_T30.is f_b29
    have hle := hle.tr l_T30
    refine kp_callv X h (kp_runV (rm := { frames := 0, cells := 0, slots := 0, locals := 0 }) (mc := 0) (ms := 0) (rest := []) (Qc := fun A => kp_Qv D cy A T30 _) X h (c_X0_set l D cy ad T30 b29 (y10 + 1) y31 _ h.2.2.2 f_b29 hw) f_b29 cv_8_240 ⟨by dsimp only; omega, by dsimp only; omega, rfl, rfl, by dsimp only; omega, by dsimp only; omega⟩ rfl hl.1 rfl (Nat.le_of_ble_eq_true rfl) dX8_ifElse_61) (fun T32 hw l_T32 H locs h => ?_)
    have f_a0 := l_T32.is f_a0
    have f_b1 := l_T32.is f_b1
    have f_b3 := l_T32.is f_b3
    have f_b8 := l_T32.is f_b8
    have f_b13 := l_T32.is f_b13
    have f_b29 := l_T32.is f_b29
    have hle := hle.tr l_T32
    refine lv_iload_n X.1 X.2.1 dX8_ifElse_64 rfl (lv_at hl 0 rfl) ?_
    refine lv_iconst (v := 1) X.1 X.2.1 dX8_ifElse_65 (by decide) ?_
    refine lv_ior X.1 X.2.1 dX8_ifElse_66 ?_
    refine lv_iload_n X.1 X.2.1 dX8_ifElse_67 rfl (lv_at hl 2 rfl) ?_
    refine lv_ior X.1 X.2.1 dX8_ifElse_68 ?_
    exact kp_reti X hr hlocks h hle rfl hw dX8_ifElse_69
theorem dX8_choose_0 : decode cX8_choose 0 = .ok (.aload_n 0, 1) := by decide +kernel
theorem dX8_choose_1 : decode cX8_choose 1 = .ok (.getfield 14, 3) := by decide +kernel
theorem dX8_choose_4 : decode cX8_choose 4 = .ok (.invokevirtual 75, 3) := by decide +kernel
theorem dX8_choose_7 : decode cX8_choose 7 = .ok (.aload_n 0, 1) := by decide +kernel
theorem dX8_choose_8 : decode cX8_choose 8 = .ok (.getfield 36, 3) := by decide +kernel
theorem dX8_choose_11 : decode cX8_choose 11 = .ok (.invokevirtual 213, 3) := by decide +kernel
theorem dX8_choose_14 : decode cX8_choose 14 = .ok (.invokestatic 216, 3) := by decide +kernel
theorem dX8_choose_17 : decode cX8_choose 17 = .ok (.istore_n 1, 1) := by decide +kernel
theorem dX8_choose_18 : decode cX8_choose 18 = .ok (.aload_n 0, 1) := by decide +kernel
theorem dX8_choose_19 : decode cX8_choose 19 = .ok (.getfield 14, 3) := by decide +kernel
theorem dX8_choose_22 : decode cX8_choose 22 = .ok (.bipush 123, 2) := by decide +kernel
theorem dX8_choose_24 : decode cX8_choose 24 = .ok (.invokevirtual 140, 3) := by decide +kernel
theorem dX8_choose_27 : decode cX8_choose 27 = .ok (.iconst 0, 1) := by decide +kernel
theorem dX8_choose_28 : decode cX8_choose 28 = .ok (.istore_n 2, 1) := by decide +kernel
theorem dX8_choose_29 : decode cX8_choose 29 = .ok (.iconst 0, 1) := by decide +kernel
theorem dX8_choose_30 : decode cX8_choose 30 = .ok (.istore_n 3, 1) := by decide +kernel
theorem dX8_choose_31 : decode cX8_choose 31 = .ok (.iconst 0, 1) := by decide +kernel
theorem dX8_choose_32 : decode cX8_choose 32 = .ok (.istore 4, 2) := by decide +kernel
theorem dX8_choose_34 : decode cX8_choose 34 = .ok (.iconst 0, 1) := by decide +kernel
theorem dX8_choose_35 : decode cX8_choose 35 = .ok (.istore 5, 2) := by decide +kernel
theorem dX8_choose_37 : decode cX8_choose 37 = .ok (.iload 5, 2) := by decide +kernel
theorem dX8_choose_39 : decode cX8_choose 39 = .ok (.sipush 3000, 3) := by decide +kernel
theorem dX8_choose_42 : decode cX8_choose 42 = .ok (.if_icmp .ge 151, 3) := by decide +kernel
theorem dX8_choose_45 : decode cX8_choose 45 = .ok (.aload_n 0, 1) := by decide +kernel
theorem dX8_choose_46 : decode cX8_choose 46 = .ok (.getfield 14, 3) := by decide +kernel
theorem dX8_choose_49 : decode cX8_choose 49 = .ok (.getfield 66, 3) := by decide +kernel
theorem dX8_choose_52 : decode cX8_choose 52 = .ok (.sipush 324, 3) := by decide +kernel
theorem dX8_choose_55 : decode cX8_choose 55 = .ok (.if_icmp .ne 138, 3) := by decide +kernel
theorem dX8_choose_58 : decode cX8_choose 58 = .ok (.aload_n 0, 1) := by decide +kernel
theorem dX8_choose_59 : decode cX8_choose 59 = .ok (.getfield 14, 3) := by decide +kernel
theorem dX8_choose_62 : decode cX8_choose 62 = .ok (.invokevirtual 75, 3) := by decide +kernel
theorem dX8_choose_65 : decode cX8_choose 65 = .ok (.aload_n 0, 1) := by decide +kernel
theorem dX8_choose_66 : decode cX8_choose 66 = .ok (.getfield 14, 3) := by decide +kernel
theorem dX8_choose_69 : decode cX8_choose 69 = .ok (.getfield 66, 3) := by decide +kernel
theorem dX8_choose_72 : decode cX8_choose 72 = .ok (.sipush 316, 3) := by decide +kernel
theorem dX8_choose_75 : decode cX8_choose 75 = .ok (.if_icmp .ne 7, 3) := by decide +kernel
theorem dX8_choose_78 : decode cX8_choose 78 = .ok (.iconst 1, 1) := by decide +kernel
theorem dX8_choose_79 : decode cX8_choose 79 = .ok (.goto 4, 3) := by decide +kernel
theorem dX8_choose_82 : decode cX8_choose 82 = .ok (.iconst 0, 1) := by decide +kernel
theorem dX8_choose_83 : decode cX8_choose 83 = .ok (.istore 6, 2) := by decide +kernel
theorem dX8_choose_85 : decode cX8_choose 85 = .ok (.iload 6, 2) := by decide +kernel
theorem dX8_choose_87 : decode cX8_choose 87 = .ok (.ifCond .eq 10, 3) := by decide +kernel
theorem dX8_choose_90 : decode cX8_choose 90 = .ok (.aload_n 0, 1) := by decide +kernel
theorem dX8_choose_91 : decode cX8_choose 91 = .ok (.invokevirtual 246, 3) := by decide +kernel
theorem dX8_choose_94 : decode cX8_choose 94 = .ok (.goto 9, 3) := by decide +kernel
theorem dX8_choose_97 : decode cX8_choose 97 = .ok (.aload_n 0, 1) := by decide +kernel
theorem dX8_choose_98 : decode cX8_choose 98 = .ok (.bipush 28, 2) := by decide +kernel
theorem dX8_choose_100 : decode cX8_choose 100 = .ok (.invokevirtual 249, 3) := by decide +kernel
theorem dX8_choose_103 : decode cX8_choose 103 = .ok (.istore 7, 2) := by decide +kernel
theorem dX8_choose_105 : decode cX8_choose 105 = .ok (.iload 6, 2) := by decide +kernel
theorem dX8_choose_107 : decode cX8_choose 107 = .ok (.ifCond .eq 7, 3) := by decide +kernel
theorem dX8_choose_110 : decode cX8_choose 110 = .ok (.iconst (-1), 1) := by decide +kernel
theorem dX8_choose_111 : decode cX8_choose 111 = .ok (.goto 12, 3) := by decide +kernel
theorem dX8_choose_114 : decode cX8_choose 114 = .ok (.aload_n 0, 1) := by decide +kernel
theorem dX8_choose_115 : decode cX8_choose 115 = .ok (.getfield 27, 3) := by decide +kernel
theorem dX8_choose_118 : decode cX8_choose 118 = .ok (.invokevirtual 237, 3) := by decide +kernel
theorem dX8_choose_121 : decode cX8_choose 121 = .ok (.iconst 1, 1) := by decide +kernel
theorem dX8_choose_122 : decode cX8_choose 122 = .ok (.isub, 1) := by decide +kernel
theorem dX8_choose_123 : decode cX8_choose 123 = .ok (.istore 8, 2) := by decide +kernel
theorem dX8_choose_125 : decode cX8_choose 125 = .ok (.aload_n 0, 1) := by decide +kernel
theorem dX8_choose_126 : decode cX8_choose 126 = .ok (.invokevirtual 120, 3) := by decide +kernel
theorem dX8_choose_129 : decode cX8_choose 129 = .ok (.istore 9, 2) := by decide +kernel
theorem dX8_choose_131 : decode cX8_choose 131 = .ok (.aload_n 0, 1) := by decide +kernel
theorem dX8_choose_132 : decode cX8_choose 132 = .ok (.getfield 27, 3) := by decide +kernel
theorem dX8_choose_135 : decode cX8_choose 135 = .ok (.bipush 22, 2) := by decide +kernel
theorem dX8_choose_137 : decode cX8_choose 137 = .ok (.iload_n 3, 1) := by decide +kernel
theorem dX8_choose_138 : decode cX8_choose 138 = .ok (.invokevirtual 157, 3) := by decide +kernel
theorem dX8_choose_141 : decode cX8_choose 141 = .ok (.iconst 1, 1) := by decide +kernel
theorem dX8_choose_142 : decode cX8_choose 142 = .ok (.iadd, 1) := by decide +kernel
theorem dX8_choose_143 : decode cX8_choose 143 = .ok (.istore_n 3, 1) := by decide +kernel
theorem dX8_choose_144 : decode cX8_choose 144 = .ok (.aload_n 0, 1) := by decide +kernel
theorem dX8_choose_145 : decode cX8_choose 145 = .ok (.getfield 27, 3) := by decide +kernel
theorem dX8_choose_148 : decode cX8_choose 148 = .ok (.iload 8, 2) := by decide +kernel
theorem dX8_choose_150 : decode cX8_choose 150 = .ok (.aload_n 0, 1) := by decide +kernel
theorem dX8_choose_151 : decode cX8_choose 151 = .ok (.getfield 27, 3) := by decide +kernel
theorem dX8_choose_154 : decode cX8_choose 154 = .ok (.invokevirtual 237, 3) := by decide +kernel
theorem dX8_choose_157 : decode cX8_choose 157 = .ok (.invokevirtual 240, 3) := by decide +kernel
theorem dX8_choose_160 : decode cX8_choose 160 = .ok (.iload_n 2, 1) := by decide +kernel
theorem dX8_choose_161 : decode cX8_choose 161 = .ok (.iload 4, 2) := by decide +kernel
theorem dX8_choose_163 : decode cX8_choose 163 = .ok (.ifCond .eq 7, 3) := by decide +kernel
theorem dX8_choose_166 : decode cX8_choose 166 = .ok (.iconst 0, 1) := by decide +kernel
theorem dX8_choose_167 : decode cX8_choose 167 = .ok (.goto 11, 3) := by decide +kernel
theorem dX8_choose_170 : decode cX8_choose 170 = .ok (.iload 9, 2) := by decide +kernel
theorem dX8_choose_172 : decode cX8_choose 172 = .ok (.iload 7, 2) := by decide +kernel
theorem dX8_choose_174 : decode cX8_choose 174 = .ok (.invokestatic 216, 3) := by decide +kernel
theorem dX8_choose_177 : decode cX8_choose 177 = .ok (.ior, 1) := by decide +kernel
theorem dX8_choose_178 : decode cX8_choose 178 = .ok (.ior, 1) := by decide +kernel
theorem dX8_choose_179 : decode cX8_choose 179 = .ok (.istore_n 2, 1) := by decide +kernel
theorem dX8_choose_180 : decode cX8_choose 180 = .ok (.iload 4, 2) := by decide +kernel
theorem dX8_choose_182 : decode cX8_choose 182 = .ok (.iload 6, 2) := by decide +kernel
theorem dX8_choose_184 : decode cX8_choose 184 = .ok (.ior, 1) := by decide +kernel
theorem dX8_choose_185 : decode cX8_choose 185 = .ok (.istore 4, 2) := by decide +kernel
theorem dX8_choose_187 : decode cX8_choose 187 = .ok (.iinc 5 1, 3) := by decide +kernel
theorem dX8_choose_190 : decode cX8_choose 190 = .ok (.goto (-153), 3) := by decide +kernel
theorem dX8_choose_193 : decode cX8_choose 193 = .ok (.aload_n 0, 1) := by decide +kernel
theorem dX8_choose_194 : decode cX8_choose 194 = .ok (.getfield 27, 3) := by decide +kernel
theorem dX8_choose_197 : decode cX8_choose 197 = .ok (.bipush 26, 2) := by decide +kernel
theorem dX8_choose_199 : decode cX8_choose 199 = .ok (.iconst 1, 1) := by decide +kernel
theorem dX8_choose_200 : decode cX8_choose 200 = .ok (.invokevirtual 157, 3) := by decide +kernel
theorem dX8_choose_203 : decode cX8_choose 203 = .ok (.pop, 1) := by decide +kernel
theorem dX8_choose_204 : decode cX8_choose 204 = .ok (.aload_n 0, 1) := by decide +kernel
theorem dX8_choose_205 : decode cX8_choose 205 = .ok (.getfield 14, 3) := by decide +kernel
theorem dX8_choose_208 : decode cX8_choose 208 = .ok (.getfield 66, 3) := by decide +kernel
theorem dX8_choose_211 : decode cX8_choose 211 = .ok (.sipush 325, 3) := by decide +kernel
theorem dX8_choose_214 : decode cX8_choose 214 = .ok (.if_icmp .ne 33, 3) := by decide +kernel
theorem dX8_choose_217 : decode cX8_choose 217 = .ok (.aload_n 0, 1) := by decide +kernel
theorem dX8_choose_218 : decode cX8_choose 218 = .ok (.getfield 14, 3) := by decide +kernel
theorem dX8_choose_221 : decode cX8_choose 221 = .ok (.invokevirtual 75, 3) := by decide +kernel
theorem dX8_choose_224 : decode cX8_choose 224 = .ok (.aload_n 0, 1) := by decide +kernel
theorem dX8_choose_225 : decode cX8_choose 225 = .ok (.invokevirtual 120, 3) := by decide +kernel
theorem dX8_choose_228 : decode cX8_choose 228 = .ok (.istore 5, 2) := by decide +kernel
theorem dX8_choose_230 : decode cX8_choose 230 = .ok (.iload_n 2, 1) := by decide +kernel
theorem dX8_choose_231 : decode cX8_choose 231 = .ok (.iload 4, 2) := by decide +kernel
theorem dX8_choose_233 : decode cX8_choose 233 = .ok (.ifCond .eq 7, 3) := by decide +kernel
theorem dX8_choose_236 : decode cX8_choose 236 = .ok (.iconst 0, 1) := by decide +kernel
theorem dX8_choose_237 : decode cX8_choose 237 = .ok (.goto 5, 3) := by decide +kernel
theorem dX8_choose_240 : decode cX8_choose 240 = .ok (.iload 5, 2) := by decide +kernel
theorem dX8_choose_242 : decode cX8_choose 242 = .ok (.ior, 1) := by decide +kernel
theorem dX8_choose_243 : decode cX8_choose 243 = .ok (.istore_n 2, 1) := by decide +kernel
theorem dX8_choose_244 : decode cX8_choose 244 = .ok (.iconst 1, 1) := by decide +kernel
theorem dX8_choose_245 : decode cX8_choose 245 = .ok (.istore 4, 2) := by decide +kernel
theorem dX8_choose_247 : decode cX8_choose 247 = .ok (.aload_n 0, 1) := by decide +kernel
theorem dX8_choose_248 : decode cX8_choose 248 = .ok (.getfield 27, 3) := by decide +kernel
theorem dX8_choose_251 : decode cX8_choose 251 = .ok (.iload_n 3, 1) := by decide +kernel
theorem dX8_choose_252 : decode cX8_choose 252 = .ok (.aload_n 0, 1) := by decide +kernel
theorem dX8_choose_253 : decode cX8_choose 253 = .ok (.getfield 27, 3) := by decide +kernel
theorem dX8_choose_256 : decode cX8_choose 256 = .ok (.invokevirtual 237, 3) := by decide +kernel
theorem dX8_choose_259 : decode cX8_choose 259 = .ok (.invokevirtual 243, 3) := by decide +kernel
theorem dX8_choose_262 : decode cX8_choose 262 = .ok (.aload_n 0, 1) := by decide +kernel
theorem dX8_choose_263 : decode cX8_choose 263 = .ok (.getfield 14, 3) := by decide +kernel
theorem dX8_choose_266 : decode cX8_choose 266 = .ok (.invokevirtual 154, 3) := by decide +kernel
theorem dX8_choose_269 : decode cX8_choose 269 = .ok (.aload_n 0, 1) := by decide +kernel
theorem dX8_choose_270 : decode cX8_choose 270 = .ok (.getfield 14, 3) := by decide +kernel
theorem dX8_choose_273 : decode cX8_choose 273 = .ok (.bipush 125, 2) := by decide +kernel
theorem dX8_choose_275 : decode cX8_choose 275 = .ok (.invokevirtual 90, 3) := by decide +kernel
theorem dX8_choose_278 : decode cX8_choose 278 = .ok (.iload_n 2, 1) := by decide +kernel
theorem dX8_choose_279 : decode cX8_choose 279 = .ok (.iload_n 1, 1) := by decide +kernel
theorem dX8_choose_280 : decode cX8_choose 280 = .ok (.ior, 1) := by decide +kernel
theorem dX8_choose_281 : decode cX8_choose 281 = .ok (.iload 4, 2) := by decide +kernel
theorem dX8_choose_283 : decode cX8_choose 283 = .ok (.ifCond .eq 7, 3) := by decide +kernel
theorem dX8_choose_286 : decode cX8_choose 286 = .ok (.iconst 0, 1) := by decide +kernel
theorem dX8_choose_287 : decode cX8_choose 287 = .ok (.goto 4, 3) := by decide +kernel
theorem dX8_choose_290 : decode cX8_choose 290 = .ok (.iconst 1, 1) := by decide +kernel
theorem dX8_choose_291 : decode cX8_choose 291 = .ok (.ior, 1) := by decide +kernel
theorem dX8_choose_292 : decode cX8_choose 292 = .ok (.ireturn, 1) := by decide +kernel
def wX8_choose_b291 (B : Nat → kp_S → (Int32 → kp_S → Prop) → Prop) (a0 : Nat) (xt0 : Int32) (xt1 : Int32)  (Sn : kp_S) (post : Int32 → kp_S → Prop) : Prop :=
  post (xt1 ||| xt0) Sn
def wX8_choose_b247 (B : Nat → kp_S → (Int32 → kp_S → Prop) → Prop) (a0 : Nat) (xn1 : Int32) (xn2 : Int32) (xn3 : Int32) (xn4 : Int32)  (Sn : kp_S) (post : Int32 → kp_S → Prop) : Prop :=
  ∃ b2001 : Nat, kp_R Sn 1603 a0 = some b2001 ∧
  wX0_size b2001 Sn (fun y2003 T2002 =>
  wX0_setChain b2001 xn3 y2003 T2002 (fun T2004 =>
  ∃ b2005 : Nat, kp_R T2004 1600 a0 = some b2005 ∧
  wX9_endNest b2005 T2004 (fun T2006 =>
  ∃ b2007 : Nat, kp_R T2006 1600 a0 = some b2007 ∧
  wX9_expect b2007 125 T2006 (fun T2008 =>
  ((xn4 = 0 →
  wX8_choose_b291 B a0 1 (xn2 ||| xn1)  T2008 post) ∧ (¬ xn4 = 0 →
  wX8_choose_b291 B a0 0 (xn2 ||| xn1)  T2008 post))))))
def wX8_choose_b242 (B : Nat → kp_S → (Int32 → kp_S → Prop) → Prop) (a0 : Nat) (xn1 : Int32) (xn3 : Int32) (xt0 : Int32) (xt1 : Int32)  (Sn : kp_S) (post : Int32 → kp_S → Prop) : Prop :=
  ∀ y3001 : Int32, y3001 = (xt1 ||| xt0) →
  wX8_choose_b247 B a0 xn1 y3001 xn3 1  Sn post
def wX8_choose_b193 (B : Nat → kp_S → (Int32 → kp_S → Prop) → Prop) (a0 : Nat) (xn1 : Int32) (xn2 : Int32) (xn3 : Int32) (xn4 : Int32)  (Sn : kp_S) (post : Int32 → kp_S → Prop) : Prop :=
  ∃ b4001 : Nat, kp_R Sn 1603 a0 = some b4001 ∧
  wX0_add_ b4001 26 1 Sn (fun y4003 T4002 =>
  ∃ b4004 : Nat, kp_R T4002 1600 a0 = some b4004 ∧
  ((¬ (kp_I T4002 1805 b4004) = 325 →
  wX8_choose_b247 B a0 xn1 xn2 xn3 xn4  T4002 post) ∧ ((kp_I T4002 1805 b4004) = 325 →
  wX9_advance b4004 T4002 (fun T4005 =>
  B a0 T4005 (fun y4007 T4006 =>
  ((xn4 = 0 →
  wX8_choose_b242 B a0 xn1 xn3 y4007 xn2  T4006 post) ∧ (¬ xn4 = 0 →
  wX8_choose_b242 B a0 xn1 xn3 0 xn2  T4006 post)))))))
def wX8_choose_b178 (B : Nat → kp_S → (Int32 → kp_S → Prop) → Prop) (a0 : Nat) (xn1 : Int32) (xn3 : Int32) (xn4 : Int32) (xn5 : Int32) (xn6 : Int32) (xt0 : Int32) (xt1 : Int32) (K37 : Int32 → Int32 → Int32 → Int32 → Int32 → kp_S → Prop) (Sn : kp_S) (post : Int32 → kp_S → Prop) : Prop :=
  ∀ y5001 : Int32, y5001 = (xt1 ||| xt0) →
  ∀ y5002 : Int32, y5002 = (xn4 ||| xn6) →
  ∀ y5003 : Int32, y5003 = xn5 + 1 →
  K37 xn1 y5001 xn3 y5002 y5003 Sn
def wX8_choose_b123 (B : Nat → kp_S → (Int32 → kp_S → Prop) → Prop) (a0 : Nat) (xn1 : Int32) (xn2 : Int32) (xn3 : Int32) (xn4 : Int32) (xn5 : Int32) (xn6 : Int32) (xn7 : Int32) (xt0 : Int32) (K37 : Int32 → Int32 → Int32 → Int32 → Int32 → kp_S → Prop) (Sn : kp_S) (post : Int32 → kp_S → Prop) : Prop :=
  B a0 Sn (fun y6002 T6001 =>
  ∃ b6003 : Nat, kp_R T6001 1603 a0 = some b6003 ∧
  wX0_add_ b6003 22 xn3 T6001 (fun y6005 T6004 =>
  ∀ y6006 : Int32, y6006 = (y6005 + 1) →
  ∃ b6007 : Nat, kp_R T6004 1603 a0 = some b6007 ∧
  wX0_size b6007 T6004 (fun y6009 T6008 =>
  wX0_set b6007 xt0 y6009 T6008 (fun T6010 =>
  ((xn4 = 0 →
  wX8_troubleOf xn7 T6010 (fun y6012 T6011 =>
  wX8_choose_b178 B a0 xn1 y6006 xn4 xn5 xn6 (y6002 ||| y6012) xn2 K37 T6011 post)) ∧ (¬ xn4 = 0 →
  wX8_choose_b178 B a0 xn1 y6006 xn4 xn5 xn6 0 xn2 K37 T6010 post))))))
def wX8_choose_b103 (B : Nat → kp_S → (Int32 → kp_S → Prop) → Prop) (a0 : Nat) (xn1 : Int32) (xn2 : Int32) (xn3 : Int32) (xn4 : Int32) (xn5 : Int32) (xn6 : Int32) (xt0 : Int32) (K37 : Int32 → Int32 → Int32 → Int32 → Int32 → kp_S → Prop) (Sn : kp_S) (post : Int32 → kp_S → Prop) : Prop :=
  ((xn6 = 0 →
  ∃ b7001 : Nat, kp_R Sn 1603 a0 = some b7001 ∧
  wX0_size b7001 Sn (fun y7003 T7002 =>
  wX8_choose_b123 B a0 xn1 xn2 xn3 xn4 xn5 xn6 xt0 (y7003 - 1) K37 T7002 post)) ∧ (¬ xn6 = 0 →
  wX8_choose_b123 B a0 xn1 xn2 xn3 xn4 xn5 xn6 xt0 (-1) K37 Sn post))
def wX8_choose_b83 (B : Nat → kp_S → (Int32 → kp_S → Prop) → Prop) (a0 : Nat) (xn1 : Int32) (xn2 : Int32) (xn3 : Int32) (xn4 : Int32) (xn5 : Int32) (xt0 : Int32) (K37 : Int32 → Int32 → Int32 → Int32 → Int32 → kp_S → Prop) (Sn : kp_S) (post : Int32 → kp_S → Prop) : Prop :=
  ((xt0 = 0 →
  wX8_list a0 28 Sn (fun y8002 T8001 =>
  wX8_choose_b103 B a0 xn1 xn2 xn3 xn4 xn5 xt0 y8002 K37 T8001 post)) ∧ (¬ xt0 = 0 →
  wX8_dropForAny a0 Sn (fun y8004 T8003 =>
  wX8_choose_b103 B a0 xn1 xn2 xn3 xn4 xn5 xt0 y8004 K37 T8003 post)))
def wX8_choose_L37 (B : Nat → kp_S → (Int32 → kp_S → Prop) → Prop) (a0 : Nat)  (post : Int32 → kp_S → Prop) : Nat → Int32 → Int32 → Int32 → Int32 → Int32 → kp_S → Prop
  | 0, _, _, _, _, _, _ => False
  | n + 1, xn1, xn2, xn3, xn4, xn5, Sn =>
  ((3000 ≤ xn5 →
  wX8_choose_b193 B a0 xn1 xn2 xn3 xn4  Sn post) ∧ (¬ 3000 ≤ xn5 →
  ∃ b9001 : Nat, kp_R Sn 1600 a0 = some b9001 ∧
  ((¬ (kp_I Sn 1805 b9001) = 324 →
  wX8_choose_b193 B a0 xn1 xn2 xn3 xn4  Sn post) ∧ ((kp_I Sn 1805 b9001) = 324 →
  wX9_advance b9001 Sn (fun T9002 =>
  ∃ b9003 : Nat, kp_R T9002 1600 a0 = some b9003 ∧
  ((¬ (kp_I T9002 1805 b9003) = 316 →
  wX8_choose_b83 B a0 xn1 xn2 xn3 xn4 xn5 0 (fun xn1_ xn2_ xn3_ xn4_ xn5_ S_ => wX8_choose_L37 B a0  post n xn1_ xn2_ xn3_ xn4_ xn5_ S_) T9002 post) ∧ ((kp_I T9002 1805 b9003) = 316 →
  wX8_choose_b83 B a0 xn1 xn2 xn3 xn4 xn5 1 (fun xn1_ xn2_ xn3_ xn4_ xn5_ S_ => wX8_choose_L37 B a0  post n xn1_ xn2_ xn3_ xn4_ xn5_ S_) T9002 post)))))))
def wX8_choose (B : Nat → kp_S → (Int32 → kp_S → Prop) → Prop) (a0 : Nat) (S : kp_S) (post : Int32 → kp_S → Prop) : Prop :=
  ∃ b1 : Nat, kp_R S 1600 a0 = some b1 ∧
  wX9_advance b1 S (fun T2 =>
  ∃ b3 : Nat, kp_R T2 1602 a0 = some b3 ∧
  wX2_whole_t b3 T2 (fun y5 T4 =>
  wX8_troubleOf y5 T4 (fun y7 T6 =>
  ∃ b8 : Nat, kp_R T6 1600 a0 = some b8 ∧
  wX9_expectNest b8 123 T6 (fun T9 =>
  ∃ n0 : Nat, wX8_choose_L37 B a0  post n0 y7 0 0 0 0 T9))))
set_option maxHeartbeats 4000000 in
set_option maxRecDepth 100000 in
theorem c_X8_choose (l : Launch) (D : va_G) (cy : Nat → ClassId) (ad : (Nat → Nat) × (Nat → Nat)) (F L : Nat) (B : Nat → kp_S → (Int32 → kp_S → Prop) → Prop) (hB : ∀ (S : kp_S) (a0 : Nat) (post : Int32 → kp_S → Prop), kp_ok S → kp_is S a0 8 → B a0 S post → kp_M l yX8_block cX8_block 5 (some .int) { frames := F, cells := 0, slots := 0, locals := L } D cy ad S [.ref a0] 0 0 (fun A => kp_Qi D cy A S post)) (hF : 191 ≤ F) (hL : 4387 ≤ L) (S : kp_S) (a0 : Nat) (post : Int32 → kp_S → Prop) (hS : kp_ok S) (f_a0 : kp_is S a0 8) (hw : wX8_choose B a0 S post) : kp_M l yX8_choose cX8_choose 10 (some .int) { frames := F + 1, cells := 0, slots := 0, locals := L + 24 } D cy ad S [.ref a0] 0 0 (fun A => kp_Qi D cy A S post) := by
  refine kp_start (own := RX8) (by decide) rfl (Nat.le_of_ble_eq_true rfl) hS ?_
  intro p e s m below meth c A ls X hr hlocks hname h hl
  have hle : kp_le S S := kp_le.rf
  have hl : lv_has ls 10 [(0, .ref a0)] := hl
  have j291 : ∀ (xt0 : Int32) (xt1 : Int32) (Sn : kp_S) (H : Heap) (locs : List Loc) (ls : Array Slot), lv_has ls 10 [] → kp_H D cy A Sn s.heap H locs → kp_le S Sn → kp_is Sn a0 8 → wX8_choose_b291 B a0 xt0 xt1  Sn post → W p l e { frames := F + 1, cells := 0, slots := 0, locals := L + 24 } s m ([.ref a0] : List Value).toArray below meth c H locs 0 0 (MQ below (kp_Qi D cy A S post) ([.ref a0] : List Value).toArray s 0 0 A) (F0 m 291 ls [.int xt0, .int xt1]) := by
    intro xt0 xt1 Sn H locs ls hl h hle f_a0 hw
    unfold wX8_choose_b291 at hw
    refine lv_ior X.1 X.2.1 dX8_choose_291 ?_
    exact kp_reti X hr hlocks h hle rfl hw dX8_choose_292
  have j247 : ∀ (xn1 : Int32) (xn2 : Int32) (xn3 : Int32) (xn4 : Int32) (Sn : kp_S) (H : Heap) (locs : List Loc) (ls : Array Slot), lv_has ls 10 [(0, .ref a0), (1, .int xn1), (2, .int xn2), (3, .int xn3), (4, .int xn4)] → kp_H D cy A Sn s.heap H locs → kp_le S Sn → kp_is Sn a0 8 → wX8_choose_b247 B a0 xn1 xn2 xn3 xn4  Sn post → W p l e { frames := F + 1, cells := 0, slots := 0, locals := L + 24 } s m ([.ref a0] : List Value).toArray below meth c H locs 0 0 (MQ below (kp_Qi D cy A S post) ([.ref a0] : List Value).toArray s 0 0 A) (F0 m 247 ls []) := by
    intro xn1 xn2 xn3 xn4 Sn H locs ls hl h hle f_a0 hw
    unfold wX8_choose_b247 at hw
    refine lv_aload_n X.1 X.2.1 dX8_choose_247 rfl (lv_at hl 0 rfl) ?_
    obtain ⟨b2001, e_b2001, hw⟩ := hw
    have f_b2001 := h.2.2.2.rf (c := 8) (k := 3) f_a0 (by decide) (by decide) e_b2001 (t := 0) rfl
    refine kp_get X h f_a0 fp_8_27.l (v := .ref b2001) (congrArg va_rf e_b2001) dX8_choose_248 ?_
    refine lv_iload_n X.1 X.2.1 dX8_choose_251 rfl (lv_at hl 3 rfl) ?_
    refine lv_aload_n X.1 X.2.1 dX8_choose_252 rfl (lv_at hl 0 rfl) ?_
    refine kp_get X h f_a0 fp_8_27.l (v := .ref b2001) (congrArg va_rf e_b2001) dX8_choose_253 ?_
    refine kp_calli X h (kp_runV (rm := { frames := 0, cells := 0, slots := 0, locals := 0 }) (mc := 0) (ms := 0) (rest := [.int xn3, .ref b2001]) (Qc := fun A => kp_Qi D cy A Sn _) X h (c_X0_size l D cy ad Sn b2001 _ h.2.2.2 f_b2001 hw) f_b2001 cv_8_237 ⟨by dsimp only; omega, by dsimp only; omega, rfl, rfl, by dsimp only; omega, by dsimp only; omega⟩ rfl hl.1 rfl (Nat.le_of_ble_eq_true rfl) dX8_choose_256) (fun y2003 T2002 hw l_T2002 H locs h => ?_)
    have f_a0 := l_T2002.is f_a0
    have f_b2001 := l_T2002.is f_b2001
    have hle := hle.tr l_T2002
    refine kp_callv X h (kp_runV (rm := { frames := 0, cells := 0, slots := 0, locals := 0 }) (mc := 0) (ms := 0) (rest := []) (Qc := fun A => kp_Qv D cy A T2002 _) X h (c_X0_setChain l D cy ad T2002 b2001 xn3 y2003 _ h.2.2.2 f_b2001 hw) f_b2001 cv_8_243 ⟨by dsimp only; omega, by dsimp only; omega, rfl, rfl, by dsimp only; omega, by dsimp only; omega⟩ rfl hl.1 rfl (Nat.le_of_ble_eq_true rfl) dX8_choose_259) (fun T2004 hw l_T2004 H locs h => ?_)
    have f_a0 := l_T2004.is f_a0
    have f_b2001 := l_T2004.is f_b2001
    have hle := hle.tr l_T2004
    refine lv_aload_n X.1 X.2.1 dX8_choose_262 rfl (lv_at hl 0 rfl) ?_
    obtain ⟨b2005, e_b2005, hw⟩ := hw
    have f_b2005 := h.2.2.2.rf (c := 8) (k := 0) f_a0 (by decide) (by decide) e_b2005 (t := 9) rfl
    refine kp_get X h f_a0 ff_8_14.l (v := .ref b2005) (congrArg va_rf e_b2005) dX8_choose_263 ?_
    refine kp_callv X h (kp_runV (rm := { frames := 0, cells := 0, slots := 0, locals := 0 }) (mc := 0) (ms := 0) (rest := []) (Qc := fun A => kp_Qv D cy A T2004 _) X h (c_X9_endNest l D cy ad T2004 b2005 _ h.2.2.2 f_b2005 hw) f_b2005 cv_8_154 ⟨by dsimp only; omega, by dsimp only; omega, rfl, rfl, by dsimp only; omega, by dsimp only; omega⟩ rfl hl.1 rfl (Nat.le_of_ble_eq_true rfl) dX8_choose_266) (fun T2006 hw l_T2006 H locs h => ?_)
    have f_a0 := l_T2006.is f_a0
    have f_b2001 := l_T2006.is f_b2001
    have f_b2005 := l_T2006.is f_b2005
    have hle := hle.tr l_T2006
    refine lv_aload_n X.1 X.2.1 dX8_choose_269 rfl (lv_at hl 0 rfl) ?_
    obtain ⟨b2007, e_b2007, hw⟩ := hw
    have f_b2007 := h.2.2.2.rf (c := 8) (k := 0) f_a0 (by decide) (by decide) e_b2007 (t := 9) rfl
    refine kp_get X h f_a0 ff_8_14.l (v := .ref b2007) (congrArg va_rf e_b2007) dX8_choose_270 ?_
    refine lv_bipush (v := 125) X.1 X.2.1 dX8_choose_273 (by decide) ?_
    refine kp_callv X h (kp_runV (rm := { frames := 6, cells := 0, slots := 0, locals := 134 }) (mc := 0) (ms := 0) (rest := []) (Qc := fun A => kp_Qv D cy A T2006 _) X h (c_X9_expect l D cy ad T2006 b2007 125 _ h.2.2.2 f_b2007 hw) f_b2007 cv_8_90 ⟨by dsimp only; omega, by dsimp only; omega, rfl, rfl, by dsimp only; omega, by dsimp only; omega⟩ rfl hl.1 rfl (Nat.le_of_ble_eq_true rfl) dX8_choose_275) (fun T2008 hw l_T2008 H locs h => ?_)
    have f_a0 := l_T2008.is f_a0
    have f_b2001 := l_T2008.is f_b2001
    have f_b2005 := l_T2008.is f_b2005
    have f_b2007 := l_T2008.is f_b2007
    have hle := hle.tr l_T2008
    refine lv_iload_n X.1 X.2.1 dX8_choose_278 rfl (lv_at hl 2 rfl) ?_
    refine lv_iload_n X.1 X.2.1 dX8_choose_279 rfl (lv_at hl 1 rfl) ?_
    refine lv_ior X.1 X.2.1 dX8_choose_280 ?_
    refine lv_iload X.1 X.2.1 dX8_choose_281 (lv_at hl 4 rfl) ?_
    refine lv_if_eq (tgt := 290) X.1 X.2.1 dX8_choose_283 (by decide) (fun c2009 => ?_) (fun c2009 => ?_)
    · have hw := hw.1 c2009
      refine lv_iconst (v := 1) X.1 X.2.1 dX8_choose_290 (by decide) ?_
      exact j291 1 (xn2 ||| xn1) T2008 H locs ls (lv_sub hl [] rfl) h hle f_a0 hw
    · have hw := hw.2 c2009
      refine lv_iconst (v := 0) X.1 X.2.1 dX8_choose_286 (by decide) ?_
      refine lv_goto (tgt := 291) X.1 X.2.1 dX8_choose_287 (by decide) ?_
      exact j291 0 (xn2 ||| xn1) T2008 H locs ls (lv_sub hl [] rfl) h hle f_a0 hw
  have j242 : ∀ (xn1 : Int32) (xn3 : Int32) (xt0 : Int32) (xt1 : Int32) (Sn : kp_S) (H : Heap) (locs : List Loc) (ls : Array Slot), lv_has ls 10 [(0, .ref a0), (1, .int xn1), (3, .int xn3)] → kp_H D cy A Sn s.heap H locs → kp_le S Sn → kp_is Sn a0 8 → wX8_choose_b242 B a0 xn1 xn3 xt0 xt1  Sn post → W p l e { frames := F + 1, cells := 0, slots := 0, locals := L + 24 } s m ([.ref a0] : List Value).toArray below meth c H locs 0 0 (MQ below (kp_Qi D cy A S post) ([.ref a0] : List Value).toArray s 0 0 A) (F0 m 242 ls [.int xt0, .int xt1]) := by
    intro xn1 xn3 xt0 xt1 Sn H locs ls hl h hle f_a0 hw
    unfold wX8_choose_b242 at hw
    refine lv_ior X.1 X.2.1 dX8_choose_242 ?_
    refine lv_topi (fun y3001 e_y3001 => ?_)
    have hw := hw y3001 e_y3001
    refine lv_istore_n (lv' := [(2, .int y3001), (0, .ref a0), (1, .int xn1), (3, .int xn3)]) X.1 X.2.1 dX8_choose_243 rfl hl (by decide) rfl (fun ls hl => ?_)
    refine lv_iconst (v := 1) X.1 X.2.1 dX8_choose_244 (by decide) ?_
    refine lv_istore (lv' := [(4, .int 1), (2, .int y3001), (0, .ref a0), (1, .int xn1), (3, .int xn3)]) X.1 X.2.1 dX8_choose_245 hl (by decide) rfl (fun ls hl => ?_)
    exact j247 xn1 y3001 xn3 1 Sn H locs ls (lv_sub hl [2, 3, 1, 4, 0] rfl) h hle f_a0 hw
  have j193 : ∀ (xn1 : Int32) (xn2 : Int32) (xn3 : Int32) (xn4 : Int32) (Sn : kp_S) (H : Heap) (locs : List Loc) (ls : Array Slot), lv_has ls 10 [(0, .ref a0), (1, .int xn1), (2, .int xn2), (3, .int xn3), (4, .int xn4)] → kp_H D cy A Sn s.heap H locs → kp_le S Sn → kp_is Sn a0 8 → wX8_choose_b193 B a0 xn1 xn2 xn3 xn4  Sn post → W p l e { frames := F + 1, cells := 0, slots := 0, locals := L + 24 } s m ([.ref a0] : List Value).toArray below meth c H locs 0 0 (MQ below (kp_Qi D cy A S post) ([.ref a0] : List Value).toArray s 0 0 A) (F0 m 193 ls []) := by
    intro xn1 xn2 xn3 xn4 Sn H locs ls hl h hle f_a0 hw
    unfold wX8_choose_b193 at hw
    refine lv_aload_n X.1 X.2.1 dX8_choose_193 rfl (lv_at hl 0 rfl) ?_
    obtain ⟨b4001, e_b4001, hw⟩ := hw
    have f_b4001 := h.2.2.2.rf (c := 8) (k := 3) f_a0 (by decide) (by decide) e_b4001 (t := 0) rfl
    refine kp_get X h f_a0 fp_8_27.l (v := .ref b4001) (congrArg va_rf e_b4001) dX8_choose_194 ?_
    refine lv_bipush (v := 26) X.1 X.2.1 dX8_choose_197 (by decide) ?_
    refine lv_iconst (v := 1) X.1 X.2.1 dX8_choose_199 (by decide) ?_
    refine kp_calli X h (kp_runV (rm := { frames := 1, cells := 0, slots := 0, locals := 22 }) (mc := 0) (ms := 0) (rest := []) (Qc := fun A => kp_Qi D cy A Sn _) X h (c_X0_add_ l D cy ad Sn b4001 26 1 _ h.2.2.2 f_b4001 hw) f_b4001 cv_8_157 ⟨by dsimp only; omega, by dsimp only; omega, rfl, rfl, by dsimp only; omega, by dsimp only; omega⟩ rfl hl.1 rfl (Nat.le_of_ble_eq_true rfl) dX8_choose_200) (fun y4003 T4002 hw l_T4002 H locs h => ?_)
    have f_a0 := l_T4002.is f_a0
    have f_b4001 := l_T4002.is f_b4001
    have hle := hle.tr l_T4002
    refine lv_pop X.1 X.2.1 dX8_choose_203 rfl ?_
    refine lv_aload_n X.1 X.2.1 dX8_choose_204 rfl (lv_at hl 0 rfl) ?_
    obtain ⟨b4004, e_b4004, hw⟩ := hw
    have f_b4004 := h.2.2.2.rf (c := 8) (k := 0) f_a0 (by decide) (by decide) e_b4004 (t := 9) rfl
    refine kp_get X h f_a0 ff_8_14.l (v := .ref b4004) (congrArg va_rf e_b4004) dX8_choose_205 ?_
    refine kp_get X h f_b4004 fp_8_66.l (v := .int (kp_I T4002 1805 b4004)) rfl dX8_choose_208 ?_
    refine lv_sipush (v := 325) X.1 X.2.1 dX8_choose_211 (by decide) ?_
    refine lv_icmp_ne (tgt := 247) X.1 X.2.1 dX8_choose_214 (by decide) (fun c4009 => ?_) (fun c4009 => ?_)
    · have hw := hw.1 c4009
      exact j247 xn1 xn2 xn3 xn4 T4002 H locs ls (lv_sub hl [0, 1, 2, 3, 4] rfl) h hle f_a0 hw
    · have hw := hw.2 c4009
      refine lv_aload_n X.1 X.2.1 dX8_choose_217 rfl (lv_at hl 0 rfl) ?_
      refine kp_get X h f_a0 ff_8_14.l (v := .ref b4004) (congrArg va_rf e_b4004) dX8_choose_218 ?_
      refine kp_callv X h (kp_runV (rm := { frames := 5, cells := 0, slots := 0, locals := 113 }) (mc := 0) (ms := 0) (rest := []) (Qc := fun A => kp_Qv D cy A T4002 _) X h (c_X9_advance l D cy ad T4002 b4004 _ h.2.2.2 f_b4004 hw) f_b4004 cv_8_75 ⟨by dsimp only; omega, by dsimp only; omega, rfl, rfl, by dsimp only; omega, by dsimp only; omega⟩ rfl hl.1 rfl (Nat.le_of_ble_eq_true rfl) dX8_choose_221) (fun T4005 hw l_T4005 H locs h => ?_)
      have f_a0 := l_T4005.is f_a0
      have f_b4001 := l_T4005.is f_b4001
      have f_b4004 := l_T4005.is f_b4004
      have hle := hle.tr l_T4005
      refine lv_aload_n X.1 X.2.1 dX8_choose_224 rfl (lv_at hl 0 rfl) ?_
      refine kp_calli X h (kp_runV (rm := { frames := F, cells := 0, slots := 0, locals := L }) (mc := 0) (ms := 0) (rest := []) (Qc := fun A => kp_Qi D cy A T4005 _) X h (hB T4005 a0 _ h.2.2.2 f_a0 hw) f_a0 cv_8_120 ⟨by dsimp only; omega, by dsimp only; omega, rfl, rfl, by dsimp only; omega, by dsimp only; omega⟩ rfl hl.1 rfl (Nat.le_of_ble_eq_true rfl) dX8_choose_225) (fun y4007 T4006 hw l_T4006 H locs h => ?_)
      have f_a0 := l_T4006.is f_a0
      have f_b4001 := l_T4006.is f_b4001
      have f_b4004 := l_T4006.is f_b4004
      have hle := hle.tr l_T4006
      refine lv_istore (lv' := [(5, .int y4007), (0, .ref a0), (1, .int xn1), (2, .int xn2), (3, .int xn3), (4, .int xn4)]) X.1 X.2.1 dX8_choose_228 hl (by decide) rfl (fun ls hl => ?_)
      refine lv_iload_n X.1 X.2.1 dX8_choose_230 rfl (lv_at hl 3 rfl) ?_
      refine lv_iload X.1 X.2.1 dX8_choose_231 (lv_at hl 5 rfl) ?_
      refine lv_if_eq (tgt := 240) X.1 X.2.1 dX8_choose_233 (by decide) (fun c4008 => ?_) (fun c4008 => ?_)
      · have hw := hw.1 c4008
        refine lv_iload X.1 X.2.1 dX8_choose_240 (lv_at hl 0 rfl) ?_
        exact j242 xn1 xn3 y4007 xn2 T4006 H locs ls (lv_sub hl [1, 2, 4] rfl) h hle f_a0 hw
      · have hw := hw.2 c4008
        refine lv_iconst (v := 0) X.1 X.2.1 dX8_choose_236 (by decide) ?_
        refine lv_goto (tgt := 242) X.1 X.2.1 dX8_choose_237 (by decide) ?_
        exact j242 xn1 xn3 0 xn2 T4006 H locs ls (lv_sub hl [1, 2, 4] rfl) h hle f_a0 hw
  have L37 : ∀ n37 : Nat, ∀ (xn1 : Int32) (xn2 : Int32) (xn3 : Int32) (xn4 : Int32) (xn5 : Int32) (Sn : kp_S) (H : Heap) (locs : List Loc) (ls : Array Slot), lv_has ls 10 [(0, .ref a0), (1, .int xn1), (2, .int xn2), (3, .int xn3), (4, .int xn4), (5, .int xn5)] → kp_H D cy A Sn s.heap H locs → kp_le S Sn → kp_is Sn a0 8 → wX8_choose_L37 B a0  post n37 xn1 xn2 xn3 xn4 xn5 Sn → W p l e { frames := F + 1, cells := 0, slots := 0, locals := L + 24 } s m ([.ref a0] : List Value).toArray below meth c H locs 0 0 (MQ below (kp_Qi D cy A S post) ([.ref a0] : List Value).toArray s 0 0 A) (F0 m 37 ls []) := by
    intro n37
    induction n37 with
    | zero => intro xn1 xn2 xn3 xn4 xn5 Sn H locs ls hl h hle f_a0 hw; exact hw.elim
    | succ n37 ih37 =>
      have j178 : ∀ (xn1 : Int32) (xn3 : Int32) (xn4 : Int32) (xn5 : Int32) (xn6 : Int32) (xt0 : Int32) (xt1 : Int32) (Sn : kp_S) (H : Heap) (locs : List Loc) (ls : Array Slot), lv_has ls 10 [(0, .ref a0), (1, .int xn1), (3, .int xn3), (4, .int xn4), (5, .int xn5), (6, .int xn6)] → kp_H D cy A Sn s.heap H locs → kp_le S Sn → kp_is Sn a0 8 → wX8_choose_b178 B a0 xn1 xn3 xn4 xn5 xn6 xt0 xt1 (fun xn1_ xn2_ xn3_ xn4_ xn5_ S_ => wX8_choose_L37 B a0  post n37 xn1_ xn2_ xn3_ xn4_ xn5_ S_) Sn post → W p l e { frames := F + 1, cells := 0, slots := 0, locals := L + 24 } s m ([.ref a0] : List Value).toArray below meth c H locs 0 0 (MQ below (kp_Qi D cy A S post) ([.ref a0] : List Value).toArray s 0 0 A) (F0 m 178 ls [.int xt0, .int xt1]) := by
        intro xn1 xn3 xn4 xn5 xn6 xt0 xt1 Sn H locs ls hl h hle f_a0 hw
        unfold wX8_choose_b178 at hw
        refine lv_ior X.1 X.2.1 dX8_choose_178 ?_
        refine lv_topi (fun y5001 e_y5001 => ?_)
        have hw := hw y5001 e_y5001
        refine lv_istore_n (lv' := [(2, .int y5001), (0, .ref a0), (1, .int xn1), (3, .int xn3), (4, .int xn4), (5, .int xn5), (6, .int xn6)]) X.1 X.2.1 dX8_choose_179 rfl hl (by decide) rfl (fun ls hl => ?_)
        refine lv_iload X.1 X.2.1 dX8_choose_180 (lv_at hl 4 rfl) ?_
        refine lv_iload X.1 X.2.1 dX8_choose_182 (lv_at hl 6 rfl) ?_
        refine lv_ior X.1 X.2.1 dX8_choose_184 ?_
        refine lv_topi (fun y5002 e_y5002 => ?_)
        have hw := hw y5002 e_y5002
        refine lv_istore (lv' := [(4, .int y5002), (2, .int y5001), (0, .ref a0), (1, .int xn1), (3, .int xn3), (5, .int xn5), (6, .int xn6)]) X.1 X.2.1 dX8_choose_185 hl (by decide) rfl (fun ls hl => ?_)
        obtain ⟨y5003, e_y5003⟩ : ∃ y : Int32, y = xn5 + 1 := ⟨_, rfl⟩
        have hw := hw y5003 e_y5003
        refine lv_iinc (v := y5003) (lv' := [(5, .int y5003), (4, .int y5002), (2, .int y5001), (0, .ref a0), (1, .int xn1), (3, .int xn3), (6, .int xn6)]) X.1 X.2.1 dX8_choose_187 hl (k := 5) rfl (by rw [e_y5003]; rfl) (by decide) rfl (fun ls hl => ?_)
        refine lv_goto (tgt := 37) X.1 X.2.1 dX8_choose_190 (by decide) ?_
        exact ih37 xn1 y5001 xn3 y5002 y5003 Sn H locs ls (lv_sub hl [3, 4, 2, 5, 1, 0] rfl) h hle f_a0 hw
      have j123 : ∀ (xn1 : Int32) (xn2 : Int32) (xn3 : Int32) (xn4 : Int32) (xn5 : Int32) (xn6 : Int32) (xn7 : Int32) (xt0 : Int32) (Sn : kp_S) (H : Heap) (locs : List Loc) (ls : Array Slot), lv_has ls 10 [(0, .ref a0), (1, .int xn1), (2, .int xn2), (3, .int xn3), (4, .int xn4), (5, .int xn5), (6, .int xn6), (7, .int xn7)] → kp_H D cy A Sn s.heap H locs → kp_le S Sn → kp_is Sn a0 8 → wX8_choose_b123 B a0 xn1 xn2 xn3 xn4 xn5 xn6 xn7 xt0 (fun xn1_ xn2_ xn3_ xn4_ xn5_ S_ => wX8_choose_L37 B a0  post n37 xn1_ xn2_ xn3_ xn4_ xn5_ S_) Sn post → W p l e { frames := F + 1, cells := 0, slots := 0, locals := L + 24 } s m ([.ref a0] : List Value).toArray below meth c H locs 0 0 (MQ below (kp_Qi D cy A S post) ([.ref a0] : List Value).toArray s 0 0 A) (F0 m 123 ls [.int xt0]) := by
        intro xn1 xn2 xn3 xn4 xn5 xn6 xn7 xt0 Sn H locs ls hl h hle f_a0 hw
        unfold wX8_choose_b123 at hw
        refine lv_istore (lv' := [(8, .int xt0), (0, .ref a0), (1, .int xn1), (2, .int xn2), (3, .int xn3), (4, .int xn4), (5, .int xn5), (6, .int xn6), (7, .int xn7)]) X.1 X.2.1 dX8_choose_123 hl (by decide) rfl (fun ls hl => ?_)
        refine lv_aload_n X.1 X.2.1 dX8_choose_125 rfl (lv_at hl 1 rfl) ?_
        refine kp_calli X h (kp_runV (rm := { frames := F, cells := 0, slots := 0, locals := L }) (mc := 0) (ms := 0) (rest := []) (Qc := fun A => kp_Qi D cy A Sn _) X h (hB Sn a0 _ h.2.2.2 f_a0 hw) f_a0 cv_8_120 ⟨by dsimp only; omega, by dsimp only; omega, rfl, rfl, by dsimp only; omega, by dsimp only; omega⟩ rfl hl.1 rfl (Nat.le_of_ble_eq_true rfl) dX8_choose_126) (fun y6002 T6001 hw l_T6001 H locs h => ?_)
        have f_a0 := l_T6001.is f_a0
        have hle := hle.tr l_T6001
        refine lv_istore (lv' := [(9, .int y6002), (8, .int xt0), (0, .ref a0), (1, .int xn1), (2, .int xn2), (3, .int xn3), (4, .int xn4), (5, .int xn5), (6, .int xn6), (7, .int xn7)]) X.1 X.2.1 dX8_choose_129 hl (by decide) rfl (fun ls hl => ?_)
        refine lv_aload_n X.1 X.2.1 dX8_choose_131 rfl (lv_at hl 2 rfl) ?_
        obtain ⟨b6003, e_b6003, hw⟩ := hw
        have f_b6003 := h.2.2.2.rf (c := 8) (k := 3) f_a0 (by decide) (by decide) e_b6003 (t := 0) rfl
        refine kp_get X h f_a0 fp_8_27.l (v := .ref b6003) (congrArg va_rf e_b6003) dX8_choose_132 ?_
        refine lv_bipush (v := 22) X.1 X.2.1 dX8_choose_135 (by decide) ?_
        refine lv_iload_n X.1 X.2.1 dX8_choose_137 rfl (lv_at hl 5 rfl) ?_
        refine kp_calli X h (kp_runV (rm := { frames := 1, cells := 0, slots := 0, locals := 22 }) (mc := 0) (ms := 0) (rest := []) (Qc := fun A => kp_Qi D cy A T6001 _) X h (c_X0_add_ l D cy ad T6001 b6003 22 xn3 _ h.2.2.2 f_b6003 hw) f_b6003 cv_8_157 ⟨by dsimp only; omega, by dsimp only; omega, rfl, rfl, by dsimp only; omega, by dsimp only; omega⟩ rfl hl.1 rfl (Nat.le_of_ble_eq_true rfl) dX8_choose_138) (fun y6005 T6004 hw l_T6004 H locs h => ?_)
        have f_a0 := l_T6004.is f_a0
        have f_b6003 := l_T6004.is f_b6003
        have hle := hle.tr l_T6004
        refine lv_iconst (v := 1) X.1 X.2.1 dX8_choose_141 (by decide) ?_
        refine lv_iadd X.1 X.2.1 dX8_choose_142 ?_
        refine lv_topi (fun y6006 e_y6006 => ?_)
        have hw := hw y6006 e_y6006
        refine lv_istore_n (lv' := [(3, .int y6006), (9, .int y6002), (8, .int xt0), (0, .ref a0), (1, .int xn1), (2, .int xn2), (4, .int xn4), (5, .int xn5), (6, .int xn6), (7, .int xn7)]) X.1 X.2.1 dX8_choose_143 rfl hl (by decide) rfl (fun ls hl => ?_)
        refine lv_aload_n X.1 X.2.1 dX8_choose_144 rfl (lv_at hl 3 rfl) ?_
        obtain ⟨b6007, e_b6007, hw⟩ := hw
        have f_b6007 := h.2.2.2.rf (c := 8) (k := 3) f_a0 (by decide) (by decide) e_b6007 (t := 0) rfl
        refine kp_get X h f_a0 fp_8_27.l (v := .ref b6007) (congrArg va_rf e_b6007) dX8_choose_145 ?_
        refine lv_iload X.1 X.2.1 dX8_choose_148 (lv_at hl 2 rfl) ?_
        refine lv_aload_n X.1 X.2.1 dX8_choose_150 rfl (lv_at hl 3 rfl) ?_
        refine kp_get X h f_a0 fp_8_27.l (v := .ref b6007) (congrArg va_rf e_b6007) dX8_choose_151 ?_
        refine kp_calli X h (kp_runV (rm := { frames := 0, cells := 0, slots := 0, locals := 0 }) (mc := 0) (ms := 0) (rest := [.int xt0, .ref b6007]) (Qc := fun A => kp_Qi D cy A T6004 _) X h (c_X0_size l D cy ad T6004 b6007 _ h.2.2.2 f_b6007 hw) f_b6007 cv_8_237 ⟨by dsimp only; omega, by dsimp only; omega, rfl, rfl, by dsimp only; omega, by dsimp only; omega⟩ rfl hl.1 rfl (Nat.le_of_ble_eq_true rfl) dX8_choose_154) (fun y6009 T6008 hw l_T6008 H locs h => ?_)
        have f_a0 := l_T6008.is f_a0
        have f_b6003 := l_T6008.is f_b6003
        have f_b6007 := l_T6008.is f_b6007
        have hle := hle.tr l_T6008
        refine kp_callv X h (kp_runV (rm := { frames := 0, cells := 0, slots := 0, locals := 0 }) (mc := 0) (ms := 0) (rest := []) (Qc := fun A => kp_Qv D cy A T6008 _) X h (c_X0_set l D cy ad T6008 b6007 xt0 y6009 _ h.2.2.2 f_b6007 hw) f_b6007 cv_8_240 ⟨by dsimp only; omega, by dsimp only; omega, rfl, rfl, by dsimp only; omega, by dsimp only; omega⟩ rfl hl.1 rfl (Nat.le_of_ble_eq_true rfl) dX8_choose_157) (fun T6010 hw l_T6010 H locs h => ?_)
        have f_a0 := l_T6010.is f_a0
        have f_b6003 := l_T6010.is f_b6003
        have f_b6007 := l_T6010.is f_b6007
        have hle := hle.tr l_T6010
        refine lv_iload_n X.1 X.2.1 dX8_choose_160 rfl (lv_at hl 5 rfl) ?_
        refine lv_iload X.1 X.2.1 dX8_choose_161 (lv_at hl 6 rfl) ?_
        refine lv_if_eq (tgt := 170) X.1 X.2.1 dX8_choose_163 (by decide) (fun c6013 => ?_) (fun c6013 => ?_)
        · have hw := hw.1 c6013
          refine lv_iload X.1 X.2.1 dX8_choose_170 (lv_at hl 1 rfl) ?_
          refine lv_iload X.1 X.2.1 dX8_choose_172 (lv_at hl 9 rfl) ?_
          refine kp_calli X h (kp_runS (rm := { frames := 0, cells := 0, slots := 0, locals := 0 }) (mc := 0) (ms := 0) (rest := [.int y6002, .int xn2]) (Qc := fun A => kp_Qi D cy A T6010 _) X h (c_X8_troubleOf l D cy ad T6010 xn7 _ h.2.2.2  hw) cs_8_216 ⟨by dsimp only; omega, by dsimp only; omega, rfl, rfl, by dsimp only; omega, by dsimp only; omega⟩ rfl hl.1 rfl (Nat.le_of_ble_eq_true rfl) dX8_choose_174) (fun y6012 T6011 hw l_T6011 H locs h => ?_)
          have f_a0 := l_T6011.is f_a0
          have f_b6003 := l_T6011.is f_b6003
          have f_b6007 := l_T6011.is f_b6007
          have hle := hle.tr l_T6011
          refine lv_ior X.1 X.2.1 dX8_choose_177 ?_
          exact j178 xn1 y6006 xn4 xn5 xn6 (y6002 ||| y6012) xn2 T6011 H locs ls (lv_sub hl [3, 4, 0, 6, 7, 8] rfl) h hle f_a0 hw
        · have hw := hw.2 c6013
          refine lv_iconst (v := 0) X.1 X.2.1 dX8_choose_166 (by decide) ?_
          refine lv_goto (tgt := 178) X.1 X.2.1 dX8_choose_167 (by decide) ?_
          exact j178 xn1 y6006 xn4 xn5 xn6 0 xn2 T6010 H locs ls (lv_sub hl [3, 4, 0, 6, 7, 8] rfl) h hle f_a0 hw
      have j103 : ∀ (xn1 : Int32) (xn2 : Int32) (xn3 : Int32) (xn4 : Int32) (xn5 : Int32) (xn6 : Int32) (xt0 : Int32) (Sn : kp_S) (H : Heap) (locs : List Loc) (ls : Array Slot), lv_has ls 10 [(0, .ref a0), (1, .int xn1), (2, .int xn2), (3, .int xn3), (4, .int xn4), (5, .int xn5), (6, .int xn6)] → kp_H D cy A Sn s.heap H locs → kp_le S Sn → kp_is Sn a0 8 → wX8_choose_b103 B a0 xn1 xn2 xn3 xn4 xn5 xn6 xt0 (fun xn1_ xn2_ xn3_ xn4_ xn5_ S_ => wX8_choose_L37 B a0  post n37 xn1_ xn2_ xn3_ xn4_ xn5_ S_) Sn post → W p l e { frames := F + 1, cells := 0, slots := 0, locals := L + 24 } s m ([.ref a0] : List Value).toArray below meth c H locs 0 0 (MQ below (kp_Qi D cy A S post) ([.ref a0] : List Value).toArray s 0 0 A) (F0 m 103 ls [.int xt0]) := by
        intro xn1 xn2 xn3 xn4 xn5 xn6 xt0 Sn H locs ls hl h hle f_a0 hw
        unfold wX8_choose_b103 at hw
        refine lv_istore (lv' := [(7, .int xt0), (0, .ref a0), (1, .int xn1), (2, .int xn2), (3, .int xn3), (4, .int xn4), (5, .int xn5), (6, .int xn6)]) X.1 X.2.1 dX8_choose_103 hl (by decide) rfl (fun ls hl => ?_)
        refine lv_iload X.1 X.2.1 dX8_choose_105 (lv_at hl 7 rfl) ?_
        refine lv_if_eq (tgt := 114) X.1 X.2.1 dX8_choose_107 (by decide) (fun c7004 => ?_) (fun c7004 => ?_)
        · have hw := hw.1 c7004
          refine lv_aload_n X.1 X.2.1 dX8_choose_114 rfl (lv_at hl 1 rfl) ?_
          obtain ⟨b7001, e_b7001, hw⟩ := hw
          have f_b7001 := h.2.2.2.rf (c := 8) (k := 3) f_a0 (by decide) (by decide) e_b7001 (t := 0) rfl
          refine kp_get X h f_a0 fp_8_27.l (v := .ref b7001) (congrArg va_rf e_b7001) dX8_choose_115 ?_
          refine kp_calli X h (kp_runV (rm := { frames := 0, cells := 0, slots := 0, locals := 0 }) (mc := 0) (ms := 0) (rest := []) (Qc := fun A => kp_Qi D cy A Sn _) X h (c_X0_size l D cy ad Sn b7001 _ h.2.2.2 f_b7001 hw) f_b7001 cv_8_237 ⟨by dsimp only; omega, by dsimp only; omega, rfl, rfl, by dsimp only; omega, by dsimp only; omega⟩ rfl hl.1 rfl (Nat.le_of_ble_eq_true rfl) dX8_choose_118) (fun y7003 T7002 hw l_T7002 H locs h => ?_)
          have f_a0 := l_T7002.is f_a0
          have f_b7001 := l_T7002.is f_b7001
          have hle := hle.tr l_T7002
          refine lv_iconst (v := 1) X.1 X.2.1 dX8_choose_121 (by decide) ?_
          refine lv_isub X.1 X.2.1 dX8_choose_122 ?_
          exact j123 xn1 xn2 xn3 xn4 xn5 xn6 xt0 (y7003 - 1) T7002 H locs ls (lv_sub hl [1, 2, 3, 4, 5, 6, 7, 0] rfl) h hle f_a0 hw
        · have hw := hw.2 c7004
          refine lv_iconst (v := (-1)) X.1 X.2.1 dX8_choose_110 (by decide) ?_
          refine lv_goto (tgt := 123) X.1 X.2.1 dX8_choose_111 (by decide) ?_
          exact j123 xn1 xn2 xn3 xn4 xn5 xn6 xt0 (-1) Sn H locs ls (lv_sub hl [1, 2, 3, 4, 5, 6, 7, 0] rfl) h hle f_a0 hw
      have j83 : ∀ (xn1 : Int32) (xn2 : Int32) (xn3 : Int32) (xn4 : Int32) (xn5 : Int32) (xt0 : Int32) (Sn : kp_S) (H : Heap) (locs : List Loc) (ls : Array Slot), lv_has ls 10 [(0, .ref a0), (1, .int xn1), (2, .int xn2), (3, .int xn3), (4, .int xn4), (5, .int xn5)] → kp_H D cy A Sn s.heap H locs → kp_le S Sn → kp_is Sn a0 8 → wX8_choose_b83 B a0 xn1 xn2 xn3 xn4 xn5 xt0 (fun xn1_ xn2_ xn3_ xn4_ xn5_ S_ => wX8_choose_L37 B a0  post n37 xn1_ xn2_ xn3_ xn4_ xn5_ S_) Sn post → W p l e { frames := F + 1, cells := 0, slots := 0, locals := L + 24 } s m ([.ref a0] : List Value).toArray below meth c H locs 0 0 (MQ below (kp_Qi D cy A S post) ([.ref a0] : List Value).toArray s 0 0 A) (F0 m 83 ls [.int xt0]) := by
        intro xn1 xn2 xn3 xn4 xn5 xt0 Sn H locs ls hl h hle f_a0 hw
        unfold wX8_choose_b83 at hw
        refine lv_istore (lv' := [(6, .int xt0), (0, .ref a0), (1, .int xn1), (2, .int xn2), (3, .int xn3), (4, .int xn4), (5, .int xn5)]) X.1 X.2.1 dX8_choose_83 hl (by decide) rfl (fun ls hl => ?_)
        refine lv_iload X.1 X.2.1 dX8_choose_85 (lv_at hl 0 rfl) ?_
        refine lv_if_eq (tgt := 97) X.1 X.2.1 dX8_choose_87 (by decide) (fun c8005 => ?_) (fun c8005 => ?_)
        · have hw := hw.1 c8005
          refine lv_aload_n X.1 X.2.1 dX8_choose_97 rfl (lv_at hl 1 rfl) ?_
          refine lv_bipush (v := 28) X.1 X.2.1 dX8_choose_98 (by decide) ?_
          refine kp_calli X h (kp_runV (rm := { frames := 190, cells := 0, slots := 0, locals := 4362 }) (mc := 0) (ms := 0) (rest := []) (Qc := fun A => kp_Qi D cy A Sn _) X h (c_X8_list l D cy ad Sn a0 28 _ h.2.2.2 f_a0 hw) f_a0 cv_8_249 ⟨by dsimp only; omega, by dsimp only; omega, rfl, rfl, by dsimp only; omega, by dsimp only; omega⟩ rfl hl.1 rfl (Nat.le_of_ble_eq_true rfl) dX8_choose_100) (fun y8002 T8001 hw l_T8001 H locs h => ?_)
          have f_a0 := l_T8001.is f_a0
          have hle := hle.tr l_T8001
          exact j103 xn1 xn2 xn3 xn4 xn5 xt0 y8002 T8001 H locs ls (lv_sub hl [1, 2, 3, 4, 5, 6, 0] rfl) h hle f_a0 hw
        · have hw := hw.2 c8005
          refine lv_aload_n X.1 X.2.1 dX8_choose_90 rfl (lv_at hl 1 rfl) ?_
          refine kp_calli X h (kp_runV (rm := { frames := 6, cells := 0, slots := 0, locals := 134 }) (mc := 0) (ms := 0) (rest := []) (Qc := fun A => kp_Qi D cy A Sn _) X h (c_X8_dropForAny l D cy ad Sn a0 _ h.2.2.2 f_a0 hw) f_a0 cv_8_246 ⟨by dsimp only; omega, by dsimp only; omega, rfl, rfl, by dsimp only; omega, by dsimp only; omega⟩ rfl hl.1 rfl (Nat.le_of_ble_eq_true rfl) dX8_choose_91) (fun y8004 T8003 hw l_T8003 H locs h => ?_)
          have f_a0 := l_T8003.is f_a0
          have hle := hle.tr l_T8003
          refine lv_goto (tgt := 103) X.1 X.2.1 dX8_choose_94 (by decide) ?_
          exact j103 xn1 xn2 xn3 xn4 xn5 xt0 y8004 T8003 H locs ls (lv_sub hl [1, 2, 3, 4, 5, 6, 0] rfl) h hle f_a0 hw
      intro xn1 xn2 xn3 xn4 xn5 Sn H locs ls hl h hle f_a0 hw
      unfold wX8_choose_L37 at hw
      refine lv_iload X.1 X.2.1 dX8_choose_37 (lv_at hl 5 rfl) ?_
      refine lv_sipush (v := 3000) X.1 X.2.1 dX8_choose_39 (by decide) ?_
      refine lv_icmp_ge (tgt := 193) X.1 X.2.1 dX8_choose_42 (by decide) (fun c9006 => ?_) (fun c9006 => ?_)
      · have hw := hw.1 c9006
        exact j193 xn1 xn2 xn3 xn4 Sn H locs ls (lv_sub hl [0, 1, 2, 3, 4] rfl) h hle f_a0 hw
      · have hw := hw.2 c9006
        refine lv_aload_n X.1 X.2.1 dX8_choose_45 rfl (lv_at hl 0 rfl) ?_
        obtain ⟨b9001, e_b9001, hw⟩ := hw
        have f_b9001 := h.2.2.2.rf (c := 8) (k := 0) f_a0 (by decide) (by decide) e_b9001 (t := 9) rfl
        refine kp_get X h f_a0 ff_8_14.l (v := .ref b9001) (congrArg va_rf e_b9001) dX8_choose_46 ?_
        refine kp_get X h f_b9001 fp_8_66.l (v := .int (kp_I Sn 1805 b9001)) rfl dX8_choose_49 ?_
        refine lv_sipush (v := 324) X.1 X.2.1 dX8_choose_52 (by decide) ?_
        refine lv_icmp_ne (tgt := 193) X.1 X.2.1 dX8_choose_55 (by decide) (fun c9005 => ?_) (fun c9005 => ?_)
        · have hw := hw.1 c9005
          exact j193 xn1 xn2 xn3 xn4 Sn H locs ls (lv_sub hl [0, 1, 2, 3, 4] rfl) h hle f_a0 hw
        · have hw := hw.2 c9005
          refine lv_aload_n X.1 X.2.1 dX8_choose_58 rfl (lv_at hl 0 rfl) ?_
          refine kp_get X h f_a0 ff_8_14.l (v := .ref b9001) (congrArg va_rf e_b9001) dX8_choose_59 ?_
          refine kp_callv X h (kp_runV (rm := { frames := 5, cells := 0, slots := 0, locals := 113 }) (mc := 0) (ms := 0) (rest := []) (Qc := fun A => kp_Qv D cy A Sn _) X h (c_X9_advance l D cy ad Sn b9001 _ h.2.2.2 f_b9001 hw) f_b9001 cv_8_75 ⟨by dsimp only; omega, by dsimp only; omega, rfl, rfl, by dsimp only; omega, by dsimp only; omega⟩ rfl hl.1 rfl (Nat.le_of_ble_eq_true rfl) dX8_choose_62) (fun T9002 hw l_T9002 H locs h => ?_)
          have f_a0 := l_T9002.is f_a0
          have f_b9001 := l_T9002.is f_b9001
          have hle := hle.tr l_T9002
          refine lv_aload_n X.1 X.2.1 dX8_choose_65 rfl (lv_at hl 0 rfl) ?_
          obtain ⟨b9003, e_b9003, hw⟩ := hw
          have f_b9003 := h.2.2.2.rf (c := 8) (k := 0) f_a0 (by decide) (by decide) e_b9003 (t := 9) rfl
          refine kp_get X h f_a0 ff_8_14.l (v := .ref b9003) (congrArg va_rf e_b9003) dX8_choose_66 ?_
          refine kp_get X h f_b9003 fp_8_66.l (v := .int (kp_I T9002 1805 b9003)) rfl dX8_choose_69 ?_
          refine lv_sipush (v := 316) X.1 X.2.1 dX8_choose_72 (by decide) ?_
          refine lv_icmp_ne (tgt := 82) X.1 X.2.1 dX8_choose_75 (by decide) (fun c9004 => ?_) (fun c9004 => ?_)
          · have hw := hw.1 c9004
            refine lv_iconst (v := 0) X.1 X.2.1 dX8_choose_82 (by decide) ?_
            exact j83 xn1 xn2 xn3 xn4 xn5 0 T9002 H locs ls (lv_sub hl [0, 1, 2, 3, 4, 5] rfl) h hle f_a0 hw
          · have hw := hw.2 c9004
            refine lv_iconst (v := 1) X.1 X.2.1 dX8_choose_78 (by decide) ?_
            refine lv_goto (tgt := 83) X.1 X.2.1 dX8_choose_79 (by decide) ?_
            exact j83 xn1 xn2 xn3 xn4 xn5 1 T9002 H locs ls (lv_sub hl [0, 1, 2, 3, 4, 5] rfl) h hle f_a0 hw
  unfold wX8_choose at hw
  have h : kp_H D cy A S s.heap s.heap [] := h
  revert h
  intro h
  refine lv_aload_n X.1 X.2.1 dX8_choose_0 rfl (lv_at hl 0 rfl) ?_
  obtain ⟨b1, e_b1, hw⟩ := hw
  have f_b1 := h.2.2.2.rf (c := 8) (k := 0) f_a0 (by decide) (by decide) e_b1 (t := 9) rfl
  refine kp_get X h f_a0 ff_8_14.l (v := .ref b1) (congrArg va_rf e_b1) dX8_choose_1 ?_
  refine kp_callv X h (kp_runV (rm := { frames := 5, cells := 0, slots := 0, locals := 113 }) (mc := 0) (ms := 0) (rest := []) (Qc := fun A => kp_Qv D cy A S _) X h (c_X9_advance l D cy ad S b1 _ h.2.2.2 f_b1 hw) f_b1 cv_8_75 ⟨by dsimp only; omega, by dsimp only; omega, rfl, rfl, by dsimp only; omega, by dsimp only; omega⟩ rfl hl.1 rfl (Nat.le_of_ble_eq_true rfl) dX8_choose_4) (fun T2 hw l_T2 H locs h => ?_)
  have f_a0 := l_T2.is f_a0
  have f_b1 := l_T2.is f_b1
  have hle := hle.tr l_T2
  refine lv_aload_n X.1 X.2.1 dX8_choose_7 rfl (lv_at hl 0 rfl) ?_
  obtain ⟨b3, e_b3, hw⟩ := hw
  have f_b3 := h.2.2.2.rf (c := 8) (k := 2) f_a0 (by decide) (by decide) e_b3 (t := 2) rfl
  refine kp_get X h f_a0 ff_8_36.l (v := .ref b3) (congrArg va_rf e_b3) dX8_choose_8 ?_
  refine kp_calli X h (kp_runV (rm := { frames := 189, cells := 0, slots := 0, locals := 4339 }) (mc := 0) (ms := 0) (rest := []) (Qc := fun A => kp_Qi D cy A T2 _) X h (c_X2_whole_t l D cy ad T2 b3 _ h.2.2.2 f_b3 hw) f_b3 cv_8_213 ⟨by dsimp only; omega, by dsimp only; omega, rfl, rfl, by dsimp only; omega, by dsimp only; omega⟩ rfl hl.1 rfl (Nat.le_of_ble_eq_true rfl) dX8_choose_11) (fun y5 T4 hw l_T4 H locs h => ?_)
  have f_a0 := l_T4.is f_a0
  have f_b1 := l_T4.is f_b1
  have f_b3 := l_T4.is f_b3
  have hle := hle.tr l_T4
  refine kp_calli X h (kp_runS (rm := { frames := 0, cells := 0, slots := 0, locals := 0 }) (mc := 0) (ms := 0) (rest := []) (Qc := fun A => kp_Qi D cy A T4 _) X h (c_X8_troubleOf l D cy ad T4 y5 _ h.2.2.2  hw) cs_8_216 ⟨by dsimp only; omega, by dsimp only; omega, rfl, rfl, by dsimp only; omega, by dsimp only; omega⟩ rfl hl.1 rfl (Nat.le_of_ble_eq_true rfl) dX8_choose_14) (fun y7 T6 hw l_T6 H locs h => ?_)
  have f_a0 := l_T6.is f_a0
  have f_b1 := l_T6.is f_b1
  have f_b3 := l_T6.is f_b3
  have hle := hle.tr l_T6
  refine lv_istore_n (lv' := [(1, .int y7), (0, .ref a0)]) X.1 X.2.1 dX8_choose_17 rfl hl (by decide) rfl (fun ls hl => ?_)
  refine lv_aload_n X.1 X.2.1 dX8_choose_18 rfl (lv_at hl 1 rfl) ?_
  obtain ⟨b8, e_b8, hw⟩ := hw
  have f_b8 := h.2.2.2.rf (c := 8) (k := 0) f_a0 (by decide) (by decide) e_b8 (t := 9) rfl
  refine kp_get X h f_a0 ff_8_14.l (v := .ref b8) (congrArg va_rf e_b8) dX8_choose_19 ?_
  refine lv_bipush (v := 123) X.1 X.2.1 dX8_choose_22 (by decide) ?_
  refine kp_callv X h (kp_runV (rm := { frames := 6, cells := 0, slots := 0, locals := 134 }) (mc := 0) (ms := 0) (rest := []) (Qc := fun A => kp_Qv D cy A T6 _) X h (c_X9_expectNest l D cy ad T6 b8 123 _ h.2.2.2 f_b8 hw) f_b8 cv_8_140 ⟨by dsimp only; omega, by dsimp only; omega, rfl, rfl, by dsimp only; omega, by dsimp only; omega⟩ rfl hl.1 rfl (Nat.le_of_ble_eq_true rfl) dX8_choose_24) (fun T9 hw l_T9 H locs h => ?_)
  have f_a0 := l_T9.is f_a0
  have f_b1 := l_T9.is f_b1
  have f_b3 := l_T9.is f_b3
  have f_b8 := l_T9.is f_b8
  have hle := hle.tr l_T9
  refine lv_iconst (v := 0) X.1 X.2.1 dX8_choose_27 (by decide) ?_
  refine lv_istore_n (lv' := [(2, .int 0), (1, .int y7), (0, .ref a0)]) X.1 X.2.1 dX8_choose_28 rfl hl (by decide) rfl (fun ls hl => ?_)
  refine lv_iconst (v := 0) X.1 X.2.1 dX8_choose_29 (by decide) ?_
  refine lv_istore_n (lv' := [(3, .int 0), (2, .int 0), (1, .int y7), (0, .ref a0)]) X.1 X.2.1 dX8_choose_30 rfl hl (by decide) rfl (fun ls hl => ?_)
  refine lv_iconst (v := 0) X.1 X.2.1 dX8_choose_31 (by decide) ?_
  refine lv_istore (lv' := [(4, .int 0), (3, .int 0), (2, .int 0), (1, .int y7), (0, .ref a0)]) X.1 X.2.1 dX8_choose_32 hl (by decide) rfl (fun ls hl => ?_)
  refine lv_iconst (v := 0) X.1 X.2.1 dX8_choose_34 (by decide) ?_
  refine lv_istore (lv' := [(5, .int 0), (4, .int 0), (3, .int 0), (2, .int 0), (1, .int y7), (0, .ref a0)]) X.1 X.2.1 dX8_choose_35 hl (by decide) rfl (fun ls hl => ?_)
  obtain ⟨n0, hw⟩ := hw
  exact L37 n0 y7 0 0 0 0 T9 _ _ ls (lv_sub hl [5, 4, 3, 2, 1, 0] rfl) h hle f_a0 hw
theorem dX8_hold_0 : decode cX8_hold 0 = .ok (.aload_n 0, 1) := by decide +kernel
theorem dX8_hold_1 : decode cX8_hold 1 = .ok (.getfield 14, 3) := by decide +kernel
theorem dX8_hold_4 : decode cX8_hold 4 = .ok (.invokevirtual 75, 3) := by decide +kernel
theorem dX8_hold_7 : decode cX8_hold 7 = .ok (.aload_n 0, 1) := by decide +kernel
theorem dX8_hold_8 : decode cX8_hold 8 = .ok (.getfield 36, 3) := by decide +kernel
theorem dX8_hold_11 : decode cX8_hold 11 = .ok (.invokevirtual 213, 3) := by decide +kernel
theorem dX8_hold_14 : decode cX8_hold 14 = .ok (.pop, 1) := by decide +kernel
theorem dX8_hold_15 : decode cX8_hold 15 = .ok (.aload_n 0, 1) := by decide +kernel
theorem dX8_hold_16 : decode cX8_hold 16 = .ok (.getfield 27, 3) := by decide +kernel
theorem dX8_hold_19 : decode cX8_hold 19 = .ok (.bipush 45, 2) := by decide +kernel
theorem dX8_hold_21 : decode cX8_hold 21 = .ok (.invokevirtual 123, 3) := by decide +kernel
theorem dX8_hold_24 : decode cX8_hold 24 = .ok (.pop, 1) := by decide +kernel
theorem dX8_hold_25 : decode cX8_hold 25 = .ok (.aload_n 0, 1) := by decide +kernel
theorem dX8_hold_26 : decode cX8_hold 26 = .ok (.invokevirtual 120, 3) := by decide +kernel
theorem dX8_hold_29 : decode cX8_hold 29 = .ok (.istore_n 1, 1) := by decide +kernel
theorem dX8_hold_30 : decode cX8_hold 30 = .ok (.aload_n 0, 1) := by decide +kernel
theorem dX8_hold_31 : decode cX8_hold 31 = .ok (.getfield 27, 3) := by decide +kernel
theorem dX8_hold_34 : decode cX8_hold 34 = .ok (.bipush 54, 2) := by decide +kernel
theorem dX8_hold_36 : decode cX8_hold 36 = .ok (.invokevirtual 123, 3) := by decide +kernel
theorem dX8_hold_39 : decode cX8_hold 39 = .ok (.pop, 1) := by decide +kernel
theorem dX8_hold_40 : decode cX8_hold 40 = .ok (.iload_n 1, 1) := by decide +kernel
theorem dX8_hold_41 : decode cX8_hold 41 = .ok (.iconst 4, 1) := by decide +kernel
theorem dX8_hold_42 : decode cX8_hold 42 = .ok (.ior, 1) := by decide +kernel
theorem dX8_hold_43 : decode cX8_hold 43 = .ok (.ireturn, 1) := by decide +kernel
def wX8_hold (B : Nat → kp_S → (Int32 → kp_S → Prop) → Prop) (a0 : Nat) (S : kp_S) (post : Int32 → kp_S → Prop) : Prop :=
  ∃ b1 : Nat, kp_R S 1600 a0 = some b1 ∧
  wX9_advance b1 S (fun T2 =>
  ∃ b3 : Nat, kp_R T2 1602 a0 = some b3 ∧
  wX2_whole_t b3 T2 (fun y5 T4 =>
  ∃ b6 : Nat, kp_R T4 1603 a0 = some b6 ∧
  wX0_add b6 45 T4 (fun y8 T7 =>
  B a0 T7 (fun y10 T9 =>
  ∃ b11 : Nat, kp_R T9 1603 a0 = some b11 ∧
  wX0_add b11 54 T9 (fun y13 T12 =>
  post (y10 ||| 4) T12)))))
set_option maxHeartbeats 4000000 in
set_option maxRecDepth 100000 in
theorem c_X8_hold (l : Launch) (D : va_G) (cy : Nat → ClassId) (ad : (Nat → Nat) × (Nat → Nat)) (F L : Nat) (B : Nat → kp_S → (Int32 → kp_S → Prop) → Prop) (hB : ∀ (S : kp_S) (a0 : Nat) (post : Int32 → kp_S → Prop), kp_ok S → kp_is S a0 8 → B a0 S post → kp_M l yX8_block cX8_block 5 (some .int) { frames := F, cells := 0, slots := 0, locals := L } D cy ad S [.ref a0] 0 0 (fun A => kp_Qi D cy A S post)) (hF : 191 ≤ F) (hL : 4387 ≤ L) (S : kp_S) (a0 : Nat) (post : Int32 → kp_S → Prop) (hS : kp_ok S) (f_a0 : kp_is S a0 8) (hw : wX8_hold B a0 S post) : kp_M l yX8_hold cX8_hold 2 (some .int) { frames := F + 1, cells := 0, slots := 0, locals := L + 24 } D cy ad S [.ref a0] 0 0 (fun A => kp_Qi D cy A S post) := by
  refine kp_start (own := RX8) (by decide) rfl (Nat.le_of_ble_eq_true rfl) hS ?_
  intro p e s m below meth c A ls X hr hlocks hname h hl
  have hle : kp_le S S := kp_le.rf
  have hl : lv_has ls 2 [(0, .ref a0)] := hl
  unfold wX8_hold at hw
  have h : kp_H D cy A S s.heap s.heap [] := h
  revert h
  intro h
  refine lv_aload_n X.1 X.2.1 dX8_hold_0 rfl (lv_at hl 0 rfl) ?_
  obtain ⟨b1, e_b1, hw⟩ := hw
  have f_b1 := h.2.2.2.rf (c := 8) (k := 0) f_a0 (by decide) (by decide) e_b1 (t := 9) rfl
  refine kp_get X h f_a0 ff_8_14.l (v := .ref b1) (congrArg va_rf e_b1) dX8_hold_1 ?_
  refine kp_callv X h (kp_runV (rm := { frames := 5, cells := 0, slots := 0, locals := 113 }) (mc := 0) (ms := 0) (rest := []) (Qc := fun A => kp_Qv D cy A S _) X h (c_X9_advance l D cy ad S b1 _ h.2.2.2 f_b1 hw) f_b1 cv_8_75 ⟨by dsimp only; omega, by dsimp only; omega, rfl, rfl, by dsimp only; omega, by dsimp only; omega⟩ rfl hl.1 rfl (Nat.le_of_ble_eq_true rfl) dX8_hold_4) (fun T2 hw l_T2 H locs h => ?_)
  have f_a0 := l_T2.is f_a0
  have f_b1 := l_T2.is f_b1
  have hle := hle.tr l_T2
  refine lv_aload_n X.1 X.2.1 dX8_hold_7 rfl (lv_at hl 0 rfl) ?_
  obtain ⟨b3, e_b3, hw⟩ := hw
  have f_b3 := h.2.2.2.rf (c := 8) (k := 2) f_a0 (by decide) (by decide) e_b3 (t := 2) rfl
  refine kp_get X h f_a0 ff_8_36.l (v := .ref b3) (congrArg va_rf e_b3) dX8_hold_8 ?_
  refine kp_calli X h (kp_runV (rm := { frames := 189, cells := 0, slots := 0, locals := 4339 }) (mc := 0) (ms := 0) (rest := []) (Qc := fun A => kp_Qi D cy A T2 _) X h (c_X2_whole_t l D cy ad T2 b3 _ h.2.2.2 f_b3 hw) f_b3 cv_8_213 ⟨by dsimp only; omega, by dsimp only; omega, rfl, rfl, by dsimp only; omega, by dsimp only; omega⟩ rfl hl.1 rfl (Nat.le_of_ble_eq_true rfl) dX8_hold_11) (fun y5 T4 hw l_T4 H locs h => ?_)
  have f_a0 := l_T4.is f_a0
  have f_b1 := l_T4.is f_b1
  have f_b3 := l_T4.is f_b3
  have hle := hle.tr l_T4
  refine lv_pop X.1 X.2.1 dX8_hold_14 rfl ?_
  refine lv_aload_n X.1 X.2.1 dX8_hold_15 rfl (lv_at hl 0 rfl) ?_
  obtain ⟨b6, e_b6, hw⟩ := hw
  have f_b6 := h.2.2.2.rf (c := 8) (k := 3) f_a0 (by decide) (by decide) e_b6 (t := 0) rfl
  refine kp_get X h f_a0 fp_8_27.l (v := .ref b6) (congrArg va_rf e_b6) dX8_hold_16 ?_
  refine lv_bipush (v := 45) X.1 X.2.1 dX8_hold_19 (by decide) ?_
  refine kp_calli X h (kp_runV (rm := { frames := 0, cells := 0, slots := 0, locals := 0 }) (mc := 0) (ms := 0) (rest := []) (Qc := fun A => kp_Qi D cy A T4 _) X h (c_X0_add l D cy ad T4 b6 45 _ h.2.2.2 f_b6 hw) f_b6 cv_8_123 ⟨by dsimp only; omega, by dsimp only; omega, rfl, rfl, by dsimp only; omega, by dsimp only; omega⟩ rfl hl.1 rfl (Nat.le_of_ble_eq_true rfl) dX8_hold_21) (fun y8 T7 hw l_T7 H locs h => ?_)
  have f_a0 := l_T7.is f_a0
  have f_b1 := l_T7.is f_b1
  have f_b3 := l_T7.is f_b3
  have f_b6 := l_T7.is f_b6
  have hle := hle.tr l_T7
  refine lv_pop X.1 X.2.1 dX8_hold_24 rfl ?_
  refine lv_aload_n X.1 X.2.1 dX8_hold_25 rfl (lv_at hl 0 rfl) ?_
  refine kp_calli X h (kp_runV (rm := { frames := F, cells := 0, slots := 0, locals := L }) (mc := 0) (ms := 0) (rest := []) (Qc := fun A => kp_Qi D cy A T7 _) X h (hB T7 a0 _ h.2.2.2 f_a0 hw) f_a0 cv_8_120 ⟨by dsimp only; omega, by dsimp only; omega, rfl, rfl, by dsimp only; omega, by dsimp only; omega⟩ rfl hl.1 rfl (Nat.le_of_ble_eq_true rfl) dX8_hold_26) (fun y10 T9 hw l_T9 H locs h => ?_)
  have f_a0 := l_T9.is f_a0
  have f_b1 := l_T9.is f_b1
  have f_b3 := l_T9.is f_b3
  have f_b6 := l_T9.is f_b6
  have hle := hle.tr l_T9
  refine lv_istore_n (lv' := [(1, .int y10), (0, .ref a0)]) X.1 X.2.1 dX8_hold_29 rfl hl (by decide) rfl (fun ls hl => ?_)
  refine lv_aload_n X.1 X.2.1 dX8_hold_30 rfl (lv_at hl 1 rfl) ?_
  obtain ⟨b11, e_b11, hw⟩ := hw
  have f_b11 := h.2.2.2.rf (c := 8) (k := 3) f_a0 (by decide) (by decide) e_b11 (t := 0) rfl
  refine kp_get X h f_a0 fp_8_27.l (v := .ref b11) (congrArg va_rf e_b11) dX8_hold_31 ?_
  refine lv_bipush (v := 54) X.1 X.2.1 dX8_hold_34 (by decide) ?_
  refine kp_calli X h (kp_runV (rm := { frames := 0, cells := 0, slots := 0, locals := 0 }) (mc := 0) (ms := 0) (rest := []) (Qc := fun A => kp_Qi D cy A T9 _) X h (c_X0_add l D cy ad T9 b11 54 _ h.2.2.2 f_b11 hw) f_b11 cv_8_123 ⟨by dsimp only; omega, by dsimp only; omega, rfl, rfl, by dsimp only; omega, by dsimp only; omega⟩ rfl hl.1 rfl (Nat.le_of_ble_eq_true rfl) dX8_hold_36) (fun y13 T12 hw l_T12 H locs h => ?_)
  have f_a0 := l_T12.is f_a0
  have f_b1 := l_T12.is f_b1
  have f_b3 := l_T12.is f_b3
  have f_b6 := l_T12.is f_b6
  have f_b11 := l_T12.is f_b11
  have hle := hle.tr l_T12
  refine lv_pop X.1 X.2.1 dX8_hold_39 rfl ?_
  refine lv_iload_n X.1 X.2.1 dX8_hold_40 rfl (lv_at hl 0 rfl) ?_
  refine lv_iconst (v := 4) X.1 X.2.1 dX8_hold_41 (by decide) ?_
  refine lv_ior X.1 X.2.1 dX8_hold_42 ?_
  exact kp_reti X hr hlocks h hle rfl hw dX8_hold_43
theorem dX8_ensure_0 : decode cX8_ensure 0 = .ok (.aload_n 0, 1) := by decide +kernel
theorem dX8_ensure_1 : decode cX8_ensure 1 = .ok (.getfield 14, 3) := by decide +kernel
theorem dX8_ensure_4 : decode cX8_ensure 4 = .ok (.invokevirtual 75, 3) := by decide +kernel
theorem dX8_ensure_7 : decode cX8_ensure 7 = .ok (.aload_n 0, 1) := by decide +kernel
theorem dX8_ensure_8 : decode cX8_ensure 8 = .ok (.getfield 27, 3) := by decide +kernel
theorem dX8_ensure_11 : decode cX8_ensure 11 = .ok (.bipush 50, 2) := by decide +kernel
theorem dX8_ensure_13 : decode cX8_ensure 13 = .ok (.iload_n 1, 1) := by decide +kernel
theorem dX8_ensure_14 : decode cX8_ensure 14 = .ok (.invokevirtual 261, 3) := by decide +kernel
theorem dX8_ensure_17 : decode cX8_ensure 17 = .ok (.istore_n 2, 1) := by decide +kernel
theorem dX8_ensure_18 : decode cX8_ensure 18 = .ok (.aload_n 0, 1) := by decide +kernel
theorem dX8_ensure_19 : decode cX8_ensure 19 = .ok (.getfield 36, 3) := by decide +kernel
theorem dX8_ensure_22 : decode cX8_ensure 22 = .ok (.invokevirtual 213, 3) := by decide +kernel
theorem dX8_ensure_25 : decode cX8_ensure 25 = .ok (.pop, 1) := by decide +kernel
theorem dX8_ensure_26 : decode cX8_ensure 26 = .ok (.aload_n 0, 1) := by decide +kernel
theorem dX8_ensure_27 : decode cX8_ensure 27 = .ok (.getfield 27, 3) := by decide +kernel
theorem dX8_ensure_30 : decode cX8_ensure 30 = .ok (.bipush 51, 2) := by decide +kernel
theorem dX8_ensure_32 : decode cX8_ensure 32 = .ok (.invokevirtual 123, 3) := by decide +kernel
theorem dX8_ensure_35 : decode cX8_ensure 35 = .ok (.pop, 1) := by decide +kernel
theorem dX8_ensure_36 : decode cX8_ensure 36 = .ok (.aload_n 0, 1) := by decide +kernel
theorem dX8_ensure_37 : decode cX8_ensure 37 = .ok (.getfield 27, 3) := by decide +kernel
theorem dX8_ensure_40 : decode cX8_ensure 40 = .ok (.iload_n 2, 1) := by decide +kernel
theorem dX8_ensure_41 : decode cX8_ensure 41 = .ok (.iconst 2, 1) := by decide +kernel
theorem dX8_ensure_42 : decode cX8_ensure 42 = .ok (.iadd, 1) := by decide +kernel
theorem dX8_ensure_43 : decode cX8_ensure 43 = .ok (.aload_n 0, 1) := by decide +kernel
theorem dX8_ensure_44 : decode cX8_ensure 44 = .ok (.getfield 27, 3) := by decide +kernel
theorem dX8_ensure_47 : decode cX8_ensure 47 = .ok (.invokevirtual 237, 3) := by decide +kernel
theorem dX8_ensure_50 : decode cX8_ensure 50 = .ok (.invokevirtual 240, 3) := by decide +kernel
theorem dX8_ensure_53 : decode cX8_ensure 53 = .ok (.aload_n 0, 1) := by decide +kernel
theorem dX8_ensure_54 : decode cX8_ensure 54 = .ok (.invokevirtual 120, 3) := by decide +kernel
theorem dX8_ensure_57 : decode cX8_ensure 57 = .ok (.istore_n 3, 1) := by decide +kernel
theorem dX8_ensure_58 : decode cX8_ensure 58 = .ok (.aload_n 0, 1) := by decide +kernel
theorem dX8_ensure_59 : decode cX8_ensure 59 = .ok (.getfield 27, 3) := by decide +kernel
theorem dX8_ensure_62 : decode cX8_ensure 62 = .ok (.bipush 54, 2) := by decide +kernel
theorem dX8_ensure_64 : decode cX8_ensure 64 = .ok (.invokevirtual 123, 3) := by decide +kernel
theorem dX8_ensure_67 : decode cX8_ensure 67 = .ok (.pop, 1) := by decide +kernel
theorem dX8_ensure_68 : decode cX8_ensure 68 = .ok (.aload_n 0, 1) := by decide +kernel
theorem dX8_ensure_69 : decode cX8_ensure 69 = .ok (.getfield 27, 3) := by decide +kernel
theorem dX8_ensure_72 : decode cX8_ensure 72 = .ok (.iload_n 2, 1) := by decide +kernel
theorem dX8_ensure_73 : decode cX8_ensure 73 = .ok (.iconst 3, 1) := by decide +kernel
theorem dX8_ensure_74 : decode cX8_ensure 74 = .ok (.iadd, 1) := by decide +kernel
theorem dX8_ensure_75 : decode cX8_ensure 75 = .ok (.aload_n 0, 1) := by decide +kernel
theorem dX8_ensure_76 : decode cX8_ensure 76 = .ok (.getfield 27, 3) := by decide +kernel
theorem dX8_ensure_79 : decode cX8_ensure 79 = .ok (.invokevirtual 237, 3) := by decide +kernel
theorem dX8_ensure_82 : decode cX8_ensure 82 = .ok (.invokevirtual 240, 3) := by decide +kernel
theorem dX8_ensure_85 : decode cX8_ensure 85 = .ok (.iload_n 3, 1) := by decide +kernel
theorem dX8_ensure_86 : decode cX8_ensure 86 = .ok (.ifCond .ne 7, 3) := by decide +kernel
theorem dX8_ensure_89 : decode cX8_ensure 89 = .ok (.iconst 0, 1) := by decide +kernel
theorem dX8_ensure_90 : decode cX8_ensure 90 = .ok (.goto 6, 3) := by decide +kernel
theorem dX8_ensure_93 : decode cX8_ensure 93 = .ok (.iload_n 3, 1) := by decide +kernel
theorem dX8_ensure_94 : decode cX8_ensure 94 = .ok (.iconst 4, 1) := by decide +kernel
theorem dX8_ensure_95 : decode cX8_ensure 95 = .ok (.ior, 1) := by decide +kernel
theorem dX8_ensure_96 : decode cX8_ensure 96 = .ok (.ireturn, 1) := by decide +kernel
def wX8_ensure_b96 (B : Nat → kp_S → (Int32 → kp_S → Prop) → Prop) (a0 : Nat) (x1 : Int32) (xt0 : Int32)  (Sn : kp_S) (post : Int32 → kp_S → Prop) : Prop :=
  post xt0 Sn
def wX8_ensure (B : Nat → kp_S → (Int32 → kp_S → Prop) → Prop) (a0 : Nat) (x1 : Int32) (S : kp_S) (post : Int32 → kp_S → Prop) : Prop :=
  ∃ b1 : Nat, kp_R S 1600 a0 = some b1 ∧
  wX9_advance b1 S (fun T2 =>
  ∃ b3 : Nat, kp_R T2 1603 a0 = some b3 ∧
  wX0_addPart b3 50 x1 T2 (fun y5 T4 =>
  ∃ b6 : Nat, kp_R T4 1602 a0 = some b6 ∧
  wX2_whole_t b6 T4 (fun y8 T7 =>
  ∃ b9 : Nat, kp_R T7 1603 a0 = some b9 ∧
  wX0_add b9 51 T7 (fun y11 T10 =>
  ∃ b12 : Nat, kp_R T10 1603 a0 = some b12 ∧
  wX0_size b12 T10 (fun y14 T13 =>
  wX0_set b12 (y5 + 2) y14 T13 (fun T15 =>
  B a0 T15 (fun y17 T16 =>
  ∃ b18 : Nat, kp_R T16 1603 a0 = some b18 ∧
  wX0_add b18 54 T16 (fun y20 T19 =>
  ∃ b21 : Nat, kp_R T19 1603 a0 = some b21 ∧
  wX0_size b21 T19 (fun y23 T22 =>
  wX0_set b21 (y5 + 3) y23 T22 (fun T24 =>
  ((¬ y17 = 0 →
  wX8_ensure_b96 B a0 x1 (y17 ||| 4)  T24 post) ∧ (y17 = 0 →
  wX8_ensure_b96 B a0 x1 0  T24 post))))))))))))
set_option maxHeartbeats 4000000 in
set_option maxRecDepth 100000 in
theorem c_X8_ensure (l : Launch) (D : va_G) (cy : Nat → ClassId) (ad : (Nat → Nat) × (Nat → Nat)) (F L : Nat) (B : Nat → kp_S → (Int32 → kp_S → Prop) → Prop) (hB : ∀ (S : kp_S) (a0 : Nat) (post : Int32 → kp_S → Prop), kp_ok S → kp_is S a0 8 → B a0 S post → kp_M l yX8_block cX8_block 5 (some .int) { frames := F, cells := 0, slots := 0, locals := L } D cy ad S [.ref a0] 0 0 (fun A => kp_Qi D cy A S post)) (hF : 191 ≤ F) (hL : 4387 ≤ L) (S : kp_S) (a0 : Nat) (x1 : Int32) (post : Int32 → kp_S → Prop) (hS : kp_ok S) (f_a0 : kp_is S a0 8) (hw : wX8_ensure B a0 x1 S post) : kp_M l yX8_ensure cX8_ensure 4 (some .int) { frames := F + 1, cells := 0, slots := 0, locals := L + 24 } D cy ad S [.ref a0, .int x1] 0 0 (fun A => kp_Qi D cy A S post) := by
  refine kp_start (own := RX8) (by decide) rfl (Nat.le_of_ble_eq_true rfl) hS ?_
  intro p e s m below meth c A ls X hr hlocks hname h hl
  have hle : kp_le S S := kp_le.rf
  have hl : lv_has ls 4 [(0, .ref a0), (1, .int x1)] := hl
  have j96 : ∀ (xt0 : Int32) (Sn : kp_S) (H : Heap) (locs : List Loc) (ls : Array Slot), lv_has ls 4 [] → kp_H D cy A Sn s.heap H locs → kp_le S Sn → kp_is Sn a0 8 → wX8_ensure_b96 B a0 x1 xt0  Sn post → W p l e { frames := F + 1, cells := 0, slots := 0, locals := L + 24 } s m ([.ref a0, .int x1] : List Value).toArray below meth c H locs 0 0 (MQ below (kp_Qi D cy A S post) ([.ref a0, .int x1] : List Value).toArray s 0 0 A) (F0 m 96 ls [.int xt0]) := by
    intro xt0 Sn H locs ls hl h hle f_a0 hw
    unfold wX8_ensure_b96 at hw
    exact kp_reti X hr hlocks h hle rfl hw dX8_ensure_96
  unfold wX8_ensure at hw
  have h : kp_H D cy A S s.heap s.heap [] := h
  revert h
  intro h
  refine lv_aload_n X.1 X.2.1 dX8_ensure_0 rfl (lv_at hl 0 rfl) ?_
  obtain ⟨b1, e_b1, hw⟩ := hw
  have f_b1 := h.2.2.2.rf (c := 8) (k := 0) f_a0 (by decide) (by decide) e_b1 (t := 9) rfl
  refine kp_get X h f_a0 ff_8_14.l (v := .ref b1) (congrArg va_rf e_b1) dX8_ensure_1 ?_
  refine kp_callv X h (kp_runV (rm := { frames := 5, cells := 0, slots := 0, locals := 113 }) (mc := 0) (ms := 0) (rest := []) (Qc := fun A => kp_Qv D cy A S _) X h (c_X9_advance l D cy ad S b1 _ h.2.2.2 f_b1 hw) f_b1 cv_8_75 ⟨by dsimp only; omega, by dsimp only; omega, rfl, rfl, by dsimp only; omega, by dsimp only; omega⟩ rfl hl.1 rfl (Nat.le_of_ble_eq_true rfl) dX8_ensure_4) (fun T2 hw l_T2 H locs h => ?_)
  have f_a0 := l_T2.is f_a0
  have f_b1 := l_T2.is f_b1
  have hle := hle.tr l_T2
  refine lv_aload_n X.1 X.2.1 dX8_ensure_7 rfl (lv_at hl 0 rfl) ?_
  obtain ⟨b3, e_b3, hw⟩ := hw
  have f_b3 := h.2.2.2.rf (c := 8) (k := 3) f_a0 (by decide) (by decide) e_b3 (t := 0) rfl
  refine kp_get X h f_a0 fp_8_27.l (v := .ref b3) (congrArg va_rf e_b3) dX8_ensure_8 ?_
  refine lv_bipush (v := 50) X.1 X.2.1 dX8_ensure_11 (by decide) ?_
  refine lv_iload_n X.1 X.2.1 dX8_ensure_13 rfl (lv_at hl 1 rfl) ?_
  refine kp_calli X h (kp_runV (rm := { frames := 2, cells := 0, slots := 0, locals := 45 }) (mc := 0) (ms := 0) (rest := []) (Qc := fun A => kp_Qi D cy A T2 _) X h (c_X0_addPart l D cy ad T2 b3 50 x1 _ h.2.2.2 f_b3 hw) f_b3 cv_8_261 ⟨by dsimp only; omega, by dsimp only; omega, rfl, rfl, by dsimp only; omega, by dsimp only; omega⟩ rfl hl.1 rfl (Nat.le_of_ble_eq_true rfl) dX8_ensure_14) (fun y5 T4 hw l_T4 H locs h => ?_)
  have f_a0 := l_T4.is f_a0
  have f_b1 := l_T4.is f_b1
  have f_b3 := l_T4.is f_b3
  have hle := hle.tr l_T4
  refine lv_istore_n (lv' := [(2, .int y5), (0, .ref a0), (1, .int x1)]) X.1 X.2.1 dX8_ensure_17 rfl hl (by decide) rfl (fun ls hl => ?_)
  refine lv_aload_n X.1 X.2.1 dX8_ensure_18 rfl (lv_at hl 1 rfl) ?_
  obtain ⟨b6, e_b6, hw⟩ := hw
  have f_b6 := h.2.2.2.rf (c := 8) (k := 2) f_a0 (by decide) (by decide) e_b6 (t := 2) rfl
  refine kp_get X h f_a0 ff_8_36.l (v := .ref b6) (congrArg va_rf e_b6) dX8_ensure_19 ?_
  refine kp_calli X h (kp_runV (rm := { frames := 189, cells := 0, slots := 0, locals := 4339 }) (mc := 0) (ms := 0) (rest := []) (Qc := fun A => kp_Qi D cy A T4 _) X h (c_X2_whole_t l D cy ad T4 b6 _ h.2.2.2 f_b6 hw) f_b6 cv_8_213 ⟨by dsimp only; omega, by dsimp only; omega, rfl, rfl, by dsimp only; omega, by dsimp only; omega⟩ rfl hl.1 rfl (Nat.le_of_ble_eq_true rfl) dX8_ensure_22) (fun y8 T7 hw l_T7 H locs h => ?_)
  have f_a0 := l_T7.is f_a0
  have f_b1 := l_T7.is f_b1
  have f_b3 := l_T7.is f_b3
  have f_b6 := l_T7.is f_b6
  have hle := hle.tr l_T7
  refine lv_pop X.1 X.2.1 dX8_ensure_25 rfl ?_
  refine lv_aload_n X.1 X.2.1 dX8_ensure_26 rfl (lv_at hl 1 rfl) ?_
  obtain ⟨b9, e_b9, hw⟩ := hw
  have f_b9 := h.2.2.2.rf (c := 8) (k := 3) f_a0 (by decide) (by decide) e_b9 (t := 0) rfl
  refine kp_get X h f_a0 fp_8_27.l (v := .ref b9) (congrArg va_rf e_b9) dX8_ensure_27 ?_
  refine lv_bipush (v := 51) X.1 X.2.1 dX8_ensure_30 (by decide) ?_
  refine kp_calli X h (kp_runV (rm := { frames := 0, cells := 0, slots := 0, locals := 0 }) (mc := 0) (ms := 0) (rest := []) (Qc := fun A => kp_Qi D cy A T7 _) X h (c_X0_add l D cy ad T7 b9 51 _ h.2.2.2 f_b9 hw) f_b9 cv_8_123 ⟨by dsimp only; omega, by dsimp only; omega, rfl, rfl, by dsimp only; omega, by dsimp only; omega⟩ rfl hl.1 rfl (Nat.le_of_ble_eq_true rfl) dX8_ensure_32) (fun y11 T10 hw l_T10 H locs h => ?_)
  have f_a0 := l_T10.is f_a0
  have f_b1 := l_T10.is f_b1
  have f_b3 := l_T10.is f_b3
  have f_b6 := l_T10.is f_b6
  have f_b9 := l_T10.is f_b9
  have hle := hle.tr l_T10
  refine lv_pop X.1 X.2.1 dX8_ensure_35 rfl ?_
  refine lv_aload_n X.1 X.2.1 dX8_ensure_36 rfl (lv_at hl 1 rfl) ?_
  obtain ⟨b12, e_b12, hw⟩ := hw
  have f_b12 := h.2.2.2.rf (c := 8) (k := 3) f_a0 (by decide) (by decide) e_b12 (t := 0) rfl
  refine kp_get X h f_a0 fp_8_27.l (v := .ref b12) (congrArg va_rf e_b12) dX8_ensure_37 ?_
  refine lv_iload_n X.1 X.2.1 dX8_ensure_40 rfl (lv_at hl 0 rfl) ?_
  refine lv_iconst (v := 2) X.1 X.2.1 dX8_ensure_41 (by decide) ?_
  refine lv_iadd X.1 X.2.1 dX8_ensure_42 ?_
  refine lv_aload_n X.1 X.2.1 dX8_ensure_43 rfl (lv_at hl 1 rfl) ?_
  refine kp_get X h f_a0 fp_8_27.l (v := .ref b12) (congrArg va_rf e_b12) dX8_ensure_44 ?_
  refine kp_calli X h (kp_runV (rm := { frames := 0, cells := 0, slots := 0, locals := 0 }) (mc := 0) (ms := 0) (rest := [.int (y5 + 2), .ref b12]) (Qc := fun A => kp_Qi D cy A T10 _) X h (c_X0_size l D cy ad T10 b12 _ h.2.2.2 f_b12 hw) f_b12 cv_8_237 ⟨by dsimp only; omega, by dsimp only; omega, rfl, rfl, by dsimp only; omega, by dsimp only; omega⟩ rfl hl.1 rfl (Nat.le_of_ble_eq_true rfl) dX8_ensure_47) (fun y14 T13 hw l_T13 H locs h => ?_)
  have f_a0 := l_T13.is f_a0
  have f_b1 := l_T13.is f_b1
  have f_b3 := l_T13.is f_b3
  have f_b6 := l_T13.is f_b6
  have f_b9 := l_T13.is f_b9
  have f_b12 := l_T13.is f_b12
  have hle := hle.tr l_T13
  refine kp_callv X h (kp_runV (rm := { frames := 0, cells := 0, slots := 0, locals := 0 }) (mc := 0) (ms := 0) (rest := []) (Qc := fun A => kp_Qv D cy A T13 _) X h (c_X0_set l D cy ad T13 b12 (y5 + 2) y14 _ h.2.2.2 f_b12 hw) f_b12 cv_8_240 ⟨by dsimp only; omega, by dsimp only; omega, rfl, rfl, by dsimp only; omega, by dsimp only; omega⟩ rfl hl.1 rfl (Nat.le_of_ble_eq_true rfl) dX8_ensure_50) (fun T15 hw l_T15 H locs h => ?_)
  have f_a0 := l_T15.is f_a0
  have f_b1 := l_T15.is f_b1
  have f_b3 := l_T15.is f_b3
  have f_b6 := l_T15.is f_b6
  have f_b9 := l_T15.is f_b9
  have f_b12 := l_T15.is f_b12
  have hle := hle.tr l_T15
  refine lv_aload_n X.1 X.2.1 dX8_ensure_53 rfl (lv_at hl 1 rfl) ?_
  refine kp_calli X h (kp_runV (rm := { frames := F, cells := 0, slots := 0, locals := L }) (mc := 0) (ms := 0) (rest := []) (Qc := fun A => kp_Qi D cy A T15 _) X h (hB T15 a0 _ h.2.2.2 f_a0 hw) f_a0 cv_8_120 ⟨by dsimp only; omega, by dsimp only; omega, rfl, rfl, by dsimp only; omega, by dsimp only; omega⟩ rfl hl.1 rfl (Nat.le_of_ble_eq_true rfl) dX8_ensure_54) (fun y17 T16 hw l_T16 H locs h => ?_)
  have f_a0 := l_T16.is f_a0
  have f_b1 := l_T16.is f_b1
  have f_b3 := l_T16.is f_b3
  have f_b6 := l_T16.is f_b6
  have f_b9 := l_T16.is f_b9
  have f_b12 := l_T16.is f_b12
  have hle := hle.tr l_T16
  refine lv_istore_n (lv' := [(3, .int y17), (2, .int y5), (0, .ref a0), (1, .int x1)]) X.1 X.2.1 dX8_ensure_57 rfl hl (by decide) rfl (fun ls hl => ?_)
  refine lv_aload_n X.1 X.2.1 dX8_ensure_58 rfl (lv_at hl 2 rfl) ?_
  obtain ⟨b18, e_b18, hw⟩ := hw
  have f_b18 := h.2.2.2.rf (c := 8) (k := 3) f_a0 (by decide) (by decide) e_b18 (t := 0) rfl
  refine kp_get X h f_a0 fp_8_27.l (v := .ref b18) (congrArg va_rf e_b18) dX8_ensure_59 ?_
  refine lv_bipush (v := 54) X.1 X.2.1 dX8_ensure_62 (by decide) ?_
  refine kp_calli X h (kp_runV (rm := { frames := 0, cells := 0, slots := 0, locals := 0 }) (mc := 0) (ms := 0) (rest := []) (Qc := fun A => kp_Qi D cy A T16 _) X h (c_X0_add l D cy ad T16 b18 54 _ h.2.2.2 f_b18 hw) f_b18 cv_8_123 ⟨by dsimp only; omega, by dsimp only; omega, rfl, rfl, by dsimp only; omega, by dsimp only; omega⟩ rfl hl.1 rfl (Nat.le_of_ble_eq_true rfl) dX8_ensure_64) (fun y20 T19 hw l_T19 H locs h => ?_)
  have f_a0 := l_T19.is f_a0
  have f_b1 := l_T19.is f_b1
  have f_b3 := l_T19.is f_b3
  have f_b6 := l_T19.is f_b6
  have f_b9 := l_T19.is f_b9
  have f_b12 := l_T19.is f_b12
  have f_b18 := l_T19.is f_b18
  have hle := hle.tr l_T19
  refine lv_pop X.1 X.2.1 dX8_ensure_67 rfl ?_
  refine lv_aload_n X.1 X.2.1 dX8_ensure_68 rfl (lv_at hl 2 rfl) ?_
  obtain ⟨b21, e_b21, hw⟩ := hw
  have f_b21 := h.2.2.2.rf (c := 8) (k := 3) f_a0 (by decide) (by decide) e_b21 (t := 0) rfl
  refine kp_get X h f_a0 fp_8_27.l (v := .ref b21) (congrArg va_rf e_b21) dX8_ensure_69 ?_
  refine lv_iload_n X.1 X.2.1 dX8_ensure_72 rfl (lv_at hl 1 rfl) ?_
  refine lv_iconst (v := 3) X.1 X.2.1 dX8_ensure_73 (by decide) ?_
  refine lv_iadd X.1 X.2.1 dX8_ensure_74 ?_
  refine lv_aload_n X.1 X.2.1 dX8_ensure_75 rfl (lv_at hl 2 rfl) ?_
  refine kp_get X h f_a0 fp_8_27.l (v := .ref b21) (congrArg va_rf e_b21) dX8_ensure_76 ?_
  refine kp_calli X h (kp_runV (rm := { frames := 0, cells := 0, slots := 0, locals := 0 }) (mc := 0) (ms := 0) (rest := [.int (y5 + 3), .ref b21]) (Qc := fun A => kp_Qi D cy A T19 _) X h (c_X0_size l D cy ad T19 b21 _ h.2.2.2 f_b21 hw) f_b21 cv_8_237 ⟨by dsimp only; omega, by dsimp only; omega, rfl, rfl, by dsimp only; omega, by dsimp only; omega⟩ rfl hl.1 rfl (Nat.le_of_ble_eq_true rfl) dX8_ensure_79) (fun y23 T22 hw l_T22 H locs h => ?_)
  have f_a0 := l_T22.is f_a0
  have f_b1 := l_T22.is f_b1
  have f_b3 := l_T22.is f_b3
  have f_b6 := l_T22.is f_b6
  have f_b9 := l_T22.is f_b9
  have f_b12 := l_T22.is f_b12
  have f_b18 := l_T22.is f_b18
  have f_b21 := l_T22.is f_b21
  have hle := hle.tr l_T22
  refine kp_callv X h (kp_runV (rm := { frames := 0, cells := 0, slots := 0, locals := 0 }) (mc := 0) (ms := 0) (rest := []) (Qc := fun A => kp_Qv D cy A T22 _) X h (c_X0_set l D cy ad T22 b21 (y5 + 3) y23 _ h.2.2.2 f_b21 hw) f_b21 cv_8_240 ⟨by dsimp only; omega, by dsimp only; omega, rfl, rfl, by dsimp only; omega, by dsimp only; omega⟩ rfl hl.1 rfl (Nat.le_of_ble_eq_true rfl) dX8_ensure_82) (fun T24 hw l_T24 H locs h => ?_)
  have f_a0 := l_T24.is f_a0
  have f_b1 := l_T24.is f_b1
  have f_b3 := l_T24.is f_b3
  have f_b6 := l_T24.is f_b6
  have f_b9 := l_T24.is f_b9
  have f_b12 := l_T24.is f_b12
  have f_b18 := l_T24.is f_b18
  have f_b21 := l_T24.is f_b21
  have hle := hle.tr l_T24
  refine lv_iload_n X.1 X.2.1 dX8_ensure_85 rfl (lv_at hl 0 rfl) ?_
  refine lv_if_ne (tgt := 93) X.1 X.2.1 dX8_ensure_86 (by decide) (fun c25 => ?_) (fun c25 => ?_)
  · have hw := hw.1 c25
    refine lv_iload_n X.1 X.2.1 dX8_ensure_93 rfl (lv_at hl 0 rfl) ?_
    refine lv_iconst (v := 4) X.1 X.2.1 dX8_ensure_94 (by decide) ?_
    refine lv_ior X.1 X.2.1 dX8_ensure_95 ?_
    exact j96 (y17 ||| 4) T24 _ _ ls (lv_sub hl [] rfl) h hle f_a0 hw
  · have hw := hw.2 c25
    refine lv_iconst (v := 0) X.1 X.2.1 dX8_ensure_89 (by decide) ?_
    refine lv_goto (tgt := 96) X.1 X.2.1 dX8_ensure_90 (by decide) ?_
    exact j96 0 T24 _ _ ls (lv_sub hl [] rfl) h hle f_a0 hw
theorem dX8_mends_0 : decode cX8_mends 0 = .ok (.aload_n 0, 1) := by decide +kernel
theorem dX8_mends_1 : decode cX8_mends 1 = .ok (.getfield 27, 3) := by decide +kernel
theorem dX8_mends_4 : decode cX8_mends 4 = .ok (.iload_n 1, 1) := by decide +kernel
theorem dX8_mends_5 : decode cX8_mends 5 = .ok (.iconst 2, 1) := by decide +kernel
theorem dX8_mends_6 : decode cX8_mends 6 = .ok (.iadd, 1) := by decide +kernel
theorem dX8_mends_7 : decode cX8_mends 7 = .ok (.aload_n 0, 1) := by decide +kernel
theorem dX8_mends_8 : decode cX8_mends 8 = .ok (.getfield 27, 3) := by decide +kernel
theorem dX8_mends_11 : decode cX8_mends 11 = .ok (.invokevirtual 237, 3) := by decide +kernel
theorem dX8_mends_14 : decode cX8_mends 14 = .ok (.invokevirtual 240, 3) := by decide +kernel
theorem dX8_mends_17 : decode cX8_mends 17 = .ok (.iconst 0, 1) := by decide +kernel
theorem dX8_mends_18 : decode cX8_mends 18 = .ok (.istore_n 3, 1) := by decide +kernel
theorem dX8_mends_19 : decode cX8_mends 19 = .ok (.iconst 0, 1) := by decide +kernel
theorem dX8_mends_20 : decode cX8_mends 20 = .ok (.istore 4, 2) := by decide +kernel
theorem dX8_mends_22 : decode cX8_mends 22 = .ok (.iconst 0, 1) := by decide +kernel
theorem dX8_mends_23 : decode cX8_mends 23 = .ok (.istore 5, 2) := by decide +kernel
theorem dX8_mends_25 : decode cX8_mends 25 = .ok (.iconst 0, 1) := by decide +kernel
theorem dX8_mends_26 : decode cX8_mends 26 = .ok (.istore 6, 2) := by decide +kernel
theorem dX8_mends_28 : decode cX8_mends 28 = .ok (.iload 6, 2) := by decide +kernel
theorem dX8_mends_30 : decode cX8_mends 30 = .ok (.sipush 3000, 3) := by decide +kernel
theorem dX8_mends_33 : decode cX8_mends 33 = .ok (.if_icmp .ge 180, 3) := by decide +kernel
theorem dX8_mends_36 : decode cX8_mends 36 = .ok (.aload_n 0, 1) := by decide +kernel
theorem dX8_mends_37 : decode cX8_mends 37 = .ok (.getfield 14, 3) := by decide +kernel
theorem dX8_mends_40 : decode cX8_mends 40 = .ok (.getfield 66, 3) := by decide +kernel
theorem dX8_mends_43 : decode cX8_mends 43 = .ok (.sipush 315, 3) := by decide +kernel
theorem dX8_mends_46 : decode cX8_mends 46 = .ok (.if_icmp .ne 167, 3) := by decide +kernel
theorem dX8_mends_49 : decode cX8_mends 49 = .ok (.aload_n 0, 1) := by decide +kernel
theorem dX8_mends_50 : decode cX8_mends 50 = .ok (.getfield 14, 3) := by decide +kernel
theorem dX8_mends_53 : decode cX8_mends 53 = .ok (.invokevirtual 75, 3) := by decide +kernel
theorem dX8_mends_56 : decode cX8_mends 56 = .ok (.aload_n 0, 1) := by decide +kernel
theorem dX8_mends_57 : decode cX8_mends 57 = .ok (.getfield 14, 3) := by decide +kernel
theorem dX8_mends_60 : decode cX8_mends 60 = .ok (.getfield 66, 3) := by decide +kernel
theorem dX8_mends_63 : decode cX8_mends 63 = .ok (.sipush 316, 3) := by decide +kernel
theorem dX8_mends_66 : decode cX8_mends 66 = .ok (.if_icmp .ne 7, 3) := by decide +kernel
theorem dX8_mends_69 : decode cX8_mends 69 = .ok (.iconst 1, 1) := by decide +kernel
theorem dX8_mends_70 : decode cX8_mends 70 = .ok (.goto 4, 3) := by decide +kernel
theorem dX8_mends_73 : decode cX8_mends 73 = .ok (.iconst 0, 1) := by decide +kernel
theorem dX8_mends_74 : decode cX8_mends 74 = .ok (.istore 7, 2) := by decide +kernel
theorem dX8_mends_76 : decode cX8_mends 76 = .ok (.iload 7, 2) := by decide +kernel
theorem dX8_mends_78 : decode cX8_mends 78 = .ok (.ifCond .eq 10, 3) := by decide +kernel
theorem dX8_mends_81 : decode cX8_mends 81 = .ok (.aload_n 0, 1) := by decide +kernel
theorem dX8_mends_82 : decode cX8_mends 82 = .ok (.getfield 14, 3) := by decide +kernel
theorem dX8_mends_85 : decode cX8_mends 85 = .ok (.invokevirtual 75, 3) := by decide +kernel
theorem dX8_mends_88 : decode cX8_mends 88 = .ok (.iload 7, 2) := by decide +kernel
theorem dX8_mends_90 : decode cX8_mends 90 = .ok (.ifCond .eq 7, 3) := by decide +kernel
theorem dX8_mends_93 : decode cX8_mends 93 = .ok (.iconst 0, 1) := by decide +kernel
theorem dX8_mends_94 : decode cX8_mends 94 = .ok (.goto 9, 3) := by decide +kernel
theorem dX8_mends_97 : decode cX8_mends 97 = .ok (.aload_n 0, 1) := by decide +kernel
theorem dX8_mends_98 : decode cX8_mends 98 = .ok (.bipush 29, 2) := by decide +kernel
theorem dX8_mends_100 : decode cX8_mends 100 = .ok (.invokevirtual 249, 3) := by decide +kernel
theorem dX8_mends_103 : decode cX8_mends 103 = .ok (.istore 8, 2) := by decide +kernel
theorem dX8_mends_105 : decode cX8_mends 105 = .ok (.iload 7, 2) := by decide +kernel
theorem dX8_mends_107 : decode cX8_mends 107 = .ok (.ifCond .eq 7, 3) := by decide +kernel
theorem dX8_mends_110 : decode cX8_mends 110 = .ok (.iconst (-1), 1) := by decide +kernel
theorem dX8_mends_111 : decode cX8_mends 111 = .ok (.goto 12, 3) := by decide +kernel
theorem dX8_mends_114 : decode cX8_mends 114 = .ok (.aload_n 0, 1) := by decide +kernel
theorem dX8_mends_115 : decode cX8_mends 115 = .ok (.getfield 27, 3) := by decide +kernel
theorem dX8_mends_118 : decode cX8_mends 118 = .ok (.invokevirtual 237, 3) := by decide +kernel
theorem dX8_mends_121 : decode cX8_mends 121 = .ok (.iconst 1, 1) := by decide +kernel
theorem dX8_mends_122 : decode cX8_mends 122 = .ok (.isub, 1) := by decide +kernel
theorem dX8_mends_123 : decode cX8_mends 123 = .ok (.istore 9, 2) := by decide +kernel
theorem dX8_mends_125 : decode cX8_mends 125 = .ok (.aload_n 0, 1) := by decide +kernel
theorem dX8_mends_126 : decode cX8_mends 126 = .ok (.getfield 27, 3) := by decide +kernel
theorem dX8_mends_129 : decode cX8_mends 129 = .ok (.bipush 48, 2) := by decide +kernel
theorem dX8_mends_131 : decode cX8_mends 131 = .ok (.invokevirtual 123, 3) := by decide +kernel
theorem dX8_mends_134 : decode cX8_mends 134 = .ok (.pop, 1) := by decide +kernel
theorem dX8_mends_135 : decode cX8_mends 135 = .ok (.aload_n 0, 1) := by decide +kernel
theorem dX8_mends_136 : decode cX8_mends 136 = .ok (.invokevirtual 120, 3) := by decide +kernel
theorem dX8_mends_139 : decode cX8_mends 139 = .ok (.istore 10, 2) := by decide +kernel
theorem dX8_mends_141 : decode cX8_mends 141 = .ok (.aload_n 0, 1) := by decide +kernel
theorem dX8_mends_142 : decode cX8_mends 142 = .ok (.getfield 27, 3) := by decide +kernel
theorem dX8_mends_145 : decode cX8_mends 145 = .ok (.bipush 54, 2) := by decide +kernel
theorem dX8_mends_147 : decode cX8_mends 147 = .ok (.invokevirtual 123, 3) := by decide +kernel
theorem dX8_mends_150 : decode cX8_mends 150 = .ok (.pop, 1) := by decide +kernel
theorem dX8_mends_151 : decode cX8_mends 151 = .ok (.aload_n 0, 1) := by decide +kernel
theorem dX8_mends_152 : decode cX8_mends 152 = .ok (.getfield 27, 3) := by decide +kernel
theorem dX8_mends_155 : decode cX8_mends 155 = .ok (.iload 9, 2) := by decide +kernel
theorem dX8_mends_157 : decode cX8_mends 157 = .ok (.aload_n 0, 1) := by decide +kernel
theorem dX8_mends_158 : decode cX8_mends 158 = .ok (.getfield 27, 3) := by decide +kernel
theorem dX8_mends_161 : decode cX8_mends 161 = .ok (.invokevirtual 237, 3) := by decide +kernel
theorem dX8_mends_164 : decode cX8_mends 164 = .ok (.invokevirtual 240, 3) := by decide +kernel
theorem dX8_mends_167 : decode cX8_mends 167 = .ok (.iload 4, 2) := by decide +kernel
theorem dX8_mends_169 : decode cX8_mends 169 = .ok (.iload 5, 2) := by decide +kernel
theorem dX8_mends_171 : decode cX8_mends 171 = .ok (.ifCond .eq 7, 3) := by decide +kernel
theorem dX8_mends_174 : decode cX8_mends 174 = .ok (.iconst 0, 1) := by decide +kernel
theorem dX8_mends_175 : decode cX8_mends 175 = .ok (.goto 5, 3) := by decide +kernel
theorem dX8_mends_178 : decode cX8_mends 178 = .ok (.iload 10, 2) := by decide +kernel
theorem dX8_mends_180 : decode cX8_mends 180 = .ok (.ior, 1) := by decide +kernel
theorem dX8_mends_181 : decode cX8_mends 181 = .ok (.istore 4, 2) := by decide +kernel
theorem dX8_mends_183 : decode cX8_mends 183 = .ok (.iload_n 3, 1) := by decide +kernel
theorem dX8_mends_184 : decode cX8_mends 184 = .ok (.iload 5, 2) := by decide +kernel
theorem dX8_mends_186 : decode cX8_mends 186 = .ok (.ifCond .eq 7, 3) := by decide +kernel
theorem dX8_mends_189 : decode cX8_mends 189 = .ok (.iconst 0, 1) := by decide +kernel
theorem dX8_mends_190 : decode cX8_mends 190 = .ok (.goto 8, 3) := by decide +kernel
theorem dX8_mends_193 : decode cX8_mends 193 = .ok (.iload 8, 2) := by decide +kernel
theorem dX8_mends_195 : decode cX8_mends 195 = .ok (.invokestatic 216, 3) := by decide +kernel
theorem dX8_mends_198 : decode cX8_mends 198 = .ok (.ior, 1) := by decide +kernel
theorem dX8_mends_199 : decode cX8_mends 199 = .ok (.istore_n 3, 1) := by decide +kernel
theorem dX8_mends_200 : decode cX8_mends 200 = .ok (.iload 5, 2) := by decide +kernel
theorem dX8_mends_202 : decode cX8_mends 202 = .ok (.iload 7, 2) := by decide +kernel
theorem dX8_mends_204 : decode cX8_mends 204 = .ok (.ior, 1) := by decide +kernel
theorem dX8_mends_205 : decode cX8_mends 205 = .ok (.istore 5, 2) := by decide +kernel
theorem dX8_mends_207 : decode cX8_mends 207 = .ok (.iinc 6 1, 3) := by decide +kernel
theorem dX8_mends_210 : decode cX8_mends 210 = .ok (.goto (-182), 3) := by decide +kernel
theorem dX8_mends_213 : decode cX8_mends 213 = .ok (.aload_n 0, 1) := by decide +kernel
theorem dX8_mends_214 : decode cX8_mends 214 = .ok (.getfield 27, 3) := by decide +kernel
theorem dX8_mends_217 : decode cX8_mends 217 = .ok (.bipush 49, 2) := by decide +kernel
theorem dX8_mends_219 : decode cX8_mends 219 = .ok (.invokevirtual 123, 3) := by decide +kernel
theorem dX8_mends_222 : decode cX8_mends 222 = .ok (.pop, 1) := by decide +kernel
theorem dX8_mends_223 : decode cX8_mends 223 = .ok (.iload_n 2, 1) := by decide +kernel
theorem dX8_mends_224 : decode cX8_mends 224 = .ok (.iconst 4, 1) := by decide +kernel
theorem dX8_mends_225 : decode cX8_mends 225 = .ok (.iand, 1) := by decide +kernel
theorem dX8_mends_226 : decode cX8_mends 226 = .ok (.ifCond .ne 5, 3) := by decide +kernel
theorem dX8_mends_229 : decode cX8_mends 229 = .ok (.iload_n 2, 1) := by decide +kernel
theorem dX8_mends_230 : decode cX8_mends 230 = .ok (.ireturn, 1) := by decide +kernel
theorem dX8_mends_231 : decode cX8_mends 231 = .ok (.iload_n 2, 1) := by decide +kernel
theorem dX8_mends_232 : decode cX8_mends 232 = .ok (.bipush (-5), 2) := by decide +kernel
theorem dX8_mends_234 : decode cX8_mends 234 = .ok (.iand, 1) := by decide +kernel
theorem dX8_mends_235 : decode cX8_mends 235 = .ok (.iload 4, 2) := by decide +kernel
theorem dX8_mends_237 : decode cX8_mends 237 = .ok (.ior, 1) := by decide +kernel
theorem dX8_mends_238 : decode cX8_mends 238 = .ok (.iload_n 3, 1) := by decide +kernel
theorem dX8_mends_239 : decode cX8_mends 239 = .ok (.ior, 1) := by decide +kernel
theorem dX8_mends_240 : decode cX8_mends 240 = .ok (.iload 5, 2) := by decide +kernel
theorem dX8_mends_242 : decode cX8_mends 242 = .ok (.ifCond .eq 7, 3) := by decide +kernel
theorem dX8_mends_245 : decode cX8_mends 245 = .ok (.iconst 0, 1) := by decide +kernel
theorem dX8_mends_246 : decode cX8_mends 246 = .ok (.goto 4, 3) := by decide +kernel
theorem dX8_mends_249 : decode cX8_mends 249 = .ok (.iconst 4, 1) := by decide +kernel
theorem dX8_mends_250 : decode cX8_mends 250 = .ok (.ior, 1) := by decide +kernel
theorem dX8_mends_251 : decode cX8_mends 251 = .ok (.ireturn, 1) := by decide +kernel
def wX8_mends_b250 (B : Nat → kp_S → (Int32 → kp_S → Prop) → Prop) (a0 : Nat) (x1 : Int32) (x2 : Int32) (xt0 : Int32) (xt1 : Int32)  (Sn : kp_S) (post : Int32 → kp_S → Prop) : Prop :=
  post (xt1 ||| xt0) Sn
def wX8_mends_b213 (B : Nat → kp_S → (Int32 → kp_S → Prop) → Prop) (a0 : Nat) (x1 : Int32) (x2 : Int32) (xn3 : Int32) (xn4 : Int32) (xn5 : Int32)  (Sn : kp_S) (post : Int32 → kp_S → Prop) : Prop :=
  ∃ b2001 : Nat, kp_R Sn 1603 a0 = some b2001 ∧
  wX0_add b2001 49 Sn (fun y2003 T2002 =>
  ((¬ (x2 &&& 4) = 0 →
  ((xn5 = 0 →
  wX8_mends_b250 B a0 x1 x2 4 (((x2 &&& (-5)) ||| xn4) ||| xn3)  T2002 post) ∧ (¬ xn5 = 0 →
  wX8_mends_b250 B a0 x1 x2 0 (((x2 &&& (-5)) ||| xn4) ||| xn3)  T2002 post))) ∧ ((x2 &&& 4) = 0 →
  post x2 T2002)))
def wX8_mends_b198 (B : Nat → kp_S → (Int32 → kp_S → Prop) → Prop) (a0 : Nat) (x1 : Int32) (x2 : Int32) (xn4 : Int32) (xn5 : Int32) (xn6 : Int32) (xn7 : Int32) (xt0 : Int32) (xt1 : Int32) (K28 : Int32 → Int32 → Int32 → Int32 → kp_S → Prop) (Sn : kp_S) (post : Int32 → kp_S → Prop) : Prop :=
  ∀ y3001 : Int32, y3001 = (xt1 ||| xt0) →
  ∀ y3002 : Int32, y3002 = (xn5 ||| xn7) →
  ∀ y3003 : Int32, y3003 = xn6 + 1 →
  K28 y3001 xn4 y3002 y3003 Sn
def wX8_mends_b180 (B : Nat → kp_S → (Int32 → kp_S → Prop) → Prop) (a0 : Nat) (x1 : Int32) (x2 : Int32) (xn3 : Int32) (xn5 : Int32) (xn6 : Int32) (xn7 : Int32) (xn8 : Int32) (xt0 : Int32) (xt1 : Int32) (K28 : Int32 → Int32 → Int32 → Int32 → kp_S → Prop) (Sn : kp_S) (post : Int32 → kp_S → Prop) : Prop :=
  ∀ y4001 : Int32, y4001 = (xt1 ||| xt0) →
  ((xn5 = 0 →
  wX8_troubleOf xn8 Sn (fun y4003 T4002 =>
  wX8_mends_b198 B a0 x1 x2 y4001 xn5 xn6 xn7 y4003 xn3 K28 T4002 post)) ∧ (¬ xn5 = 0 →
  wX8_mends_b198 B a0 x1 x2 y4001 xn5 xn6 xn7 0 xn3 K28 Sn post))
def wX8_mends_b123 (B : Nat → kp_S → (Int32 → kp_S → Prop) → Prop) (a0 : Nat) (x1 : Int32) (x2 : Int32) (xn3 : Int32) (xn4 : Int32) (xn5 : Int32) (xn6 : Int32) (xn7 : Int32) (xn8 : Int32) (xt0 : Int32) (K28 : Int32 → Int32 → Int32 → Int32 → kp_S → Prop) (Sn : kp_S) (post : Int32 → kp_S → Prop) : Prop :=
  ∃ b5001 : Nat, kp_R Sn 1603 a0 = some b5001 ∧
  wX0_add b5001 48 Sn (fun y5003 T5002 =>
  B a0 T5002 (fun y5005 T5004 =>
  ∃ b5006 : Nat, kp_R T5004 1603 a0 = some b5006 ∧
  wX0_add b5006 54 T5004 (fun y5008 T5007 =>
  ∃ b5009 : Nat, kp_R T5007 1603 a0 = some b5009 ∧
  wX0_size b5009 T5007 (fun y5011 T5010 =>
  wX0_set b5009 xt0 y5011 T5010 (fun T5012 =>
  ((xn5 = 0 →
  wX8_mends_b180 B a0 x1 x2 xn3 xn5 xn6 xn7 xn8 y5005 xn4 K28 T5012 post) ∧ (¬ xn5 = 0 →
  wX8_mends_b180 B a0 x1 x2 xn3 xn5 xn6 xn7 xn8 0 xn4 K28 T5012 post)))))))
def wX8_mends_b103 (B : Nat → kp_S → (Int32 → kp_S → Prop) → Prop) (a0 : Nat) (x1 : Int32) (x2 : Int32) (xn3 : Int32) (xn4 : Int32) (xn5 : Int32) (xn6 : Int32) (xn7 : Int32) (xt0 : Int32) (K28 : Int32 → Int32 → Int32 → Int32 → kp_S → Prop) (Sn : kp_S) (post : Int32 → kp_S → Prop) : Prop :=
  ((xn7 = 0 →
  ∃ b6001 : Nat, kp_R Sn 1603 a0 = some b6001 ∧
  wX0_size b6001 Sn (fun y6003 T6002 =>
  wX8_mends_b123 B a0 x1 x2 xn3 xn4 xn5 xn6 xn7 xt0 (y6003 - 1) K28 T6002 post)) ∧ (¬ xn7 = 0 →
  wX8_mends_b123 B a0 x1 x2 xn3 xn4 xn5 xn6 xn7 xt0 (-1) K28 Sn post))
def wX8_mends_b88 (B : Nat → kp_S → (Int32 → kp_S → Prop) → Prop) (a0 : Nat) (x1 : Int32) (x2 : Int32) (xn3 : Int32) (xn4 : Int32) (xn5 : Int32) (xn6 : Int32) (xn7 : Int32) (K28 : Int32 → Int32 → Int32 → Int32 → kp_S → Prop) (Sn : kp_S) (post : Int32 → kp_S → Prop) : Prop :=
  ((xn7 = 0 →
  wX8_list a0 29 Sn (fun y7002 T7001 =>
  wX8_mends_b103 B a0 x1 x2 xn3 xn4 xn5 xn6 xn7 y7002 K28 T7001 post)) ∧ (¬ xn7 = 0 →
  wX8_mends_b103 B a0 x1 x2 xn3 xn4 xn5 xn6 xn7 0 K28 Sn post))
def wX8_mends_b74 (B : Nat → kp_S → (Int32 → kp_S → Prop) → Prop) (a0 : Nat) (x1 : Int32) (x2 : Int32) (xn3 : Int32) (xn4 : Int32) (xn5 : Int32) (xn6 : Int32) (xt0 : Int32) (K28 : Int32 → Int32 → Int32 → Int32 → kp_S → Prop) (Sn : kp_S) (post : Int32 → kp_S → Prop) : Prop :=
  ((xt0 = 0 →
  wX8_mends_b88 B a0 x1 x2 xn3 xn4 xn5 xn6 xt0 K28 Sn post) ∧ (¬ xt0 = 0 →
  ∃ b8001 : Nat, kp_R Sn 1600 a0 = some b8001 ∧
  wX9_advance b8001 Sn (fun T8002 =>
  wX8_mends_b88 B a0 x1 x2 xn3 xn4 xn5 xn6 xt0 K28 T8002 post)))
def wX8_mends_L28 (B : Nat → kp_S → (Int32 → kp_S → Prop) → Prop) (a0 : Nat) (x1 : Int32) (x2 : Int32)  (post : Int32 → kp_S → Prop) : Nat → Int32 → Int32 → Int32 → Int32 → kp_S → Prop
  | 0, _, _, _, _, _ => False
  | n + 1, xn3, xn4, xn5, xn6, Sn =>
  ((3000 ≤ xn6 →
  wX8_mends_b213 B a0 x1 x2 xn3 xn4 xn5  Sn post) ∧ (¬ 3000 ≤ xn6 →
  ∃ b9001 : Nat, kp_R Sn 1600 a0 = some b9001 ∧
  ((¬ (kp_I Sn 1805 b9001) = 315 →
  wX8_mends_b213 B a0 x1 x2 xn3 xn4 xn5  Sn post) ∧ ((kp_I Sn 1805 b9001) = 315 →
  wX9_advance b9001 Sn (fun T9002 =>
  ∃ b9003 : Nat, kp_R T9002 1600 a0 = some b9003 ∧
  ((¬ (kp_I T9002 1805 b9003) = 316 →
  wX8_mends_b74 B a0 x1 x2 xn3 xn4 xn5 xn6 0 (fun xn3_ xn4_ xn5_ xn6_ S_ => wX8_mends_L28 B a0 x1 x2  post n xn3_ xn4_ xn5_ xn6_ S_) T9002 post) ∧ ((kp_I T9002 1805 b9003) = 316 →
  wX8_mends_b74 B a0 x1 x2 xn3 xn4 xn5 xn6 1 (fun xn3_ xn4_ xn5_ xn6_ S_ => wX8_mends_L28 B a0 x1 x2  post n xn3_ xn4_ xn5_ xn6_ S_) T9002 post)))))))
def wX8_mends (B : Nat → kp_S → (Int32 → kp_S → Prop) → Prop) (a0 : Nat) (x1 : Int32) (x2 : Int32) (S : kp_S) (post : Int32 → kp_S → Prop) : Prop :=
  ∃ b1 : Nat, kp_R S 1603 a0 = some b1 ∧
  wX0_size b1 S (fun y3 T2 =>
  wX0_set b1 (x1 + 2) y3 T2 (fun T4 =>
  ∃ n0 : Nat, wX8_mends_L28 B a0 x1 x2  post n0 0 0 0 0 T4))
set_option maxHeartbeats 4000000 in
set_option maxRecDepth 100000 in
theorem c_X8_mends (l : Launch) (D : va_G) (cy : Nat → ClassId) (ad : (Nat → Nat) × (Nat → Nat)) (F L : Nat) (B : Nat → kp_S → (Int32 → kp_S → Prop) → Prop) (hB : ∀ (S : kp_S) (a0 : Nat) (post : Int32 → kp_S → Prop), kp_ok S → kp_is S a0 8 → B a0 S post → kp_M l yX8_block cX8_block 5 (some .int) { frames := F, cells := 0, slots := 0, locals := L } D cy ad S [.ref a0] 0 0 (fun A => kp_Qi D cy A S post)) (hF : 191 ≤ F) (hL : 4387 ≤ L) (S : kp_S) (a0 : Nat) (x1 : Int32) (x2 : Int32) (post : Int32 → kp_S → Prop) (hS : kp_ok S) (f_a0 : kp_is S a0 8) (hw : wX8_mends B a0 x1 x2 S post) : kp_M l yX8_mends cX8_mends 11 (some .int) { frames := F + 1, cells := 0, slots := 0, locals := L + 24 } D cy ad S [.ref a0, .int x1, .int x2] 0 0 (fun A => kp_Qi D cy A S post) := by
  refine kp_start (own := RX8) (by decide) rfl (Nat.le_of_ble_eq_true rfl) hS ?_
  intro p e s m below meth c A ls X hr hlocks hname h hl
  have hle : kp_le S S := kp_le.rf
  have hl : lv_has ls 11 [(0, .ref a0), (1, .int x1), (2, .int x2)] := hl
  have j250 : ∀ (xt0 : Int32) (xt1 : Int32) (Sn : kp_S) (H : Heap) (locs : List Loc) (ls : Array Slot), lv_has ls 11 [] → kp_H D cy A Sn s.heap H locs → kp_le S Sn → kp_is Sn a0 8 → wX8_mends_b250 B a0 x1 x2 xt0 xt1  Sn post → W p l e { frames := F + 1, cells := 0, slots := 0, locals := L + 24 } s m ([.ref a0, .int x1, .int x2] : List Value).toArray below meth c H locs 0 0 (MQ below (kp_Qi D cy A S post) ([.ref a0, .int x1, .int x2] : List Value).toArray s 0 0 A) (F0 m 250 ls [.int xt0, .int xt1]) := by
    intro xt0 xt1 Sn H locs ls hl h hle f_a0 hw
    unfold wX8_mends_b250 at hw
    refine lv_ior X.1 X.2.1 dX8_mends_250 ?_
    exact kp_reti X hr hlocks h hle rfl hw dX8_mends_251
  have j213 : ∀ (xn3 : Int32) (xn4 : Int32) (xn5 : Int32) (Sn : kp_S) (H : Heap) (locs : List Loc) (ls : Array Slot), lv_has ls 11 [(0, .ref a0), (2, .int x2), (3, .int xn3), (4, .int xn4), (5, .int xn5)] → kp_H D cy A Sn s.heap H locs → kp_le S Sn → kp_is Sn a0 8 → wX8_mends_b213 B a0 x1 x2 xn3 xn4 xn5  Sn post → W p l e { frames := F + 1, cells := 0, slots := 0, locals := L + 24 } s m ([.ref a0, .int x1, .int x2] : List Value).toArray below meth c H locs 0 0 (MQ below (kp_Qi D cy A S post) ([.ref a0, .int x1, .int x2] : List Value).toArray s 0 0 A) (F0 m 213 ls []) := by
    intro xn3 xn4 xn5 Sn H locs ls hl h hle f_a0 hw
    unfold wX8_mends_b213 at hw
    refine lv_aload_n X.1 X.2.1 dX8_mends_213 rfl (lv_at hl 0 rfl) ?_
    obtain ⟨b2001, e_b2001, hw⟩ := hw
    have f_b2001 := h.2.2.2.rf (c := 8) (k := 3) f_a0 (by decide) (by decide) e_b2001 (t := 0) rfl
    refine kp_get X h f_a0 fp_8_27.l (v := .ref b2001) (congrArg va_rf e_b2001) dX8_mends_214 ?_
    refine lv_bipush (v := 49) X.1 X.2.1 dX8_mends_217 (by decide) ?_
    refine kp_calli X h (kp_runV (rm := { frames := 0, cells := 0, slots := 0, locals := 0 }) (mc := 0) (ms := 0) (rest := []) (Qc := fun A => kp_Qi D cy A Sn _) X h (c_X0_add l D cy ad Sn b2001 49 _ h.2.2.2 f_b2001 hw) f_b2001 cv_8_123 ⟨by dsimp only; omega, by dsimp only; omega, rfl, rfl, by dsimp only; omega, by dsimp only; omega⟩ rfl hl.1 rfl (Nat.le_of_ble_eq_true rfl) dX8_mends_219) (fun y2003 T2002 hw l_T2002 H locs h => ?_)
    have f_a0 := l_T2002.is f_a0
    have f_b2001 := l_T2002.is f_b2001
    have hle := hle.tr l_T2002
    refine lv_pop X.1 X.2.1 dX8_mends_222 rfl ?_
    refine lv_iload_n X.1 X.2.1 dX8_mends_223 rfl (lv_at hl 1 rfl) ?_
    refine lv_iconst (v := 4) X.1 X.2.1 dX8_mends_224 (by decide) ?_
    refine lv_iand X.1 X.2.1 dX8_mends_225 ?_
    refine lv_if_ne (tgt := 231) X.1 X.2.1 dX8_mends_226 (by decide) (fun c2005 => ?_) (fun c2005 => ?_)
    · have hw := hw.1 c2005
      refine lv_iload_n X.1 X.2.1 dX8_mends_231 rfl (lv_at hl 1 rfl) ?_
      refine lv_bipush (v := (-5)) X.1 X.2.1 dX8_mends_232 (by decide) ?_
      refine lv_iand X.1 X.2.1 dX8_mends_234 ?_
      refine lv_iload X.1 X.2.1 dX8_mends_235 (lv_at hl 3 rfl) ?_
      refine lv_ior X.1 X.2.1 dX8_mends_237 ?_
      refine lv_iload_n X.1 X.2.1 dX8_mends_238 rfl (lv_at hl 2 rfl) ?_
      refine lv_ior X.1 X.2.1 dX8_mends_239 ?_
      refine lv_iload X.1 X.2.1 dX8_mends_240 (lv_at hl 4 rfl) ?_
      refine lv_if_eq (tgt := 249) X.1 X.2.1 dX8_mends_242 (by decide) (fun c2004 => ?_) (fun c2004 => ?_)
      · have hw := hw.1 c2004
        refine lv_iconst (v := 4) X.1 X.2.1 dX8_mends_249 (by decide) ?_
        exact j250 4 (((x2 &&& (-5)) ||| xn4) ||| xn3) T2002 H locs ls (lv_sub hl [] rfl) h hle f_a0 hw
      · have hw := hw.2 c2004
        refine lv_iconst (v := 0) X.1 X.2.1 dX8_mends_245 (by decide) ?_
        refine lv_goto (tgt := 250) X.1 X.2.1 dX8_mends_246 (by decide) ?_
        exact j250 0 (((x2 &&& (-5)) ||| xn4) ||| xn3) T2002 H locs ls (lv_sub hl [] rfl) h hle f_a0 hw
    · have hw := hw.2 c2005
      refine lv_iload_n X.1 X.2.1 dX8_mends_229 rfl (lv_at hl 1 rfl) ?_
      exact kp_reti X hr hlocks h hle rfl hw dX8_mends_230
  have L28 : ∀ n28 : Nat, ∀ (xn3 : Int32) (xn4 : Int32) (xn5 : Int32) (xn6 : Int32) (Sn : kp_S) (H : Heap) (locs : List Loc) (ls : Array Slot), lv_has ls 11 [(0, .ref a0), (2, .int x2), (3, .int xn3), (4, .int xn4), (5, .int xn5), (6, .int xn6)] → kp_H D cy A Sn s.heap H locs → kp_le S Sn → kp_is Sn a0 8 → wX8_mends_L28 B a0 x1 x2  post n28 xn3 xn4 xn5 xn6 Sn → W p l e { frames := F + 1, cells := 0, slots := 0, locals := L + 24 } s m ([.ref a0, .int x1, .int x2] : List Value).toArray below meth c H locs 0 0 (MQ below (kp_Qi D cy A S post) ([.ref a0, .int x1, .int x2] : List Value).toArray s 0 0 A) (F0 m 28 ls []) := by
    intro n28
    induction n28 with
    | zero => intro xn3 xn4 xn5 xn6 Sn H locs ls hl h hle f_a0 hw; exact hw.elim
    | succ n28 ih28 =>
      have j198 : ∀ (xn4 : Int32) (xn5 : Int32) (xn6 : Int32) (xn7 : Int32) (xt0 : Int32) (xt1 : Int32) (Sn : kp_S) (H : Heap) (locs : List Loc) (ls : Array Slot), lv_has ls 11 [(0, .ref a0), (2, .int x2), (4, .int xn4), (5, .int xn5), (6, .int xn6), (7, .int xn7)] → kp_H D cy A Sn s.heap H locs → kp_le S Sn → kp_is Sn a0 8 → wX8_mends_b198 B a0 x1 x2 xn4 xn5 xn6 xn7 xt0 xt1 (fun xn3_ xn4_ xn5_ xn6_ S_ => wX8_mends_L28 B a0 x1 x2  post n28 xn3_ xn4_ xn5_ xn6_ S_) Sn post → W p l e { frames := F + 1, cells := 0, slots := 0, locals := L + 24 } s m ([.ref a0, .int x1, .int x2] : List Value).toArray below meth c H locs 0 0 (MQ below (kp_Qi D cy A S post) ([.ref a0, .int x1, .int x2] : List Value).toArray s 0 0 A) (F0 m 198 ls [.int xt0, .int xt1]) := by
        intro xn4 xn5 xn6 xn7 xt0 xt1 Sn H locs ls hl h hle f_a0 hw
        unfold wX8_mends_b198 at hw
        refine lv_ior X.1 X.2.1 dX8_mends_198 ?_
        refine lv_topi (fun y3001 e_y3001 => ?_)
        have hw := hw y3001 e_y3001
        refine lv_istore_n (lv' := [(3, .int y3001), (0, .ref a0), (2, .int x2), (4, .int xn4), (5, .int xn5), (6, .int xn6), (7, .int xn7)]) X.1 X.2.1 dX8_mends_199 rfl hl (by decide) rfl (fun ls hl => ?_)
        refine lv_iload X.1 X.2.1 dX8_mends_200 (lv_at hl 4 rfl) ?_
        refine lv_iload X.1 X.2.1 dX8_mends_202 (lv_at hl 6 rfl) ?_
        refine lv_ior X.1 X.2.1 dX8_mends_204 ?_
        refine lv_topi (fun y3002 e_y3002 => ?_)
        have hw := hw y3002 e_y3002
        refine lv_istore (lv' := [(5, .int y3002), (3, .int y3001), (0, .ref a0), (2, .int x2), (4, .int xn4), (6, .int xn6), (7, .int xn7)]) X.1 X.2.1 dX8_mends_205 hl (by decide) rfl (fun ls hl => ?_)
        obtain ⟨y3003, e_y3003⟩ : ∃ y : Int32, y = xn6 + 1 := ⟨_, rfl⟩
        have hw := hw y3003 e_y3003
        refine lv_iinc (v := y3003) (lv' := [(6, .int y3003), (5, .int y3002), (3, .int y3001), (0, .ref a0), (2, .int x2), (4, .int xn4), (7, .int xn7)]) X.1 X.2.1 dX8_mends_207 hl (k := 5) rfl (by rw [e_y3003]; rfl) (by decide) rfl (fun ls hl => ?_)
        refine lv_goto (tgt := 28) X.1 X.2.1 dX8_mends_210 (by decide) ?_
        exact ih28 y3001 xn4 y3002 y3003 Sn H locs ls (lv_sub hl [3, 4, 2, 5, 1, 0] rfl) h hle f_a0 hw
      have j180 : ∀ (xn3 : Int32) (xn5 : Int32) (xn6 : Int32) (xn7 : Int32) (xn8 : Int32) (xt0 : Int32) (xt1 : Int32) (Sn : kp_S) (H : Heap) (locs : List Loc) (ls : Array Slot), lv_has ls 11 [(0, .ref a0), (2, .int x2), (3, .int xn3), (5, .int xn5), (6, .int xn6), (7, .int xn7), (8, .int xn8)] → kp_H D cy A Sn s.heap H locs → kp_le S Sn → kp_is Sn a0 8 → wX8_mends_b180 B a0 x1 x2 xn3 xn5 xn6 xn7 xn8 xt0 xt1 (fun xn3_ xn4_ xn5_ xn6_ S_ => wX8_mends_L28 B a0 x1 x2  post n28 xn3_ xn4_ xn5_ xn6_ S_) Sn post → W p l e { frames := F + 1, cells := 0, slots := 0, locals := L + 24 } s m ([.ref a0, .int x1, .int x2] : List Value).toArray below meth c H locs 0 0 (MQ below (kp_Qi D cy A S post) ([.ref a0, .int x1, .int x2] : List Value).toArray s 0 0 A) (F0 m 180 ls [.int xt0, .int xt1]) := by
        intro xn3 xn5 xn6 xn7 xn8 xt0 xt1 Sn H locs ls hl h hle f_a0 hw
        unfold wX8_mends_b180 at hw
        refine lv_ior X.1 X.2.1 dX8_mends_180 ?_
        refine lv_topi (fun y4001 e_y4001 => ?_)
        have hw := hw y4001 e_y4001
        refine lv_istore (lv' := [(4, .int y4001), (0, .ref a0), (2, .int x2), (3, .int xn3), (5, .int xn5), (6, .int xn6), (7, .int xn7), (8, .int xn8)]) X.1 X.2.1 dX8_mends_181 hl (by decide) rfl (fun ls hl => ?_)
        refine lv_iload_n X.1 X.2.1 dX8_mends_183 rfl (lv_at hl 3 rfl) ?_
        refine lv_iload X.1 X.2.1 dX8_mends_184 (lv_at hl 4 rfl) ?_
        refine lv_if_eq (tgt := 193) X.1 X.2.1 dX8_mends_186 (by decide) (fun c4004 => ?_) (fun c4004 => ?_)
        · have hw := hw.1 c4004
          refine lv_iload X.1 X.2.1 dX8_mends_193 (lv_at hl 7 rfl) ?_
          refine kp_calli X h (kp_runS (rm := { frames := 0, cells := 0, slots := 0, locals := 0 }) (mc := 0) (ms := 0) (rest := [.int xn3]) (Qc := fun A => kp_Qi D cy A Sn _) X h (c_X8_troubleOf l D cy ad Sn xn8 _ h.2.2.2  hw) cs_8_216 ⟨by dsimp only; omega, by dsimp only; omega, rfl, rfl, by dsimp only; omega, by dsimp only; omega⟩ rfl hl.1 rfl (Nat.le_of_ble_eq_true rfl) dX8_mends_195) (fun y4003 T4002 hw l_T4002 H locs h => ?_)
          have f_a0 := l_T4002.is f_a0
          have hle := hle.tr l_T4002
          exact j198 y4001 xn5 xn6 xn7 y4003 xn3 T4002 H locs ls (lv_sub hl [1, 2, 0, 4, 5, 6] rfl) h hle f_a0 hw
        · have hw := hw.2 c4004
          refine lv_iconst (v := 0) X.1 X.2.1 dX8_mends_189 (by decide) ?_
          refine lv_goto (tgt := 198) X.1 X.2.1 dX8_mends_190 (by decide) ?_
          exact j198 y4001 xn5 xn6 xn7 0 xn3 Sn H locs ls (lv_sub hl [1, 2, 0, 4, 5, 6] rfl) h hle f_a0 hw
      have j123 : ∀ (xn3 : Int32) (xn4 : Int32) (xn5 : Int32) (xn6 : Int32) (xn7 : Int32) (xn8 : Int32) (xt0 : Int32) (Sn : kp_S) (H : Heap) (locs : List Loc) (ls : Array Slot), lv_has ls 11 [(0, .ref a0), (2, .int x2), (3, .int xn3), (4, .int xn4), (5, .int xn5), (6, .int xn6), (7, .int xn7), (8, .int xn8)] → kp_H D cy A Sn s.heap H locs → kp_le S Sn → kp_is Sn a0 8 → wX8_mends_b123 B a0 x1 x2 xn3 xn4 xn5 xn6 xn7 xn8 xt0 (fun xn3_ xn4_ xn5_ xn6_ S_ => wX8_mends_L28 B a0 x1 x2  post n28 xn3_ xn4_ xn5_ xn6_ S_) Sn post → W p l e { frames := F + 1, cells := 0, slots := 0, locals := L + 24 } s m ([.ref a0, .int x1, .int x2] : List Value).toArray below meth c H locs 0 0 (MQ below (kp_Qi D cy A S post) ([.ref a0, .int x1, .int x2] : List Value).toArray s 0 0 A) (F0 m 123 ls [.int xt0]) := by
        intro xn3 xn4 xn5 xn6 xn7 xn8 xt0 Sn H locs ls hl h hle f_a0 hw
        unfold wX8_mends_b123 at hw
        refine lv_istore (lv' := [(9, .int xt0), (0, .ref a0), (2, .int x2), (3, .int xn3), (4, .int xn4), (5, .int xn5), (6, .int xn6), (7, .int xn7), (8, .int xn8)]) X.1 X.2.1 dX8_mends_123 hl (by decide) rfl (fun ls hl => ?_)
        refine lv_aload_n X.1 X.2.1 dX8_mends_125 rfl (lv_at hl 1 rfl) ?_
        obtain ⟨b5001, e_b5001, hw⟩ := hw
        have f_b5001 := h.2.2.2.rf (c := 8) (k := 3) f_a0 (by decide) (by decide) e_b5001 (t := 0) rfl
        refine kp_get X h f_a0 fp_8_27.l (v := .ref b5001) (congrArg va_rf e_b5001) dX8_mends_126 ?_
        refine lv_bipush (v := 48) X.1 X.2.1 dX8_mends_129 (by decide) ?_
        refine kp_calli X h (kp_runV (rm := { frames := 0, cells := 0, slots := 0, locals := 0 }) (mc := 0) (ms := 0) (rest := []) (Qc := fun A => kp_Qi D cy A Sn _) X h (c_X0_add l D cy ad Sn b5001 48 _ h.2.2.2 f_b5001 hw) f_b5001 cv_8_123 ⟨by dsimp only; omega, by dsimp only; omega, rfl, rfl, by dsimp only; omega, by dsimp only; omega⟩ rfl hl.1 rfl (Nat.le_of_ble_eq_true rfl) dX8_mends_131) (fun y5003 T5002 hw l_T5002 H locs h => ?_)
        have f_a0 := l_T5002.is f_a0
        have f_b5001 := l_T5002.is f_b5001
        have hle := hle.tr l_T5002
        refine lv_pop X.1 X.2.1 dX8_mends_134 rfl ?_
        refine lv_aload_n X.1 X.2.1 dX8_mends_135 rfl (lv_at hl 1 rfl) ?_
        refine kp_calli X h (kp_runV (rm := { frames := F, cells := 0, slots := 0, locals := L }) (mc := 0) (ms := 0) (rest := []) (Qc := fun A => kp_Qi D cy A T5002 _) X h (hB T5002 a0 _ h.2.2.2 f_a0 hw) f_a0 cv_8_120 ⟨by dsimp only; omega, by dsimp only; omega, rfl, rfl, by dsimp only; omega, by dsimp only; omega⟩ rfl hl.1 rfl (Nat.le_of_ble_eq_true rfl) dX8_mends_136) (fun y5005 T5004 hw l_T5004 H locs h => ?_)
        have f_a0 := l_T5004.is f_a0
        have f_b5001 := l_T5004.is f_b5001
        have hle := hle.tr l_T5004
        refine lv_istore (lv' := [(10, .int y5005), (9, .int xt0), (0, .ref a0), (2, .int x2), (3, .int xn3), (4, .int xn4), (5, .int xn5), (6, .int xn6), (7, .int xn7), (8, .int xn8)]) X.1 X.2.1 dX8_mends_139 hl (by decide) rfl (fun ls hl => ?_)
        refine lv_aload_n X.1 X.2.1 dX8_mends_141 rfl (lv_at hl 2 rfl) ?_
        obtain ⟨b5006, e_b5006, hw⟩ := hw
        have f_b5006 := h.2.2.2.rf (c := 8) (k := 3) f_a0 (by decide) (by decide) e_b5006 (t := 0) rfl
        refine kp_get X h f_a0 fp_8_27.l (v := .ref b5006) (congrArg va_rf e_b5006) dX8_mends_142 ?_
        refine lv_bipush (v := 54) X.1 X.2.1 dX8_mends_145 (by decide) ?_
        refine kp_calli X h (kp_runV (rm := { frames := 0, cells := 0, slots := 0, locals := 0 }) (mc := 0) (ms := 0) (rest := []) (Qc := fun A => kp_Qi D cy A T5004 _) X h (c_X0_add l D cy ad T5004 b5006 54 _ h.2.2.2 f_b5006 hw) f_b5006 cv_8_123 ⟨by dsimp only; omega, by dsimp only; omega, rfl, rfl, by dsimp only; omega, by dsimp only; omega⟩ rfl hl.1 rfl (Nat.le_of_ble_eq_true rfl) dX8_mends_147) (fun y5008 T5007 hw l_T5007 H locs h => ?_)
        have f_a0 := l_T5007.is f_a0
        have f_b5001 := l_T5007.is f_b5001
        have f_b5006 := l_T5007.is f_b5006
        have hle := hle.tr l_T5007
        refine lv_pop X.1 X.2.1 dX8_mends_150 rfl ?_
        refine lv_aload_n X.1 X.2.1 dX8_mends_151 rfl (lv_at hl 2 rfl) ?_
        obtain ⟨b5009, e_b5009, hw⟩ := hw
        have f_b5009 := h.2.2.2.rf (c := 8) (k := 3) f_a0 (by decide) (by decide) e_b5009 (t := 0) rfl
        refine kp_get X h f_a0 fp_8_27.l (v := .ref b5009) (congrArg va_rf e_b5009) dX8_mends_152 ?_
        refine lv_iload X.1 X.2.1 dX8_mends_155 (lv_at hl 1 rfl) ?_
        refine lv_aload_n X.1 X.2.1 dX8_mends_157 rfl (lv_at hl 2 rfl) ?_
        refine kp_get X h f_a0 fp_8_27.l (v := .ref b5009) (congrArg va_rf e_b5009) dX8_mends_158 ?_
        refine kp_calli X h (kp_runV (rm := { frames := 0, cells := 0, slots := 0, locals := 0 }) (mc := 0) (ms := 0) (rest := [.int xt0, .ref b5009]) (Qc := fun A => kp_Qi D cy A T5007 _) X h (c_X0_size l D cy ad T5007 b5009 _ h.2.2.2 f_b5009 hw) f_b5009 cv_8_237 ⟨by dsimp only; omega, by dsimp only; omega, rfl, rfl, by dsimp only; omega, by dsimp only; omega⟩ rfl hl.1 rfl (Nat.le_of_ble_eq_true rfl) dX8_mends_161) (fun y5011 T5010 hw l_T5010 H locs h => ?_)
        have f_a0 := l_T5010.is f_a0
        have f_b5001 := l_T5010.is f_b5001
        have f_b5006 := l_T5010.is f_b5006
        have f_b5009 := l_T5010.is f_b5009
        have hle := hle.tr l_T5010
        refine kp_callv X h (kp_runV (rm := { frames := 0, cells := 0, slots := 0, locals := 0 }) (mc := 0) (ms := 0) (rest := []) (Qc := fun A => kp_Qv D cy A T5010 _) X h (c_X0_set l D cy ad T5010 b5009 xt0 y5011 _ h.2.2.2 f_b5009 hw) f_b5009 cv_8_240 ⟨by dsimp only; omega, by dsimp only; omega, rfl, rfl, by dsimp only; omega, by dsimp only; omega⟩ rfl hl.1 rfl (Nat.le_of_ble_eq_true rfl) dX8_mends_164) (fun T5012 hw l_T5012 H locs h => ?_)
        have f_a0 := l_T5012.is f_a0
        have f_b5001 := l_T5012.is f_b5001
        have f_b5006 := l_T5012.is f_b5006
        have f_b5009 := l_T5012.is f_b5009
        have hle := hle.tr l_T5012
        refine lv_iload X.1 X.2.1 dX8_mends_167 (lv_at hl 5 rfl) ?_
        refine lv_iload X.1 X.2.1 dX8_mends_169 (lv_at hl 6 rfl) ?_
        refine lv_if_eq (tgt := 178) X.1 X.2.1 dX8_mends_171 (by decide) (fun c5013 => ?_) (fun c5013 => ?_)
        · have hw := hw.1 c5013
          refine lv_iload X.1 X.2.1 dX8_mends_178 (lv_at hl 0 rfl) ?_
          exact j180 xn3 xn5 xn6 xn7 xn8 y5005 xn4 T5012 H locs ls (lv_sub hl [2, 3, 4, 6, 7, 8, 9] rfl) h hle f_a0 hw
        · have hw := hw.2 c5013
          refine lv_iconst (v := 0) X.1 X.2.1 dX8_mends_174 (by decide) ?_
          refine lv_goto (tgt := 180) X.1 X.2.1 dX8_mends_175 (by decide) ?_
          exact j180 xn3 xn5 xn6 xn7 xn8 0 xn4 T5012 H locs ls (lv_sub hl [2, 3, 4, 6, 7, 8, 9] rfl) h hle f_a0 hw
      have j103 : ∀ (xn3 : Int32) (xn4 : Int32) (xn5 : Int32) (xn6 : Int32) (xn7 : Int32) (xt0 : Int32) (Sn : kp_S) (H : Heap) (locs : List Loc) (ls : Array Slot), lv_has ls 11 [(0, .ref a0), (2, .int x2), (3, .int xn3), (4, .int xn4), (5, .int xn5), (6, .int xn6), (7, .int xn7)] → kp_H D cy A Sn s.heap H locs → kp_le S Sn → kp_is Sn a0 8 → wX8_mends_b103 B a0 x1 x2 xn3 xn4 xn5 xn6 xn7 xt0 (fun xn3_ xn4_ xn5_ xn6_ S_ => wX8_mends_L28 B a0 x1 x2  post n28 xn3_ xn4_ xn5_ xn6_ S_) Sn post → W p l e { frames := F + 1, cells := 0, slots := 0, locals := L + 24 } s m ([.ref a0, .int x1, .int x2] : List Value).toArray below meth c H locs 0 0 (MQ below (kp_Qi D cy A S post) ([.ref a0, .int x1, .int x2] : List Value).toArray s 0 0 A) (F0 m 103 ls [.int xt0]) := by
        intro xn3 xn4 xn5 xn6 xn7 xt0 Sn H locs ls hl h hle f_a0 hw
        unfold wX8_mends_b103 at hw
        refine lv_istore (lv' := [(8, .int xt0), (0, .ref a0), (2, .int x2), (3, .int xn3), (4, .int xn4), (5, .int xn5), (6, .int xn6), (7, .int xn7)]) X.1 X.2.1 dX8_mends_103 hl (by decide) rfl (fun ls hl => ?_)
        refine lv_iload X.1 X.2.1 dX8_mends_105 (lv_at hl 7 rfl) ?_
        refine lv_if_eq (tgt := 114) X.1 X.2.1 dX8_mends_107 (by decide) (fun c6004 => ?_) (fun c6004 => ?_)
        · have hw := hw.1 c6004
          refine lv_aload_n X.1 X.2.1 dX8_mends_114 rfl (lv_at hl 1 rfl) ?_
          obtain ⟨b6001, e_b6001, hw⟩ := hw
          have f_b6001 := h.2.2.2.rf (c := 8) (k := 3) f_a0 (by decide) (by decide) e_b6001 (t := 0) rfl
          refine kp_get X h f_a0 fp_8_27.l (v := .ref b6001) (congrArg va_rf e_b6001) dX8_mends_115 ?_
          refine kp_calli X h (kp_runV (rm := { frames := 0, cells := 0, slots := 0, locals := 0 }) (mc := 0) (ms := 0) (rest := []) (Qc := fun A => kp_Qi D cy A Sn _) X h (c_X0_size l D cy ad Sn b6001 _ h.2.2.2 f_b6001 hw) f_b6001 cv_8_237 ⟨by dsimp only; omega, by dsimp only; omega, rfl, rfl, by dsimp only; omega, by dsimp only; omega⟩ rfl hl.1 rfl (Nat.le_of_ble_eq_true rfl) dX8_mends_118) (fun y6003 T6002 hw l_T6002 H locs h => ?_)
          have f_a0 := l_T6002.is f_a0
          have f_b6001 := l_T6002.is f_b6001
          have hle := hle.tr l_T6002
          refine lv_iconst (v := 1) X.1 X.2.1 dX8_mends_121 (by decide) ?_
          refine lv_isub X.1 X.2.1 dX8_mends_122 ?_
          exact j123 xn3 xn4 xn5 xn6 xn7 xt0 (y6003 - 1) T6002 H locs ls (lv_sub hl [1, 2, 3, 4, 5, 6, 7, 0] rfl) h hle f_a0 hw
        · have hw := hw.2 c6004
          refine lv_iconst (v := (-1)) X.1 X.2.1 dX8_mends_110 (by decide) ?_
          refine lv_goto (tgt := 123) X.1 X.2.1 dX8_mends_111 (by decide) ?_
          exact j123 xn3 xn4 xn5 xn6 xn7 xt0 (-1) Sn H locs ls (lv_sub hl [1, 2, 3, 4, 5, 6, 7, 0] rfl) h hle f_a0 hw
      have j88 : ∀ (xn3 : Int32) (xn4 : Int32) (xn5 : Int32) (xn6 : Int32) (xn7 : Int32) (Sn : kp_S) (H : Heap) (locs : List Loc) (ls : Array Slot), lv_has ls 11 [(0, .ref a0), (2, .int x2), (3, .int xn3), (4, .int xn4), (5, .int xn5), (6, .int xn6), (7, .int xn7)] → kp_H D cy A Sn s.heap H locs → kp_le S Sn → kp_is Sn a0 8 → wX8_mends_b88 B a0 x1 x2 xn3 xn4 xn5 xn6 xn7 (fun xn3_ xn4_ xn5_ xn6_ S_ => wX8_mends_L28 B a0 x1 x2  post n28 xn3_ xn4_ xn5_ xn6_ S_) Sn post → W p l e { frames := F + 1, cells := 0, slots := 0, locals := L + 24 } s m ([.ref a0, .int x1, .int x2] : List Value).toArray below meth c H locs 0 0 (MQ below (kp_Qi D cy A S post) ([.ref a0, .int x1, .int x2] : List Value).toArray s 0 0 A) (F0 m 88 ls []) := by
        intro xn3 xn4 xn5 xn6 xn7 Sn H locs ls hl h hle f_a0 hw
        unfold wX8_mends_b88 at hw
        refine lv_iload X.1 X.2.1 dX8_mends_88 (lv_at hl 6 rfl) ?_
        refine lv_if_eq (tgt := 97) X.1 X.2.1 dX8_mends_90 (by decide) (fun c7003 => ?_) (fun c7003 => ?_)
        · have hw := hw.1 c7003
          refine lv_aload_n X.1 X.2.1 dX8_mends_97 rfl (lv_at hl 0 rfl) ?_
          refine lv_bipush (v := 29) X.1 X.2.1 dX8_mends_98 (by decide) ?_
          refine kp_calli X h (kp_runV (rm := { frames := 190, cells := 0, slots := 0, locals := 4362 }) (mc := 0) (ms := 0) (rest := []) (Qc := fun A => kp_Qi D cy A Sn _) X h (c_X8_list l D cy ad Sn a0 29 _ h.2.2.2 f_a0 hw) f_a0 cv_8_249 ⟨by dsimp only; omega, by dsimp only; omega, rfl, rfl, by dsimp only; omega, by dsimp only; omega⟩ rfl hl.1 rfl (Nat.le_of_ble_eq_true rfl) dX8_mends_100) (fun y7002 T7001 hw l_T7001 H locs h => ?_)
          have f_a0 := l_T7001.is f_a0
          have hle := hle.tr l_T7001
          exact j103 xn3 xn4 xn5 xn6 xn7 y7002 T7001 H locs ls (lv_sub hl [0, 1, 2, 3, 4, 5, 6] rfl) h hle f_a0 hw
        · have hw := hw.2 c7003
          refine lv_iconst (v := 0) X.1 X.2.1 dX8_mends_93 (by decide) ?_
          refine lv_goto (tgt := 103) X.1 X.2.1 dX8_mends_94 (by decide) ?_
          exact j103 xn3 xn4 xn5 xn6 xn7 0 Sn H locs ls (lv_sub hl [0, 1, 2, 3, 4, 5, 6] rfl) h hle f_a0 hw
      have j74 : ∀ (xn3 : Int32) (xn4 : Int32) (xn5 : Int32) (xn6 : Int32) (xt0 : Int32) (Sn : kp_S) (H : Heap) (locs : List Loc) (ls : Array Slot), lv_has ls 11 [(0, .ref a0), (2, .int x2), (3, .int xn3), (4, .int xn4), (5, .int xn5), (6, .int xn6)] → kp_H D cy A Sn s.heap H locs → kp_le S Sn → kp_is Sn a0 8 → wX8_mends_b74 B a0 x1 x2 xn3 xn4 xn5 xn6 xt0 (fun xn3_ xn4_ xn5_ xn6_ S_ => wX8_mends_L28 B a0 x1 x2  post n28 xn3_ xn4_ xn5_ xn6_ S_) Sn post → W p l e { frames := F + 1, cells := 0, slots := 0, locals := L + 24 } s m ([.ref a0, .int x1, .int x2] : List Value).toArray below meth c H locs 0 0 (MQ below (kp_Qi D cy A S post) ([.ref a0, .int x1, .int x2] : List Value).toArray s 0 0 A) (F0 m 74 ls [.int xt0]) := by
        intro xn3 xn4 xn5 xn6 xt0 Sn H locs ls hl h hle f_a0 hw
        unfold wX8_mends_b74 at hw
        refine lv_istore (lv' := [(7, .int xt0), (0, .ref a0), (2, .int x2), (3, .int xn3), (4, .int xn4), (5, .int xn5), (6, .int xn6)]) X.1 X.2.1 dX8_mends_74 hl (by decide) rfl (fun ls hl => ?_)
        refine lv_iload X.1 X.2.1 dX8_mends_76 (lv_at hl 0 rfl) ?_
        refine lv_if_eq (tgt := 88) X.1 X.2.1 dX8_mends_78 (by decide) (fun c8003 => ?_) (fun c8003 => ?_)
        · have hw := hw.1 c8003
          exact j88 xn3 xn4 xn5 xn6 xt0 Sn H locs ls (lv_sub hl [1, 2, 3, 4, 5, 6, 0] rfl) h hle f_a0 hw
        · have hw := hw.2 c8003
          refine lv_aload_n X.1 X.2.1 dX8_mends_81 rfl (lv_at hl 1 rfl) ?_
          obtain ⟨b8001, e_b8001, hw⟩ := hw
          have f_b8001 := h.2.2.2.rf (c := 8) (k := 0) f_a0 (by decide) (by decide) e_b8001 (t := 9) rfl
          refine kp_get X h f_a0 ff_8_14.l (v := .ref b8001) (congrArg va_rf e_b8001) dX8_mends_82 ?_
          refine kp_callv X h (kp_runV (rm := { frames := 5, cells := 0, slots := 0, locals := 113 }) (mc := 0) (ms := 0) (rest := []) (Qc := fun A => kp_Qv D cy A Sn _) X h (c_X9_advance l D cy ad Sn b8001 _ h.2.2.2 f_b8001 hw) f_b8001 cv_8_75 ⟨by dsimp only; omega, by dsimp only; omega, rfl, rfl, by dsimp only; omega, by dsimp only; omega⟩ rfl hl.1 rfl (Nat.le_of_ble_eq_true rfl) dX8_mends_85) (fun T8002 hw l_T8002 H locs h => ?_)
          have f_a0 := l_T8002.is f_a0
          have f_b8001 := l_T8002.is f_b8001
          have hle := hle.tr l_T8002
          exact j88 xn3 xn4 xn5 xn6 xt0 T8002 H locs ls (lv_sub hl [1, 2, 3, 4, 5, 6, 0] rfl) h hle f_a0 hw
      intro xn3 xn4 xn5 xn6 Sn H locs ls hl h hle f_a0 hw
      unfold wX8_mends_L28 at hw
      refine lv_iload X.1 X.2.1 dX8_mends_28 (lv_at hl 5 rfl) ?_
      refine lv_sipush (v := 3000) X.1 X.2.1 dX8_mends_30 (by decide) ?_
      refine lv_icmp_ge (tgt := 213) X.1 X.2.1 dX8_mends_33 (by decide) (fun c9006 => ?_) (fun c9006 => ?_)
      · have hw := hw.1 c9006
        exact j213 xn3 xn4 xn5 Sn H locs ls (lv_sub hl [0, 1, 2, 3, 4] rfl) h hle f_a0 hw
      · have hw := hw.2 c9006
        refine lv_aload_n X.1 X.2.1 dX8_mends_36 rfl (lv_at hl 0 rfl) ?_
        obtain ⟨b9001, e_b9001, hw⟩ := hw
        have f_b9001 := h.2.2.2.rf (c := 8) (k := 0) f_a0 (by decide) (by decide) e_b9001 (t := 9) rfl
        refine kp_get X h f_a0 ff_8_14.l (v := .ref b9001) (congrArg va_rf e_b9001) dX8_mends_37 ?_
        refine kp_get X h f_b9001 fp_8_66.l (v := .int (kp_I Sn 1805 b9001)) rfl dX8_mends_40 ?_
        refine lv_sipush (v := 315) X.1 X.2.1 dX8_mends_43 (by decide) ?_
        refine lv_icmp_ne (tgt := 213) X.1 X.2.1 dX8_mends_46 (by decide) (fun c9005 => ?_) (fun c9005 => ?_)
        · have hw := hw.1 c9005
          exact j213 xn3 xn4 xn5 Sn H locs ls (lv_sub hl [0, 1, 2, 3, 4] rfl) h hle f_a0 hw
        · have hw := hw.2 c9005
          refine lv_aload_n X.1 X.2.1 dX8_mends_49 rfl (lv_at hl 0 rfl) ?_
          refine kp_get X h f_a0 ff_8_14.l (v := .ref b9001) (congrArg va_rf e_b9001) dX8_mends_50 ?_
          refine kp_callv X h (kp_runV (rm := { frames := 5, cells := 0, slots := 0, locals := 113 }) (mc := 0) (ms := 0) (rest := []) (Qc := fun A => kp_Qv D cy A Sn _) X h (c_X9_advance l D cy ad Sn b9001 _ h.2.2.2 f_b9001 hw) f_b9001 cv_8_75 ⟨by dsimp only; omega, by dsimp only; omega, rfl, rfl, by dsimp only; omega, by dsimp only; omega⟩ rfl hl.1 rfl (Nat.le_of_ble_eq_true rfl) dX8_mends_53) (fun T9002 hw l_T9002 H locs h => ?_)
          have f_a0 := l_T9002.is f_a0
          have f_b9001 := l_T9002.is f_b9001
          have hle := hle.tr l_T9002
          refine lv_aload_n X.1 X.2.1 dX8_mends_56 rfl (lv_at hl 0 rfl) ?_
          obtain ⟨b9003, e_b9003, hw⟩ := hw
          have f_b9003 := h.2.2.2.rf (c := 8) (k := 0) f_a0 (by decide) (by decide) e_b9003 (t := 9) rfl
          refine kp_get X h f_a0 ff_8_14.l (v := .ref b9003) (congrArg va_rf e_b9003) dX8_mends_57 ?_
          refine kp_get X h f_b9003 fp_8_66.l (v := .int (kp_I T9002 1805 b9003)) rfl dX8_mends_60 ?_
          refine lv_sipush (v := 316) X.1 X.2.1 dX8_mends_63 (by decide) ?_
          refine lv_icmp_ne (tgt := 73) X.1 X.2.1 dX8_mends_66 (by decide) (fun c9004 => ?_) (fun c9004 => ?_)
          · have hw := hw.1 c9004
            refine lv_iconst (v := 0) X.1 X.2.1 dX8_mends_73 (by decide) ?_
            exact j74 xn3 xn4 xn5 xn6 0 T9002 H locs ls (lv_sub hl [0, 1, 2, 3, 4, 5] rfl) h hle f_a0 hw
          · have hw := hw.2 c9004
            refine lv_iconst (v := 1) X.1 X.2.1 dX8_mends_69 (by decide) ?_
            refine lv_goto (tgt := 74) X.1 X.2.1 dX8_mends_70 (by decide) ?_
            exact j74 xn3 xn4 xn5 xn6 1 T9002 H locs ls (lv_sub hl [0, 1, 2, 3, 4, 5] rfl) h hle f_a0 hw
  unfold wX8_mends at hw
  have h : kp_H D cy A S s.heap s.heap [] := h
  revert h
  intro h
  refine lv_aload_n X.1 X.2.1 dX8_mends_0 rfl (lv_at hl 0 rfl) ?_
  obtain ⟨b1, e_b1, hw⟩ := hw
  have f_b1 := h.2.2.2.rf (c := 8) (k := 3) f_a0 (by decide) (by decide) e_b1 (t := 0) rfl
  refine kp_get X h f_a0 fp_8_27.l (v := .ref b1) (congrArg va_rf e_b1) dX8_mends_1 ?_
  refine lv_iload_n X.1 X.2.1 dX8_mends_4 rfl (lv_at hl 1 rfl) ?_
  refine lv_iconst (v := 2) X.1 X.2.1 dX8_mends_5 (by decide) ?_
  refine lv_iadd X.1 X.2.1 dX8_mends_6 ?_
  refine lv_aload_n X.1 X.2.1 dX8_mends_7 rfl (lv_at hl 0 rfl) ?_
  refine kp_get X h f_a0 fp_8_27.l (v := .ref b1) (congrArg va_rf e_b1) dX8_mends_8 ?_
  refine kp_calli X h (kp_runV (rm := { frames := 0, cells := 0, slots := 0, locals := 0 }) (mc := 0) (ms := 0) (rest := [.int (x1 + 2), .ref b1]) (Qc := fun A => kp_Qi D cy A S _) X h (c_X0_size l D cy ad S b1 _ h.2.2.2 f_b1 hw) f_b1 cv_8_237 ⟨by dsimp only; omega, by dsimp only; omega, rfl, rfl, by dsimp only; omega, by dsimp only; omega⟩ rfl hl.1 rfl (Nat.le_of_ble_eq_true rfl) dX8_mends_11) (fun y3 T2 hw l_T2 H locs h => ?_)
  have f_a0 := l_T2.is f_a0
  have f_b1 := l_T2.is f_b1
  have hle := hle.tr l_T2
  refine kp_callv X h (kp_runV (rm := { frames := 0, cells := 0, slots := 0, locals := 0 }) (mc := 0) (ms := 0) (rest := []) (Qc := fun A => kp_Qv D cy A T2 _) X h (c_X0_set l D cy ad T2 b1 (x1 + 2) y3 _ h.2.2.2 f_b1 hw) f_b1 cv_8_240 ⟨by dsimp only; omega, by dsimp only; omega, rfl, rfl, by dsimp only; omega, by dsimp only; omega⟩ rfl hl.1 rfl (Nat.le_of_ble_eq_true rfl) dX8_mends_14) (fun T4 hw l_T4 H locs h => ?_)
  have f_a0 := l_T4.is f_a0
  have f_b1 := l_T4.is f_b1
  have hle := hle.tr l_T4
  refine lv_iconst (v := 0) X.1 X.2.1 dX8_mends_17 (by decide) ?_
  refine lv_istore_n (lv' := [(3, .int 0), (0, .ref a0), (1, .int x1), (2, .int x2)]) X.1 X.2.1 dX8_mends_18 rfl hl (by decide) rfl (fun ls hl => ?_)
  refine lv_iconst (v := 0) X.1 X.2.1 dX8_mends_19 (by decide) ?_
  refine lv_istore (lv' := [(4, .int 0), (3, .int 0), (0, .ref a0), (1, .int x1), (2, .int x2)]) X.1 X.2.1 dX8_mends_20 hl (by decide) rfl (fun ls hl => ?_)
  refine lv_iconst (v := 0) X.1 X.2.1 dX8_mends_22 (by decide) ?_
  refine lv_istore (lv' := [(5, .int 0), (4, .int 0), (3, .int 0), (0, .ref a0), (1, .int x1), (2, .int x2)]) X.1 X.2.1 dX8_mends_23 hl (by decide) rfl (fun ls hl => ?_)
  refine lv_iconst (v := 0) X.1 X.2.1 dX8_mends_25 (by decide) ?_
  refine lv_istore (lv' := [(6, .int 0), (5, .int 0), (4, .int 0), (3, .int 0), (0, .ref a0), (1, .int x1), (2, .int x2)]) X.1 X.2.1 dX8_mends_26 hl (by decide) rfl (fun ls hl => ?_)
  obtain ⟨n0, hw⟩ := hw
  exact L28 n0 0 0 0 0 T4 _ _ ls (lv_sub hl [4, 6, 3, 2, 1, 0] rfl) h hle f_a0 hw
theorem dX8_trial_0 : decode cX8_trial 0 = .ok (.aload_n 0, 1) := by decide +kernel
theorem dX8_trial_1 : decode cX8_trial 1 = .ok (.getfield 14, 3) := by decide +kernel
theorem dX8_trial_4 : decode cX8_trial 4 = .ok (.invokevirtual 75, 3) := by decide +kernel
theorem dX8_trial_7 : decode cX8_trial 7 = .ok (.aload_n 0, 1) := by decide +kernel
theorem dX8_trial_8 : decode cX8_trial 8 = .ok (.getfield 27, 3) := by decide +kernel
theorem dX8_trial_11 : decode cX8_trial 11 = .ok (.bipush 47, 2) := by decide +kernel
theorem dX8_trial_13 : decode cX8_trial 13 = .ok (.iload_n 1, 1) := by decide +kernel
theorem dX8_trial_14 : decode cX8_trial 14 = .ok (.invokevirtual 261, 3) := by decide +kernel
theorem dX8_trial_17 : decode cX8_trial 17 = .ok (.istore_n 2, 1) := by decide +kernel
theorem dX8_trial_18 : decode cX8_trial 18 = .ok (.aload_n 0, 1) := by decide +kernel
theorem dX8_trial_19 : decode cX8_trial 19 = .ok (.invokevirtual 120, 3) := by decide +kernel
theorem dX8_trial_22 : decode cX8_trial 22 = .ok (.istore_n 3, 1) := by decide +kernel
theorem dX8_trial_23 : decode cX8_trial 23 = .ok (.aload_n 0, 1) := by decide +kernel
theorem dX8_trial_24 : decode cX8_trial 24 = .ok (.getfield 27, 3) := by decide +kernel
theorem dX8_trial_27 : decode cX8_trial 27 = .ok (.bipush 54, 2) := by decide +kernel
theorem dX8_trial_29 : decode cX8_trial 29 = .ok (.invokevirtual 123, 3) := by decide +kernel
theorem dX8_trial_32 : decode cX8_trial 32 = .ok (.pop, 1) := by decide +kernel
theorem dX8_trial_33 : decode cX8_trial 33 = .ok (.aload_n 0, 1) := by decide +kernel
theorem dX8_trial_34 : decode cX8_trial 34 = .ok (.getfield 14, 3) := by decide +kernel
theorem dX8_trial_37 : decode cX8_trial 37 = .ok (.getfield 66, 3) := by decide +kernel
theorem dX8_trial_40 : decode cX8_trial 40 = .ok (.sipush 315, 3) := by decide +kernel
theorem dX8_trial_43 : decode cX8_trial 43 = .ok (.if_icmp .ne 13, 3) := by decide +kernel
theorem dX8_trial_46 : decode cX8_trial 46 = .ok (.aload_n 0, 1) := by decide +kernel
theorem dX8_trial_47 : decode cX8_trial 47 = .ok (.iload_n 2, 1) := by decide +kernel
theorem dX8_trial_48 : decode cX8_trial 48 = .ok (.iload_n 3, 1) := by decide +kernel
theorem dX8_trial_49 : decode cX8_trial 49 = .ok (.invokevirtual 285, 3) := by decide +kernel
theorem dX8_trial_52 : decode cX8_trial 52 = .ok (.istore_n 3, 1) := by decide +kernel
theorem dX8_trial_53 : decode cX8_trial 53 = .ok (.goto 23, 3) := by decide +kernel
theorem dX8_trial_56 : decode cX8_trial 56 = .ok (.aload_n 0, 1) := by decide +kernel
theorem dX8_trial_57 : decode cX8_trial 57 = .ok (.getfield 14, 3) := by decide +kernel
theorem dX8_trial_60 : decode cX8_trial 60 = .ok (.getfield 66, 3) := by decide +kernel
theorem dX8_trial_63 : decode cX8_trial 63 = .ok (.sipush 317, 3) := by decide +kernel
theorem dX8_trial_66 : decode cX8_trial 66 = .ok (.if_icmp .eq 10, 3) := by decide +kernel
theorem dX8_trial_69 : decode cX8_trial 69 = .ok (.aload_n 0, 1) := by decide +kernel
theorem dX8_trial_70 : decode cX8_trial 70 = .ok (.getfield 14, 3) := by decide +kernel
theorem dX8_trial_73 : decode cX8_trial 73 = .ok (.invokevirtual 69, 3) := by decide +kernel
theorem dX8_trial_76 : decode cX8_trial 76 = .ok (.aload_n 0, 1) := by decide +kernel
theorem dX8_trial_77 : decode cX8_trial 77 = .ok (.iload_n 2, 1) := by decide +kernel
theorem dX8_trial_78 : decode cX8_trial 78 = .ok (.iload_n 3, 1) := by decide +kernel
theorem dX8_trial_79 : decode cX8_trial 79 = .ok (.invokevirtual 279, 3) := by decide +kernel
theorem dX8_trial_82 : decode cX8_trial 82 = .ok (.istore_n 3, 1) := by decide +kernel
theorem dX8_trial_83 : decode cX8_trial 83 = .ok (.aload_n 0, 1) := by decide +kernel
theorem dX8_trial_84 : decode cX8_trial 84 = .ok (.getfield 27, 3) := by decide +kernel
theorem dX8_trial_87 : decode cX8_trial 87 = .ok (.iload_n 2, 1) := by decide +kernel
theorem dX8_trial_88 : decode cX8_trial 88 = .ok (.iconst 3, 1) := by decide +kernel
theorem dX8_trial_89 : decode cX8_trial 89 = .ok (.iadd, 1) := by decide +kernel
theorem dX8_trial_90 : decode cX8_trial 90 = .ok (.aload_n 0, 1) := by decide +kernel
theorem dX8_trial_91 : decode cX8_trial 91 = .ok (.getfield 27, 3) := by decide +kernel
theorem dX8_trial_94 : decode cX8_trial 94 = .ok (.invokevirtual 237, 3) := by decide +kernel
theorem dX8_trial_97 : decode cX8_trial 97 = .ok (.invokevirtual 240, 3) := by decide +kernel
theorem dX8_trial_100 : decode cX8_trial 100 = .ok (.iload_n 3, 1) := by decide +kernel
theorem dX8_trial_101 : decode cX8_trial 101 = .ok (.ireturn, 1) := by decide +kernel
def wX8_trial_b76 (B : Nat → kp_S → (Int32 → kp_S → Prop) → Prop) (a0 : Nat) (x1 : Int32) (xn2 : Int32) (xn3 : Int32)  (Sn : kp_S) (post : Int32 → kp_S → Prop) : Prop :=
  wX8_alwaysPart B a0 xn2 xn3 Sn (fun y1002 T1001 =>
  ∃ b1003 : Nat, kp_R T1001 1603 a0 = some b1003 ∧
  wX0_size b1003 T1001 (fun y1005 T1004 =>
  wX0_set b1003 (xn2 + 3) y1005 T1004 (fun T1006 =>
  post y1002 T1006)))
def wX8_trial (B : Nat → kp_S → (Int32 → kp_S → Prop) → Prop) (a0 : Nat) (x1 : Int32) (S : kp_S) (post : Int32 → kp_S → Prop) : Prop :=
  ∃ b1 : Nat, kp_R S 1600 a0 = some b1 ∧
  wX9_advance b1 S (fun T2 =>
  ∃ b3 : Nat, kp_R T2 1603 a0 = some b3 ∧
  wX0_addPart b3 47 x1 T2 (fun y5 T4 =>
  B a0 T4 (fun y7 T6 =>
  ∃ b8 : Nat, kp_R T6 1603 a0 = some b8 ∧
  wX0_add b8 54 T6 (fun y10 T9 =>
  ∃ b11 : Nat, kp_R T9 1600 a0 = some b11 ∧
  ((¬ (kp_I T9 1805 b11) = 315 →
  (((kp_I T9 1805 b11) = 317 →
  wX8_trial_b76 B a0 x1 y5 y7  T9 post) ∧ (¬ (kp_I T9 1805 b11) = 317 →
  wX9_refuse b11 T9 (fun T12 =>
  wX8_trial_b76 B a0 x1 y5 y7  T12 post)))) ∧ ((kp_I T9 1805 b11) = 315 →
  wX8_mends B a0 y5 y7 T9 (fun y15 T14 =>
  wX8_trial_b76 B a0 x1 y5 y15  T14 post)))))))
set_option maxHeartbeats 4000000 in
set_option maxRecDepth 100000 in
theorem c_X8_trial (l : Launch) (D : va_G) (cy : Nat → ClassId) (ad : (Nat → Nat) × (Nat → Nat)) (F L : Nat) (B : Nat → kp_S → (Int32 → kp_S → Prop) → Prop) (hB : ∀ (S : kp_S) (a0 : Nat) (post : Int32 → kp_S → Prop), kp_ok S → kp_is S a0 8 → B a0 S post → kp_M l yX8_block cX8_block 5 (some .int) { frames := F, cells := 0, slots := 0, locals := L } D cy ad S [.ref a0] 0 0 (fun A => kp_Qi D cy A S post)) (hF : 191 ≤ F) (hL : 4387 ≤ L) (S : kp_S) (a0 : Nat) (x1 : Int32) (post : Int32 → kp_S → Prop) (hS : kp_ok S) (f_a0 : kp_is S a0 8) (hw : wX8_trial B a0 x1 S post) : kp_M l yX8_trial cX8_trial 4 (some .int) { frames := F + 2, cells := 0, slots := 0, locals := L + 54 } D cy ad S [.ref a0, .int x1] 0 0 (fun A => kp_Qi D cy A S post) := by
  refine kp_start (own := RX8) (by decide) rfl (Nat.le_of_ble_eq_true rfl) hS ?_
  intro p e s m below meth c A ls X hr hlocks hname h hl
  have hle : kp_le S S := kp_le.rf
  have hl : lv_has ls 4 [(0, .ref a0), (1, .int x1)] := hl
  have j76 : ∀ (xn2 : Int32) (xn3 : Int32) (Sn : kp_S) (H : Heap) (locs : List Loc) (ls : Array Slot), lv_has ls 4 [(0, .ref a0), (2, .int xn2), (3, .int xn3)] → kp_H D cy A Sn s.heap H locs → kp_le S Sn → kp_is Sn a0 8 → wX8_trial_b76 B a0 x1 xn2 xn3  Sn post → W p l e { frames := F + 2, cells := 0, slots := 0, locals := L + 54 } s m ([.ref a0, .int x1] : List Value).toArray below meth c H locs 0 0 (MQ below (kp_Qi D cy A S post) ([.ref a0, .int x1] : List Value).toArray s 0 0 A) (F0 m 76 ls []) := by
    intro xn2 xn3 Sn H locs ls hl h hle f_a0 hw
    unfold wX8_trial_b76 at hw
    refine lv_aload_n X.1 X.2.1 dX8_trial_76 rfl (lv_at hl 0 rfl) ?_
    refine lv_iload_n X.1 X.2.1 dX8_trial_77 rfl (lv_at hl 1 rfl) ?_
    refine lv_iload_n X.1 X.2.1 dX8_trial_78 rfl (lv_at hl 2 rfl) ?_
    refine kp_calli X h (kp_runV (rm := { frames := F + 1, cells := 0, slots := 0, locals := L + 24 }) (mc := 0) (ms := 0) (rest := []) (Qc := fun A => kp_Qi D cy A Sn _) X h (c_X8_alwaysPart l D cy ad F L B hB hF hL Sn a0 xn2 xn3 _ h.2.2.2 f_a0 hw) f_a0 cv_8_279 ⟨by dsimp only; omega, by dsimp only; omega, rfl, rfl, by dsimp only; omega, by dsimp only; omega⟩ rfl hl.1 rfl (Nat.le_of_ble_eq_true rfl) dX8_trial_79) (fun y1002 T1001 hw l_T1001 H locs h => ?_)
    have f_a0 := l_T1001.is f_a0
    have hle := hle.tr l_T1001
    refine lv_istore_n (lv' := [(3, .int y1002), (0, .ref a0), (2, .int xn2)]) X.1 X.2.1 dX8_trial_82 rfl hl (by decide) rfl (fun ls hl => ?_)
    refine lv_aload_n X.1 X.2.1 dX8_trial_83 rfl (lv_at hl 1 rfl) ?_
    obtain ⟨b1003, e_b1003, hw⟩ := hw
    have f_b1003 := h.2.2.2.rf (c := 8) (k := 3) f_a0 (by decide) (by decide) e_b1003 (t := 0) rfl
    refine kp_get X h f_a0 fp_8_27.l (v := .ref b1003) (congrArg va_rf e_b1003) dX8_trial_84 ?_
    refine lv_iload_n X.1 X.2.1 dX8_trial_87 rfl (lv_at hl 2 rfl) ?_
    refine lv_iconst (v := 3) X.1 X.2.1 dX8_trial_88 (by decide) ?_
    refine lv_iadd X.1 X.2.1 dX8_trial_89 ?_
    refine lv_aload_n X.1 X.2.1 dX8_trial_90 rfl (lv_at hl 1 rfl) ?_
    refine kp_get X h f_a0 fp_8_27.l (v := .ref b1003) (congrArg va_rf e_b1003) dX8_trial_91 ?_
    refine kp_calli X h (kp_runV (rm := { frames := 0, cells := 0, slots := 0, locals := 0 }) (mc := 0) (ms := 0) (rest := [.int (xn2 + 3), .ref b1003]) (Qc := fun A => kp_Qi D cy A T1001 _) X h (c_X0_size l D cy ad T1001 b1003 _ h.2.2.2 f_b1003 hw) f_b1003 cv_8_237 ⟨by dsimp only; omega, by dsimp only; omega, rfl, rfl, by dsimp only; omega, by dsimp only; omega⟩ rfl hl.1 rfl (Nat.le_of_ble_eq_true rfl) dX8_trial_94) (fun y1005 T1004 hw l_T1004 H locs h => ?_)
    have f_a0 := l_T1004.is f_a0
    have f_b1003 := l_T1004.is f_b1003
    have hle := hle.tr l_T1004
    refine kp_callv X h (kp_runV (rm := { frames := 0, cells := 0, slots := 0, locals := 0 }) (mc := 0) (ms := 0) (rest := []) (Qc := fun A => kp_Qv D cy A T1004 _) X h (c_X0_set l D cy ad T1004 b1003 (xn2 + 3) y1005 _ h.2.2.2 f_b1003 hw) f_b1003 cv_8_240 ⟨by dsimp only; omega, by dsimp only; omega, rfl, rfl, by dsimp only; omega, by dsimp only; omega⟩ rfl hl.1 rfl (Nat.le_of_ble_eq_true rfl) dX8_trial_97) (fun T1006 hw l_T1006 H locs h => ?_)
    have f_a0 := l_T1006.is f_a0
    have f_b1003 := l_T1006.is f_b1003
    have hle := hle.tr l_T1006
    refine lv_iload_n X.1 X.2.1 dX8_trial_100 rfl (lv_at hl 0 rfl) ?_
    exact kp_reti X hr hlocks h hle rfl hw dX8_trial_101
  unfold wX8_trial at hw
  have h : kp_H D cy A S s.heap s.heap [] := h
  revert h
  intro h
  refine lv_aload_n X.1 X.2.1 dX8_trial_0 rfl (lv_at hl 0 rfl) ?_
  obtain ⟨b1, e_b1, hw⟩ := hw
  have f_b1 := h.2.2.2.rf (c := 8) (k := 0) f_a0 (by decide) (by decide) e_b1 (t := 9) rfl
  refine kp_get X h f_a0 ff_8_14.l (v := .ref b1) (congrArg va_rf e_b1) dX8_trial_1 ?_
  refine kp_callv X h (kp_runV (rm := { frames := 5, cells := 0, slots := 0, locals := 113 }) (mc := 0) (ms := 0) (rest := []) (Qc := fun A => kp_Qv D cy A S _) X h (c_X9_advance l D cy ad S b1 _ h.2.2.2 f_b1 hw) f_b1 cv_8_75 ⟨by dsimp only; omega, by dsimp only; omega, rfl, rfl, by dsimp only; omega, by dsimp only; omega⟩ rfl hl.1 rfl (Nat.le_of_ble_eq_true rfl) dX8_trial_4) (fun T2 hw l_T2 H locs h => ?_)
  have f_a0 := l_T2.is f_a0
  have f_b1 := l_T2.is f_b1
  have hle := hle.tr l_T2
  refine lv_aload_n X.1 X.2.1 dX8_trial_7 rfl (lv_at hl 0 rfl) ?_
  obtain ⟨b3, e_b3, hw⟩ := hw
  have f_b3 := h.2.2.2.rf (c := 8) (k := 3) f_a0 (by decide) (by decide) e_b3 (t := 0) rfl
  refine kp_get X h f_a0 fp_8_27.l (v := .ref b3) (congrArg va_rf e_b3) dX8_trial_8 ?_
  refine lv_bipush (v := 47) X.1 X.2.1 dX8_trial_11 (by decide) ?_
  refine lv_iload_n X.1 X.2.1 dX8_trial_13 rfl (lv_at hl 1 rfl) ?_
  refine kp_calli X h (kp_runV (rm := { frames := 2, cells := 0, slots := 0, locals := 45 }) (mc := 0) (ms := 0) (rest := []) (Qc := fun A => kp_Qi D cy A T2 _) X h (c_X0_addPart l D cy ad T2 b3 47 x1 _ h.2.2.2 f_b3 hw) f_b3 cv_8_261 ⟨by dsimp only; omega, by dsimp only; omega, rfl, rfl, by dsimp only; omega, by dsimp only; omega⟩ rfl hl.1 rfl (Nat.le_of_ble_eq_true rfl) dX8_trial_14) (fun y5 T4 hw l_T4 H locs h => ?_)
  have f_a0 := l_T4.is f_a0
  have f_b1 := l_T4.is f_b1
  have f_b3 := l_T4.is f_b3
  have hle := hle.tr l_T4
  refine lv_istore_n (lv' := [(2, .int y5), (0, .ref a0), (1, .int x1)]) X.1 X.2.1 dX8_trial_17 rfl hl (by decide) rfl (fun ls hl => ?_)
  refine lv_aload_n X.1 X.2.1 dX8_trial_18 rfl (lv_at hl 1 rfl) ?_
  refine kp_calli X h (kp_runV (rm := { frames := F, cells := 0, slots := 0, locals := L }) (mc := 0) (ms := 0) (rest := []) (Qc := fun A => kp_Qi D cy A T4 _) X h (hB T4 a0 _ h.2.2.2 f_a0 hw) f_a0 cv_8_120 ⟨by dsimp only; omega, by dsimp only; omega, rfl, rfl, by dsimp only; omega, by dsimp only; omega⟩ rfl hl.1 rfl (Nat.le_of_ble_eq_true rfl) dX8_trial_19) (fun y7 T6 hw l_T6 H locs h => ?_)
  have f_a0 := l_T6.is f_a0
  have f_b1 := l_T6.is f_b1
  have f_b3 := l_T6.is f_b3
  have hle := hle.tr l_T6
  refine lv_istore_n (lv' := [(3, .int y7), (2, .int y5), (0, .ref a0), (1, .int x1)]) X.1 X.2.1 dX8_trial_22 rfl hl (by decide) rfl (fun ls hl => ?_)
  refine lv_aload_n X.1 X.2.1 dX8_trial_23 rfl (lv_at hl 2 rfl) ?_
  obtain ⟨b8, e_b8, hw⟩ := hw
  have f_b8 := h.2.2.2.rf (c := 8) (k := 3) f_a0 (by decide) (by decide) e_b8 (t := 0) rfl
  refine kp_get X h f_a0 fp_8_27.l (v := .ref b8) (congrArg va_rf e_b8) dX8_trial_24 ?_
  refine lv_bipush (v := 54) X.1 X.2.1 dX8_trial_27 (by decide) ?_
  refine kp_calli X h (kp_runV (rm := { frames := 0, cells := 0, slots := 0, locals := 0 }) (mc := 0) (ms := 0) (rest := []) (Qc := fun A => kp_Qi D cy A T6 _) X h (c_X0_add l D cy ad T6 b8 54 _ h.2.2.2 f_b8 hw) f_b8 cv_8_123 ⟨by dsimp only; omega, by dsimp only; omega, rfl, rfl, by dsimp only; omega, by dsimp only; omega⟩ rfl hl.1 rfl (Nat.le_of_ble_eq_true rfl) dX8_trial_29) (fun y10 T9 hw l_T9 H locs h => ?_)
  have f_a0 := l_T9.is f_a0
  have f_b1 := l_T9.is f_b1
  have f_b3 := l_T9.is f_b3
  have f_b8 := l_T9.is f_b8
  have hle := hle.tr l_T9
  refine lv_pop X.1 X.2.1 dX8_trial_32 rfl ?_
  refine lv_aload_n X.1 X.2.1 dX8_trial_33 rfl (lv_at hl 2 rfl) ?_
  obtain ⟨b11, e_b11, hw⟩ := hw
  have f_b11 := h.2.2.2.rf (c := 8) (k := 0) f_a0 (by decide) (by decide) e_b11 (t := 9) rfl
  refine kp_get X h f_a0 ff_8_14.l (v := .ref b11) (congrArg va_rf e_b11) dX8_trial_34 ?_
  refine kp_get X h f_b11 fp_8_66.l (v := .int (kp_I T9 1805 b11)) rfl dX8_trial_37 ?_
  refine lv_sipush (v := 315) X.1 X.2.1 dX8_trial_40 (by decide) ?_
  refine lv_icmp_ne (tgt := 56) X.1 X.2.1 dX8_trial_43 (by decide) (fun c16 => ?_) (fun c16 => ?_)
  · have hw := hw.1 c16
    refine lv_aload_n X.1 X.2.1 dX8_trial_56 rfl (lv_at hl 2 rfl) ?_
    refine kp_get X h f_a0 ff_8_14.l (v := .ref b11) (congrArg va_rf e_b11) dX8_trial_57 ?_
    refine kp_get X h f_b11 fp_8_66.l (v := .int (kp_I T9 1805 b11)) rfl dX8_trial_60 ?_
    refine lv_sipush (v := 317) X.1 X.2.1 dX8_trial_63 (by decide) ?_
    refine lv_icmp_eq (tgt := 76) X.1 X.2.1 dX8_trial_66 (by decide) (fun c13 => ?_) (fun c13 => ?_)
    · have hw := hw.1 c13
      exact j76 y5 y7 T9 _ _ ls (lv_sub hl [2, 1, 0] rfl) h hle f_a0 hw
    · have hw := hw.2 c13
      refine lv_aload_n X.1 X.2.1 dX8_trial_69 rfl (lv_at hl 2 rfl) ?_
      refine kp_get X h f_a0 ff_8_14.l (v := .ref b11) (congrArg va_rf e_b11) dX8_trial_70 ?_
      refine kp_callv X h (kp_runV (rm := { frames := 1, cells := 0, slots := 0, locals := 21 }) (mc := 0) (ms := 0) (rest := []) (Qc := fun A => kp_Qv D cy A T9 _) X h (c_X9_refuse l D cy ad T9 b11 _ h.2.2.2 f_b11 hw) f_b11 cv_8_69 ⟨by dsimp only; omega, by dsimp only; omega, rfl, rfl, by dsimp only; omega, by dsimp only; omega⟩ rfl hl.1 rfl (Nat.le_of_ble_eq_true rfl) dX8_trial_73) (fun T12 hw l_T12 H locs h => ?_)
      have f_a0 := l_T12.is f_a0
      have f_b1 := l_T12.is f_b1
      have f_b3 := l_T12.is f_b3
      have f_b8 := l_T12.is f_b8
      have f_b11 := l_T12.is f_b11
      have hle := hle.tr l_T12
      exact j76 y5 y7 T12 _ _ ls (lv_sub hl [2, 1, 0] rfl) h hle f_a0 hw
  · have hw := hw.2 c16
    refine lv_aload_n X.1 X.2.1 dX8_trial_46 rfl (lv_at hl 2 rfl) ?_
    refine lv_iload_n X.1 X.2.1 dX8_trial_47 rfl (lv_at hl 1 rfl) ?_
    refine lv_iload_n X.1 X.2.1 dX8_trial_48 rfl (lv_at hl 0 rfl) ?_
    refine kp_calli X h (kp_runV (rm := { frames := F + 1, cells := 0, slots := 0, locals := L + 24 }) (mc := 0) (ms := 0) (rest := []) (Qc := fun A => kp_Qi D cy A T9 _) X h (c_X8_mends l D cy ad F L B hB hF hL T9 a0 y5 y7 _ h.2.2.2 f_a0 hw) f_a0 cv_8_285 ⟨by dsimp only; omega, by dsimp only; omega, rfl, rfl, by dsimp only; omega, by dsimp only; omega⟩ rfl hl.1 rfl (Nat.le_of_ble_eq_true rfl) dX8_trial_49) (fun y15 T14 hw l_T14 H locs h => ?_)
    have f_a0 := l_T14.is f_a0
    have f_b1 := l_T14.is f_b1
    have f_b3 := l_T14.is f_b3
    have f_b8 := l_T14.is f_b8
    have f_b11 := l_T14.is f_b11
    have hle := hle.tr l_T14
    refine lv_istore_n (lv' := [(3, .int y15), (2, .int y5), (0, .ref a0), (1, .int x1)]) X.1 X.2.1 dX8_trial_52 rfl hl (by decide) rfl (fun ls hl => ?_)
    refine lv_goto (tgt := 76) X.1 X.2.1 dX8_trial_53 (by decide) ?_
    exact j76 y5 y15 T14 _ _ ls (lv_sub hl [2, 1, 0] rfl) h hle f_a0 hw
theorem dX8_later_0 : decode cX8_later 0 = .ok (.aload_n 0, 1) := by decide +kernel
theorem dX8_later_1 : decode cX8_later 1 = .ok (.getfield 14, 3) := by decide +kernel
theorem dX8_later_4 : decode cX8_later 4 = .ok (.invokevirtual 75, 3) := by decide +kernel
theorem dX8_later_7 : decode cX8_later 7 = .ok (.aload_n 0, 1) := by decide +kernel
theorem dX8_later_8 : decode cX8_later 8 = .ok (.getfield 27, 3) := by decide +kernel
theorem dX8_later_11 : decode cX8_later 11 = .ok (.bipush 52, 2) := by decide +kernel
theorem dX8_later_13 : decode cX8_later 13 = .ok (.iload_n 1, 1) := by decide +kernel
theorem dX8_later_14 : decode cX8_later 14 = .ok (.invokevirtual 261, 3) := by decide +kernel
theorem dX8_later_17 : decode cX8_later 17 = .ok (.istore_n 2, 1) := by decide +kernel
theorem dX8_later_18 : decode cX8_later 18 = .ok (.aload_n 0, 1) := by decide +kernel
theorem dX8_later_19 : decode cX8_later 19 = .ok (.getfield 23, 3) := by decide +kernel
theorem dX8_later_22 : decode cX8_later 22 = .ok (.invokevirtual 288, 3) := by decide +kernel
theorem dX8_later_25 : decode cX8_later 25 = .ok (.istore_n 3, 1) := by decide +kernel
theorem dX8_later_26 : decode cX8_later 26 = .ok (.aload_n 0, 1) := by decide +kernel
theorem dX8_later_27 : decode cX8_later 27 = .ok (.invokevirtual 120, 3) := by decide +kernel
theorem dX8_later_30 : decode cX8_later 30 = .ok (.istore 4, 2) := by decide +kernel
theorem dX8_later_32 : decode cX8_later 32 = .ok (.aload_n 0, 1) := by decide +kernel
theorem dX8_later_33 : decode cX8_later 33 = .ok (.dup, 1) := by decide +kernel
theorem dX8_later_34 : decode cX8_later 34 = .ok (.getfield 117, 3) := by decide +kernel
theorem dX8_later_37 : decode cX8_later 37 = .ok (.iload 4, 2) := by decide +kernel
theorem dX8_later_39 : decode cX8_later 39 = .ok (.bipush 6, 2) := by decide +kernel
theorem dX8_later_41 : decode cX8_later 41 = .ok (.iand, 1) := by decide +kernel
theorem dX8_later_42 : decode cX8_later 42 = .ok (.ior, 1) := by decide +kernel
theorem dX8_later_43 : decode cX8_later 43 = .ok (.putfield 117, 3) := by decide +kernel
theorem dX8_later_46 : decode cX8_later 46 = .ok (.aload_n 0, 1) := by decide +kernel
theorem dX8_later_47 : decode cX8_later 47 = .ok (.getfield 23, 3) := by decide +kernel
theorem dX8_later_50 : decode cX8_later 50 = .ok (.iload_n 3, 1) := by decide +kernel
theorem dX8_later_51 : decode cX8_later 51 = .ok (.invokevirtual 291, 3) := by decide +kernel
theorem dX8_later_54 : decode cX8_later 54 = .ok (.aload_n 0, 1) := by decide +kernel
theorem dX8_later_55 : decode cX8_later 55 = .ok (.getfield 27, 3) := by decide +kernel
theorem dX8_later_58 : decode cX8_later 58 = .ok (.bipush 54, 2) := by decide +kernel
theorem dX8_later_60 : decode cX8_later 60 = .ok (.invokevirtual 123, 3) := by decide +kernel
theorem dX8_later_63 : decode cX8_later 63 = .ok (.pop, 1) := by decide +kernel
theorem dX8_later_64 : decode cX8_later 64 = .ok (.aload_n 0, 1) := by decide +kernel
theorem dX8_later_65 : decode cX8_later 65 = .ok (.getfield 27, 3) := by decide +kernel
theorem dX8_later_68 : decode cX8_later 68 = .ok (.iload_n 2, 1) := by decide +kernel
theorem dX8_later_69 : decode cX8_later 69 = .ok (.iconst 3, 1) := by decide +kernel
theorem dX8_later_70 : decode cX8_later 70 = .ok (.iadd, 1) := by decide +kernel
theorem dX8_later_71 : decode cX8_later 71 = .ok (.aload_n 0, 1) := by decide +kernel
theorem dX8_later_72 : decode cX8_later 72 = .ok (.getfield 27, 3) := by decide +kernel
theorem dX8_later_75 : decode cX8_later 75 = .ok (.invokevirtual 237, 3) := by decide +kernel
theorem dX8_later_78 : decode cX8_later 78 = .ok (.invokevirtual 240, 3) := by decide +kernel
theorem dX8_later_81 : decode cX8_later 81 = .ok (.iconst 5, 1) := by decide +kernel
theorem dX8_later_82 : decode cX8_later 82 = .ok (.ireturn, 1) := by decide +kernel
def wX8_later (B : Nat → kp_S → (Int32 → kp_S → Prop) → Prop) (a0 : Nat) (x1 : Int32) (S : kp_S) (post : Int32 → kp_S → Prop) : Prop :=
  ∃ b1 : Nat, kp_R S 1600 a0 = some b1 ∧
  wX9_advance b1 S (fun T2 =>
  ∃ b3 : Nat, kp_R T2 1603 a0 = some b3 ∧
  wX0_addPart b3 52 x1 T2 (fun y5 T4 =>
  ∃ b6 : Nat, kp_R T4 1601 a0 = some b6 ∧
  wX5_enterLater b6 T4 (fun y8 T7 =>
  B a0 T7 (fun y10 T9 =>
  ∀ T11 : kp_S, T11 = kp_sI T9 1604 a0 ((kp_I T9 1604 a0) ||| (y10 &&& 6)) →
  ∃ b12 : Nat, kp_R T11 1601 a0 = some b12 ∧
  wX5_leaveLater b12 y8 T11 (fun T13 =>
  ∃ b14 : Nat, kp_R T13 1603 a0 = some b14 ∧
  wX0_add b14 54 T13 (fun y16 T15 =>
  ∃ b17 : Nat, kp_R T15 1603 a0 = some b17 ∧
  wX0_size b17 T15 (fun y19 T18 =>
  wX0_set b17 (y5 + 3) y19 T18 (fun T20 =>
  post 5 T20))))))))
set_option maxHeartbeats 4000000 in
set_option maxRecDepth 100000 in
theorem c_X8_later (l : Launch) (D : va_G) (cy : Nat → ClassId) (ad : (Nat → Nat) × (Nat → Nat)) (F L : Nat) (B : Nat → kp_S → (Int32 → kp_S → Prop) → Prop) (hB : ∀ (S : kp_S) (a0 : Nat) (post : Int32 → kp_S → Prop), kp_ok S → kp_is S a0 8 → B a0 S post → kp_M l yX8_block cX8_block 5 (some .int) { frames := F, cells := 0, slots := 0, locals := L } D cy ad S [.ref a0] 0 0 (fun A => kp_Qi D cy A S post)) (hF : 191 ≤ F) (hL : 4387 ≤ L) (S : kp_S) (a0 : Nat) (x1 : Int32) (post : Int32 → kp_S → Prop) (hS : kp_ok S) (f_a0 : kp_is S a0 8) (hw : wX8_later B a0 x1 S post) : kp_M l yX8_later cX8_later 5 (some .int) { frames := F + 1, cells := 0, slots := 0, locals := L + 24 } D cy ad S [.ref a0, .int x1] 0 0 (fun A => kp_Qi D cy A S post) := by
  refine kp_start (own := RX8) (by decide) rfl (Nat.le_of_ble_eq_true rfl) hS ?_
  intro p e s m below meth c A ls X hr hlocks hname h hl
  have hle : kp_le S S := kp_le.rf
  have hl : lv_has ls 5 [(0, .ref a0), (1, .int x1)] := hl
  unfold wX8_later at hw
  have h : kp_H D cy A S s.heap s.heap [] := h
  revert h
  intro h
  refine lv_aload_n X.1 X.2.1 dX8_later_0 rfl (lv_at hl 0 rfl) ?_
  obtain ⟨b1, e_b1, hw⟩ := hw
  have f_b1 := h.2.2.2.rf (c := 8) (k := 0) f_a0 (by decide) (by decide) e_b1 (t := 9) rfl
  refine kp_get X h f_a0 ff_8_14.l (v := .ref b1) (congrArg va_rf e_b1) dX8_later_1 ?_
  refine kp_callv X h (kp_runV (rm := { frames := 5, cells := 0, slots := 0, locals := 113 }) (mc := 0) (ms := 0) (rest := []) (Qc := fun A => kp_Qv D cy A S _) X h (c_X9_advance l D cy ad S b1 _ h.2.2.2 f_b1 hw) f_b1 cv_8_75 ⟨by dsimp only; omega, by dsimp only; omega, rfl, rfl, by dsimp only; omega, by dsimp only; omega⟩ rfl hl.1 rfl (Nat.le_of_ble_eq_true rfl) dX8_later_4) (fun T2 hw l_T2 H locs h => ?_)
  have f_a0 := l_T2.is f_a0
  have f_b1 := l_T2.is f_b1
  have hle := hle.tr l_T2
  refine lv_aload_n X.1 X.2.1 dX8_later_7 rfl (lv_at hl 0 rfl) ?_
  obtain ⟨b3, e_b3, hw⟩ := hw
  have f_b3 := h.2.2.2.rf (c := 8) (k := 3) f_a0 (by decide) (by decide) e_b3 (t := 0) rfl
  refine kp_get X h f_a0 fp_8_27.l (v := .ref b3) (congrArg va_rf e_b3) dX8_later_8 ?_
  refine lv_bipush (v := 52) X.1 X.2.1 dX8_later_11 (by decide) ?_
  refine lv_iload_n X.1 X.2.1 dX8_later_13 rfl (lv_at hl 1 rfl) ?_
  refine kp_calli X h (kp_runV (rm := { frames := 2, cells := 0, slots := 0, locals := 45 }) (mc := 0) (ms := 0) (rest := []) (Qc := fun A => kp_Qi D cy A T2 _) X h (c_X0_addPart l D cy ad T2 b3 52 x1 _ h.2.2.2 f_b3 hw) f_b3 cv_8_261 ⟨by dsimp only; omega, by dsimp only; omega, rfl, rfl, by dsimp only; omega, by dsimp only; omega⟩ rfl hl.1 rfl (Nat.le_of_ble_eq_true rfl) dX8_later_14) (fun y5 T4 hw l_T4 H locs h => ?_)
  have f_a0 := l_T4.is f_a0
  have f_b1 := l_T4.is f_b1
  have f_b3 := l_T4.is f_b3
  have hle := hle.tr l_T4
  refine lv_istore_n (lv' := [(2, .int y5), (0, .ref a0), (1, .int x1)]) X.1 X.2.1 dX8_later_17 rfl hl (by decide) rfl (fun ls hl => ?_)
  refine lv_aload_n X.1 X.2.1 dX8_later_18 rfl (lv_at hl 1 rfl) ?_
  obtain ⟨b6, e_b6, hw⟩ := hw
  have f_b6 := h.2.2.2.rf (c := 8) (k := 1) f_a0 (by decide) (by decide) e_b6 (t := 5) rfl
  refine kp_get X h f_a0 ff_8_23.l (v := .ref b6) (congrArg va_rf e_b6) dX8_later_19 ?_
  refine kp_calli X h (kp_runV (rm := { frames := 0, cells := 0, slots := 0, locals := 0 }) (mc := 0) (ms := 0) (rest := []) (Qc := fun A => kp_Qi D cy A T4 _) X h (c_X5_enterLater l D cy ad T4 b6 _ h.2.2.2 f_b6 hw) f_b6 cv_8_288 ⟨by dsimp only; omega, by dsimp only; omega, rfl, rfl, by dsimp only; omega, by dsimp only; omega⟩ rfl hl.1 rfl (Nat.le_of_ble_eq_true rfl) dX8_later_22) (fun y8 T7 hw l_T7 H locs h => ?_)
  have f_a0 := l_T7.is f_a0
  have f_b1 := l_T7.is f_b1
  have f_b3 := l_T7.is f_b3
  have f_b6 := l_T7.is f_b6
  have hle := hle.tr l_T7
  refine lv_istore_n (lv' := [(3, .int y8), (2, .int y5), (0, .ref a0), (1, .int x1)]) X.1 X.2.1 dX8_later_25 rfl hl (by decide) rfl (fun ls hl => ?_)
  refine lv_aload_n X.1 X.2.1 dX8_later_26 rfl (lv_at hl 2 rfl) ?_
  refine kp_calli X h (kp_runV (rm := { frames := F, cells := 0, slots := 0, locals := L }) (mc := 0) (ms := 0) (rest := []) (Qc := fun A => kp_Qi D cy A T7 _) X h (hB T7 a0 _ h.2.2.2 f_a0 hw) f_a0 cv_8_120 ⟨by dsimp only; omega, by dsimp only; omega, rfl, rfl, by dsimp only; omega, by dsimp only; omega⟩ rfl hl.1 rfl (Nat.le_of_ble_eq_true rfl) dX8_later_27) (fun y10 T9 hw l_T9 H locs h => ?_)
  have f_a0 := l_T9.is f_a0
  have f_b1 := l_T9.is f_b1
  have f_b3 := l_T9.is f_b3
  have f_b6 := l_T9.is f_b6
  have hle := hle.tr l_T9
  refine lv_istore (lv' := [(4, .int y10), (3, .int y8), (2, .int y5), (0, .ref a0), (1, .int x1)]) X.1 X.2.1 dX8_later_30 hl (by decide) rfl (fun ls hl => ?_)
  refine lv_aload_n X.1 X.2.1 dX8_later_32 rfl (lv_at hl 3 rfl) ?_
  refine lv_dup X.1 X.2.1 dX8_later_33 rfl ?_
  refine kp_get X h f_a0 fp_8_117.l (v := .int (kp_I T9 1604 a0)) rfl dX8_later_34 ?_
  refine lv_iload X.1 X.2.1 dX8_later_37 (lv_at hl 0 rfl) ?_
  refine lv_bipush (v := 6) X.1 X.2.1 dX8_later_39 (by decide) ?_
  refine lv_iand X.1 X.2.1 dX8_later_41 ?_
  refine lv_ior X.1 X.2.1 dX8_later_42 ?_
  refine kp_putI X h f_a0 fp_8_117 rfl ⟨rfl, rfl⟩ dX8_later_43 (fun T11 e_T11 l_T11 H locs h => ?_)
  have hw := hw T11 e_T11
  have f_a0 := l_T11.is f_a0
  have f_b1 := l_T11.is f_b1
  have f_b3 := l_T11.is f_b3
  have f_b6 := l_T11.is f_b6
  have hle := hle.tr l_T11
  refine lv_aload_n X.1 X.2.1 dX8_later_46 rfl (lv_at hl 3 rfl) ?_
  obtain ⟨b12, e_b12, hw⟩ := hw
  have f_b12 := h.2.2.2.rf (c := 8) (k := 1) f_a0 (by decide) (by decide) e_b12 (t := 5) rfl
  refine kp_get X h f_a0 ff_8_23.l (v := .ref b12) (congrArg va_rf e_b12) dX8_later_47 ?_
  refine lv_iload_n X.1 X.2.1 dX8_later_50 rfl (lv_at hl 1 rfl) ?_
  refine kp_callv X h (kp_runV (rm := { frames := 0, cells := 0, slots := 0, locals := 0 }) (mc := 0) (ms := 0) (rest := []) (Qc := fun A => kp_Qv D cy A T11 _) X h (c_X5_leaveLater l D cy ad T11 b12 y8 _ h.2.2.2 f_b12 hw) f_b12 cv_8_291 ⟨by dsimp only; omega, by dsimp only; omega, rfl, rfl, by dsimp only; omega, by dsimp only; omega⟩ rfl hl.1 rfl (Nat.le_of_ble_eq_true rfl) dX8_later_51) (fun T13 hw l_T13 H locs h => ?_)
  have f_a0 := l_T13.is f_a0
  have f_b1 := l_T13.is f_b1
  have f_b3 := l_T13.is f_b3
  have f_b6 := l_T13.is f_b6
  have f_b12 := l_T13.is f_b12
  have hle := hle.tr l_T13
  refine lv_aload_n X.1 X.2.1 dX8_later_54 rfl (lv_at hl 3 rfl) ?_
  obtain ⟨b14, e_b14, hw⟩ := hw
  have f_b14 := h.2.2.2.rf (c := 8) (k := 3) f_a0 (by decide) (by decide) e_b14 (t := 0) rfl
  refine kp_get X h f_a0 fp_8_27.l (v := .ref b14) (congrArg va_rf e_b14) dX8_later_55 ?_
  refine lv_bipush (v := 54) X.1 X.2.1 dX8_later_58 (by decide) ?_
  refine kp_calli X h (kp_runV (rm := { frames := 0, cells := 0, slots := 0, locals := 0 }) (mc := 0) (ms := 0) (rest := []) (Qc := fun A => kp_Qi D cy A T13 _) X h (c_X0_add l D cy ad T13 b14 54 _ h.2.2.2 f_b14 hw) f_b14 cv_8_123 ⟨by dsimp only; omega, by dsimp only; omega, rfl, rfl, by dsimp only; omega, by dsimp only; omega⟩ rfl hl.1 rfl (Nat.le_of_ble_eq_true rfl) dX8_later_60) (fun y16 T15 hw l_T15 H locs h => ?_)
  have f_a0 := l_T15.is f_a0
  have f_b1 := l_T15.is f_b1
  have f_b3 := l_T15.is f_b3
  have f_b6 := l_T15.is f_b6
  have f_b12 := l_T15.is f_b12
  have f_b14 := l_T15.is f_b14
  have hle := hle.tr l_T15
  refine lv_pop X.1 X.2.1 dX8_later_63 rfl ?_
  refine lv_aload_n X.1 X.2.1 dX8_later_64 rfl (lv_at hl 3 rfl) ?_
  obtain ⟨b17, e_b17, hw⟩ := hw
  have f_b17 := h.2.2.2.rf (c := 8) (k := 3) f_a0 (by decide) (by decide) e_b17 (t := 0) rfl
  refine kp_get X h f_a0 fp_8_27.l (v := .ref b17) (congrArg va_rf e_b17) dX8_later_65 ?_
  refine lv_iload_n X.1 X.2.1 dX8_later_68 rfl (lv_at hl 2 rfl) ?_
  refine lv_iconst (v := 3) X.1 X.2.1 dX8_later_69 (by decide) ?_
  refine lv_iadd X.1 X.2.1 dX8_later_70 ?_
  refine lv_aload_n X.1 X.2.1 dX8_later_71 rfl (lv_at hl 3 rfl) ?_
  refine kp_get X h f_a0 fp_8_27.l (v := .ref b17) (congrArg va_rf e_b17) dX8_later_72 ?_
  refine kp_calli X h (kp_runV (rm := { frames := 0, cells := 0, slots := 0, locals := 0 }) (mc := 0) (ms := 0) (rest := [.int (y5 + 3), .ref b17]) (Qc := fun A => kp_Qi D cy A T15 _) X h (c_X0_size l D cy ad T15 b17 _ h.2.2.2 f_b17 hw) f_b17 cv_8_237 ⟨by dsimp only; omega, by dsimp only; omega, rfl, rfl, by dsimp only; omega, by dsimp only; omega⟩ rfl hl.1 rfl (Nat.le_of_ble_eq_true rfl) dX8_later_75) (fun y19 T18 hw l_T18 H locs h => ?_)
  have f_a0 := l_T18.is f_a0
  have f_b1 := l_T18.is f_b1
  have f_b3 := l_T18.is f_b3
  have f_b6 := l_T18.is f_b6
  have f_b12 := l_T18.is f_b12
  have f_b14 := l_T18.is f_b14
  have f_b17 := l_T18.is f_b17
  have hle := hle.tr l_T18
  refine kp_callv X h (kp_runV (rm := { frames := 0, cells := 0, slots := 0, locals := 0 }) (mc := 0) (ms := 0) (rest := []) (Qc := fun A => kp_Qv D cy A T18 _) X h (c_X0_set l D cy ad T18 b17 (y5 + 3) y19 _ h.2.2.2 f_b17 hw) f_b17 cv_8_240 ⟨by dsimp only; omega, by dsimp only; omega, rfl, rfl, by dsimp only; omega, by dsimp only; omega⟩ rfl hl.1 rfl (Nat.le_of_ble_eq_true rfl) dX8_later_78) (fun T20 hw l_T20 H locs h => ?_)
  have f_a0 := l_T20.is f_a0
  have f_b1 := l_T20.is f_b1
  have f_b3 := l_T20.is f_b3
  have f_b6 := l_T20.is f_b6
  have f_b12 := l_T20.is f_b12
  have f_b14 := l_T20.is f_b14
  have f_b17 := l_T20.is f_b17
  have hle := hle.tr l_T20
  refine lv_iconst (v := 5) X.1 X.2.1 dX8_later_81 (by decide) ?_
  exact kp_reti X hr hlocks h hle rfl hw dX8_later_82
theorem dX8_statement_0 : decode cX8_statement 0 = .ok (.aload_n 0, 1) := by decide +kernel
theorem dX8_statement_1 : decode cX8_statement 1 = .ok (.getfield 14, 3) := by decide +kernel
theorem dX8_statement_4 : decode cX8_statement 4 = .ok (.getfield 66, 3) := by decide +kernel
theorem dX8_statement_7 : decode cX8_statement 7 = .ok (.bipush 123, 2) := by decide +kernel
theorem dX8_statement_9 : decode cX8_statement 9 = .ok (.if_icmp .ne 8, 3) := by decide +kernel
theorem dX8_statement_12 : decode cX8_statement 12 = .ok (.aload_n 0, 1) := by decide +kernel
theorem dX8_statement_13 : decode cX8_statement 13 = .ok (.invokevirtual 120, 3) := by decide +kernel
theorem dX8_statement_16 : decode cX8_statement 16 = .ok (.ireturn, 1) := by decide +kernel
theorem dX8_statement_17 : decode cX8_statement 17 = .ok (.aload_n 0, 1) := by decide +kernel
theorem dX8_statement_18 : decode cX8_statement 18 = .ok (.getfield 14, 3) := by decide +kernel
theorem dX8_statement_21 : decode cX8_statement 21 = .ok (.getfield 93, 3) := by decide +kernel
theorem dX8_statement_24 : decode cX8_statement 24 = .ok (.istore_n 1, 1) := by decide +kernel
theorem dX8_statement_25 : decode cX8_statement 25 = .ok (.aload_n 0, 1) := by decide +kernel
theorem dX8_statement_26 : decode cX8_statement 26 = .ok (.getfield 27, 3) := by decide +kernel
theorem dX8_statement_29 : decode cX8_statement 29 = .ok (.bipush 30, 2) := by decide +kernel
theorem dX8_statement_31 : decode cX8_statement 31 = .ok (.iload_n 1, 1) := by decide +kernel
theorem dX8_statement_32 : decode cX8_statement 32 = .ok (.invokevirtual 157, 3) := by decide +kernel
theorem dX8_statement_35 : decode cX8_statement 35 = .ok (.pop, 1) := by decide +kernel
theorem dX8_statement_36 : decode cX8_statement 36 = .ok (.aload_n 0, 1) := by decide +kernel
theorem dX8_statement_37 : decode cX8_statement 37 = .ok (.getfield 14, 3) := by decide +kernel
theorem dX8_statement_40 : decode cX8_statement 40 = .ok (.getfield 66, 3) := by decide +kernel
theorem dX8_statement_43 : decode cX8_statement 43 = .ok (.tableswitch 438 259 332 #[309, 438, 438, 438, 438, 438, 438, 438, 438, 438, 438, 438, 438, 438, 438, 438, 438, 438, 438, 438, 438, 438, 438, 438, 438, 438, 438, 438, 438, 438, 438, 438, 438, 438, 438, 438, 438, 438, 438, 438, 438, 438, 315, 320, 398, 438, 408, 408, 438, 438, 379, 386, 374, 365, 415, 426, 438, 438, 438, 432, 393, 420, 408, 438, 403, 438, 438, 438, 438, 438, 329, 338, 347, 356], 309) := by decide +kernel
theorem dX8_statement_352 : decode cX8_statement 352 = .ok (.aload_n 0, 1) := by decide +kernel
theorem dX8_statement_353 : decode cX8_statement 353 = .ok (.iload_n 1, 1) := by decide +kernel
theorem dX8_statement_354 : decode cX8_statement 354 = .ok (.invokevirtual 160, 3) := by decide +kernel
theorem dX8_statement_357 : decode cX8_statement 357 = .ok (.ireturn, 1) := by decide +kernel
theorem dX8_statement_358 : decode cX8_statement 358 = .ok (.aload_n 0, 1) := by decide +kernel
theorem dX8_statement_359 : decode cX8_statement 359 = .ok (.invokevirtual 163, 3) := by decide +kernel
theorem dX8_statement_362 : decode cX8_statement 362 = .ok (.ireturn, 1) := by decide +kernel
theorem dX8_statement_363 : decode cX8_statement 363 = .ok (.aload_n 0, 1) := by decide +kernel
theorem dX8_statement_364 : decode cX8_statement 364 = .ok (.bipush 35, 2) := by decide +kernel
theorem dX8_statement_366 : decode cX8_statement 366 = .ok (.iconst 1, 1) := by decide +kernel
theorem dX8_statement_367 : decode cX8_statement 367 = .ok (.iconst 1, 1) := by decide +kernel
theorem dX8_statement_368 : decode cX8_statement 368 = .ok (.invokevirtual 166, 3) := by decide +kernel
theorem dX8_statement_371 : decode cX8_statement 371 = .ok (.ireturn, 1) := by decide +kernel
theorem dX8_statement_372 : decode cX8_statement 372 = .ok (.aload_n 0, 1) := by decide +kernel
theorem dX8_statement_373 : decode cX8_statement 373 = .ok (.bipush 36, 2) := by decide +kernel
theorem dX8_statement_375 : decode cX8_statement 375 = .ok (.iconst 2, 1) := by decide +kernel
theorem dX8_statement_376 : decode cX8_statement 376 = .ok (.iconst 5, 1) := by decide +kernel
theorem dX8_statement_377 : decode cX8_statement 377 = .ok (.invokevirtual 166, 3) := by decide +kernel
theorem dX8_statement_380 : decode cX8_statement 380 = .ok (.ireturn, 1) := by decide +kernel
theorem dX8_statement_381 : decode cX8_statement 381 = .ok (.aload_n 0, 1) := by decide +kernel
theorem dX8_statement_382 : decode cX8_statement 382 = .ok (.bipush 37, 2) := by decide +kernel
theorem dX8_statement_384 : decode cX8_statement 384 = .ok (.iconst 2, 1) := by decide +kernel
theorem dX8_statement_385 : decode cX8_statement 385 = .ok (.iconst 5, 1) := by decide +kernel
theorem dX8_statement_386 : decode cX8_statement 386 = .ok (.invokevirtual 166, 3) := by decide +kernel
theorem dX8_statement_389 : decode cX8_statement 389 = .ok (.ireturn, 1) := by decide +kernel
theorem dX8_statement_390 : decode cX8_statement 390 = .ok (.aload_n 0, 1) := by decide +kernel
theorem dX8_statement_391 : decode cX8_statement 391 = .ok (.bipush 38, 2) := by decide +kernel
theorem dX8_statement_393 : decode cX8_statement 393 = .ok (.iconst 3, 1) := by decide +kernel
theorem dX8_statement_394 : decode cX8_statement 394 = .ok (.iconst 5, 1) := by decide +kernel
theorem dX8_statement_395 : decode cX8_statement 395 = .ok (.invokevirtual 166, 3) := by decide +kernel
theorem dX8_statement_398 : decode cX8_statement 398 = .ok (.ireturn, 1) := by decide +kernel
theorem dX8_statement_399 : decode cX8_statement 399 = .ok (.aload_n 0, 1) := by decide +kernel
theorem dX8_statement_400 : decode cX8_statement 400 = .ok (.bipush 39, 2) := by decide +kernel
theorem dX8_statement_402 : decode cX8_statement 402 = .ok (.iconst 2, 1) := by decide +kernel
theorem dX8_statement_403 : decode cX8_statement 403 = .ok (.iconst 5, 1) := by decide +kernel
theorem dX8_statement_404 : decode cX8_statement 404 = .ok (.invokevirtual 166, 3) := by decide +kernel
theorem dX8_statement_407 : decode cX8_statement 407 = .ok (.ireturn, 1) := by decide +kernel
theorem dX8_statement_408 : decode cX8_statement 408 = .ok (.aload_n 0, 1) := by decide +kernel
theorem dX8_statement_409 : decode cX8_statement 409 = .ok (.bipush 43, 2) := by decide +kernel
theorem dX8_statement_411 : decode cX8_statement 411 = .ok (.iconst 1, 1) := by decide +kernel
theorem dX8_statement_412 : decode cX8_statement 412 = .ok (.iconst 4, 1) := by decide +kernel
theorem dX8_statement_413 : decode cX8_statement 413 = .ok (.invokevirtual 166, 3) := by decide +kernel
theorem dX8_statement_416 : decode cX8_statement 416 = .ok (.ireturn, 1) := by decide +kernel
theorem dX8_statement_417 : decode cX8_statement 417 = .ok (.aload_n 0, 1) := by decide +kernel
theorem dX8_statement_418 : decode cX8_statement 418 = .ok (.invokevirtual 170, 3) := by decide +kernel
theorem dX8_statement_421 : decode cX8_statement 421 = .ok (.ireturn, 1) := by decide +kernel
theorem dX8_statement_422 : decode cX8_statement 422 = .ok (.aload_n 0, 1) := by decide +kernel
theorem dX8_statement_423 : decode cX8_statement 423 = .ok (.bipush 40, 2) := by decide +kernel
theorem dX8_statement_425 : decode cX8_statement 425 = .ok (.invokevirtual 173, 3) := by decide +kernel
theorem dX8_statement_428 : decode cX8_statement 428 = .ok (.ireturn, 1) := by decide +kernel
theorem dX8_statement_429 : decode cX8_statement 429 = .ok (.aload_n 0, 1) := by decide +kernel
theorem dX8_statement_430 : decode cX8_statement 430 = .ok (.bipush 41, 2) := by decide +kernel
theorem dX8_statement_432 : decode cX8_statement 432 = .ok (.invokevirtual 173, 3) := by decide +kernel
theorem dX8_statement_435 : decode cX8_statement 435 = .ok (.ireturn, 1) := by decide +kernel
theorem dX8_statement_436 : decode cX8_statement 436 = .ok (.aload_n 0, 1) := by decide +kernel
theorem dX8_statement_437 : decode cX8_statement 437 = .ok (.invokevirtual 176, 3) := by decide +kernel
theorem dX8_statement_440 : decode cX8_statement 440 = .ok (.ireturn, 1) := by decide +kernel
theorem dX8_statement_441 : decode cX8_statement 441 = .ok (.aload_n 0, 1) := by decide +kernel
theorem dX8_statement_442 : decode cX8_statement 442 = .ok (.invokevirtual 179, 3) := by decide +kernel
theorem dX8_statement_445 : decode cX8_statement 445 = .ok (.ireturn, 1) := by decide +kernel
theorem dX8_statement_446 : decode cX8_statement 446 = .ok (.aload_n 0, 1) := by decide +kernel
theorem dX8_statement_447 : decode cX8_statement 447 = .ok (.invokevirtual 182, 3) := by decide +kernel
theorem dX8_statement_450 : decode cX8_statement 450 = .ok (.ireturn, 1) := by decide +kernel
theorem dX8_statement_451 : decode cX8_statement 451 = .ok (.aload_n 0, 1) := by decide +kernel
theorem dX8_statement_452 : decode cX8_statement 452 = .ok (.lconst 0, 1) := by decide +kernel
theorem dX8_statement_453 : decode cX8_statement 453 = .ok (.iload_n 1, 1) := by decide +kernel
theorem dX8_statement_454 : decode cX8_statement 454 = .ok (.invokevirtual 185, 3) := by decide +kernel
theorem dX8_statement_457 : decode cX8_statement 457 = .ok (.ireturn, 1) := by decide +kernel
theorem dX8_statement_458 : decode cX8_statement 458 = .ok (.aload_n 0, 1) := by decide +kernel
theorem dX8_statement_459 : decode cX8_statement 459 = .ok (.invokevirtual 189, 3) := by decide +kernel
theorem dX8_statement_462 : decode cX8_statement 462 = .ok (.ireturn, 1) := by decide +kernel
theorem dX8_statement_463 : decode cX8_statement 463 = .ok (.aload_n 0, 1) := by decide +kernel
theorem dX8_statement_464 : decode cX8_statement 464 = .ok (.iload_n 1, 1) := by decide +kernel
theorem dX8_statement_465 : decode cX8_statement 465 = .ok (.invokevirtual 192, 3) := by decide +kernel
theorem dX8_statement_468 : decode cX8_statement 468 = .ok (.ireturn, 1) := by decide +kernel
theorem dX8_statement_469 : decode cX8_statement 469 = .ok (.aload_n 0, 1) := by decide +kernel
theorem dX8_statement_470 : decode cX8_statement 470 = .ok (.iload_n 1, 1) := by decide +kernel
theorem dX8_statement_471 : decode cX8_statement 471 = .ok (.invokevirtual 195, 3) := by decide +kernel
theorem dX8_statement_474 : decode cX8_statement 474 = .ok (.ireturn, 1) := by decide +kernel
theorem dX8_statement_475 : decode cX8_statement 475 = .ok (.aload_n 0, 1) := by decide +kernel
theorem dX8_statement_476 : decode cX8_statement 476 = .ok (.iload_n 1, 1) := by decide +kernel
theorem dX8_statement_477 : decode cX8_statement 477 = .ok (.invokevirtual 198, 3) := by decide +kernel
theorem dX8_statement_480 : decode cX8_statement 480 = .ok (.ireturn, 1) := by decide +kernel
theorem dX8_statement_481 : decode cX8_statement 481 = .ok (.aload_n 0, 1) := by decide +kernel
theorem dX8_statement_482 : decode cX8_statement 482 = .ok (.getfield 14, 3) := by decide +kernel
theorem dX8_statement_485 : decode cX8_statement 485 = .ok (.invokevirtual 69, 3) := by decide +kernel
theorem dX8_statement_488 : decode cX8_statement 488 = .ok (.iconst 0, 1) := by decide +kernel
theorem dX8_statement_489 : decode cX8_statement 489 = .ok (.ireturn, 1) := by decide +kernel
def wX8_statement_b481 (B : Nat → kp_S → (Int32 → kp_S → Prop) → Prop) (a0 : Nat)  (Sn : kp_S) (post : Int32 → kp_S → Prop) : Prop :=
  ∃ b1001 : Nat, kp_R Sn 1600 a0 = some b1001 ∧
  wX9_refuse b1001 Sn (fun T1002 =>
  post 0 T1002)
def wX8_statement_b451 (B : Nat → kp_S → (Int32 → kp_S → Prop) → Prop) (a0 : Nat) (xn1 : Int32)  (Sn : kp_S) (post : Int32 → kp_S → Prop) : Prop :=
  wX8_loop B a0 0 xn1 Sn (fun y2002 T2001 =>
  post y2002 T2001)
def wX8_statement (B : Nat → kp_S → (Int32 → kp_S → Prop) → Prop) (a0 : Nat) (S : kp_S) (post : Int32 → kp_S → Prop) : Prop :=
  ∃ b1 : Nat, kp_R S 1600 a0 = some b1 ∧
  ((¬ (kp_I S 1805 b1) = 123 →
  ∀ y2 : Int32, y2 = (kp_I S 1806 b1) →
  ∃ b3 : Nat, kp_R S 1603 a0 = some b3 ∧
  wX0_add_ b3 30 y2 S (fun y5 T4 =>
  ∃ b6 : Nat, kp_R T4 1600 a0 = some b6 ∧
  ∀ y7 : Int32, y7 = (kp_I T4 1805 b6) →
  ((y7 = 259 →
  wX8_named B a0 y2 T4 (fun y10 T9 =>
  post y10 T9)) ∧ (¬ y7 = 259 →
  ((y7 = 260 →
  wX8_statement_b481 B a0   T4 post) ∧ (¬ y7 = 260 →
  ((y7 = 261 →
  wX8_statement_b481 B a0   T4 post) ∧ (¬ y7 = 261 →
  ((y7 = 262 →
  wX8_statement_b481 B a0   T4 post) ∧ (¬ y7 = 262 →
  ((y7 = 263 →
  wX8_statement_b481 B a0   T4 post) ∧ (¬ y7 = 263 →
  ((y7 = 264 →
  wX8_statement_b481 B a0   T4 post) ∧ (¬ y7 = 264 →
  ((y7 = 265 →
  wX8_statement_b481 B a0   T4 post) ∧ (¬ y7 = 265 →
  ((y7 = 266 →
  wX8_statement_b481 B a0   T4 post) ∧ (¬ y7 = 266 →
  ((y7 = 267 →
  wX8_statement_b481 B a0   T4 post) ∧ (¬ y7 = 267 →
  ((y7 = 268 →
  wX8_statement_b481 B a0   T4 post) ∧ (¬ y7 = 268 →
  ((y7 = 269 →
  wX8_statement_b481 B a0   T4 post) ∧ (¬ y7 = 269 →
  ((y7 = 270 →
  wX8_statement_b481 B a0   T4 post) ∧ (¬ y7 = 270 →
  ((y7 = 271 →
  wX8_statement_b481 B a0   T4 post) ∧ (¬ y7 = 271 →
  ((y7 = 272 →
  wX8_statement_b481 B a0   T4 post) ∧ (¬ y7 = 272 →
  ((y7 = 273 →
  wX8_statement_b481 B a0   T4 post) ∧ (¬ y7 = 273 →
  ((y7 = 274 →
  wX8_statement_b481 B a0   T4 post) ∧ (¬ y7 = 274 →
  ((y7 = 275 →
  wX8_statement_b481 B a0   T4 post) ∧ (¬ y7 = 275 →
  ((y7 = 276 →
  wX8_statement_b481 B a0   T4 post) ∧ (¬ y7 = 276 →
  ((y7 = 277 →
  wX8_statement_b481 B a0   T4 post) ∧ (¬ y7 = 277 →
  ((y7 = 278 →
  wX8_statement_b481 B a0   T4 post) ∧ (¬ y7 = 278 →
  ((y7 = 279 →
  wX8_statement_b481 B a0   T4 post) ∧ (¬ y7 = 279 →
  ((y7 = 280 →
  wX8_statement_b481 B a0   T4 post) ∧ (¬ y7 = 280 →
  ((y7 = 281 →
  wX8_statement_b481 B a0   T4 post) ∧ (¬ y7 = 281 →
  ((y7 = 282 →
  wX8_statement_b481 B a0   T4 post) ∧ (¬ y7 = 282 →
  ((y7 = 283 →
  wX8_statement_b481 B a0   T4 post) ∧ (¬ y7 = 283 →
  ((y7 = 284 →
  wX8_statement_b481 B a0   T4 post) ∧ (¬ y7 = 284 →
  ((y7 = 285 →
  wX8_statement_b481 B a0   T4 post) ∧ (¬ y7 = 285 →
  ((y7 = 286 →
  wX8_statement_b481 B a0   T4 post) ∧ (¬ y7 = 286 →
  ((y7 = 287 →
  wX8_statement_b481 B a0   T4 post) ∧ (¬ y7 = 287 →
  ((y7 = 288 →
  wX8_statement_b481 B a0   T4 post) ∧ (¬ y7 = 288 →
  ((y7 = 289 →
  wX8_statement_b481 B a0   T4 post) ∧ (¬ y7 = 289 →
  ((y7 = 290 →
  wX8_statement_b481 B a0   T4 post) ∧ (¬ y7 = 290 →
  ((y7 = 291 →
  wX8_statement_b481 B a0   T4 post) ∧ (¬ y7 = 291 →
  ((y7 = 292 →
  wX8_statement_b481 B a0   T4 post) ∧ (¬ y7 = 292 →
  ((y7 = 293 →
  wX8_statement_b481 B a0   T4 post) ∧ (¬ y7 = 293 →
  ((y7 = 294 →
  wX8_statement_b481 B a0   T4 post) ∧ (¬ y7 = 294 →
  ((y7 = 295 →
  wX8_statement_b481 B a0   T4 post) ∧ (¬ y7 = 295 →
  ((y7 = 296 →
  wX8_statement_b481 B a0   T4 post) ∧ (¬ y7 = 296 →
  ((y7 = 297 →
  wX8_statement_b481 B a0   T4 post) ∧ (¬ y7 = 297 →
  ((y7 = 298 →
  wX8_statement_b481 B a0   T4 post) ∧ (¬ y7 = 298 →
  ((y7 = 299 →
  wX8_statement_b481 B a0   T4 post) ∧ (¬ y7 = 299 →
  ((y7 = 300 →
  wX8_statement_b481 B a0   T4 post) ∧ (¬ y7 = 300 →
  ((y7 = 301 →
  wX8_variable a0 T4 (fun y54 T53 =>
  post y54 T53)) ∧ (¬ y7 = 301 →
  ((y7 = 302 →
  wX8_order a0 35 1 1 T4 (fun y57 T56 =>
  post y57 T56)) ∧ (¬ y7 = 302 →
  ((y7 = 303 →
  wX8_ifElse B a0 T4 (fun y60 T59 =>
  post y60 T59)) ∧ (¬ y7 = 303 →
  ((y7 = 304 →
  wX8_statement_b481 B a0   T4 post) ∧ (¬ y7 = 304 →
  ((y7 = 305 →
  wX8_statement_b451 B a0 y2  T4 post) ∧ (¬ y7 = 305 →
  ((y7 = 306 →
  wX8_statement_b451 B a0 y2  T4 post) ∧ (¬ y7 = 306 →
  ((y7 = 307 →
  wX8_statement_b481 B a0   T4 post) ∧ (¬ y7 = 307 →
  ((y7 = 308 →
  wX8_statement_b481 B a0   T4 post) ∧ (¬ y7 = 308 →
  ((y7 = 309 →
  wX8_leaveOrAgain a0 40 T4 (fun y68 T67 =>
  post y68 T67)) ∧ (¬ y7 = 309 →
  ((y7 = 310 →
  wX8_leaveOrAgain a0 41 T4 (fun y71 T70 =>
  post y71 T70)) ∧ (¬ y7 = 310 →
  ((y7 = 311 →
  wX8_answer a0 T4 (fun y74 T73 =>
  post y74 T73)) ∧ (¬ y7 = 311 →
  ((y7 = 312 →
  wX8_order a0 43 1 4 T4 (fun y77 T76 =>
  post y77 T76)) ∧ (¬ y7 = 312 →
  ((y7 = 313 →
  wX8_hold B a0 T4 (fun y80 T79 =>
  post y80 T79)) ∧ (¬ y7 = 313 →
  ((y7 = 314 →
  wX8_trial B a0 y2 T4 (fun y83 T82 =>
  post y83 T82)) ∧ (¬ y7 = 314 →
  ((y7 = 315 →
  wX8_statement_b481 B a0   T4 post) ∧ (¬ y7 = 315 →
  ((y7 = 316 →
  wX8_statement_b481 B a0   T4 post) ∧ (¬ y7 = 316 →
  ((y7 = 317 →
  wX8_statement_b481 B a0   T4 post) ∧ (¬ y7 = 317 →
  ((y7 = 318 →
  wX8_later B a0 y2 T4 (fun y89 T88 =>
  post y89 T88)) ∧ (¬ y7 = 318 →
  ((y7 = 319 →
  wX8_stop a0 T4 (fun y92 T91 =>
  post y92 T91)) ∧ (¬ y7 = 319 →
  ((y7 = 320 →
  wX8_ensure B a0 y2 T4 (fun y95 T94 =>
  post y95 T94)) ∧ (¬ y7 = 320 →
  ((y7 = 321 →
  wX8_statement_b451 B a0 y2  T4 post) ∧ (¬ y7 = 321 →
  ((y7 = 322 →
  wX8_statement_b481 B a0   T4 post) ∧ (¬ y7 = 322 →
  ((y7 = 323 →
  wX8_choose B a0 T4 (fun y100 T99 =>
  post y100 T99)) ∧ (¬ y7 = 323 →
  ((y7 = 324 →
  wX8_statement_b481 B a0   T4 post) ∧ (¬ y7 = 324 →
  ((y7 = 325 →
  wX8_statement_b481 B a0   T4 post) ∧ (¬ y7 = 325 →
  ((y7 = 326 →
  wX8_statement_b481 B a0   T4 post) ∧ (¬ y7 = 326 →
  ((y7 = 327 →
  wX8_statement_b481 B a0   T4 post) ∧ (¬ y7 = 327 →
  ((y7 = 328 →
  wX8_statement_b481 B a0   T4 post) ∧ (¬ y7 = 328 →
  ((y7 = 329 →
  wX8_order a0 36 2 5 T4 (fun y108 T107 =>
  post y108 T107)) ∧ (¬ y7 = 329 →
  ((y7 = 330 →
  wX8_order a0 37 2 5 T4 (fun y111 T110 =>
  post y111 T110)) ∧ (¬ y7 = 330 →
  ((y7 = 331 →
  wX8_order a0 38 3 5 T4 (fun y114 T113 =>
  post y114 T113)) ∧ (¬ y7 = 331 →
  ((y7 = 332 →
  wX8_order a0 39 2 5 T4 (fun y117 T116 =>
  post y117 T116)) ∧ (¬ y7 = 332 →
  wX8_statement_b481 B a0   T4 post)))))))))))))))))))))))))))))))))))))))))))))))))))))))))))))))))))))))))))))))))))))))))))))))))))))))))))))))))))))))))))))))))))))))))))))))))))))) ∧ ((kp_I S 1805 b1) = 123 →
  B a0 S (fun y119 T118 =>
  post y119 T118)))
set_option maxHeartbeats 4000000 in
set_option maxRecDepth 100000 in
theorem c_X8_statement (l : Launch) (D : va_G) (cy : Nat → ClassId) (ad : (Nat → Nat) × (Nat → Nat)) (F L : Nat) (B : Nat → kp_S → (Int32 → kp_S → Prop) → Prop) (hB : ∀ (S : kp_S) (a0 : Nat) (post : Int32 → kp_S → Prop), kp_ok S → kp_is S a0 8 → B a0 S post → kp_M l yX8_block cX8_block 5 (some .int) { frames := F, cells := 0, slots := 0, locals := L } D cy ad S [.ref a0] 0 0 (fun A => kp_Qi D cy A S post)) (hF : 191 ≤ F) (hL : 4387 ≤ L) (S : kp_S) (a0 : Nat) (post : Int32 → kp_S → Prop) (hS : kp_ok S) (f_a0 : kp_is S a0 8) (hw : wX8_statement B a0 S post) : kp_M l yX8_statement cX8_statement 2 (some .int) { frames := F + 6, cells := 0, slots := 0, locals := L + 151 } D cy ad S [.ref a0] 0 0 (fun A => kp_Qi D cy A S post) := by
  refine kp_start (own := RX8) (by decide) rfl (Nat.le_of_ble_eq_true rfl) hS ?_
  intro p e s m below meth c A ls X hr hlocks hname h hl
  have hle : kp_le S S := kp_le.rf
  have hl : lv_has ls 2 [(0, .ref a0)] := hl
  have j481 : ∀  (Sn : kp_S) (H : Heap) (locs : List Loc) (ls : Array Slot), lv_has ls 2 [(0, .ref a0)] → kp_H D cy A Sn s.heap H locs → kp_le S Sn → kp_is Sn a0 8 → wX8_statement_b481 B a0   Sn post → W p l e { frames := F + 6, cells := 0, slots := 0, locals := L + 151 } s m ([.ref a0] : List Value).toArray below meth c H locs 0 0 (MQ below (kp_Qi D cy A S post) ([.ref a0] : List Value).toArray s 0 0 A) (F0 m 481 ls []) := by
    intro  Sn H locs ls hl h hle f_a0 hw
    unfold wX8_statement_b481 at hw
    refine lv_aload_n X.1 X.2.1 dX8_statement_481 rfl (lv_at hl 0 rfl) ?_
    obtain ⟨b1001, e_b1001, hw⟩ := hw
    have f_b1001 := h.2.2.2.rf (c := 8) (k := 0) f_a0 (by decide) (by decide) e_b1001 (t := 9) rfl
    refine kp_get X h f_a0 ff_8_14.l (v := .ref b1001) (congrArg va_rf e_b1001) dX8_statement_482 ?_
    refine kp_callv X h (kp_runV (rm := { frames := 1, cells := 0, slots := 0, locals := 21 }) (mc := 0) (ms := 0) (rest := []) (Qc := fun A => kp_Qv D cy A Sn _) X h (c_X9_refuse l D cy ad Sn b1001 _ h.2.2.2 f_b1001 hw) f_b1001 cv_8_69 ⟨by dsimp only; omega, by dsimp only; omega, rfl, rfl, by dsimp only; omega, by dsimp only; omega⟩ rfl hl.1 rfl (Nat.le_of_ble_eq_true rfl) dX8_statement_485) (fun T1002 hw l_T1002 H locs h => ?_)
    have f_a0 := l_T1002.is f_a0
    have f_b1001 := l_T1002.is f_b1001
    have hle := hle.tr l_T1002
    refine lv_iconst (v := 0) X.1 X.2.1 dX8_statement_488 (by decide) ?_
    exact kp_reti X hr hlocks h hle rfl hw dX8_statement_489
  have j451 : ∀ (xn1 : Int32) (Sn : kp_S) (H : Heap) (locs : List Loc) (ls : Array Slot), lv_has ls 2 [(0, .ref a0), (1, .int xn1)] → kp_H D cy A Sn s.heap H locs → kp_le S Sn → kp_is Sn a0 8 → wX8_statement_b451 B a0 xn1  Sn post → W p l e { frames := F + 6, cells := 0, slots := 0, locals := L + 151 } s m ([.ref a0] : List Value).toArray below meth c H locs 0 0 (MQ below (kp_Qi D cy A S post) ([.ref a0] : List Value).toArray s 0 0 A) (F0 m 451 ls []) := by
    intro xn1 Sn H locs ls hl h hle f_a0 hw
    unfold wX8_statement_b451 at hw
    refine lv_aload_n X.1 X.2.1 dX8_statement_451 rfl (lv_at hl 0 rfl) ?_
    refine lv_lconst (v := 0) X.1 X.2.1 dX8_statement_452 (by decide) ?_
    refine lv_iload_n X.1 X.2.1 dX8_statement_453 rfl (lv_at hl 1 rfl) ?_
    refine kp_calli X h (kp_runV (rm := { frames := F + 4, cells := 0, slots := 0, locals := L + 105 }) (mc := 0) (ms := 0) (rest := []) (Qc := fun A => kp_Qi D cy A Sn _) X h (c_X8_loop l D cy ad F L B hB hF hL Sn a0 0 xn1 _ h.2.2.2 f_a0 hw) f_a0 cv_8_185 ⟨by dsimp only; omega, by dsimp only; omega, rfl, rfl, by dsimp only; omega, by dsimp only; omega⟩ rfl hl.1 rfl (Nat.le_of_ble_eq_true rfl) dX8_statement_454) (fun y2002 T2001 hw l_T2001 H locs h => ?_)
    have f_a0 := l_T2001.is f_a0
    have hle := hle.tr l_T2001
    exact kp_reti X hr hlocks h hle rfl hw dX8_statement_457
  unfold wX8_statement at hw
  have h : kp_H D cy A S s.heap s.heap [] := h
  revert h
  intro h
  refine lv_aload_n X.1 X.2.1 dX8_statement_0 rfl (lv_at hl 0 rfl) ?_
  obtain ⟨b1, e_b1, hw⟩ := hw
  have f_b1 := h.2.2.2.rf (c := 8) (k := 0) f_a0 (by decide) (by decide) e_b1 (t := 9) rfl
  refine kp_get X h f_a0 ff_8_14.l (v := .ref b1) (congrArg va_rf e_b1) dX8_statement_1 ?_
  refine kp_get X h f_b1 fp_8_66.l (v := .int (kp_I S 1805 b1)) rfl dX8_statement_4 ?_
  refine lv_bipush (v := 123) X.1 X.2.1 dX8_statement_7 (by decide) ?_
  refine lv_icmp_ne (tgt := 17) X.1 X.2.1 dX8_statement_9 (by decide) (fun c120 => ?_) (fun c120 => ?_)
  · have hw := hw.1 c120
    refine lv_aload_n X.1 X.2.1 dX8_statement_17 rfl (lv_at hl 0 rfl) ?_
    refine kp_get X h f_a0 ff_8_14.l (v := .ref b1) (congrArg va_rf e_b1) dX8_statement_18 ?_
    refine kp_get X h f_b1 fp_8_93.l (v := .int (kp_I S 1806 b1)) rfl dX8_statement_21 ?_
    refine lv_topi (fun y2 e_y2 => ?_)
    have hw := hw y2 e_y2
    refine lv_istore_n (lv' := [(1, .int y2), (0, .ref a0)]) X.1 X.2.1 dX8_statement_24 rfl hl (by decide) rfl (fun ls hl => ?_)
    refine lv_aload_n X.1 X.2.1 dX8_statement_25 rfl (lv_at hl 1 rfl) ?_
    obtain ⟨b3, e_b3, hw⟩ := hw
    have f_b3 := h.2.2.2.rf (c := 8) (k := 3) f_a0 (by decide) (by decide) e_b3 (t := 0) rfl
    refine kp_get X h f_a0 fp_8_27.l (v := .ref b3) (congrArg va_rf e_b3) dX8_statement_26 ?_
    refine lv_bipush (v := 30) X.1 X.2.1 dX8_statement_29 (by decide) ?_
    refine lv_iload_n X.1 X.2.1 dX8_statement_31 rfl (lv_at hl 0 rfl) ?_
    refine kp_calli X h (kp_runV (rm := { frames := 1, cells := 0, slots := 0, locals := 22 }) (mc := 0) (ms := 0) (rest := []) (Qc := fun A => kp_Qi D cy A S _) X h (c_X0_add_ l D cy ad S b3 30 y2 _ h.2.2.2 f_b3 hw) f_b3 cv_8_157 ⟨by dsimp only; omega, by dsimp only; omega, rfl, rfl, by dsimp only; omega, by dsimp only; omega⟩ rfl hl.1 rfl (Nat.le_of_ble_eq_true rfl) dX8_statement_32) (fun y5 T4 hw l_T4 H locs h => ?_)
    have f_a0 := l_T4.is f_a0
    have f_b1 := l_T4.is f_b1
    have f_b3 := l_T4.is f_b3
    have hle := hle.tr l_T4
    refine lv_pop X.1 X.2.1 dX8_statement_35 rfl ?_
    refine lv_aload_n X.1 X.2.1 dX8_statement_36 rfl (lv_at hl 1 rfl) ?_
    obtain ⟨b6, e_b6, hw⟩ := hw
    have f_b6 := h.2.2.2.rf (c := 8) (k := 0) f_a0 (by decide) (by decide) e_b6 (t := 9) rfl
    refine kp_get X h f_a0 ff_8_14.l (v := .ref b6) (congrArg va_rf e_b6) dX8_statement_37 ?_
    refine kp_get X h f_b6 fp_8_66.l (v := .int (kp_I T4 1805 b6)) rfl dX8_statement_40 ?_
    refine lv_topi (fun y7 e_y7 => ?_)
    have hw := hw y7 e_y7
    by_cases c8 : y7 = 259
    · have hw := hw.1 c8
      refine lv_tableIn (off := 309) (tgt := 352) X.1 X.2.1 dX8_statement_43 (by rw [c8]; decide) (by rw [c8]; decide) (by rw [c8]; decide) (by decide) ?_
      refine lv_aload_n X.1 X.2.1 dX8_statement_352 rfl (lv_at hl 1 rfl) ?_
      refine lv_iload_n X.1 X.2.1 dX8_statement_353 rfl (lv_at hl 0 rfl) ?_
      refine kp_calli X h (kp_runV (rm := { frames := F + 5, cells := 0, slots := 0, locals := L + 128 }) (mc := 0) (ms := 0) (rest := []) (Qc := fun A => kp_Qi D cy A T4 _) X h (c_X8_named l D cy ad F L B hB hF hL T4 a0 y2 _ h.2.2.2 f_a0 hw) f_a0 cv_8_160 ⟨by dsimp only; omega, by dsimp only; omega, rfl, rfl, by dsimp only; omega, by dsimp only; omega⟩ rfl hl.1 rfl (Nat.le_of_ble_eq_true rfl) dX8_statement_354) (fun y10 T9 hw l_T9 H locs h => ?_)
      have f_a0 := l_T9.is f_a0
      have f_b1 := l_T9.is f_b1
      have f_b3 := l_T9.is f_b3
      have f_b6 := l_T9.is f_b6
      have hle := hle.tr l_T9
      exact kp_reti X hr hlocks h hle rfl hw dX8_statement_357
    have hw := hw.2 c8
    by_cases c11 : y7 = 260
    · have hw := hw.1 c11
      refine lv_tableIn (off := 438) (tgt := 481) X.1 X.2.1 dX8_statement_43 (by rw [c11]; decide) (by rw [c11]; decide) (by rw [c11]; decide) (by decide) ?_
      exact j481  T4 _ _ ls (lv_sub hl [1] rfl) h hle f_a0 hw
    have hw := hw.2 c11
    by_cases c12 : y7 = 261
    · have hw := hw.1 c12
      refine lv_tableIn (off := 438) (tgt := 481) X.1 X.2.1 dX8_statement_43 (by rw [c12]; decide) (by rw [c12]; decide) (by rw [c12]; decide) (by decide) ?_
      exact j481  T4 _ _ ls (lv_sub hl [1] rfl) h hle f_a0 hw
    have hw := hw.2 c12
    by_cases c13 : y7 = 262
    · have hw := hw.1 c13
      refine lv_tableIn (off := 438) (tgt := 481) X.1 X.2.1 dX8_statement_43 (by rw [c13]; decide) (by rw [c13]; decide) (by rw [c13]; decide) (by decide) ?_
      exact j481  T4 _ _ ls (lv_sub hl [1] rfl) h hle f_a0 hw
    have hw := hw.2 c13
    by_cases c14 : y7 = 263
    · have hw := hw.1 c14
      refine lv_tableIn (off := 438) (tgt := 481) X.1 X.2.1 dX8_statement_43 (by rw [c14]; decide) (by rw [c14]; decide) (by rw [c14]; decide) (by decide) ?_
      exact j481  T4 _ _ ls (lv_sub hl [1] rfl) h hle f_a0 hw
    have hw := hw.2 c14
    by_cases c15 : y7 = 264
    · have hw := hw.1 c15
      refine lv_tableIn (off := 438) (tgt := 481) X.1 X.2.1 dX8_statement_43 (by rw [c15]; decide) (by rw [c15]; decide) (by rw [c15]; decide) (by decide) ?_
      exact j481  T4 _ _ ls (lv_sub hl [1] rfl) h hle f_a0 hw
    have hw := hw.2 c15
    by_cases c16 : y7 = 265
    · have hw := hw.1 c16
      refine lv_tableIn (off := 438) (tgt := 481) X.1 X.2.1 dX8_statement_43 (by rw [c16]; decide) (by rw [c16]; decide) (by rw [c16]; decide) (by decide) ?_
      exact j481  T4 _ _ ls (lv_sub hl [1] rfl) h hle f_a0 hw
    have hw := hw.2 c16
    by_cases c17 : y7 = 266
    · have hw := hw.1 c17
      refine lv_tableIn (off := 438) (tgt := 481) X.1 X.2.1 dX8_statement_43 (by rw [c17]; decide) (by rw [c17]; decide) (by rw [c17]; decide) (by decide) ?_
      exact j481  T4 _ _ ls (lv_sub hl [1] rfl) h hle f_a0 hw
    have hw := hw.2 c17
    by_cases c18 : y7 = 267
    · have hw := hw.1 c18
      refine lv_tableIn (off := 438) (tgt := 481) X.1 X.2.1 dX8_statement_43 (by rw [c18]; decide) (by rw [c18]; decide) (by rw [c18]; decide) (by decide) ?_
      exact j481  T4 _ _ ls (lv_sub hl [1] rfl) h hle f_a0 hw
    have hw := hw.2 c18
    by_cases c19 : y7 = 268
    · have hw := hw.1 c19
      refine lv_tableIn (off := 438) (tgt := 481) X.1 X.2.1 dX8_statement_43 (by rw [c19]; decide) (by rw [c19]; decide) (by rw [c19]; decide) (by decide) ?_
      exact j481  T4 _ _ ls (lv_sub hl [1] rfl) h hle f_a0 hw
    have hw := hw.2 c19
    by_cases c20 : y7 = 269
    · have hw := hw.1 c20
      refine lv_tableIn (off := 438) (tgt := 481) X.1 X.2.1 dX8_statement_43 (by rw [c20]; decide) (by rw [c20]; decide) (by rw [c20]; decide) (by decide) ?_
      exact j481  T4 _ _ ls (lv_sub hl [1] rfl) h hle f_a0 hw
    have hw := hw.2 c20
    by_cases c21 : y7 = 270
    · have hw := hw.1 c21
      refine lv_tableIn (off := 438) (tgt := 481) X.1 X.2.1 dX8_statement_43 (by rw [c21]; decide) (by rw [c21]; decide) (by rw [c21]; decide) (by decide) ?_
      exact j481  T4 _ _ ls (lv_sub hl [1] rfl) h hle f_a0 hw
    have hw := hw.2 c21
    by_cases c22 : y7 = 271
    · have hw := hw.1 c22
      refine lv_tableIn (off := 438) (tgt := 481) X.1 X.2.1 dX8_statement_43 (by rw [c22]; decide) (by rw [c22]; decide) (by rw [c22]; decide) (by decide) ?_
      exact j481  T4 _ _ ls (lv_sub hl [1] rfl) h hle f_a0 hw
    have hw := hw.2 c22
    by_cases c23 : y7 = 272
    · have hw := hw.1 c23
      refine lv_tableIn (off := 438) (tgt := 481) X.1 X.2.1 dX8_statement_43 (by rw [c23]; decide) (by rw [c23]; decide) (by rw [c23]; decide) (by decide) ?_
      exact j481  T4 _ _ ls (lv_sub hl [1] rfl) h hle f_a0 hw
    have hw := hw.2 c23
    by_cases c24 : y7 = 273
    · have hw := hw.1 c24
      refine lv_tableIn (off := 438) (tgt := 481) X.1 X.2.1 dX8_statement_43 (by rw [c24]; decide) (by rw [c24]; decide) (by rw [c24]; decide) (by decide) ?_
      exact j481  T4 _ _ ls (lv_sub hl [1] rfl) h hle f_a0 hw
    have hw := hw.2 c24
    by_cases c25 : y7 = 274
    · have hw := hw.1 c25
      refine lv_tableIn (off := 438) (tgt := 481) X.1 X.2.1 dX8_statement_43 (by rw [c25]; decide) (by rw [c25]; decide) (by rw [c25]; decide) (by decide) ?_
      exact j481  T4 _ _ ls (lv_sub hl [1] rfl) h hle f_a0 hw
    have hw := hw.2 c25
    by_cases c26 : y7 = 275
    · have hw := hw.1 c26
      refine lv_tableIn (off := 438) (tgt := 481) X.1 X.2.1 dX8_statement_43 (by rw [c26]; decide) (by rw [c26]; decide) (by rw [c26]; decide) (by decide) ?_
      exact j481  T4 _ _ ls (lv_sub hl [1] rfl) h hle f_a0 hw
    have hw := hw.2 c26
    by_cases c27 : y7 = 276
    · have hw := hw.1 c27
      refine lv_tableIn (off := 438) (tgt := 481) X.1 X.2.1 dX8_statement_43 (by rw [c27]; decide) (by rw [c27]; decide) (by rw [c27]; decide) (by decide) ?_
      exact j481  T4 _ _ ls (lv_sub hl [1] rfl) h hle f_a0 hw
    have hw := hw.2 c27
    by_cases c28 : y7 = 277
    · have hw := hw.1 c28
      refine lv_tableIn (off := 438) (tgt := 481) X.1 X.2.1 dX8_statement_43 (by rw [c28]; decide) (by rw [c28]; decide) (by rw [c28]; decide) (by decide) ?_
      exact j481  T4 _ _ ls (lv_sub hl [1] rfl) h hle f_a0 hw
    have hw := hw.2 c28
    by_cases c29 : y7 = 278
    · have hw := hw.1 c29
      refine lv_tableIn (off := 438) (tgt := 481) X.1 X.2.1 dX8_statement_43 (by rw [c29]; decide) (by rw [c29]; decide) (by rw [c29]; decide) (by decide) ?_
      exact j481  T4 _ _ ls (lv_sub hl [1] rfl) h hle f_a0 hw
    have hw := hw.2 c29
    by_cases c30 : y7 = 279
    · have hw := hw.1 c30
      refine lv_tableIn (off := 438) (tgt := 481) X.1 X.2.1 dX8_statement_43 (by rw [c30]; decide) (by rw [c30]; decide) (by rw [c30]; decide) (by decide) ?_
      exact j481  T4 _ _ ls (lv_sub hl [1] rfl) h hle f_a0 hw
    have hw := hw.2 c30
    by_cases c31 : y7 = 280
    · have hw := hw.1 c31
      refine lv_tableIn (off := 438) (tgt := 481) X.1 X.2.1 dX8_statement_43 (by rw [c31]; decide) (by rw [c31]; decide) (by rw [c31]; decide) (by decide) ?_
      exact j481  T4 _ _ ls (lv_sub hl [1] rfl) h hle f_a0 hw
    have hw := hw.2 c31
    by_cases c32 : y7 = 281
    · have hw := hw.1 c32
      refine lv_tableIn (off := 438) (tgt := 481) X.1 X.2.1 dX8_statement_43 (by rw [c32]; decide) (by rw [c32]; decide) (by rw [c32]; decide) (by decide) ?_
      exact j481  T4 _ _ ls (lv_sub hl [1] rfl) h hle f_a0 hw
    have hw := hw.2 c32
    by_cases c33 : y7 = 282
    · have hw := hw.1 c33
      refine lv_tableIn (off := 438) (tgt := 481) X.1 X.2.1 dX8_statement_43 (by rw [c33]; decide) (by rw [c33]; decide) (by rw [c33]; decide) (by decide) ?_
      exact j481  T4 _ _ ls (lv_sub hl [1] rfl) h hle f_a0 hw
    have hw := hw.2 c33
    by_cases c34 : y7 = 283
    · have hw := hw.1 c34
      refine lv_tableIn (off := 438) (tgt := 481) X.1 X.2.1 dX8_statement_43 (by rw [c34]; decide) (by rw [c34]; decide) (by rw [c34]; decide) (by decide) ?_
      exact j481  T4 _ _ ls (lv_sub hl [1] rfl) h hle f_a0 hw
    have hw := hw.2 c34
    by_cases c35 : y7 = 284
    · have hw := hw.1 c35
      refine lv_tableIn (off := 438) (tgt := 481) X.1 X.2.1 dX8_statement_43 (by rw [c35]; decide) (by rw [c35]; decide) (by rw [c35]; decide) (by decide) ?_
      exact j481  T4 _ _ ls (lv_sub hl [1] rfl) h hle f_a0 hw
    have hw := hw.2 c35
    by_cases c36 : y7 = 285
    · have hw := hw.1 c36
      refine lv_tableIn (off := 438) (tgt := 481) X.1 X.2.1 dX8_statement_43 (by rw [c36]; decide) (by rw [c36]; decide) (by rw [c36]; decide) (by decide) ?_
      exact j481  T4 _ _ ls (lv_sub hl [1] rfl) h hle f_a0 hw
    have hw := hw.2 c36
    by_cases c37 : y7 = 286
    · have hw := hw.1 c37
      refine lv_tableIn (off := 438) (tgt := 481) X.1 X.2.1 dX8_statement_43 (by rw [c37]; decide) (by rw [c37]; decide) (by rw [c37]; decide) (by decide) ?_
      exact j481  T4 _ _ ls (lv_sub hl [1] rfl) h hle f_a0 hw
    have hw := hw.2 c37
    by_cases c38 : y7 = 287
    · have hw := hw.1 c38
      refine lv_tableIn (off := 438) (tgt := 481) X.1 X.2.1 dX8_statement_43 (by rw [c38]; decide) (by rw [c38]; decide) (by rw [c38]; decide) (by decide) ?_
      exact j481  T4 _ _ ls (lv_sub hl [1] rfl) h hle f_a0 hw
    have hw := hw.2 c38
    by_cases c39 : y7 = 288
    · have hw := hw.1 c39
      refine lv_tableIn (off := 438) (tgt := 481) X.1 X.2.1 dX8_statement_43 (by rw [c39]; decide) (by rw [c39]; decide) (by rw [c39]; decide) (by decide) ?_
      exact j481  T4 _ _ ls (lv_sub hl [1] rfl) h hle f_a0 hw
    have hw := hw.2 c39
    by_cases c40 : y7 = 289
    · have hw := hw.1 c40
      refine lv_tableIn (off := 438) (tgt := 481) X.1 X.2.1 dX8_statement_43 (by rw [c40]; decide) (by rw [c40]; decide) (by rw [c40]; decide) (by decide) ?_
      exact j481  T4 _ _ ls (lv_sub hl [1] rfl) h hle f_a0 hw
    have hw := hw.2 c40
    by_cases c41 : y7 = 290
    · have hw := hw.1 c41
      refine lv_tableIn (off := 438) (tgt := 481) X.1 X.2.1 dX8_statement_43 (by rw [c41]; decide) (by rw [c41]; decide) (by rw [c41]; decide) (by decide) ?_
      exact j481  T4 _ _ ls (lv_sub hl [1] rfl) h hle f_a0 hw
    have hw := hw.2 c41
    by_cases c42 : y7 = 291
    · have hw := hw.1 c42
      refine lv_tableIn (off := 438) (tgt := 481) X.1 X.2.1 dX8_statement_43 (by rw [c42]; decide) (by rw [c42]; decide) (by rw [c42]; decide) (by decide) ?_
      exact j481  T4 _ _ ls (lv_sub hl [1] rfl) h hle f_a0 hw
    have hw := hw.2 c42
    by_cases c43 : y7 = 292
    · have hw := hw.1 c43
      refine lv_tableIn (off := 438) (tgt := 481) X.1 X.2.1 dX8_statement_43 (by rw [c43]; decide) (by rw [c43]; decide) (by rw [c43]; decide) (by decide) ?_
      exact j481  T4 _ _ ls (lv_sub hl [1] rfl) h hle f_a0 hw
    have hw := hw.2 c43
    by_cases c44 : y7 = 293
    · have hw := hw.1 c44
      refine lv_tableIn (off := 438) (tgt := 481) X.1 X.2.1 dX8_statement_43 (by rw [c44]; decide) (by rw [c44]; decide) (by rw [c44]; decide) (by decide) ?_
      exact j481  T4 _ _ ls (lv_sub hl [1] rfl) h hle f_a0 hw
    have hw := hw.2 c44
    by_cases c45 : y7 = 294
    · have hw := hw.1 c45
      refine lv_tableIn (off := 438) (tgt := 481) X.1 X.2.1 dX8_statement_43 (by rw [c45]; decide) (by rw [c45]; decide) (by rw [c45]; decide) (by decide) ?_
      exact j481  T4 _ _ ls (lv_sub hl [1] rfl) h hle f_a0 hw
    have hw := hw.2 c45
    by_cases c46 : y7 = 295
    · have hw := hw.1 c46
      refine lv_tableIn (off := 438) (tgt := 481) X.1 X.2.1 dX8_statement_43 (by rw [c46]; decide) (by rw [c46]; decide) (by rw [c46]; decide) (by decide) ?_
      exact j481  T4 _ _ ls (lv_sub hl [1] rfl) h hle f_a0 hw
    have hw := hw.2 c46
    by_cases c47 : y7 = 296
    · have hw := hw.1 c47
      refine lv_tableIn (off := 438) (tgt := 481) X.1 X.2.1 dX8_statement_43 (by rw [c47]; decide) (by rw [c47]; decide) (by rw [c47]; decide) (by decide) ?_
      exact j481  T4 _ _ ls (lv_sub hl [1] rfl) h hle f_a0 hw
    have hw := hw.2 c47
    by_cases c48 : y7 = 297
    · have hw := hw.1 c48
      refine lv_tableIn (off := 438) (tgt := 481) X.1 X.2.1 dX8_statement_43 (by rw [c48]; decide) (by rw [c48]; decide) (by rw [c48]; decide) (by decide) ?_
      exact j481  T4 _ _ ls (lv_sub hl [1] rfl) h hle f_a0 hw
    have hw := hw.2 c48
    by_cases c49 : y7 = 298
    · have hw := hw.1 c49
      refine lv_tableIn (off := 438) (tgt := 481) X.1 X.2.1 dX8_statement_43 (by rw [c49]; decide) (by rw [c49]; decide) (by rw [c49]; decide) (by decide) ?_
      exact j481  T4 _ _ ls (lv_sub hl [1] rfl) h hle f_a0 hw
    have hw := hw.2 c49
    by_cases c50 : y7 = 299
    · have hw := hw.1 c50
      refine lv_tableIn (off := 438) (tgt := 481) X.1 X.2.1 dX8_statement_43 (by rw [c50]; decide) (by rw [c50]; decide) (by rw [c50]; decide) (by decide) ?_
      exact j481  T4 _ _ ls (lv_sub hl [1] rfl) h hle f_a0 hw
    have hw := hw.2 c50
    by_cases c51 : y7 = 300
    · have hw := hw.1 c51
      refine lv_tableIn (off := 438) (tgt := 481) X.1 X.2.1 dX8_statement_43 (by rw [c51]; decide) (by rw [c51]; decide) (by rw [c51]; decide) (by decide) ?_
      exact j481  T4 _ _ ls (lv_sub hl [1] rfl) h hle f_a0 hw
    have hw := hw.2 c51
    by_cases c52 : y7 = 301
    · have hw := hw.1 c52
      refine lv_tableIn (off := 315) (tgt := 358) X.1 X.2.1 dX8_statement_43 (by rw [c52]; decide) (by rw [c52]; decide) (by rw [c52]; decide) (by decide) ?_
      refine lv_aload_n X.1 X.2.1 dX8_statement_358 rfl (lv_at hl 1 rfl) ?_
      refine kp_calli X h (kp_runV (rm := { frames := 190, cells := 0, slots := 0, locals := 4362 }) (mc := 0) (ms := 0) (rest := []) (Qc := fun A => kp_Qi D cy A T4 _) X h (c_X8_variable l D cy ad T4 a0 _ h.2.2.2 f_a0 hw) f_a0 cv_8_163 ⟨by dsimp only; omega, by dsimp only; omega, rfl, rfl, by dsimp only; omega, by dsimp only; omega⟩ rfl hl.1 rfl (Nat.le_of_ble_eq_true rfl) dX8_statement_359) (fun y54 T53 hw l_T53 H locs h => ?_)
      have f_a0 := l_T53.is f_a0
      have f_b1 := l_T53.is f_b1
      have f_b3 := l_T53.is f_b3
      have f_b6 := l_T53.is f_b6
      have hle := hle.tr l_T53
      exact kp_reti X hr hlocks h hle rfl hw dX8_statement_362
    have hw := hw.2 c52
    by_cases c55 : y7 = 302
    · have hw := hw.1 c55
      refine lv_tableIn (off := 320) (tgt := 363) X.1 X.2.1 dX8_statement_43 (by rw [c55]; decide) (by rw [c55]; decide) (by rw [c55]; decide) (by decide) ?_
      refine lv_aload_n X.1 X.2.1 dX8_statement_363 rfl (lv_at hl 1 rfl) ?_
      refine lv_bipush (v := 35) X.1 X.2.1 dX8_statement_364 (by decide) ?_
      refine lv_iconst (v := 1) X.1 X.2.1 dX8_statement_366 (by decide) ?_
      refine lv_iconst (v := 1) X.1 X.2.1 dX8_statement_367 (by decide) ?_
      refine kp_calli X h (kp_runV (rm := { frames := 190, cells := 0, slots := 0, locals := 4362 }) (mc := 0) (ms := 0) (rest := []) (Qc := fun A => kp_Qi D cy A T4 _) X h (c_X8_order l D cy ad T4 a0 35 1 1 _ h.2.2.2 f_a0 hw) f_a0 cv_8_166 ⟨by dsimp only; omega, by dsimp only; omega, rfl, rfl, by dsimp only; omega, by dsimp only; omega⟩ rfl hl.1 rfl (Nat.le_of_ble_eq_true rfl) dX8_statement_368) (fun y57 T56 hw l_T56 H locs h => ?_)
      have f_a0 := l_T56.is f_a0
      have f_b1 := l_T56.is f_b1
      have f_b3 := l_T56.is f_b3
      have f_b6 := l_T56.is f_b6
      have hle := hle.tr l_T56
      exact kp_reti X hr hlocks h hle rfl hw dX8_statement_371
    have hw := hw.2 c55
    by_cases c58 : y7 = 303
    · have hw := hw.1 c58
      refine lv_tableIn (off := 398) (tgt := 441) X.1 X.2.1 dX8_statement_43 (by rw [c58]; decide) (by rw [c58]; decide) (by rw [c58]; decide) (by decide) ?_
      refine lv_aload_n X.1 X.2.1 dX8_statement_441 rfl (lv_at hl 1 rfl) ?_
      refine kp_calli X h (kp_runV (rm := { frames := F + 1, cells := 0, slots := 0, locals := L + 24 }) (mc := 0) (ms := 0) (rest := []) (Qc := fun A => kp_Qi D cy A T4 _) X h (c_X8_ifElse l D cy ad F L B hB hF hL T4 a0 _ h.2.2.2 f_a0 hw) f_a0 cv_8_179 ⟨by dsimp only; omega, by dsimp only; omega, rfl, rfl, by dsimp only; omega, by dsimp only; omega⟩ rfl hl.1 rfl (Nat.le_of_ble_eq_true rfl) dX8_statement_442) (fun y60 T59 hw l_T59 H locs h => ?_)
      have f_a0 := l_T59.is f_a0
      have f_b1 := l_T59.is f_b1
      have f_b3 := l_T59.is f_b3
      have f_b6 := l_T59.is f_b6
      have hle := hle.tr l_T59
      exact kp_reti X hr hlocks h hle rfl hw dX8_statement_445
    have hw := hw.2 c58
    by_cases c61 : y7 = 304
    · have hw := hw.1 c61
      refine lv_tableIn (off := 438) (tgt := 481) X.1 X.2.1 dX8_statement_43 (by rw [c61]; decide) (by rw [c61]; decide) (by rw [c61]; decide) (by decide) ?_
      exact j481  T4 _ _ ls (lv_sub hl [1] rfl) h hle f_a0 hw
    have hw := hw.2 c61
    by_cases c62 : y7 = 305
    · have hw := hw.1 c62
      refine lv_tableIn (off := 408) (tgt := 451) X.1 X.2.1 dX8_statement_43 (by rw [c62]; decide) (by rw [c62]; decide) (by rw [c62]; decide) (by decide) ?_
      exact j451 y2 T4 _ _ ls (lv_sub hl [1, 0] rfl) h hle f_a0 hw
    have hw := hw.2 c62
    by_cases c63 : y7 = 306
    · have hw := hw.1 c63
      refine lv_tableIn (off := 408) (tgt := 451) X.1 X.2.1 dX8_statement_43 (by rw [c63]; decide) (by rw [c63]; decide) (by rw [c63]; decide) (by decide) ?_
      exact j451 y2 T4 _ _ ls (lv_sub hl [1, 0] rfl) h hle f_a0 hw
    have hw := hw.2 c63
    by_cases c64 : y7 = 307
    · have hw := hw.1 c64
      refine lv_tableIn (off := 438) (tgt := 481) X.1 X.2.1 dX8_statement_43 (by rw [c64]; decide) (by rw [c64]; decide) (by rw [c64]; decide) (by decide) ?_
      exact j481  T4 _ _ ls (lv_sub hl [1] rfl) h hle f_a0 hw
    have hw := hw.2 c64
    by_cases c65 : y7 = 308
    · have hw := hw.1 c65
      refine lv_tableIn (off := 438) (tgt := 481) X.1 X.2.1 dX8_statement_43 (by rw [c65]; decide) (by rw [c65]; decide) (by rw [c65]; decide) (by decide) ?_
      exact j481  T4 _ _ ls (lv_sub hl [1] rfl) h hle f_a0 hw
    have hw := hw.2 c65
    by_cases c66 : y7 = 309
    · have hw := hw.1 c66
      refine lv_tableIn (off := 379) (tgt := 422) X.1 X.2.1 dX8_statement_43 (by rw [c66]; decide) (by rw [c66]; decide) (by rw [c66]; decide) (by decide) ?_
      refine lv_aload_n X.1 X.2.1 dX8_statement_422 rfl (lv_at hl 1 rfl) ?_
      refine lv_bipush (v := 40) X.1 X.2.1 dX8_statement_423 (by decide) ?_
      refine kp_calli X h (kp_runV (rm := { frames := 7, cells := 0, slots := 0, locals := 155 }) (mc := 0) (ms := 0) (rest := []) (Qc := fun A => kp_Qi D cy A T4 _) X h (c_X8_leaveOrAgain l D cy ad T4 a0 40 _ h.2.2.2 f_a0 hw) f_a0 cv_8_173 ⟨by dsimp only; omega, by dsimp only; omega, rfl, rfl, by dsimp only; omega, by dsimp only; omega⟩ rfl hl.1 rfl (Nat.le_of_ble_eq_true rfl) dX8_statement_425) (fun y68 T67 hw l_T67 H locs h => ?_)
      have f_a0 := l_T67.is f_a0
      have f_b1 := l_T67.is f_b1
      have f_b3 := l_T67.is f_b3
      have f_b6 := l_T67.is f_b6
      have hle := hle.tr l_T67
      exact kp_reti X hr hlocks h hle rfl hw dX8_statement_428
    have hw := hw.2 c66
    by_cases c69 : y7 = 310
    · have hw := hw.1 c69
      refine lv_tableIn (off := 386) (tgt := 429) X.1 X.2.1 dX8_statement_43 (by rw [c69]; decide) (by rw [c69]; decide) (by rw [c69]; decide) (by decide) ?_
      refine lv_aload_n X.1 X.2.1 dX8_statement_429 rfl (lv_at hl 1 rfl) ?_
      refine lv_bipush (v := 41) X.1 X.2.1 dX8_statement_430 (by decide) ?_
      refine kp_calli X h (kp_runV (rm := { frames := 7, cells := 0, slots := 0, locals := 155 }) (mc := 0) (ms := 0) (rest := []) (Qc := fun A => kp_Qi D cy A T4 _) X h (c_X8_leaveOrAgain l D cy ad T4 a0 41 _ h.2.2.2 f_a0 hw) f_a0 cv_8_173 ⟨by dsimp only; omega, by dsimp only; omega, rfl, rfl, by dsimp only; omega, by dsimp only; omega⟩ rfl hl.1 rfl (Nat.le_of_ble_eq_true rfl) dX8_statement_432) (fun y71 T70 hw l_T70 H locs h => ?_)
      have f_a0 := l_T70.is f_a0
      have f_b1 := l_T70.is f_b1
      have f_b3 := l_T70.is f_b3
      have f_b6 := l_T70.is f_b6
      have hle := hle.tr l_T70
      exact kp_reti X hr hlocks h hle rfl hw dX8_statement_435
    have hw := hw.2 c69
    by_cases c72 : y7 = 311
    · have hw := hw.1 c72
      refine lv_tableIn (off := 374) (tgt := 417) X.1 X.2.1 dX8_statement_43 (by rw [c72]; decide) (by rw [c72]; decide) (by rw [c72]; decide) (by decide) ?_
      refine lv_aload_n X.1 X.2.1 dX8_statement_417 rfl (lv_at hl 1 rfl) ?_
      refine kp_calli X h (kp_runV (rm := { frames := 190, cells := 0, slots := 0, locals := 4362 }) (mc := 0) (ms := 0) (rest := []) (Qc := fun A => kp_Qi D cy A T4 _) X h (c_X8_answer l D cy ad T4 a0 _ h.2.2.2 f_a0 hw) f_a0 cv_8_170 ⟨by dsimp only; omega, by dsimp only; omega, rfl, rfl, by dsimp only; omega, by dsimp only; omega⟩ rfl hl.1 rfl (Nat.le_of_ble_eq_true rfl) dX8_statement_418) (fun y74 T73 hw l_T73 H locs h => ?_)
      have f_a0 := l_T73.is f_a0
      have f_b1 := l_T73.is f_b1
      have f_b3 := l_T73.is f_b3
      have f_b6 := l_T73.is f_b6
      have hle := hle.tr l_T73
      exact kp_reti X hr hlocks h hle rfl hw dX8_statement_421
    have hw := hw.2 c72
    by_cases c75 : y7 = 312
    · have hw := hw.1 c75
      refine lv_tableIn (off := 365) (tgt := 408) X.1 X.2.1 dX8_statement_43 (by rw [c75]; decide) (by rw [c75]; decide) (by rw [c75]; decide) (by decide) ?_
      refine lv_aload_n X.1 X.2.1 dX8_statement_408 rfl (lv_at hl 1 rfl) ?_
      refine lv_bipush (v := 43) X.1 X.2.1 dX8_statement_409 (by decide) ?_
      refine lv_iconst (v := 1) X.1 X.2.1 dX8_statement_411 (by decide) ?_
      refine lv_iconst (v := 4) X.1 X.2.1 dX8_statement_412 (by decide) ?_
      refine kp_calli X h (kp_runV (rm := { frames := 190, cells := 0, slots := 0, locals := 4362 }) (mc := 0) (ms := 0) (rest := []) (Qc := fun A => kp_Qi D cy A T4 _) X h (c_X8_order l D cy ad T4 a0 43 1 4 _ h.2.2.2 f_a0 hw) f_a0 cv_8_166 ⟨by dsimp only; omega, by dsimp only; omega, rfl, rfl, by dsimp only; omega, by dsimp only; omega⟩ rfl hl.1 rfl (Nat.le_of_ble_eq_true rfl) dX8_statement_413) (fun y77 T76 hw l_T76 H locs h => ?_)
      have f_a0 := l_T76.is f_a0
      have f_b1 := l_T76.is f_b1
      have f_b3 := l_T76.is f_b3
      have f_b6 := l_T76.is f_b6
      have hle := hle.tr l_T76
      exact kp_reti X hr hlocks h hle rfl hw dX8_statement_416
    have hw := hw.2 c75
    by_cases c78 : y7 = 313
    · have hw := hw.1 c78
      refine lv_tableIn (off := 415) (tgt := 458) X.1 X.2.1 dX8_statement_43 (by rw [c78]; decide) (by rw [c78]; decide) (by rw [c78]; decide) (by decide) ?_
      refine lv_aload_n X.1 X.2.1 dX8_statement_458 rfl (lv_at hl 1 rfl) ?_
      refine kp_calli X h (kp_runV (rm := { frames := F + 1, cells := 0, slots := 0, locals := L + 24 }) (mc := 0) (ms := 0) (rest := []) (Qc := fun A => kp_Qi D cy A T4 _) X h (c_X8_hold l D cy ad F L B hB hF hL T4 a0 _ h.2.2.2 f_a0 hw) f_a0 cv_8_189 ⟨by dsimp only; omega, by dsimp only; omega, rfl, rfl, by dsimp only; omega, by dsimp only; omega⟩ rfl hl.1 rfl (Nat.le_of_ble_eq_true rfl) dX8_statement_459) (fun y80 T79 hw l_T79 H locs h => ?_)
      have f_a0 := l_T79.is f_a0
      have f_b1 := l_T79.is f_b1
      have f_b3 := l_T79.is f_b3
      have f_b6 := l_T79.is f_b6
      have hle := hle.tr l_T79
      exact kp_reti X hr hlocks h hle rfl hw dX8_statement_462
    have hw := hw.2 c78
    by_cases c81 : y7 = 314
    · have hw := hw.1 c81
      refine lv_tableIn (off := 426) (tgt := 469) X.1 X.2.1 dX8_statement_43 (by rw [c81]; decide) (by rw [c81]; decide) (by rw [c81]; decide) (by decide) ?_
      refine lv_aload_n X.1 X.2.1 dX8_statement_469 rfl (lv_at hl 1 rfl) ?_
      refine lv_iload_n X.1 X.2.1 dX8_statement_470 rfl (lv_at hl 0 rfl) ?_
      refine kp_calli X h (kp_runV (rm := { frames := F + 2, cells := 0, slots := 0, locals := L + 54 }) (mc := 0) (ms := 0) (rest := []) (Qc := fun A => kp_Qi D cy A T4 _) X h (c_X8_trial l D cy ad F L B hB hF hL T4 a0 y2 _ h.2.2.2 f_a0 hw) f_a0 cv_8_195 ⟨by dsimp only; omega, by dsimp only; omega, rfl, rfl, by dsimp only; omega, by dsimp only; omega⟩ rfl hl.1 rfl (Nat.le_of_ble_eq_true rfl) dX8_statement_471) (fun y83 T82 hw l_T82 H locs h => ?_)
      have f_a0 := l_T82.is f_a0
      have f_b1 := l_T82.is f_b1
      have f_b3 := l_T82.is f_b3
      have f_b6 := l_T82.is f_b6
      have hle := hle.tr l_T82
      exact kp_reti X hr hlocks h hle rfl hw dX8_statement_474
    have hw := hw.2 c81
    by_cases c84 : y7 = 315
    · have hw := hw.1 c84
      refine lv_tableIn (off := 438) (tgt := 481) X.1 X.2.1 dX8_statement_43 (by rw [c84]; decide) (by rw [c84]; decide) (by rw [c84]; decide) (by decide) ?_
      exact j481  T4 _ _ ls (lv_sub hl [1] rfl) h hle f_a0 hw
    have hw := hw.2 c84
    by_cases c85 : y7 = 316
    · have hw := hw.1 c85
      refine lv_tableIn (off := 438) (tgt := 481) X.1 X.2.1 dX8_statement_43 (by rw [c85]; decide) (by rw [c85]; decide) (by rw [c85]; decide) (by decide) ?_
      exact j481  T4 _ _ ls (lv_sub hl [1] rfl) h hle f_a0 hw
    have hw := hw.2 c85
    by_cases c86 : y7 = 317
    · have hw := hw.1 c86
      refine lv_tableIn (off := 438) (tgt := 481) X.1 X.2.1 dX8_statement_43 (by rw [c86]; decide) (by rw [c86]; decide) (by rw [c86]; decide) (by decide) ?_
      exact j481  T4 _ _ ls (lv_sub hl [1] rfl) h hle f_a0 hw
    have hw := hw.2 c86
    by_cases c87 : y7 = 318
    · have hw := hw.1 c87
      refine lv_tableIn (off := 432) (tgt := 475) X.1 X.2.1 dX8_statement_43 (by rw [c87]; decide) (by rw [c87]; decide) (by rw [c87]; decide) (by decide) ?_
      refine lv_aload_n X.1 X.2.1 dX8_statement_475 rfl (lv_at hl 1 rfl) ?_
      refine lv_iload_n X.1 X.2.1 dX8_statement_476 rfl (lv_at hl 0 rfl) ?_
      refine kp_calli X h (kp_runV (rm := { frames := F + 1, cells := 0, slots := 0, locals := L + 24 }) (mc := 0) (ms := 0) (rest := []) (Qc := fun A => kp_Qi D cy A T4 _) X h (c_X8_later l D cy ad F L B hB hF hL T4 a0 y2 _ h.2.2.2 f_a0 hw) f_a0 cv_8_198 ⟨by dsimp only; omega, by dsimp only; omega, rfl, rfl, by dsimp only; omega, by dsimp only; omega⟩ rfl hl.1 rfl (Nat.le_of_ble_eq_true rfl) dX8_statement_477) (fun y89 T88 hw l_T88 H locs h => ?_)
      have f_a0 := l_T88.is f_a0
      have f_b1 := l_T88.is f_b1
      have f_b3 := l_T88.is f_b3
      have f_b6 := l_T88.is f_b6
      have hle := hle.tr l_T88
      exact kp_reti X hr hlocks h hle rfl hw dX8_statement_480
    have hw := hw.2 c87
    by_cases c90 : y7 = 319
    · have hw := hw.1 c90
      refine lv_tableIn (off := 393) (tgt := 436) X.1 X.2.1 dX8_statement_43 (by rw [c90]; decide) (by rw [c90]; decide) (by rw [c90]; decide) (by decide) ?_
      refine lv_aload_n X.1 X.2.1 dX8_statement_436 rfl (lv_at hl 1 rfl) ?_
      refine kp_calli X h (kp_runV (rm := { frames := 7, cells := 0, slots := 0, locals := 155 }) (mc := 0) (ms := 0) (rest := []) (Qc := fun A => kp_Qi D cy A T4 _) X h (c_X8_stop l D cy ad T4 a0 _ h.2.2.2 f_a0 hw) f_a0 cv_8_176 ⟨by dsimp only; omega, by dsimp only; omega, rfl, rfl, by dsimp only; omega, by dsimp only; omega⟩ rfl hl.1 rfl (Nat.le_of_ble_eq_true rfl) dX8_statement_437) (fun y92 T91 hw l_T91 H locs h => ?_)
      have f_a0 := l_T91.is f_a0
      have f_b1 := l_T91.is f_b1
      have f_b3 := l_T91.is f_b3
      have f_b6 := l_T91.is f_b6
      have hle := hle.tr l_T91
      exact kp_reti X hr hlocks h hle rfl hw dX8_statement_440
    have hw := hw.2 c90
    by_cases c93 : y7 = 320
    · have hw := hw.1 c93
      refine lv_tableIn (off := 420) (tgt := 463) X.1 X.2.1 dX8_statement_43 (by rw [c93]; decide) (by rw [c93]; decide) (by rw [c93]; decide) (by decide) ?_
      refine lv_aload_n X.1 X.2.1 dX8_statement_463 rfl (lv_at hl 1 rfl) ?_
      refine lv_iload_n X.1 X.2.1 dX8_statement_464 rfl (lv_at hl 0 rfl) ?_
      refine kp_calli X h (kp_runV (rm := { frames := F + 1, cells := 0, slots := 0, locals := L + 24 }) (mc := 0) (ms := 0) (rest := []) (Qc := fun A => kp_Qi D cy A T4 _) X h (c_X8_ensure l D cy ad F L B hB hF hL T4 a0 y2 _ h.2.2.2 f_a0 hw) f_a0 cv_8_192 ⟨by dsimp only; omega, by dsimp only; omega, rfl, rfl, by dsimp only; omega, by dsimp only; omega⟩ rfl hl.1 rfl (Nat.le_of_ble_eq_true rfl) dX8_statement_465) (fun y95 T94 hw l_T94 H locs h => ?_)
      have f_a0 := l_T94.is f_a0
      have f_b1 := l_T94.is f_b1
      have f_b3 := l_T94.is f_b3
      have f_b6 := l_T94.is f_b6
      have hle := hle.tr l_T94
      exact kp_reti X hr hlocks h hle rfl hw dX8_statement_468
    have hw := hw.2 c93
    by_cases c96 : y7 = 321
    · have hw := hw.1 c96
      refine lv_tableIn (off := 408) (tgt := 451) X.1 X.2.1 dX8_statement_43 (by rw [c96]; decide) (by rw [c96]; decide) (by rw [c96]; decide) (by decide) ?_
      exact j451 y2 T4 _ _ ls (lv_sub hl [1, 0] rfl) h hle f_a0 hw
    have hw := hw.2 c96
    by_cases c97 : y7 = 322
    · have hw := hw.1 c97
      refine lv_tableIn (off := 438) (tgt := 481) X.1 X.2.1 dX8_statement_43 (by rw [c97]; decide) (by rw [c97]; decide) (by rw [c97]; decide) (by decide) ?_
      exact j481  T4 _ _ ls (lv_sub hl [1] rfl) h hle f_a0 hw
    have hw := hw.2 c97
    by_cases c98 : y7 = 323
    · have hw := hw.1 c98
      refine lv_tableIn (off := 403) (tgt := 446) X.1 X.2.1 dX8_statement_43 (by rw [c98]; decide) (by rw [c98]; decide) (by rw [c98]; decide) (by decide) ?_
      refine lv_aload_n X.1 X.2.1 dX8_statement_446 rfl (lv_at hl 1 rfl) ?_
      refine kp_calli X h (kp_runV (rm := { frames := F + 1, cells := 0, slots := 0, locals := L + 24 }) (mc := 0) (ms := 0) (rest := []) (Qc := fun A => kp_Qi D cy A T4 _) X h (c_X8_choose l D cy ad F L B hB hF hL T4 a0 _ h.2.2.2 f_a0 hw) f_a0 cv_8_182 ⟨by dsimp only; omega, by dsimp only; omega, rfl, rfl, by dsimp only; omega, by dsimp only; omega⟩ rfl hl.1 rfl (Nat.le_of_ble_eq_true rfl) dX8_statement_447) (fun y100 T99 hw l_T99 H locs h => ?_)
      have f_a0 := l_T99.is f_a0
      have f_b1 := l_T99.is f_b1
      have f_b3 := l_T99.is f_b3
      have f_b6 := l_T99.is f_b6
      have hle := hle.tr l_T99
      exact kp_reti X hr hlocks h hle rfl hw dX8_statement_450
    have hw := hw.2 c98
    by_cases c101 : y7 = 324
    · have hw := hw.1 c101
      refine lv_tableIn (off := 438) (tgt := 481) X.1 X.2.1 dX8_statement_43 (by rw [c101]; decide) (by rw [c101]; decide) (by rw [c101]; decide) (by decide) ?_
      exact j481  T4 _ _ ls (lv_sub hl [1] rfl) h hle f_a0 hw
    have hw := hw.2 c101
    by_cases c102 : y7 = 325
    · have hw := hw.1 c102
      refine lv_tableIn (off := 438) (tgt := 481) X.1 X.2.1 dX8_statement_43 (by rw [c102]; decide) (by rw [c102]; decide) (by rw [c102]; decide) (by decide) ?_
      exact j481  T4 _ _ ls (lv_sub hl [1] rfl) h hle f_a0 hw
    have hw := hw.2 c102
    by_cases c103 : y7 = 326
    · have hw := hw.1 c103
      refine lv_tableIn (off := 438) (tgt := 481) X.1 X.2.1 dX8_statement_43 (by rw [c103]; decide) (by rw [c103]; decide) (by rw [c103]; decide) (by decide) ?_
      exact j481  T4 _ _ ls (lv_sub hl [1] rfl) h hle f_a0 hw
    have hw := hw.2 c103
    by_cases c104 : y7 = 327
    · have hw := hw.1 c104
      refine lv_tableIn (off := 438) (tgt := 481) X.1 X.2.1 dX8_statement_43 (by rw [c104]; decide) (by rw [c104]; decide) (by rw [c104]; decide) (by decide) ?_
      exact j481  T4 _ _ ls (lv_sub hl [1] rfl) h hle f_a0 hw
    have hw := hw.2 c104
    by_cases c105 : y7 = 328
    · have hw := hw.1 c105
      refine lv_tableIn (off := 438) (tgt := 481) X.1 X.2.1 dX8_statement_43 (by rw [c105]; decide) (by rw [c105]; decide) (by rw [c105]; decide) (by decide) ?_
      exact j481  T4 _ _ ls (lv_sub hl [1] rfl) h hle f_a0 hw
    have hw := hw.2 c105
    by_cases c106 : y7 = 329
    · have hw := hw.1 c106
      refine lv_tableIn (off := 329) (tgt := 372) X.1 X.2.1 dX8_statement_43 (by rw [c106]; decide) (by rw [c106]; decide) (by rw [c106]; decide) (by decide) ?_
      refine lv_aload_n X.1 X.2.1 dX8_statement_372 rfl (lv_at hl 1 rfl) ?_
      refine lv_bipush (v := 36) X.1 X.2.1 dX8_statement_373 (by decide) ?_
      refine lv_iconst (v := 2) X.1 X.2.1 dX8_statement_375 (by decide) ?_
      refine lv_iconst (v := 5) X.1 X.2.1 dX8_statement_376 (by decide) ?_
      refine kp_calli X h (kp_runV (rm := { frames := 190, cells := 0, slots := 0, locals := 4362 }) (mc := 0) (ms := 0) (rest := []) (Qc := fun A => kp_Qi D cy A T4 _) X h (c_X8_order l D cy ad T4 a0 36 2 5 _ h.2.2.2 f_a0 hw) f_a0 cv_8_166 ⟨by dsimp only; omega, by dsimp only; omega, rfl, rfl, by dsimp only; omega, by dsimp only; omega⟩ rfl hl.1 rfl (Nat.le_of_ble_eq_true rfl) dX8_statement_377) (fun y108 T107 hw l_T107 H locs h => ?_)
      have f_a0 := l_T107.is f_a0
      have f_b1 := l_T107.is f_b1
      have f_b3 := l_T107.is f_b3
      have f_b6 := l_T107.is f_b6
      have hle := hle.tr l_T107
      exact kp_reti X hr hlocks h hle rfl hw dX8_statement_380
    have hw := hw.2 c106
    by_cases c109 : y7 = 330
    · have hw := hw.1 c109
      refine lv_tableIn (off := 338) (tgt := 381) X.1 X.2.1 dX8_statement_43 (by rw [c109]; decide) (by rw [c109]; decide) (by rw [c109]; decide) (by decide) ?_
      refine lv_aload_n X.1 X.2.1 dX8_statement_381 rfl (lv_at hl 1 rfl) ?_
      refine lv_bipush (v := 37) X.1 X.2.1 dX8_statement_382 (by decide) ?_
      refine lv_iconst (v := 2) X.1 X.2.1 dX8_statement_384 (by decide) ?_
      refine lv_iconst (v := 5) X.1 X.2.1 dX8_statement_385 (by decide) ?_
      refine kp_calli X h (kp_runV (rm := { frames := 190, cells := 0, slots := 0, locals := 4362 }) (mc := 0) (ms := 0) (rest := []) (Qc := fun A => kp_Qi D cy A T4 _) X h (c_X8_order l D cy ad T4 a0 37 2 5 _ h.2.2.2 f_a0 hw) f_a0 cv_8_166 ⟨by dsimp only; omega, by dsimp only; omega, rfl, rfl, by dsimp only; omega, by dsimp only; omega⟩ rfl hl.1 rfl (Nat.le_of_ble_eq_true rfl) dX8_statement_386) (fun y111 T110 hw l_T110 H locs h => ?_)
      have f_a0 := l_T110.is f_a0
      have f_b1 := l_T110.is f_b1
      have f_b3 := l_T110.is f_b3
      have f_b6 := l_T110.is f_b6
      have hle := hle.tr l_T110
      exact kp_reti X hr hlocks h hle rfl hw dX8_statement_389
    have hw := hw.2 c109
    by_cases c112 : y7 = 331
    · have hw := hw.1 c112
      refine lv_tableIn (off := 347) (tgt := 390) X.1 X.2.1 dX8_statement_43 (by rw [c112]; decide) (by rw [c112]; decide) (by rw [c112]; decide) (by decide) ?_
      refine lv_aload_n X.1 X.2.1 dX8_statement_390 rfl (lv_at hl 1 rfl) ?_
      refine lv_bipush (v := 38) X.1 X.2.1 dX8_statement_391 (by decide) ?_
      refine lv_iconst (v := 3) X.1 X.2.1 dX8_statement_393 (by decide) ?_
      refine lv_iconst (v := 5) X.1 X.2.1 dX8_statement_394 (by decide) ?_
      refine kp_calli X h (kp_runV (rm := { frames := 190, cells := 0, slots := 0, locals := 4362 }) (mc := 0) (ms := 0) (rest := []) (Qc := fun A => kp_Qi D cy A T4 _) X h (c_X8_order l D cy ad T4 a0 38 3 5 _ h.2.2.2 f_a0 hw) f_a0 cv_8_166 ⟨by dsimp only; omega, by dsimp only; omega, rfl, rfl, by dsimp only; omega, by dsimp only; omega⟩ rfl hl.1 rfl (Nat.le_of_ble_eq_true rfl) dX8_statement_395) (fun y114 T113 hw l_T113 H locs h => ?_)
      have f_a0 := l_T113.is f_a0
      have f_b1 := l_T113.is f_b1
      have f_b3 := l_T113.is f_b3
      have f_b6 := l_T113.is f_b6
      have hle := hle.tr l_T113
      exact kp_reti X hr hlocks h hle rfl hw dX8_statement_398
    have hw := hw.2 c112
    by_cases c115 : y7 = 332
    · have hw := hw.1 c115
      refine lv_tableIn (off := 356) (tgt := 399) X.1 X.2.1 dX8_statement_43 (by rw [c115]; decide) (by rw [c115]; decide) (by rw [c115]; decide) (by decide) ?_
      refine lv_aload_n X.1 X.2.1 dX8_statement_399 rfl (lv_at hl 1 rfl) ?_
      refine lv_bipush (v := 39) X.1 X.2.1 dX8_statement_400 (by decide) ?_
      refine lv_iconst (v := 2) X.1 X.2.1 dX8_statement_402 (by decide) ?_
      refine lv_iconst (v := 5) X.1 X.2.1 dX8_statement_403 (by decide) ?_
      refine kp_calli X h (kp_runV (rm := { frames := 190, cells := 0, slots := 0, locals := 4362 }) (mc := 0) (ms := 0) (rest := []) (Qc := fun A => kp_Qi D cy A T4 _) X h (c_X8_order l D cy ad T4 a0 39 2 5 _ h.2.2.2 f_a0 hw) f_a0 cv_8_166 ⟨by dsimp only; omega, by dsimp only; omega, rfl, rfl, by dsimp only; omega, by dsimp only; omega⟩ rfl hl.1 rfl (Nat.le_of_ble_eq_true rfl) dX8_statement_404) (fun y117 T116 hw l_T116 H locs h => ?_)
      have f_a0 := l_T116.is f_a0
      have f_b1 := l_T116.is f_b1
      have f_b3 := l_T116.is f_b3
      have f_b6 := l_T116.is f_b6
      have hle := hle.tr l_T116
      exact kp_reti X hr hlocks h hle rfl hw dX8_statement_407
    have hw := hw.2 c115
    have t_c8 := lv_neT (a := 259) c8 (by decide)
    have t_c11 := lv_neT (a := 260) c11 (by decide)
    have t_c12 := lv_neT (a := 261) c12 (by decide)
    have t_c13 := lv_neT (a := 262) c13 (by decide)
    have t_c14 := lv_neT (a := 263) c14 (by decide)
    have t_c15 := lv_neT (a := 264) c15 (by decide)
    have t_c16 := lv_neT (a := 265) c16 (by decide)
    have t_c17 := lv_neT (a := 266) c17 (by decide)
    have t_c18 := lv_neT (a := 267) c18 (by decide)
    have t_c19 := lv_neT (a := 268) c19 (by decide)
    have t_c20 := lv_neT (a := 269) c20 (by decide)
    have t_c21 := lv_neT (a := 270) c21 (by decide)
    have t_c22 := lv_neT (a := 271) c22 (by decide)
    have t_c23 := lv_neT (a := 272) c23 (by decide)
    have t_c24 := lv_neT (a := 273) c24 (by decide)
    have t_c25 := lv_neT (a := 274) c25 (by decide)
    have t_c26 := lv_neT (a := 275) c26 (by decide)
    have t_c27 := lv_neT (a := 276) c27 (by decide)
    have t_c28 := lv_neT (a := 277) c28 (by decide)
    have t_c29 := lv_neT (a := 278) c29 (by decide)
    have t_c30 := lv_neT (a := 279) c30 (by decide)
    have t_c31 := lv_neT (a := 280) c31 (by decide)
    have t_c32 := lv_neT (a := 281) c32 (by decide)
    have t_c33 := lv_neT (a := 282) c33 (by decide)
    have t_c34 := lv_neT (a := 283) c34 (by decide)
    have t_c35 := lv_neT (a := 284) c35 (by decide)
    have t_c36 := lv_neT (a := 285) c36 (by decide)
    have t_c37 := lv_neT (a := 286) c37 (by decide)
    have t_c38 := lv_neT (a := 287) c38 (by decide)
    have t_c39 := lv_neT (a := 288) c39 (by decide)
    have t_c40 := lv_neT (a := 289) c40 (by decide)
    have t_c41 := lv_neT (a := 290) c41 (by decide)
    have t_c42 := lv_neT (a := 291) c42 (by decide)
    have t_c43 := lv_neT (a := 292) c43 (by decide)
    have t_c44 := lv_neT (a := 293) c44 (by decide)
    have t_c45 := lv_neT (a := 294) c45 (by decide)
    have t_c46 := lv_neT (a := 295) c46 (by decide)
    have t_c47 := lv_neT (a := 296) c47 (by decide)
    have t_c48 := lv_neT (a := 297) c48 (by decide)
    have t_c49 := lv_neT (a := 298) c49 (by decide)
    have t_c50 := lv_neT (a := 299) c50 (by decide)
    have t_c51 := lv_neT (a := 300) c51 (by decide)
    have t_c52 := lv_neT (a := 301) c52 (by decide)
    have t_c55 := lv_neT (a := 302) c55 (by decide)
    have t_c58 := lv_neT (a := 303) c58 (by decide)
    have t_c61 := lv_neT (a := 304) c61 (by decide)
    have t_c62 := lv_neT (a := 305) c62 (by decide)
    have t_c63 := lv_neT (a := 306) c63 (by decide)
    have t_c64 := lv_neT (a := 307) c64 (by decide)
    have t_c65 := lv_neT (a := 308) c65 (by decide)
    have t_c66 := lv_neT (a := 309) c66 (by decide)
    have t_c69 := lv_neT (a := 310) c69 (by decide)
    have t_c72 := lv_neT (a := 311) c72 (by decide)
    have t_c75 := lv_neT (a := 312) c75 (by decide)
    have t_c78 := lv_neT (a := 313) c78 (by decide)
    have t_c81 := lv_neT (a := 314) c81 (by decide)
    have t_c84 := lv_neT (a := 315) c84 (by decide)
    have t_c85 := lv_neT (a := 316) c85 (by decide)
    have t_c86 := lv_neT (a := 317) c86 (by decide)
    have t_c87 := lv_neT (a := 318) c87 (by decide)
    have t_c90 := lv_neT (a := 319) c90 (by decide)
    have t_c93 := lv_neT (a := 320) c93 (by decide)
    have t_c96 := lv_neT (a := 321) c96 (by decide)
    have t_c97 := lv_neT (a := 322) c97 (by decide)
    have t_c98 := lv_neT (a := 323) c98 (by decide)
    have t_c101 := lv_neT (a := 324) c101 (by decide)
    have t_c102 := lv_neT (a := 325) c102 (by decide)
    have t_c103 := lv_neT (a := 326) c103 (by decide)
    have t_c104 := lv_neT (a := 327) c104 (by decide)
    have t_c105 := lv_neT (a := 328) c105 (by decide)
    have t_c106 := lv_neT (a := 329) c106 (by decide)
    have t_c109 := lv_neT (a := 330) c109 (by decide)
    have t_c112 := lv_neT (a := 331) c112 (by decide)
    have t_c115 := lv_neT (a := 332) c115 (by decide)
    refine lv_tableOut (tgt := 481) X.1 X.2.1 dX8_statement_43 (by omega) (by decide) ?_
    exact j481  T4 _ _ ls (lv_sub hl [1] rfl) h hle f_a0 hw
  · have hw := hw.2 c120
    refine lv_aload_n X.1 X.2.1 dX8_statement_12 rfl (lv_at hl 0 rfl) ?_
    refine kp_calli X h (kp_runV (rm := { frames := F, cells := 0, slots := 0, locals := L }) (mc := 0) (ms := 0) (rest := []) (Qc := fun A => kp_Qi D cy A S _) X h (hB S a0 _ h.2.2.2 f_a0 hw) f_a0 cv_8_120 ⟨by dsimp only; omega, by dsimp only; omega, rfl, rfl, by dsimp only; omega, by dsimp only; omega⟩ rfl hl.1 rfl (Nat.le_of_ble_eq_true rfl) dX8_statement_13) (fun y119 T118 hw l_T118 H locs h => ?_)
    have f_a0 := l_T118.is f_a0
    have f_b1 := l_T118.is f_b1
    have hle := hle.tr l_T118
    exact kp_reti X hr hlocks h hle rfl hw dX8_statement_16
theorem dX8_block_0 : decode cX8_block 0 = .ok (.aload_n 0, 1) := by decide +kernel
theorem dX8_block_1 : decode cX8_block 1 = .ok (.getfield 14, 3) := by decide +kernel
theorem dX8_block_4 : decode cX8_block 4 = .ok (.bipush 123, 2) := by decide +kernel
theorem dX8_block_6 : decode cX8_block 6 = .ok (.invokevirtual 140, 3) := by decide +kernel
theorem dX8_block_9 : decode cX8_block 9 = .ok (.aload_n 0, 1) := by decide +kernel
theorem dX8_block_10 : decode cX8_block 10 = .ok (.getfield 23, 3) := by decide +kernel
theorem dX8_block_13 : decode cX8_block 13 = .ok (.invokevirtual 143, 3) := by decide +kernel
theorem dX8_block_16 : decode cX8_block 16 = .ok (.istore_n 1, 1) := by decide +kernel
theorem dX8_block_17 : decode cX8_block 17 = .ok (.iconst 1, 1) := by decide +kernel
theorem dX8_block_18 : decode cX8_block 18 = .ok (.istore_n 2, 1) := by decide +kernel
theorem dX8_block_19 : decode cX8_block 19 = .ok (.iconst 0, 1) := by decide +kernel
theorem dX8_block_20 : decode cX8_block 20 = .ok (.istore_n 3, 1) := by decide +kernel
theorem dX8_block_21 : decode cX8_block 21 = .ok (.iload_n 3, 1) := by decide +kernel
theorem dX8_block_22 : decode cX8_block 22 = .ok (.sipush 3000, 3) := by decide +kernel
theorem dX8_block_25 : decode cX8_block 25 = .ok (.if_icmp .ge 51, 3) := by decide +kernel
theorem dX8_block_28 : decode cX8_block 28 = .ok (.aload_n 0, 1) := by decide +kernel
theorem dX8_block_29 : decode cX8_block 29 = .ok (.getfield 14, 3) := by decide +kernel
theorem dX8_block_32 : decode cX8_block 32 = .ok (.getfield 66, 3) := by decide +kernel
theorem dX8_block_35 : decode cX8_block 35 = .ok (.bipush 125, 2) := by decide +kernel
theorem dX8_block_37 : decode cX8_block 37 = .ok (.if_icmp .eq 39, 3) := by decide +kernel
theorem dX8_block_40 : decode cX8_block 40 = .ok (.aload_n 0, 1) := by decide +kernel
theorem dX8_block_41 : decode cX8_block 41 = .ok (.getfield 14, 3) := by decide +kernel
theorem dX8_block_44 : decode cX8_block 44 = .ok (.invokevirtual 96, 3) := by decide +kernel
theorem dX8_block_47 : decode cX8_block 47 = .ok (.ifCond .ne 29, 3) := by decide +kernel
theorem dX8_block_50 : decode cX8_block 50 = .ok (.aload_n 0, 1) := by decide +kernel
theorem dX8_block_51 : decode cX8_block 51 = .ok (.invokevirtual 148, 3) := by decide +kernel
theorem dX8_block_54 : decode cX8_block 54 = .ok (.istore 4, 2) := by decide +kernel
theorem dX8_block_56 : decode cX8_block 56 = .ok (.iload_n 2, 1) := by decide +kernel
theorem dX8_block_57 : decode cX8_block 57 = .ok (.iconst 1, 1) := by decide +kernel
theorem dX8_block_58 : decode cX8_block 58 = .ok (.iand, 1) := by decide +kernel
theorem dX8_block_59 : decode cX8_block 59 = .ok (.ifCond .eq 11, 3) := by decide +kernel
theorem dX8_block_62 : decode cX8_block 62 = .ok (.iload_n 2, 1) := by decide +kernel
theorem dX8_block_63 : decode cX8_block 63 = .ok (.bipush (-2), 2) := by decide +kernel
theorem dX8_block_65 : decode cX8_block 65 = .ok (.iand, 1) := by decide +kernel
theorem dX8_block_66 : decode cX8_block 66 = .ok (.iload 4, 2) := by decide +kernel
theorem dX8_block_68 : decode cX8_block 68 = .ok (.ior, 1) := by decide +kernel
theorem dX8_block_69 : decode cX8_block 69 = .ok (.istore_n 2, 1) := by decide +kernel
theorem dX8_block_70 : decode cX8_block 70 = .ok (.iinc 3 1, 3) := by decide +kernel
theorem dX8_block_73 : decode cX8_block 73 = .ok (.goto (-52), 3) := by decide +kernel
theorem dX8_block_76 : decode cX8_block 76 = .ok (.aload_n 0, 1) := by decide +kernel
theorem dX8_block_77 : decode cX8_block 77 = .ok (.getfield 23, 3) := by decide +kernel
theorem dX8_block_80 : decode cX8_block 80 = .ok (.iload_n 1, 1) := by decide +kernel
theorem dX8_block_81 : decode cX8_block 81 = .ok (.invokevirtual 151, 3) := by decide +kernel
theorem dX8_block_84 : decode cX8_block 84 = .ok (.aload_n 0, 1) := by decide +kernel
theorem dX8_block_85 : decode cX8_block 85 = .ok (.getfield 14, 3) := by decide +kernel
theorem dX8_block_88 : decode cX8_block 88 = .ok (.invokevirtual 154, 3) := by decide +kernel
theorem dX8_block_91 : decode cX8_block 91 = .ok (.aload_n 0, 1) := by decide +kernel
theorem dX8_block_92 : decode cX8_block 92 = .ok (.getfield 14, 3) := by decide +kernel
theorem dX8_block_95 : decode cX8_block 95 = .ok (.bipush 125, 2) := by decide +kernel
theorem dX8_block_97 : decode cX8_block 97 = .ok (.invokevirtual 90, 3) := by decide +kernel
theorem dX8_block_100 : decode cX8_block 100 = .ok (.iload_n 2, 1) := by decide +kernel
theorem dX8_block_101 : decode cX8_block 101 = .ok (.ireturn, 1) := by decide +kernel
def wX8_block_b76 (B : Nat → kp_S → (Int32 → kp_S → Prop) → Prop) (a0 : Nat) (xn1 : Int32) (xn2 : Int32)  (Sn : kp_S) (post : Int32 → kp_S → Prop) : Prop :=
  ∃ b1001 : Nat, kp_R Sn 1601 a0 = some b1001 ∧
  wX5_forgetBehind b1001 xn1 Sn (fun T1002 =>
  ∃ b1003 : Nat, kp_R T1002 1600 a0 = some b1003 ∧
  wX9_endNest b1003 T1002 (fun T1004 =>
  ∃ b1005 : Nat, kp_R T1004 1600 a0 = some b1005 ∧
  wX9_expect b1005 125 T1004 (fun T1006 =>
  post xn2 T1006)))
def wX8_block_b70 (B : Nat → kp_S → (Int32 → kp_S → Prop) → Prop) (a0 : Nat) (xn1 : Int32) (xn2 : Int32) (xn3 : Int32) (K21 : Int32 → Int32 → Int32 → kp_S → Prop) (Sn : kp_S) (post : Int32 → kp_S → Prop) : Prop :=
  ∀ y2001 : Int32, y2001 = xn3 + 1 →
  K21 xn1 xn2 y2001 Sn
def wX8_block_L21 (B : Nat → kp_S → (Int32 → kp_S → Prop) → Prop) (a0 : Nat)  (post : Int32 → kp_S → Prop) : Nat → Int32 → Int32 → Int32 → kp_S → Prop
  | 0, _, _, _, _ => False
  | n + 1, xn1, xn2, xn3, Sn =>
  ((3000 ≤ xn3 →
  wX8_block_b76 B a0 xn1 xn2  Sn post) ∧ (¬ 3000 ≤ xn3 →
  ∃ b3001 : Nat, kp_R Sn 1600 a0 = some b3001 ∧
  (((kp_I Sn 1805 b3001) = 125 →
  wX8_block_b76 B a0 xn1 xn2  Sn post) ∧ (¬ (kp_I Sn 1805 b3001) = 125 →
  wX9_isStopped b3001 Sn (fun y3003 T3002 =>
  ((¬ y3003 = 0 →
  wX8_block_b76 B a0 xn1 xn2  T3002 post) ∧ (y3003 = 0 →
  wX8_statement B a0 T3002 (fun y3005 T3004 =>
  (((xn2 &&& 1) = 0 →
  wX8_block_b70 B a0 xn1 xn2 xn3 (fun xn1_ xn2_ xn3_ S_ => wX8_block_L21 B a0  post n xn1_ xn2_ xn3_ S_) T3004 post) ∧ (¬ (xn2 &&& 1) = 0 →
  ∀ y3006 : Int32, y3006 = ((xn2 &&& (-2)) ||| y3005) →
  wX8_block_b70 B a0 xn1 y3006 xn3 (fun xn1_ xn2_ xn3_ S_ => wX8_block_L21 B a0  post n xn1_ xn2_ xn3_ S_) T3004 post))))))))))
def wX8_block (B : Nat → kp_S → (Int32 → kp_S → Prop) → Prop) (a0 : Nat) (S : kp_S) (post : Int32 → kp_S → Prop) : Prop :=
  ∃ b1 : Nat, kp_R S 1600 a0 = some b1 ∧
  wX9_expectNest b1 123 S (fun T2 =>
  ∃ b3 : Nat, kp_R T2 1601 a0 = some b3 ∧
  wX5_knownNow b3 T2 (fun y5 T4 =>
  ∃ n0 : Nat, wX8_block_L21 B a0  post n0 y5 1 0 T4))
set_option maxHeartbeats 4000000 in
set_option maxRecDepth 100000 in
theorem c_X8_block (l : Launch) (D : va_G) (cy : Nat → ClassId) (ad : (Nat → Nat) × (Nat → Nat)) (F L : Nat) (B : Nat → kp_S → (Int32 → kp_S → Prop) → Prop) (hB : ∀ (S : kp_S) (a0 : Nat) (post : Int32 → kp_S → Prop), kp_ok S → kp_is S a0 8 → B a0 S post → kp_M l yX8_block cX8_block 5 (some .int) { frames := F, cells := 0, slots := 0, locals := L } D cy ad S [.ref a0] 0 0 (fun A => kp_Qi D cy A S post)) (hF : 191 ≤ F) (hL : 4387 ≤ L) (S : kp_S) (a0 : Nat) (post : Int32 → kp_S → Prop) (hS : kp_ok S) (f_a0 : kp_is S a0 8) (hw : wX8_block B a0 S post) : kp_M l yX8_block cX8_block 5 (some .int) { frames := F + 7, cells := 0, slots := 0, locals := L + 172 } D cy ad S [.ref a0] 0 0 (fun A => kp_Qi D cy A S post) := by
  refine kp_start (own := RX8) (by decide) rfl (Nat.le_of_ble_eq_true rfl) hS ?_
  intro p e s m below meth c A ls X hr hlocks hname h hl
  have hle : kp_le S S := kp_le.rf
  have hl : lv_has ls 5 [(0, .ref a0)] := hl
  have j76 : ∀ (xn1 : Int32) (xn2 : Int32) (Sn : kp_S) (H : Heap) (locs : List Loc) (ls : Array Slot), lv_has ls 5 [(0, .ref a0), (1, .int xn1), (2, .int xn2)] → kp_H D cy A Sn s.heap H locs → kp_le S Sn → kp_is Sn a0 8 → wX8_block_b76 B a0 xn1 xn2  Sn post → W p l e { frames := F + 7, cells := 0, slots := 0, locals := L + 172 } s m ([.ref a0] : List Value).toArray below meth c H locs 0 0 (MQ below (kp_Qi D cy A S post) ([.ref a0] : List Value).toArray s 0 0 A) (F0 m 76 ls []) := by
    intro xn1 xn2 Sn H locs ls hl h hle f_a0 hw
    unfold wX8_block_b76 at hw
    refine lv_aload_n X.1 X.2.1 dX8_block_76 rfl (lv_at hl 0 rfl) ?_
    obtain ⟨b1001, e_b1001, hw⟩ := hw
    have f_b1001 := h.2.2.2.rf (c := 8) (k := 1) f_a0 (by decide) (by decide) e_b1001 (t := 5) rfl
    refine kp_get X h f_a0 ff_8_23.l (v := .ref b1001) (congrArg va_rf e_b1001) dX8_block_77 ?_
    refine lv_iload_n X.1 X.2.1 dX8_block_80 rfl (lv_at hl 1 rfl) ?_
    refine kp_callv X h (kp_runV (rm := { frames := 0, cells := 0, slots := 0, locals := 0 }) (mc := 0) (ms := 0) (rest := []) (Qc := fun A => kp_Qv D cy A Sn _) X h (c_X5_forgetBehind l D cy ad Sn b1001 xn1 _ h.2.2.2 f_b1001 hw) f_b1001 cv_8_151 ⟨by dsimp only; omega, by dsimp only; omega, rfl, rfl, by dsimp only; omega, by dsimp only; omega⟩ rfl hl.1 rfl (Nat.le_of_ble_eq_true rfl) dX8_block_81) (fun T1002 hw l_T1002 H locs h => ?_)
    have f_a0 := l_T1002.is f_a0
    have f_b1001 := l_T1002.is f_b1001
    have hle := hle.tr l_T1002
    refine lv_aload_n X.1 X.2.1 dX8_block_84 rfl (lv_at hl 0 rfl) ?_
    obtain ⟨b1003, e_b1003, hw⟩ := hw
    have f_b1003 := h.2.2.2.rf (c := 8) (k := 0) f_a0 (by decide) (by decide) e_b1003 (t := 9) rfl
    refine kp_get X h f_a0 ff_8_14.l (v := .ref b1003) (congrArg va_rf e_b1003) dX8_block_85 ?_
    refine kp_callv X h (kp_runV (rm := { frames := 0, cells := 0, slots := 0, locals := 0 }) (mc := 0) (ms := 0) (rest := []) (Qc := fun A => kp_Qv D cy A T1002 _) X h (c_X9_endNest l D cy ad T1002 b1003 _ h.2.2.2 f_b1003 hw) f_b1003 cv_8_154 ⟨by dsimp only; omega, by dsimp only; omega, rfl, rfl, by dsimp only; omega, by dsimp only; omega⟩ rfl hl.1 rfl (Nat.le_of_ble_eq_true rfl) dX8_block_88) (fun T1004 hw l_T1004 H locs h => ?_)
    have f_a0 := l_T1004.is f_a0
    have f_b1001 := l_T1004.is f_b1001
    have f_b1003 := l_T1004.is f_b1003
    have hle := hle.tr l_T1004
    refine lv_aload_n X.1 X.2.1 dX8_block_91 rfl (lv_at hl 0 rfl) ?_
    obtain ⟨b1005, e_b1005, hw⟩ := hw
    have f_b1005 := h.2.2.2.rf (c := 8) (k := 0) f_a0 (by decide) (by decide) e_b1005 (t := 9) rfl
    refine kp_get X h f_a0 ff_8_14.l (v := .ref b1005) (congrArg va_rf e_b1005) dX8_block_92 ?_
    refine lv_bipush (v := 125) X.1 X.2.1 dX8_block_95 (by decide) ?_
    refine kp_callv X h (kp_runV (rm := { frames := 6, cells := 0, slots := 0, locals := 134 }) (mc := 0) (ms := 0) (rest := []) (Qc := fun A => kp_Qv D cy A T1004 _) X h (c_X9_expect l D cy ad T1004 b1005 125 _ h.2.2.2 f_b1005 hw) f_b1005 cv_8_90 ⟨by dsimp only; omega, by dsimp only; omega, rfl, rfl, by dsimp only; omega, by dsimp only; omega⟩ rfl hl.1 rfl (Nat.le_of_ble_eq_true rfl) dX8_block_97) (fun T1006 hw l_T1006 H locs h => ?_)
    have f_a0 := l_T1006.is f_a0
    have f_b1001 := l_T1006.is f_b1001
    have f_b1003 := l_T1006.is f_b1003
    have f_b1005 := l_T1006.is f_b1005
    have hle := hle.tr l_T1006
    refine lv_iload_n X.1 X.2.1 dX8_block_100 rfl (lv_at hl 2 rfl) ?_
    exact kp_reti X hr hlocks h hle rfl hw dX8_block_101
  have L21 : ∀ n21 : Nat, ∀ (xn1 : Int32) (xn2 : Int32) (xn3 : Int32) (Sn : kp_S) (H : Heap) (locs : List Loc) (ls : Array Slot), lv_has ls 5 [(0, .ref a0), (1, .int xn1), (2, .int xn2), (3, .int xn3)] → kp_H D cy A Sn s.heap H locs → kp_le S Sn → kp_is Sn a0 8 → wX8_block_L21 B a0  post n21 xn1 xn2 xn3 Sn → W p l e { frames := F + 7, cells := 0, slots := 0, locals := L + 172 } s m ([.ref a0] : List Value).toArray below meth c H locs 0 0 (MQ below (kp_Qi D cy A S post) ([.ref a0] : List Value).toArray s 0 0 A) (F0 m 21 ls []) := by
    intro n21
    induction n21 with
    | zero => intro xn1 xn2 xn3 Sn H locs ls hl h hle f_a0 hw; exact hw.elim
    | succ n21 ih21 =>
      have j70 : ∀ (xn1 : Int32) (xn2 : Int32) (xn3 : Int32) (Sn : kp_S) (H : Heap) (locs : List Loc) (ls : Array Slot), lv_has ls 5 [(0, .ref a0), (1, .int xn1), (2, .int xn2), (3, .int xn3)] → kp_H D cy A Sn s.heap H locs → kp_le S Sn → kp_is Sn a0 8 → wX8_block_b70 B a0 xn1 xn2 xn3 (fun xn1_ xn2_ xn3_ S_ => wX8_block_L21 B a0  post n21 xn1_ xn2_ xn3_ S_) Sn post → W p l e { frames := F + 7, cells := 0, slots := 0, locals := L + 172 } s m ([.ref a0] : List Value).toArray below meth c H locs 0 0 (MQ below (kp_Qi D cy A S post) ([.ref a0] : List Value).toArray s 0 0 A) (F0 m 70 ls []) := by
        intro xn1 xn2 xn3 Sn H locs ls hl h hle f_a0 hw
        unfold wX8_block_b70 at hw
        obtain ⟨y2001, e_y2001⟩ : ∃ y : Int32, y = xn3 + 1 := ⟨_, rfl⟩
        have hw := hw y2001 e_y2001
        refine lv_iinc (v := y2001) (lv' := [(3, .int y2001), (0, .ref a0), (1, .int xn1), (2, .int xn2)]) X.1 X.2.1 dX8_block_70 hl (k := 3) rfl (by rw [e_y2001]; rfl) (by decide) rfl (fun ls hl => ?_)
        refine lv_goto (tgt := 21) X.1 X.2.1 dX8_block_73 (by decide) ?_
        exact ih21 xn1 xn2 y2001 Sn H locs ls (lv_sub hl [1, 2, 3, 0] rfl) h hle f_a0 hw
      intro xn1 xn2 xn3 Sn H locs ls hl h hle f_a0 hw
      unfold wX8_block_L21 at hw
      refine lv_iload_n X.1 X.2.1 dX8_block_21 rfl (lv_at hl 3 rfl) ?_
      refine lv_sipush (v := 3000) X.1 X.2.1 dX8_block_22 (by decide) ?_
      refine lv_icmp_ge (tgt := 76) X.1 X.2.1 dX8_block_25 (by decide) (fun c3010 => ?_) (fun c3010 => ?_)
      · have hw := hw.1 c3010
        exact j76 xn1 xn2 Sn H locs ls (lv_sub hl [0, 1, 2] rfl) h hle f_a0 hw
      · have hw := hw.2 c3010
        refine lv_aload_n X.1 X.2.1 dX8_block_28 rfl (lv_at hl 0 rfl) ?_
        obtain ⟨b3001, e_b3001, hw⟩ := hw
        have f_b3001 := h.2.2.2.rf (c := 8) (k := 0) f_a0 (by decide) (by decide) e_b3001 (t := 9) rfl
        refine kp_get X h f_a0 ff_8_14.l (v := .ref b3001) (congrArg va_rf e_b3001) dX8_block_29 ?_
        refine kp_get X h f_b3001 fp_8_66.l (v := .int (kp_I Sn 1805 b3001)) rfl dX8_block_32 ?_
        refine lv_bipush (v := 125) X.1 X.2.1 dX8_block_35 (by decide) ?_
        refine lv_icmp_eq (tgt := 76) X.1 X.2.1 dX8_block_37 (by decide) (fun c3009 => ?_) (fun c3009 => ?_)
        · have hw := hw.1 c3009
          exact j76 xn1 xn2 Sn H locs ls (lv_sub hl [0, 1, 2] rfl) h hle f_a0 hw
        · have hw := hw.2 c3009
          refine lv_aload_n X.1 X.2.1 dX8_block_40 rfl (lv_at hl 0 rfl) ?_
          refine kp_get X h f_a0 ff_8_14.l (v := .ref b3001) (congrArg va_rf e_b3001) dX8_block_41 ?_
          refine kp_calli X h (kp_runV (rm := { frames := 0, cells := 0, slots := 0, locals := 0 }) (mc := 0) (ms := 0) (rest := []) (Qc := fun A => kp_Qi D cy A Sn _) X h (c_X9_isStopped l D cy ad Sn b3001 _ h.2.2.2 f_b3001 hw) f_b3001 cv_8_96 ⟨by dsimp only; omega, by dsimp only; omega, rfl, rfl, by dsimp only; omega, by dsimp only; omega⟩ rfl hl.1 rfl (Nat.le_of_ble_eq_true rfl) dX8_block_44) (fun y3003 T3002 hw l_T3002 H locs h => ?_)
          have f_a0 := l_T3002.is f_a0
          have f_b3001 := l_T3002.is f_b3001
          have hle := hle.tr l_T3002
          refine lv_if_ne (tgt := 76) X.1 X.2.1 dX8_block_47 (by decide) (fun c3008 => ?_) (fun c3008 => ?_)
          · have hw := hw.1 c3008
            exact j76 xn1 xn2 T3002 H locs ls (lv_sub hl [0, 1, 2] rfl) h hle f_a0 hw
          · have hw := hw.2 c3008
            refine lv_aload_n X.1 X.2.1 dX8_block_50 rfl (lv_at hl 0 rfl) ?_
            refine kp_calli X h (kp_runV (rm := { frames := F + 6, cells := 0, slots := 0, locals := L + 151 }) (mc := 0) (ms := 0) (rest := []) (Qc := fun A => kp_Qi D cy A T3002 _) X h (c_X8_statement l D cy ad F L B hB hF hL T3002 a0 _ h.2.2.2 f_a0 hw) f_a0 cv_8_148 ⟨by dsimp only; omega, by dsimp only; omega, rfl, rfl, by dsimp only; omega, by dsimp only; omega⟩ rfl hl.1 rfl (Nat.le_of_ble_eq_true rfl) dX8_block_51) (fun y3005 T3004 hw l_T3004 H locs h => ?_)
            have f_a0 := l_T3004.is f_a0
            have f_b3001 := l_T3004.is f_b3001
            have hle := hle.tr l_T3004
            refine lv_istore (lv' := [(4, .int y3005), (0, .ref a0), (1, .int xn1), (2, .int xn2), (3, .int xn3)]) X.1 X.2.1 dX8_block_54 hl (by decide) rfl (fun ls hl => ?_)
            refine lv_iload_n X.1 X.2.1 dX8_block_56 rfl (lv_at hl 3 rfl) ?_
            refine lv_iconst (v := 1) X.1 X.2.1 dX8_block_57 (by decide) ?_
            refine lv_iand X.1 X.2.1 dX8_block_58 ?_
            refine lv_if_eq (tgt := 70) X.1 X.2.1 dX8_block_59 (by decide) (fun c3007 => ?_) (fun c3007 => ?_)
            · have hw := hw.1 c3007
              exact j70 xn1 xn2 xn3 T3004 H locs ls (lv_sub hl [1, 2, 3, 4] rfl) h hle f_a0 hw
            · have hw := hw.2 c3007
              refine lv_iload_n X.1 X.2.1 dX8_block_62 rfl (lv_at hl 3 rfl) ?_
              refine lv_bipush (v := (-2)) X.1 X.2.1 dX8_block_63 (by decide) ?_
              refine lv_iand X.1 X.2.1 dX8_block_65 ?_
              refine lv_iload X.1 X.2.1 dX8_block_66 (lv_at hl 0 rfl) ?_
              refine lv_ior X.1 X.2.1 dX8_block_68 ?_
              refine lv_topi (fun y3006 e_y3006 => ?_)
              have hw := hw y3006 e_y3006
              refine lv_istore_n (lv' := [(2, .int y3006), (4, .int y3005), (0, .ref a0), (1, .int xn1), (3, .int xn3)]) X.1 X.2.1 dX8_block_69 rfl hl (by decide) rfl (fun ls hl => ?_)
              exact j70 xn1 y3006 xn3 T3004 H locs ls (lv_sub hl [2, 3, 0, 4] rfl) h hle f_a0 hw
  unfold wX8_block at hw
  have h : kp_H D cy A S s.heap s.heap [] := h
  revert h
  intro h
  refine lv_aload_n X.1 X.2.1 dX8_block_0 rfl (lv_at hl 0 rfl) ?_
  obtain ⟨b1, e_b1, hw⟩ := hw
  have f_b1 := h.2.2.2.rf (c := 8) (k := 0) f_a0 (by decide) (by decide) e_b1 (t := 9) rfl
  refine kp_get X h f_a0 ff_8_14.l (v := .ref b1) (congrArg va_rf e_b1) dX8_block_1 ?_
  refine lv_bipush (v := 123) X.1 X.2.1 dX8_block_4 (by decide) ?_
  refine kp_callv X h (kp_runV (rm := { frames := 6, cells := 0, slots := 0, locals := 134 }) (mc := 0) (ms := 0) (rest := []) (Qc := fun A => kp_Qv D cy A S _) X h (c_X9_expectNest l D cy ad S b1 123 _ h.2.2.2 f_b1 hw) f_b1 cv_8_140 ⟨by dsimp only; omega, by dsimp only; omega, rfl, rfl, by dsimp only; omega, by dsimp only; omega⟩ rfl hl.1 rfl (Nat.le_of_ble_eq_true rfl) dX8_block_6) (fun T2 hw l_T2 H locs h => ?_)
  have f_a0 := l_T2.is f_a0
  have f_b1 := l_T2.is f_b1
  have hle := hle.tr l_T2
  refine lv_aload_n X.1 X.2.1 dX8_block_9 rfl (lv_at hl 0 rfl) ?_
  obtain ⟨b3, e_b3, hw⟩ := hw
  have f_b3 := h.2.2.2.rf (c := 8) (k := 1) f_a0 (by decide) (by decide) e_b3 (t := 5) rfl
  refine kp_get X h f_a0 ff_8_23.l (v := .ref b3) (congrArg va_rf e_b3) dX8_block_10 ?_
  refine kp_calli X h (kp_runV (rm := { frames := 0, cells := 0, slots := 0, locals := 0 }) (mc := 0) (ms := 0) (rest := []) (Qc := fun A => kp_Qi D cy A T2 _) X h (c_X5_knownNow l D cy ad T2 b3 _ h.2.2.2 f_b3 hw) f_b3 cv_8_143 ⟨by dsimp only; omega, by dsimp only; omega, rfl, rfl, by dsimp only; omega, by dsimp only; omega⟩ rfl hl.1 rfl (Nat.le_of_ble_eq_true rfl) dX8_block_13) (fun y5 T4 hw l_T4 H locs h => ?_)
  have f_a0 := l_T4.is f_a0
  have f_b1 := l_T4.is f_b1
  have f_b3 := l_T4.is f_b3
  have hle := hle.tr l_T4
  refine lv_istore_n (lv' := [(1, .int y5), (0, .ref a0)]) X.1 X.2.1 dX8_block_16 rfl hl (by decide) rfl (fun ls hl => ?_)
  refine lv_iconst (v := 1) X.1 X.2.1 dX8_block_17 (by decide) ?_
  refine lv_istore_n (lv' := [(2, .int 1), (1, .int y5), (0, .ref a0)]) X.1 X.2.1 dX8_block_18 rfl hl (by decide) rfl (fun ls hl => ?_)
  refine lv_iconst (v := 0) X.1 X.2.1 dX8_block_19 (by decide) ?_
  refine lv_istore_n (lv' := [(3, .int 0), (2, .int 1), (1, .int y5), (0, .ref a0)]) X.1 X.2.1 dX8_block_20 rfl hl (by decide) rfl (fun ls hl => ?_)
  obtain ⟨n0, hw⟩ := hw
  exact L21 n0 y5 1 0 T4 _ _ ls (lv_sub hl [3, 2, 1, 0] rfl) h hle f_a0 hw
def wx8_rec : Nat → Nat → Nat → kp_S → (Int32 → kp_S → Prop) → Prop
  | 0, _, _, _, _ => False
  | n + 1, _, a0, S, post => wX8_block (wx8_rec n 0) a0 S post
theorem wx8_all (l : Launch) (D : va_G) (cy : Nat → ClassId) (ad : (Nat → Nat) × (Nat → Nat)) : ∀ n : Nat, (∀ (S : kp_S) (a0 : Nat) (post : Int32 → kp_S → Prop), kp_ok S → kp_is S a0 8 → wx8_rec n 0 a0 S post → kp_M l yX8_block cX8_block 5 (some .int) { frames := 191 + 7 * n, cells := 0, slots := 0, locals := 4387 + 172 * n } D cy ad S [.ref a0] 0 0 (fun A => kp_Qi D cy A S post)) := by
  intro n
  induction n with
  | zero => exact fun S a0 post hS ha hw => kp_never hw
  | succ n ih =>
    exact fun S a0 post hS ha hw => by
      rw [show 191 + 7 * (n + 1) = 191 + 7 * n + 7 by omega, show 4387 + 172 * (n + 1) = 4387 + 172 * n + 172 by omega]
      exact c_X8_block l D cy ad (191 + 7 * n) (4387 + 172 * n) (wx8_rec n 0) ih (by omega) (by omega) S a0 post hS ha hw
def wX8_block_t (a0 : Nat) (S : kp_S) (post : Int32 → kp_S → Prop) : Prop := wX8_block (wx8_rec 16 0) a0 S post
theorem c_X8_block_t (l : Launch) (D : va_G) (cy : Nat → ClassId) (ad : (Nat → Nat) × (Nat → Nat)) (S : kp_S) (a0 : Nat) (post : Int32 → kp_S → Prop) (hS : kp_ok S) (f_a0 : kp_is S a0 8) (hw : wX8_block_t a0 S post) : kp_M l yX8_block cX8_block 5 (some .int) { frames := 310, cells := 0, slots := 0, locals := 7311 } D cy ad S [.ref a0] 0 0 (fun A => kp_Qi D cy A S post) :=
  c_X8_block l D cy ad (191 + 7 * 16) (4387 + 172 * 16) (wx8_rec 16 0) (wx8_all l D cy ad 16) (by omega) (by omega) S a0 post hS f_a0 hw
