theorem kl_12_455 : Cond.constantLong RX12 455 6 ∈ kp_tb := kp_mem 2313 (by decide +kernel) (by decide +kernel)
theorem cv_12_437 : kp_CV RX12 437 yX12_parameter cX12_parameter 2 none 0 12 := ⟨⟨kp_mem 2164 (by decide +kernel) (by decide +kernel), kp_mem 220 (by decide +kernel) (by decide +kernel), by decide +kernel⟩, kp_mem 2161 (by decide +kernel) (by decide +kernel), kp_mem 2163 (by decide +kernel) (by decide +kernel), kp_mem 122 (by decide +kernel) (by decide +kernel), by decide, TX12, 125, rfl⟩
theorem cv_12_415 : kp_CV RX12 415 yX12_dutyOf cX12_dutyOf 4 (some .int) 1 12 := ⟨⟨kp_mem 2148 (by decide +kernel) (by decide +kernel), kp_mem 220 (by decide +kernel) (by decide +kernel), by decide +kernel⟩, kp_mem 2145 (by decide +kernel) (by decide +kernel), kp_mem 2147 (by decide +kernel) (by decide +kernel), kp_mem 118 (by decide +kernel) (by decide +kernel), by decide, TX12, 125, rfl⟩
theorem cv_12_406 : kp_CV RX12 406 yX12_duty cX12_duty 5 none 0 12 := ⟨⟨kp_mem 2128 (by decide +kernel) (by decide +kernel), kp_mem 220 (by decide +kernel) (by decide +kernel), by decide +kernel⟩, kp_mem 2125 (by decide +kernel) (by decide +kernel), kp_mem 2127 (by decide +kernel) (by decide +kernel), kp_mem 113 (by decide +kernel) (by decide +kernel), by decide, TX12, 125, rfl⟩
theorem cv_12_580 : kp_CV RX12 580 yX12_keep cX12_keep 2 none 0 12 := ⟨⟨kp_mem 2317 (by decide +kernel) (by decide +kernel), kp_mem 220 (by decide +kernel) (by decide +kernel), by decide +kernel⟩, kp_mem 2314 (by decide +kernel) (by decide +kernel), kp_mem 2316 (by decide +kernel) (by decide +kernel), kp_mem 158 (by decide +kernel) (by decide +kernel), by decide, TX12, 125, rfl⟩
theorem cv_12_574 : kp_CV RX12 574 yX12_scan cX12_scan 4 none 0 12 := ⟨⟨kp_mem 2088 (by decide +kernel) (by decide +kernel), kp_mem 220 (by decide +kernel) (by decide +kernel), by decide +kernel⟩, kp_mem 2085 (by decide +kernel) (by decide +kernel), kp_mem 2087 (by decide +kernel) (by decide +kernel), kp_mem 105 (by decide +kernel) (by decide +kernel), by decide, TX12, 125, rfl⟩
theorem cv_12_577 : kp_CV RX12 577 yX12_text cX12_text 3 none 0 12 := ⟨⟨kp_mem 2124 (by decide +kernel) (by decide +kernel), kp_mem 220 (by decide +kernel) (by decide +kernel), by decide +kernel⟩, kp_mem 2121 (by decide +kernel) (by decide +kernel), kp_mem 2123 (by decide +kernel) (by decide +kernel), kp_mem 112 (by decide +kernel) (by decide +kernel), by decide, TX12, 125, rfl⟩
theorem dX12_duty_0 : decode cX12_duty 0 = .ok (.aload_n 0, 1) := by decide +kernel
theorem dX12_duty_1 : decode cX12_duty 1 = .ok (.bipush 10, 2) := by decide +kernel
theorem dX12_duty_3 : decode cX12_duty 3 = .ok (.invokevirtual 385, 3) := by decide +kernel
theorem dX12_duty_6 : decode cX12_duty 6 = .ok (.aload_n 0, 1) := by decide +kernel
theorem dX12_duty_7 : decode cX12_duty 7 = .ok (.getfield 376, 3) := by decide +kernel
theorem dX12_duty_10 : decode cX12_duty 10 = .ok (.istore_n 1, 1) := by decide +kernel
theorem dX12_duty_11 : decode cX12_duty 11 = .ok (.aload_n 0, 1) := by decide +kernel
theorem dX12_duty_12 : decode cX12_duty 12 = .ok (.iconst 2, 1) := by decide +kernel
theorem dX12_duty_13 : decode cX12_duty 13 = .ok (.invokevirtual 385, 3) := by decide +kernel
theorem dX12_duty_16 : decode cX12_duty 16 = .ok (.aload_n 0, 1) := by decide +kernel
theorem dX12_duty_17 : decode cX12_duty 17 = .ok (.invokevirtual 408, 3) := by decide +kernel
theorem dX12_duty_20 : decode cX12_duty 20 = .ok (.ifCond .ne 4, 3) := by decide +kernel
theorem dX12_duty_23 : decode cX12_duty 23 = .ok (.return_, 1) := by decide +kernel
theorem dX12_duty_24 : decode cX12_duty 24 = .ok (.aload_n 0, 1) := by decide +kernel
theorem dX12_duty_25 : decode cX12_duty 25 = .ok (.aload_n 0, 1) := by decide +kernel
theorem dX12_duty_26 : decode cX12_duty 26 = .ok (.getfield 37, 3) := by decide +kernel
theorem dX12_duty_29 : decode cX12_duty 29 = .ok (.iload_n 1, 1) := by decide +kernel
theorem dX12_duty_30 : decode cX12_duty 30 = .ok (.laload, 1) := by decide +kernel
theorem dX12_duty_31 : decode cX12_duty 31 = .ok (.invokevirtual 415, 3) := by decide +kernel
theorem dX12_duty_34 : decode cX12_duty 34 = .ok (.iconst (-1), 1) := by decide +kernel
theorem dX12_duty_35 : decode cX12_duty 35 = .ok (.if_icmp .eq 9, 3) := by decide +kernel
theorem dX12_duty_38 : decode cX12_duty 38 = .ok (.aload_n 0, 1) := by decide +kernel
theorem dX12_duty_39 : decode cX12_duty 39 = .ok (.iconst 4, 1) := by decide +kernel
theorem dX12_duty_40 : decode cX12_duty 40 = .ok (.iload_n 1, 1) := by decide +kernel
theorem dX12_duty_41 : decode cX12_duty 41 = .ok (.invokevirtual 419, 3) := by decide +kernel
theorem dX12_duty_44 : decode cX12_duty 44 = .ok (.aload_n 0, 1) := by decide +kernel
theorem dX12_duty_45 : decode cX12_duty 45 = .ok (.getfield 403, 3) := by decide +kernel
theorem dX12_duty_48 : decode cX12_duty 48 = .ok (.bipush 30, 2) := by decide +kernel
theorem dX12_duty_50 : decode cX12_duty 50 = .ok (.if_icmp .lt 10, 3) := by decide +kernel
theorem dX12_duty_53 : decode cX12_duty 53 = .ok (.aload_n 0, 1) := by decide +kernel
theorem dX12_duty_54 : decode cX12_duty 54 = .ok (.bipush 8, 2) := by decide +kernel
theorem dX12_duty_56 : decode cX12_duty 56 = .ok (.iload_n 1, 1) := by decide +kernel
theorem dX12_duty_57 : decode cX12_duty 57 = .ok (.invokevirtual 419, 3) := by decide +kernel
theorem dX12_duty_60 : decode cX12_duty 60 = .ok (.aload_n 0, 1) := by decide +kernel
theorem dX12_duty_61 : decode cX12_duty 61 = .ok (.getfield 403, 3) := by decide +kernel
theorem dX12_duty_64 : decode cX12_duty 64 = .ok (.istore_n 2, 1) := by decide +kernel
theorem dX12_duty_65 : decode cX12_duty 65 = .ok (.aload_n 0, 1) := by decide +kernel
theorem dX12_duty_66 : decode cX12_duty 66 = .ok (.getfield 70, 3) := by decide +kernel
theorem dX12_duty_69 : decode cX12_duty 69 = .ok (.iload_n 2, 1) := by decide +kernel
theorem dX12_duty_70 : decode cX12_duty 70 = .ok (.aload_n 0, 1) := by decide +kernel
theorem dX12_duty_71 : decode cX12_duty 71 = .ok (.getfield 37, 3) := by decide +kernel
theorem dX12_duty_74 : decode cX12_duty 74 = .ok (.iload_n 1, 1) := by decide +kernel
theorem dX12_duty_75 : decode cX12_duty 75 = .ok (.laload, 1) := by decide +kernel
theorem dX12_duty_76 : decode cX12_duty 76 = .ok (.lastore, 1) := by decide +kernel
theorem dX12_duty_77 : decode cX12_duty 77 = .ok (.aload_n 0, 1) := by decide +kernel
theorem dX12_duty_78 : decode cX12_duty 78 = .ok (.getfield 82, 3) := by decide +kernel
theorem dX12_duty_81 : decode cX12_duty 81 = .ok (.iload_n 2, 1) := by decide +kernel
theorem dX12_duty_82 : decode cX12_duty 82 = .ok (.aload_n 0, 1) := by decide +kernel
theorem dX12_duty_83 : decode cX12_duty 83 = .ok (.getfield 34, 3) := by decide +kernel
theorem dX12_duty_86 : decode cX12_duty 86 = .ok (.iload_n 1, 1) := by decide +kernel
theorem dX12_duty_87 : decode cX12_duty 87 = .ok (.iaload, 1) := by decide +kernel
theorem dX12_duty_88 : decode cX12_duty 88 = .ok (.iastore, 1) := by decide +kernel
theorem dX12_duty_89 : decode cX12_duty 89 = .ok (.aload_n 0, 1) := by decide +kernel
theorem dX12_duty_90 : decode cX12_duty 90 = .ok (.dup, 1) := by decide +kernel
theorem dX12_duty_91 : decode cX12_duty 91 = .ok (.getfield 403, 3) := by decide +kernel
theorem dX12_duty_94 : decode cX12_duty 94 = .ok (.iconst 1, 1) := by decide +kernel
theorem dX12_duty_95 : decode cX12_duty 95 = .ok (.iadd, 1) := by decide +kernel
theorem dX12_duty_96 : decode cX12_duty 96 = .ok (.putfield 403, 3) := by decide +kernel
theorem dX12_duty_99 : decode cX12_duty 99 = .ok (.aload_n 0, 1) := by decide +kernel
theorem dX12_duty_100 : decode cX12_duty 100 = .ok (.iconst 0, 1) := by decide +kernel
theorem dX12_duty_101 : decode cX12_duty 101 = .ok (.putfield 397, 3) := by decide +kernel
theorem dX12_duty_104 : decode cX12_duty 104 = .ok (.aload_n 0, 1) := by decide +kernel
theorem dX12_duty_105 : decode cX12_duty 105 = .ok (.iconst 0, 1) := by decide +kernel
theorem dX12_duty_106 : decode cX12_duty 106 = .ok (.putfield 400, 3) := by decide +kernel
theorem dX12_duty_109 : decode cX12_duty 109 = .ok (.aload_n 0, 1) := by decide +kernel
theorem dX12_duty_110 : decode cX12_duty 110 = .ok (.iconst 0, 1) := by decide +kernel
theorem dX12_duty_111 : decode cX12_duty 111 = .ok (.putfield 423, 3) := by decide +kernel
theorem dX12_duty_114 : decode cX12_duty 114 = .ok (.aload_n 0, 1) := by decide +kernel
theorem dX12_duty_115 : decode cX12_duty 115 = .ok (.iconst 0, 1) := by decide +kernel
theorem dX12_duty_116 : decode cX12_duty 116 = .ok (.putfield 426, 3) := by decide +kernel
theorem dX12_duty_119 : decode cX12_duty 119 = .ok (.aload_n 0, 1) := by decide +kernel
theorem dX12_duty_120 : decode cX12_duty 120 = .ok (.bipush 40, 2) := by decide +kernel
theorem dX12_duty_122 : decode cX12_duty 122 = .ok (.invokevirtual 429, 3) := by decide +kernel
theorem dX12_duty_125 : decode cX12_duty 125 = .ok (.aload_n 0, 1) := by decide +kernel
theorem dX12_duty_126 : decode cX12_duty 126 = .ok (.bipush 41, 2) := by decide +kernel
theorem dX12_duty_128 : decode cX12_duty 128 = .ok (.invokevirtual 433, 3) := by decide +kernel
theorem dX12_duty_131 : decode cX12_duty 131 = .ok (.ifCond .ne 17, 3) := by decide +kernel
theorem dX12_duty_134 : decode cX12_duty 134 = .ok (.aload_n 0, 1) := by decide +kernel
theorem dX12_duty_135 : decode cX12_duty 135 = .ok (.invokevirtual 437, 3) := by decide +kernel
theorem dX12_duty_138 : decode cX12_duty 138 = .ok (.aload_n 0, 1) := by decide +kernel
theorem dX12_duty_139 : decode cX12_duty 139 = .ok (.sipush 144, 3) := by decide +kernel
theorem dX12_duty_142 : decode cX12_duty 142 = .ok (.invokevirtual 440, 3) := by decide +kernel
theorem dX12_duty_145 : decode cX12_duty 145 = .ok (.ifCond .ne (-11), 3) := by decide +kernel
theorem dX12_duty_148 : decode cX12_duty 148 = .ok (.aload_n 0, 1) := by decide +kernel
theorem dX12_duty_149 : decode cX12_duty 149 = .ok (.bipush 41, 2) := by decide +kernel
theorem dX12_duty_151 : decode cX12_duty 151 = .ok (.invokevirtual 429, 3) := by decide +kernel
theorem dX12_duty_154 : decode cX12_duty 154 = .ok (.aload_n 0, 1) := by decide +kernel
theorem dX12_duty_155 : decode cX12_duty 155 = .ok (.getfield 73, 3) := by decide +kernel
theorem dX12_duty_158 : decode cX12_duty 158 = .ok (.iload_n 2, 1) := by decide +kernel
theorem dX12_duty_159 : decode cX12_duty 159 = .ok (.aload_n 0, 1) := by decide +kernel
theorem dX12_duty_160 : decode cX12_duty 160 = .ok (.getfield 400, 3) := by decide +kernel
theorem dX12_duty_163 : decode cX12_duty 163 = .ok (.iastore, 1) := by decide +kernel
theorem dX12_duty_164 : decode cX12_duty 164 = .ok (.aload_n 0, 1) := by decide +kernel
theorem dX12_duty_165 : decode cX12_duty 165 = .ok (.getfield 79, 3) := by decide +kernel
theorem dX12_duty_168 : decode cX12_duty 168 = .ok (.iload_n 2, 1) := by decide +kernel
theorem dX12_duty_169 : decode cX12_duty 169 = .ok (.aload_n 0, 1) := by decide +kernel
theorem dX12_duty_170 : decode cX12_duty 170 = .ok (.getfield 370, 3) := by decide +kernel
theorem dX12_duty_173 : decode cX12_duty 173 = .ok (.iastore, 1) := by decide +kernel
theorem dX12_duty_174 : decode cX12_duty 174 = .ok (.aload_n 0, 1) := by decide +kernel
theorem dX12_duty_175 : decode cX12_duty 175 = .ok (.lconst 0, 1) := by decide +kernel
theorem dX12_duty_176 : decode cX12_duty 176 = .ok (.putfield 443, 3) := by decide +kernel
theorem dX12_duty_179 : decode cX12_duty 179 = .ok (.aload_n 0, 1) := by decide +kernel
theorem dX12_duty_180 : decode cX12_duty 180 = .ok (.invokevirtual 447, 3) := by decide +kernel
theorem dX12_duty_183 : decode cX12_duty 183 = .ok (.lstore_n 3, 1) := by decide +kernel
theorem dX12_duty_184 : decode cX12_duty 184 = .ok (.aload_n 0, 1) := by decide +kernel
theorem dX12_duty_185 : decode cX12_duty 185 = .ok (.bipush 48, 2) := by decide +kernel
theorem dX12_duty_187 : decode cX12_duty 187 = .ok (.iconst 0, 1) := by decide +kernel
theorem dX12_duty_188 : decode cX12_duty 188 = .ok (.iconst 0, 1) := by decide +kernel
theorem dX12_duty_189 : decode cX12_duty 189 = .ok (.invokevirtual 451, 3) := by decide +kernel
theorem dX12_duty_192 : decode cX12_duty 192 = .ok (.pop, 1) := by decide +kernel
theorem dX12_duty_193 : decode cX12_duty 193 = .ok (.aload_n 0, 1) := by decide +kernel
theorem dX12_duty_194 : decode cX12_duty 194 = .ok (.getfield 76, 3) := by decide +kernel
theorem dX12_duty_197 : decode cX12_duty 197 = .ok (.iload_n 2, 1) := by decide +kernel
theorem dX12_duty_198 : decode cX12_duty 198 = .ok (.aload_n 0, 1) := by decide +kernel
theorem dX12_duty_199 : decode cX12_duty 199 = .ok (.getfield 400, 3) := by decide +kernel
theorem dX12_duty_202 : decode cX12_duty 202 = .ok (.iastore, 1) := by decide +kernel
theorem dX12_duty_203 : decode cX12_duty 203 = .ok (.aload_n 0, 1) := by decide +kernel
theorem dX12_duty_204 : decode cX12_duty 204 = .ok (.getfield 85, 3) := by decide +kernel
theorem dX12_duty_207 : decode cX12_duty 207 = .ok (.iload_n 2, 1) := by decide +kernel
theorem dX12_duty_208 : decode cX12_duty 208 = .ok (.lload_n 3, 1) := by decide +kernel
theorem dX12_duty_209 : decode cX12_duty 209 = .ok (.aload_n 0, 1) := by decide +kernel
theorem dX12_duty_210 : decode cX12_duty 210 = .ok (.getfield 443, 3) := by decide +kernel
theorem dX12_duty_213 : decode cX12_duty 213 = .ok (.ldc2_w 455, 3) := by decide +kernel
theorem dX12_duty_216 : decode cX12_duty 216 = .ok (.land, 1) := by decide +kernel
theorem dX12_duty_217 : decode cX12_duty 217 = .ok (.lor, 1) := by decide +kernel
theorem dX12_duty_218 : decode cX12_duty 218 = .ok (.l2i, 1) := by decide +kernel
theorem dX12_duty_219 : decode cX12_duty 219 = .ok (.iastore, 1) := by decide +kernel
theorem dX12_duty_220 : decode cX12_duty 220 = .ok (.return_, 1) := by decide +kernel
def wX12_duty_b148 (a0 : Nat) (xn2 : Int32)  (Sn : kp_S) (post : kp_S → Prop) : Prop :=
  wX12_takeSign a0 41 Sn (fun T1001 =>
  ∃ b1002 : Nat, kp_R T1001 2428 a0 = some b1002 ∧
  vp_in xn2 (kp_N T1001 b1002) ∧ ∀ T1003 : kp_S, T1003 = kp_sA T1001 b1002 (upd (kp_A T1001 b1002) (xn2.toNatClampNeg) (kp_I T1001 2442 a0)) →
  ∃ b1004 : Nat, kp_R T1003 2430 a0 = some b1004 ∧
  vp_in xn2 (kp_N T1003 b1004) ∧ ∀ T1005 : kp_S, T1005 = kp_sA T1003 b1004 (upd (kp_A T1003 b1004) (xn2.toNatClampNeg) (kp_I T1003 2417 a0)) →
  ∀ T1006 : kp_S, T1006 = kp_sJ T1005 2426 a0 0 →
  wX12_block_t a0 T1006 (fun z1008 T1007 =>
  wX12_emit a0 48 0 0 T1007 (fun y1010 T1009 =>
  ∃ b1011 : Nat, kp_R T1009 2429 a0 = some b1011 ∧
  vp_in xn2 (kp_N T1009 b1011) ∧ ∀ T1012 : kp_S, T1012 = kp_sA T1009 b1011 (upd (kp_A T1009 b1011) (xn2.toNatClampNeg) (kp_I T1009 2442 a0)) →
  ∃ b1013 : Nat, kp_R T1012 2432 a0 = some b1013 ∧
  vp_in xn2 (kp_N T1012 b1013) ∧ ∀ T1014 : kp_S, T1014 = kp_sA T1012 b1013 (upd (kp_A T1012 b1013) (xn2.toNatClampNeg) ((z1008 ||| ((kp_J T1012 2426 a0) &&& 6) : Int64).toInt32)) →
  post T1014)))
def wX12_duty_L134 (a0 : Nat)  (post : kp_S → Prop) : Nat → Int32 → kp_S → Prop
  | 0, _, _ => False
  | n + 1, xn2, Sn =>
  wX12_parameter a0 Sn (fun T2001 =>
  wX12_skip a0 144 T2001 (fun y2003 T2002 =>
  ((¬ y2003 = 0 →
  wX12_duty_L134 a0  post n xn2 T2002) ∧ (y2003 = 0 →
  wX12_duty_b148 a0 xn2  T2002 post))))
def wX12_duty_b60 (a0 : Nat) (xn1 : Int32)  (Sn : kp_S) (post : kp_S → Prop) : Prop :=
  ∀ y3001 : Int32, y3001 = (kp_I Sn 2433 a0) →
  ∃ b3002 : Nat, kp_R Sn 2427 a0 = some b3002 ∧
  ∃ b3003 : Nat, kp_R Sn 2406 a0 = some b3003 ∧
  vp_in xn1 (kp_N Sn b3003) ∧
  vp_in y3001 (kp_N Sn b3002) ∧ ∀ T3004 : kp_S, T3004 = kp_sB Sn b3002 (vp_updL (kp_B Sn b3002) (y3001.toNatClampNeg) (kp_B Sn b3003 xn1.toNatClampNeg)) →
  ∃ b3005 : Nat, kp_R T3004 2431 a0 = some b3005 ∧
  ∃ b3006 : Nat, kp_R T3004 2405 a0 = some b3006 ∧
  vp_in xn1 (kp_N T3004 b3006) ∧
  vp_in y3001 (kp_N T3004 b3005) ∧ ∀ T3007 : kp_S, T3007 = kp_sA T3004 b3005 (upd (kp_A T3004 b3005) (y3001.toNatClampNeg) (kp_A T3004 b3006 xn1.toNatClampNeg)) →
  ∀ T3008 : kp_S, T3008 = kp_sI T3007 2433 a0 ((kp_I T3007 2433 a0) + 1) →
  ∀ T3009 : kp_S, T3009 = kp_sI T3008 2441 a0 0 →
  ∀ T3010 : kp_S, T3010 = kp_sI T3009 2442 a0 0 →
  ∀ T3011 : kp_S, T3011 = kp_sI T3010 2445 a0 0 →
  ∀ T3012 : kp_S, T3012 = kp_sI T3011 2446 a0 0 →
  wX12_takeSign a0 40 T3012 (fun T3013 =>
  wX12_isSign a0 41 T3013 (fun y3015 T3014 =>
  ((¬ y3015 = 0 →
  wX12_duty_b148 a0 y3001  T3014 post) ∧ (y3015 = 0 →
  ∃ n0 : Nat, wX12_duty_L134 a0  post n0 y3001 T3014))))
def wX12_duty_b44 (a0 : Nat) (xn1 : Int32)  (Sn : kp_S) (post : kp_S → Prop) : Prop :=
  (((kp_I Sn 2433 a0) < 30 →
  wX12_duty_b60 a0 xn1  Sn post) ∧ (¬ (kp_I Sn 2433 a0) < 30 →
  wX12_bad a0 8 xn1 Sn (fun T4001 =>
  wX12_duty_b60 a0 xn1  T4001 post)))
def wX12_duty (a0 : Nat) (S : kp_S) (post : kp_S → Prop) : Prop :=
  wX12_take a0 10 S (fun T1 =>
  ∀ y2 : Int32, y2 = (kp_I T1 2410 a0) →
  wX12_take a0 2 T1 (fun T3 =>
  wX12_fine a0 T3 (fun y5 T4 =>
  ((¬ y5 = 0 →
  ∃ b6 : Nat, kp_R T4 2406 a0 = some b6 ∧
  vp_in y2 (kp_N T4 b6) ∧
  wX12_dutyOf a0 (kp_B T4 b6 y2.toNatClampNeg) T4 (fun y8 T7 =>
  ((y8 = (-1) →
  wX12_duty_b44 a0 y2  T7 post) ∧ (¬ y8 = (-1) →
  wX12_bad a0 4 y2 T7 (fun T9 =>
  wX12_duty_b44 a0 y2  T9 post))))) ∧ (y5 = 0 →
  post T4)))))
set_option maxHeartbeats 4000000 in
set_option maxRecDepth 100000 in
theorem c_X12_duty (l : Launch) (D : va_G) (cy : Nat → ClassId) (ad : (Nat → Nat) × (Nat → Nat)) (S : kp_S) (a0 : Nat) (post : kp_S → Prop) (hS : kp_ok S) (f_a0 : kp_is S a0 12) (hw : wX12_duty a0 S post) : kp_M l yX12_duty cX12_duty 5 none { frames := 237, cells := 0, slots := 0, locals := 5412 } D cy ad S [.ref a0] 0 0 (fun A => kp_Qv D cy A S post) := by
  refine kp_start (own := RX12) (by decide) rfl (Nat.le_of_ble_eq_true rfl) hS ?_
  intro p e s m below meth c A ls X hr hlocks hname h hl
  have hle : kp_le S S := kp_le.rf
  have hl : lv_has ls 5 [(0, .ref a0)] := hl
  have j148 : ∀ (xn2 : Int32) (Sn : kp_S) (H : Heap) (locs : List Loc) (ls : Array Slot), lv_has ls 5 [(0, .ref a0), (2, .int xn2)] → kp_H D cy A Sn s.heap H locs → kp_le S Sn → kp_is Sn a0 12 → wX12_duty_b148 a0 xn2  Sn post → W p l e { frames := 237, cells := 0, slots := 0, locals := 5412 } s m ([.ref a0] : List Value).toArray below meth c H locs 0 0 (MQ below (kp_Qv D cy A S post) ([.ref a0] : List Value).toArray s 0 0 A) (F0 m 148 ls []) := by
    intro xn2 Sn H locs ls hl h hle f_a0 hw
    unfold wX12_duty_b148 at hw
    refine lv_aload_n X.1 X.2.1 dX12_duty_148 rfl (lv_at hl 0 rfl) ?_
    refine lv_bipush (v := 41) X.1 X.2.1 dX12_duty_149 (by decide) ?_
    refine kp_callv X h (kp_runV (rm := { frames := 2, cells := 0, slots := 0, locals := 42 }) (mc := 0) (ms := 0) (rest := []) (Qc := fun A => kp_Qv D cy A Sn _) X h (c_X12_takeSign l D cy ad Sn a0 41 _ h.2.2.2 f_a0 hw) f_a0 cv_12_429 ⟨by decide, by decide, rfl, rfl, by decide, by decide⟩ rfl hl.1 rfl (Nat.le_of_ble_eq_true rfl) dX12_duty_151) (fun T1001 hw l_T1001 H locs h => ?_)
    have f_a0 := l_T1001.is f_a0
    have hle := hle.tr l_T1001
    refine lv_aload_n X.1 X.2.1 dX12_duty_154 rfl (lv_at hl 0 rfl) ?_
    obtain ⟨b1002, e_b1002, hw⟩ := hw
    have f_b1002 := h.2.2.2.rf (c := 12) (k := 28) f_a0 (by decide) (by decide) e_b1002 (t := 14) rfl
    refine kp_get X h f_a0 ff_12_73.l (v := .ref b1002) (congrArg va_rf e_b1002) dX12_duty_155 ?_
    refine lv_iload_n X.1 X.2.1 dX12_duty_158 rfl (lv_at hl 1 rfl) ?_
    refine lv_aload_n X.1 X.2.1 dX12_duty_159 rfl (lv_at hl 0 rfl) ?_
    refine kp_get X h f_a0 fp_12_400.l (v := .int (kp_I T1001 2442 a0)) rfl dX12_duty_160 ?_
    obtain ⟨hi, hw⟩ := hw
    refine kp_iast X h f_b1002 hi dX12_duty_163 (fun T1003 e_T1003 l_T1003 H locs h => ?_)
    have hw := hw T1003 e_T1003
    have f_a0 := l_T1003.is f_a0
    have f_b1002 := l_T1003.is f_b1002
    have hle := hle.tr l_T1003
    have e_b1002 : kp_R T1003 2428 a0 = some b1002 := by rw [e_T1003]; exact e_b1002
    refine lv_aload_n X.1 X.2.1 dX12_duty_164 rfl (lv_at hl 0 rfl) ?_
    obtain ⟨b1004, e_b1004, hw⟩ := hw
    have f_b1004 := h.2.2.2.rf (c := 12) (k := 30) f_a0 (by decide) (by decide) e_b1004 (t := 14) rfl
    refine kp_get X h f_a0 ff_12_79.l (v := .ref b1004) (congrArg va_rf e_b1004) dX12_duty_165 ?_
    refine lv_iload_n X.1 X.2.1 dX12_duty_168 rfl (lv_at hl 1 rfl) ?_
    refine lv_aload_n X.1 X.2.1 dX12_duty_169 rfl (lv_at hl 0 rfl) ?_
    refine kp_get X h f_a0 fp_12_370.l (v := .int (kp_I T1003 2417 a0)) rfl dX12_duty_170 ?_
    obtain ⟨hi, hw⟩ := hw
    refine kp_iast X h f_b1004 hi dX12_duty_173 (fun T1005 e_T1005 l_T1005 H locs h => ?_)
    have hw := hw T1005 e_T1005
    have f_a0 := l_T1005.is f_a0
    have f_b1002 := l_T1005.is f_b1002
    have f_b1004 := l_T1005.is f_b1004
    have hle := hle.tr l_T1005
    have e_b1002 : kp_R T1005 2428 a0 = some b1002 := by rw [e_T1005]; exact e_b1002
    have e_b1004 : kp_R T1005 2430 a0 = some b1004 := by rw [e_T1005]; exact e_b1004
    refine lv_aload_n X.1 X.2.1 dX12_duty_174 rfl (lv_at hl 0 rfl) ?_
    refine lv_lconst (v := 0) X.1 X.2.1 dX12_duty_175 (by decide) ?_
    refine kp_putJ X h f_a0 fp_12_443 rfl ⟨rfl, rfl⟩ dX12_duty_176 (fun T1006 e_T1006 l_T1006 H locs h => ?_)
    have hw := hw T1006 e_T1006
    have f_a0 := l_T1006.is f_a0
    have f_b1002 := l_T1006.is f_b1002
    have f_b1004 := l_T1006.is f_b1004
    have hle := hle.tr l_T1006
    have e_b1002 : kp_R T1006 2428 a0 = some b1002 := by rw [e_T1006]; exact e_b1002
    have e_b1004 : kp_R T1006 2430 a0 = some b1004 := by rw [e_T1006]; exact e_b1004
    refine lv_aload_n X.1 X.2.1 dX12_duty_179 rfl (lv_at hl 0 rfl) ?_
    refine kp_calll X h (kp_runV (rm := { frames := 236, cells := 0, slots := 0, locals := 5387 }) (mc := 0) (ms := 0) (rest := []) (Qc := fun A => kp_Ql D cy A T1006 _) X h (c_X12_block_t l D cy ad T1006 a0 _ h.2.2.2 f_a0 hw) f_a0 cv_12_447 ⟨by decide, by decide, rfl, rfl, by decide, by decide⟩ rfl hl.1 rfl (Nat.le_of_ble_eq_true rfl) dX12_duty_180) (fun z1008 T1007 hw l_T1007 H locs h => ?_)
    have f_a0 := l_T1007.is f_a0
    have f_b1002 := l_T1007.is f_b1002
    have f_b1004 := l_T1007.is f_b1004
    have hle := hle.tr l_T1007
    refine lv_lstore_n (lv' := [(3, .long z1008), (0, .ref a0), (2, .int xn2)]) X.1 X.2.1 dX12_duty_183 rfl hl (by decide) rfl (fun ls hl => ?_)
    refine lv_aload_n X.1 X.2.1 dX12_duty_184 rfl (lv_at hl 1 rfl) ?_
    refine lv_bipush (v := 48) X.1 X.2.1 dX12_duty_185 (by decide) ?_
    refine lv_iconst (v := 0) X.1 X.2.1 dX12_duty_187 (by decide) ?_
    refine lv_iconst (v := 0) X.1 X.2.1 dX12_duty_188 (by decide) ?_
    refine kp_calli X h (kp_runV (rm := { frames := 0, cells := 0, slots := 0, locals := 0 }) (mc := 0) (ms := 0) (rest := []) (Qc := fun A => kp_Qi D cy A T1007 _) X h (c_X12_emit l D cy ad T1007 a0 48 0 0 _ h.2.2.2 f_a0 hw) f_a0 cv_12_451 ⟨by decide, by decide, rfl, rfl, by decide, by decide⟩ rfl hl.1 rfl (Nat.le_of_ble_eq_true rfl) dX12_duty_189) (fun y1010 T1009 hw l_T1009 H locs h => ?_)
    have f_a0 := l_T1009.is f_a0
    have f_b1002 := l_T1009.is f_b1002
    have f_b1004 := l_T1009.is f_b1004
    have hle := hle.tr l_T1009
    refine lv_pop X.1 X.2.1 dX12_duty_192 rfl ?_
    refine lv_aload_n X.1 X.2.1 dX12_duty_193 rfl (lv_at hl 1 rfl) ?_
    obtain ⟨b1011, e_b1011, hw⟩ := hw
    have f_b1011 := h.2.2.2.rf (c := 12) (k := 29) f_a0 (by decide) (by decide) e_b1011 (t := 14) rfl
    refine kp_get X h f_a0 ff_12_76.l (v := .ref b1011) (congrArg va_rf e_b1011) dX12_duty_194 ?_
    refine lv_iload_n X.1 X.2.1 dX12_duty_197 rfl (lv_at hl 2 rfl) ?_
    refine lv_aload_n X.1 X.2.1 dX12_duty_198 rfl (lv_at hl 1 rfl) ?_
    refine kp_get X h f_a0 fp_12_400.l (v := .int (kp_I T1009 2442 a0)) rfl dX12_duty_199 ?_
    obtain ⟨hi, hw⟩ := hw
    refine kp_iast X h f_b1011 hi dX12_duty_202 (fun T1012 e_T1012 l_T1012 H locs h => ?_)
    have hw := hw T1012 e_T1012
    have f_a0 := l_T1012.is f_a0
    have f_b1002 := l_T1012.is f_b1002
    have f_b1004 := l_T1012.is f_b1004
    have f_b1011 := l_T1012.is f_b1011
    have hle := hle.tr l_T1012
    have e_b1011 : kp_R T1012 2429 a0 = some b1011 := by rw [e_T1012]; exact e_b1011
    refine lv_aload_n X.1 X.2.1 dX12_duty_203 rfl (lv_at hl 1 rfl) ?_
    obtain ⟨b1013, e_b1013, hw⟩ := hw
    have f_b1013 := h.2.2.2.rf (c := 12) (k := 32) f_a0 (by decide) (by decide) e_b1013 (t := 14) rfl
    refine kp_get X h f_a0 ff_12_85.l (v := .ref b1013) (congrArg va_rf e_b1013) dX12_duty_204 ?_
    refine lv_iload_n X.1 X.2.1 dX12_duty_207 rfl (lv_at hl 2 rfl) ?_
    refine lv_lload_n X.1 X.2.1 dX12_duty_208 rfl (lv_at hl 0 rfl) ?_
    refine lv_aload_n X.1 X.2.1 dX12_duty_209 rfl (lv_at hl 1 rfl) ?_
    refine kp_get X h f_a0 fp_12_443.l (v := .long (kp_J T1012 2426 a0)) rfl dX12_duty_210 ?_
    refine lv_ldc2 (v := 6) X.1 X.2.1 X.2.2.2.1 (X.2.2.2.2.1 _ kl_12_455) dX12_duty_213 ?_
    refine lv_land X.1 X.2.1 dX12_duty_216 ?_
    refine lv_lor X.1 X.2.1 dX12_duty_217 ?_
    refine lv_l2i X.1 X.2.1 dX12_duty_218 rfl ?_
    obtain ⟨hi, hw⟩ := hw
    refine kp_iast X h f_b1013 hi dX12_duty_219 (fun T1014 e_T1014 l_T1014 H locs h => ?_)
    have hw := hw T1014 e_T1014
    have f_a0 := l_T1014.is f_a0
    have f_b1002 := l_T1014.is f_b1002
    have f_b1004 := l_T1014.is f_b1004
    have f_b1011 := l_T1014.is f_b1011
    have f_b1013 := l_T1014.is f_b1013
    have hle := hle.tr l_T1014
    have e_b1011 : kp_R T1014 2429 a0 = some b1011 := by rw [e_T1014]; exact e_b1011
    have e_b1013 : kp_R T1014 2432 a0 = some b1013 := by rw [e_T1014]; exact e_b1013
    exact kp_retv X hr hlocks h hle hw dX12_duty_220
  have L134 : ∀ n134 : Nat, ∀ (xn2 : Int32) (Sn : kp_S) (H : Heap) (locs : List Loc) (ls : Array Slot), lv_has ls 5 [(0, .ref a0), (2, .int xn2)] → kp_H D cy A Sn s.heap H locs → kp_le S Sn → kp_is Sn a0 12 → wX12_duty_L134 a0  post n134 xn2 Sn → W p l e { frames := 237, cells := 0, slots := 0, locals := 5412 } s m ([.ref a0] : List Value).toArray below meth c H locs 0 0 (MQ below (kp_Qv D cy A S post) ([.ref a0] : List Value).toArray s 0 0 A) (F0 m 134 ls []) := by
    intro n134
    induction n134 with
    | zero => intro xn2 Sn H locs ls hl h hle f_a0 hw; exact hw.elim
    | succ n134 ih134 =>
      intro xn2 Sn H locs ls hl h hle f_a0 hw
      unfold wX12_duty_L134 at hw
      refine lv_aload_n X.1 X.2.1 dX12_duty_134 rfl (lv_at hl 0 rfl) ?_
      refine kp_callv X h (kp_runV (rm := { frames := 2, cells := 0, slots := 0, locals := 42 }) (mc := 0) (ms := 0) (rest := []) (Qc := fun A => kp_Qv D cy A Sn _) X h (c_X12_parameter l D cy ad Sn a0 _ h.2.2.2 f_a0 hw) f_a0 cv_12_437 ⟨by decide, by decide, rfl, rfl, by decide, by decide⟩ rfl hl.1 rfl (Nat.le_of_ble_eq_true rfl) dX12_duty_135) (fun T2001 hw l_T2001 H locs h => ?_)
      have f_a0 := l_T2001.is f_a0
      have hle := hle.tr l_T2001
      refine lv_aload_n X.1 X.2.1 dX12_duty_138 rfl (lv_at hl 0 rfl) ?_
      refine lv_sipush (v := 144) X.1 X.2.1 dX12_duty_139 (by decide) ?_
      refine kp_calli X h (kp_runV (rm := { frames := 1, cells := 0, slots := 0, locals := 21 }) (mc := 0) (ms := 0) (rest := []) (Qc := fun A => kp_Qi D cy A T2001 _) X h (c_X12_skip l D cy ad T2001 a0 144 _ h.2.2.2 f_a0 hw) f_a0 cv_12_440 ⟨by decide, by decide, rfl, rfl, by decide, by decide⟩ rfl hl.1 rfl (Nat.le_of_ble_eq_true rfl) dX12_duty_142) (fun y2003 T2002 hw l_T2002 H locs h => ?_)
      have f_a0 := l_T2002.is f_a0
      have hle := hle.tr l_T2002
      refine lv_if_ne (tgt := 134) X.1 X.2.1 dX12_duty_145 (by decide) (fun c2004 => ?_) (fun c2004 => ?_)
      · have hw := hw.1 c2004
        exact ih134 xn2 T2002 H locs ls (lv_sub hl [0, 1] rfl) h hle f_a0 hw
      · have hw := hw.2 c2004
        exact j148 xn2 T2002 H locs ls (lv_sub hl [0, 1] rfl) h hle f_a0 hw
  have j60 : ∀ (xn1 : Int32) (Sn : kp_S) (H : Heap) (locs : List Loc) (ls : Array Slot), lv_has ls 5 [(0, .ref a0), (1, .int xn1)] → kp_H D cy A Sn s.heap H locs → kp_le S Sn → kp_is Sn a0 12 → wX12_duty_b60 a0 xn1  Sn post → W p l e { frames := 237, cells := 0, slots := 0, locals := 5412 } s m ([.ref a0] : List Value).toArray below meth c H locs 0 0 (MQ below (kp_Qv D cy A S post) ([.ref a0] : List Value).toArray s 0 0 A) (F0 m 60 ls []) := by
    intro xn1 Sn H locs ls hl h hle f_a0 hw
    unfold wX12_duty_b60 at hw
    refine lv_aload_n X.1 X.2.1 dX12_duty_60 rfl (lv_at hl 0 rfl) ?_
    refine kp_get X h f_a0 fp_12_403.l (v := .int (kp_I Sn 2433 a0)) rfl dX12_duty_61 ?_
    refine lv_topi (fun y3001 e_y3001 => ?_)
    have hw := hw y3001 e_y3001
    refine lv_istore_n (lv' := [(2, .int y3001), (0, .ref a0), (1, .int xn1)]) X.1 X.2.1 dX12_duty_64 rfl hl (by decide) rfl (fun ls hl => ?_)
    refine lv_aload_n X.1 X.2.1 dX12_duty_65 rfl (lv_at hl 1 rfl) ?_
    obtain ⟨b3002, e_b3002, hw⟩ := hw
    have f_b3002 := h.2.2.2.rf (c := 12) (k := 27) f_a0 (by decide) (by decide) e_b3002 (t := 15) rfl
    refine kp_get X h f_a0 ff_12_70.l (v := .ref b3002) (congrArg va_rf e_b3002) dX12_duty_66 ?_
    refine lv_iload_n X.1 X.2.1 dX12_duty_69 rfl (lv_at hl 0 rfl) ?_
    refine lv_aload_n X.1 X.2.1 dX12_duty_70 rfl (lv_at hl 1 rfl) ?_
    obtain ⟨b3003, e_b3003, hw⟩ := hw
    have f_b3003 := h.2.2.2.rf (c := 12) (k := 6) f_a0 (by decide) (by decide) e_b3003 (t := 15) rfl
    refine kp_get X h f_a0 ff_12_37.l (v := .ref b3003) (congrArg va_rf e_b3003) dX12_duty_71 ?_
    refine lv_iload_n X.1 X.2.1 dX12_duty_74 rfl (lv_at hl 2 rfl) ?_
    obtain ⟨hi, hw⟩ := hw
    refine kp_lald X h f_b3003 hi dX12_duty_75 ?_
    obtain ⟨hi, hw⟩ := hw
    refine kp_last X h f_b3002 hi dX12_duty_76 (fun T3004 e_T3004 l_T3004 H locs h => ?_)
    have hw := hw T3004 e_T3004
    have f_a0 := l_T3004.is f_a0
    have f_b3002 := l_T3004.is f_b3002
    have f_b3003 := l_T3004.is f_b3003
    have hle := hle.tr l_T3004
    have e_b3002 : kp_R T3004 2427 a0 = some b3002 := by rw [e_T3004]; exact e_b3002
    have e_b3003 : kp_R T3004 2406 a0 = some b3003 := by rw [e_T3004]; exact e_b3003
    refine lv_aload_n X.1 X.2.1 dX12_duty_77 rfl (lv_at hl 1 rfl) ?_
    obtain ⟨b3005, e_b3005, hw⟩ := hw
    have f_b3005 := h.2.2.2.rf (c := 12) (k := 31) f_a0 (by decide) (by decide) e_b3005 (t := 14) rfl
    refine kp_get X h f_a0 ff_12_82.l (v := .ref b3005) (congrArg va_rf e_b3005) dX12_duty_78 ?_
    refine lv_iload_n X.1 X.2.1 dX12_duty_81 rfl (lv_at hl 0 rfl) ?_
    refine lv_aload_n X.1 X.2.1 dX12_duty_82 rfl (lv_at hl 1 rfl) ?_
    obtain ⟨b3006, e_b3006, hw⟩ := hw
    have f_b3006 := h.2.2.2.rf (c := 12) (k := 5) f_a0 (by decide) (by decide) e_b3006 (t := 14) rfl
    refine kp_get X h f_a0 ff_12_34.l (v := .ref b3006) (congrArg va_rf e_b3006) dX12_duty_83 ?_
    refine lv_iload_n X.1 X.2.1 dX12_duty_86 rfl (lv_at hl 2 rfl) ?_
    obtain ⟨hi, hw⟩ := hw
    refine kp_iald X h f_b3006 hi dX12_duty_87 ?_
    obtain ⟨hi, hw⟩ := hw
    refine kp_iast X h f_b3005 hi dX12_duty_88 (fun T3007 e_T3007 l_T3007 H locs h => ?_)
    have hw := hw T3007 e_T3007
    have f_a0 := l_T3007.is f_a0
    have f_b3002 := l_T3007.is f_b3002
    have f_b3003 := l_T3007.is f_b3003
    have f_b3005 := l_T3007.is f_b3005
    have f_b3006 := l_T3007.is f_b3006
    have hle := hle.tr l_T3007
    have e_b3002 : kp_R T3007 2427 a0 = some b3002 := by rw [e_T3007]; exact e_b3002
    have e_b3003 : kp_R T3007 2406 a0 = some b3003 := by rw [e_T3007]; exact e_b3003
    have e_b3005 : kp_R T3007 2431 a0 = some b3005 := by rw [e_T3007]; exact e_b3005
    have e_b3006 : kp_R T3007 2405 a0 = some b3006 := by rw [e_T3007]; exact e_b3006
    refine lv_aload_n X.1 X.2.1 dX12_duty_89 rfl (lv_at hl 1 rfl) ?_
    refine lv_dup X.1 X.2.1 dX12_duty_90 rfl ?_
    refine kp_get X h f_a0 fp_12_403.l (v := .int (kp_I T3007 2433 a0)) rfl dX12_duty_91 ?_
    refine lv_iconst (v := 1) X.1 X.2.1 dX12_duty_94 (by decide) ?_
    refine lv_iadd X.1 X.2.1 dX12_duty_95 ?_
    refine kp_putI X h f_a0 fp_12_403 rfl ⟨rfl, rfl⟩ dX12_duty_96 (fun T3008 e_T3008 l_T3008 H locs h => ?_)
    have hw := hw T3008 e_T3008
    have f_a0 := l_T3008.is f_a0
    have f_b3002 := l_T3008.is f_b3002
    have f_b3003 := l_T3008.is f_b3003
    have f_b3005 := l_T3008.is f_b3005
    have f_b3006 := l_T3008.is f_b3006
    have hle := hle.tr l_T3008
    have e_b3002 : kp_R T3008 2427 a0 = some b3002 := by rw [e_T3008]; exact e_b3002
    have e_b3003 : kp_R T3008 2406 a0 = some b3003 := by rw [e_T3008]; exact e_b3003
    have e_b3005 : kp_R T3008 2431 a0 = some b3005 := by rw [e_T3008]; exact e_b3005
    have e_b3006 : kp_R T3008 2405 a0 = some b3006 := by rw [e_T3008]; exact e_b3006
    refine lv_aload_n X.1 X.2.1 dX12_duty_99 rfl (lv_at hl 1 rfl) ?_
    refine lv_iconst (v := 0) X.1 X.2.1 dX12_duty_100 (by decide) ?_
    refine kp_putI X h f_a0 fp_12_397 rfl ⟨rfl, rfl⟩ dX12_duty_101 (fun T3009 e_T3009 l_T3009 H locs h => ?_)
    have hw := hw T3009 e_T3009
    have f_a0 := l_T3009.is f_a0
    have f_b3002 := l_T3009.is f_b3002
    have f_b3003 := l_T3009.is f_b3003
    have f_b3005 := l_T3009.is f_b3005
    have f_b3006 := l_T3009.is f_b3006
    have hle := hle.tr l_T3009
    have e_b3002 : kp_R T3009 2427 a0 = some b3002 := by rw [e_T3009]; exact e_b3002
    have e_b3003 : kp_R T3009 2406 a0 = some b3003 := by rw [e_T3009]; exact e_b3003
    have e_b3005 : kp_R T3009 2431 a0 = some b3005 := by rw [e_T3009]; exact e_b3005
    have e_b3006 : kp_R T3009 2405 a0 = some b3006 := by rw [e_T3009]; exact e_b3006
    refine lv_aload_n X.1 X.2.1 dX12_duty_104 rfl (lv_at hl 1 rfl) ?_
    refine lv_iconst (v := 0) X.1 X.2.1 dX12_duty_105 (by decide) ?_
    refine kp_putI X h f_a0 fp_12_400 rfl ⟨rfl, rfl⟩ dX12_duty_106 (fun T3010 e_T3010 l_T3010 H locs h => ?_)
    have hw := hw T3010 e_T3010
    have f_a0 := l_T3010.is f_a0
    have f_b3002 := l_T3010.is f_b3002
    have f_b3003 := l_T3010.is f_b3003
    have f_b3005 := l_T3010.is f_b3005
    have f_b3006 := l_T3010.is f_b3006
    have hle := hle.tr l_T3010
    have e_b3002 : kp_R T3010 2427 a0 = some b3002 := by rw [e_T3010]; exact e_b3002
    have e_b3003 : kp_R T3010 2406 a0 = some b3003 := by rw [e_T3010]; exact e_b3003
    have e_b3005 : kp_R T3010 2431 a0 = some b3005 := by rw [e_T3010]; exact e_b3005
    have e_b3006 : kp_R T3010 2405 a0 = some b3006 := by rw [e_T3010]; exact e_b3006
    refine lv_aload_n X.1 X.2.1 dX12_duty_109 rfl (lv_at hl 1 rfl) ?_
    refine lv_iconst (v := 0) X.1 X.2.1 dX12_duty_110 (by decide) ?_
    refine kp_putI X h f_a0 fp_12_423 rfl ⟨rfl, rfl⟩ dX12_duty_111 (fun T3011 e_T3011 l_T3011 H locs h => ?_)
    have hw := hw T3011 e_T3011
    have f_a0 := l_T3011.is f_a0
    have f_b3002 := l_T3011.is f_b3002
    have f_b3003 := l_T3011.is f_b3003
    have f_b3005 := l_T3011.is f_b3005
    have f_b3006 := l_T3011.is f_b3006
    have hle := hle.tr l_T3011
    have e_b3002 : kp_R T3011 2427 a0 = some b3002 := by rw [e_T3011]; exact e_b3002
    have e_b3003 : kp_R T3011 2406 a0 = some b3003 := by rw [e_T3011]; exact e_b3003
    have e_b3005 : kp_R T3011 2431 a0 = some b3005 := by rw [e_T3011]; exact e_b3005
    have e_b3006 : kp_R T3011 2405 a0 = some b3006 := by rw [e_T3011]; exact e_b3006
    refine lv_aload_n X.1 X.2.1 dX12_duty_114 rfl (lv_at hl 1 rfl) ?_
    refine lv_iconst (v := 0) X.1 X.2.1 dX12_duty_115 (by decide) ?_
    refine kp_putI X h f_a0 fp_12_426 rfl ⟨rfl, rfl⟩ dX12_duty_116 (fun T3012 e_T3012 l_T3012 H locs h => ?_)
    have hw := hw T3012 e_T3012
    have f_a0 := l_T3012.is f_a0
    have f_b3002 := l_T3012.is f_b3002
    have f_b3003 := l_T3012.is f_b3003
    have f_b3005 := l_T3012.is f_b3005
    have f_b3006 := l_T3012.is f_b3006
    have hle := hle.tr l_T3012
    have e_b3002 : kp_R T3012 2427 a0 = some b3002 := by rw [e_T3012]; exact e_b3002
    have e_b3003 : kp_R T3012 2406 a0 = some b3003 := by rw [e_T3012]; exact e_b3003
    have e_b3005 : kp_R T3012 2431 a0 = some b3005 := by rw [e_T3012]; exact e_b3005
    have e_b3006 : kp_R T3012 2405 a0 = some b3006 := by rw [e_T3012]; exact e_b3006
    refine lv_aload_n X.1 X.2.1 dX12_duty_119 rfl (lv_at hl 1 rfl) ?_
    refine lv_bipush (v := 40) X.1 X.2.1 dX12_duty_120 (by decide) ?_
    refine kp_callv X h (kp_runV (rm := { frames := 2, cells := 0, slots := 0, locals := 42 }) (mc := 0) (ms := 0) (rest := []) (Qc := fun A => kp_Qv D cy A T3012 _) X h (c_X12_takeSign l D cy ad T3012 a0 40 _ h.2.2.2 f_a0 hw) f_a0 cv_12_429 ⟨by decide, by decide, rfl, rfl, by decide, by decide⟩ rfl hl.1 rfl (Nat.le_of_ble_eq_true rfl) dX12_duty_122) (fun T3013 hw l_T3013 H locs h => ?_)
    have f_a0 := l_T3013.is f_a0
    have f_b3002 := l_T3013.is f_b3002
    have f_b3003 := l_T3013.is f_b3003
    have f_b3005 := l_T3013.is f_b3005
    have f_b3006 := l_T3013.is f_b3006
    have hle := hle.tr l_T3013
    refine lv_aload_n X.1 X.2.1 dX12_duty_125 rfl (lv_at hl 1 rfl) ?_
    refine lv_bipush (v := 41) X.1 X.2.1 dX12_duty_126 (by decide) ?_
    refine kp_calli X h (kp_runV (rm := { frames := 1, cells := 0, slots := 0, locals := 21 }) (mc := 0) (ms := 0) (rest := []) (Qc := fun A => kp_Qi D cy A T3013 _) X h (c_X12_isSign l D cy ad T3013 a0 41 _ h.2.2.2 f_a0 hw) f_a0 cv_12_433 ⟨by decide, by decide, rfl, rfl, by decide, by decide⟩ rfl hl.1 rfl (Nat.le_of_ble_eq_true rfl) dX12_duty_128) (fun y3015 T3014 hw l_T3014 H locs h => ?_)
    have f_a0 := l_T3014.is f_a0
    have f_b3002 := l_T3014.is f_b3002
    have f_b3003 := l_T3014.is f_b3003
    have f_b3005 := l_T3014.is f_b3005
    have f_b3006 := l_T3014.is f_b3006
    have hle := hle.tr l_T3014
    refine lv_if_ne (tgt := 148) X.1 X.2.1 dX12_duty_131 (by decide) (fun c3016 => ?_) (fun c3016 => ?_)
    · have hw := hw.1 c3016
      exact j148 y3001 T3014 H locs ls (lv_sub hl [1, 0] rfl) h hle f_a0 hw
    · have hw := hw.2 c3016
      obtain ⟨n0, hw⟩ := hw
      exact L134 n0 y3001 T3014 H locs ls (lv_sub hl [1, 0] rfl) h hle f_a0 hw
  have j44 : ∀ (xn1 : Int32) (Sn : kp_S) (H : Heap) (locs : List Loc) (ls : Array Slot), lv_has ls 5 [(0, .ref a0), (1, .int xn1)] → kp_H D cy A Sn s.heap H locs → kp_le S Sn → kp_is Sn a0 12 → wX12_duty_b44 a0 xn1  Sn post → W p l e { frames := 237, cells := 0, slots := 0, locals := 5412 } s m ([.ref a0] : List Value).toArray below meth c H locs 0 0 (MQ below (kp_Qv D cy A S post) ([.ref a0] : List Value).toArray s 0 0 A) (F0 m 44 ls []) := by
    intro xn1 Sn H locs ls hl h hle f_a0 hw
    unfold wX12_duty_b44 at hw
    refine lv_aload_n X.1 X.2.1 dX12_duty_44 rfl (lv_at hl 0 rfl) ?_
    refine kp_get X h f_a0 fp_12_403.l (v := .int (kp_I Sn 2433 a0)) rfl dX12_duty_45 ?_
    refine lv_bipush (v := 30) X.1 X.2.1 dX12_duty_48 (by decide) ?_
    refine lv_icmp_lt (tgt := 60) X.1 X.2.1 dX12_duty_50 (by decide) (fun c4002 => ?_) (fun c4002 => ?_)
    · have hw := hw.1 c4002
      exact j60 xn1 Sn H locs ls (lv_sub hl [0, 1] rfl) h hle f_a0 hw
    · have hw := hw.2 c4002
      refine lv_aload_n X.1 X.2.1 dX12_duty_53 rfl (lv_at hl 0 rfl) ?_
      refine lv_bipush (v := 8) X.1 X.2.1 dX12_duty_54 (by decide) ?_
      refine lv_iload_n X.1 X.2.1 dX12_duty_56 rfl (lv_at hl 1 rfl) ?_
      refine kp_callv X h (kp_runV (rm := { frames := 0, cells := 0, slots := 0, locals := 0 }) (mc := 0) (ms := 0) (rest := []) (Qc := fun A => kp_Qv D cy A Sn _) X h (c_X12_bad l D cy ad Sn a0 8 xn1 _ h.2.2.2 f_a0 hw) f_a0 cv_12_419 ⟨by decide, by decide, rfl, rfl, by decide, by decide⟩ rfl hl.1 rfl (Nat.le_of_ble_eq_true rfl) dX12_duty_57) (fun T4001 hw l_T4001 H locs h => ?_)
      have f_a0 := l_T4001.is f_a0
      have hle := hle.tr l_T4001
      exact j60 xn1 T4001 H locs ls (lv_sub hl [0, 1] rfl) h hle f_a0 hw
  unfold wX12_duty at hw
  have h : kp_H D cy A S s.heap s.heap [] := h
  revert h
  intro h
  refine lv_aload_n X.1 X.2.1 dX12_duty_0 rfl (lv_at hl 0 rfl) ?_
  refine lv_bipush (v := 10) X.1 X.2.1 dX12_duty_1 (by decide) ?_
  refine kp_callv X h (kp_runV (rm := { frames := 1, cells := 0, slots := 0, locals := 21 }) (mc := 0) (ms := 0) (rest := []) (Qc := fun A => kp_Qv D cy A S _) X h (c_X12_take l D cy ad S a0 10 _ h.2.2.2 f_a0 hw) f_a0 cv_12_385 ⟨by decide, by decide, rfl, rfl, by decide, by decide⟩ rfl hl.1 rfl (Nat.le_of_ble_eq_true rfl) dX12_duty_3) (fun T1 hw l_T1 H locs h => ?_)
  have f_a0 := l_T1.is f_a0
  have hle := hle.tr l_T1
  refine lv_aload_n X.1 X.2.1 dX12_duty_6 rfl (lv_at hl 0 rfl) ?_
  refine kp_get X h f_a0 fp_12_376.l (v := .int (kp_I T1 2410 a0)) rfl dX12_duty_7 ?_
  refine lv_topi (fun y2 e_y2 => ?_)
  have hw := hw y2 e_y2
  refine lv_istore_n (lv' := [(1, .int y2), (0, .ref a0)]) X.1 X.2.1 dX12_duty_10 rfl hl (by decide) rfl (fun ls hl => ?_)
  refine lv_aload_n X.1 X.2.1 dX12_duty_11 rfl (lv_at hl 1 rfl) ?_
  refine lv_iconst (v := 2) X.1 X.2.1 dX12_duty_12 (by decide) ?_
  refine kp_callv X h (kp_runV (rm := { frames := 1, cells := 0, slots := 0, locals := 21 }) (mc := 0) (ms := 0) (rest := []) (Qc := fun A => kp_Qv D cy A T1 _) X h (c_X12_take l D cy ad T1 a0 2 _ h.2.2.2 f_a0 hw) f_a0 cv_12_385 ⟨by decide, by decide, rfl, rfl, by decide, by decide⟩ rfl hl.1 rfl (Nat.le_of_ble_eq_true rfl) dX12_duty_13) (fun T3 hw l_T3 H locs h => ?_)
  have f_a0 := l_T3.is f_a0
  have hle := hle.tr l_T3
  refine lv_aload_n X.1 X.2.1 dX12_duty_16 rfl (lv_at hl 1 rfl) ?_
  refine kp_calli X h (kp_runV (rm := { frames := 0, cells := 0, slots := 0, locals := 0 }) (mc := 0) (ms := 0) (rest := []) (Qc := fun A => kp_Qi D cy A T3 _) X h (c_X12_fine l D cy ad T3 a0 _ h.2.2.2 f_a0 hw) f_a0 cv_12_408 ⟨by decide, by decide, rfl, rfl, by decide, by decide⟩ rfl hl.1 rfl (Nat.le_of_ble_eq_true rfl) dX12_duty_17) (fun y5 T4 hw l_T4 H locs h => ?_)
  have f_a0 := l_T4.is f_a0
  have hle := hle.tr l_T4
  refine lv_if_ne (tgt := 24) X.1 X.2.1 dX12_duty_20 (by decide) (fun c11 => ?_) (fun c11 => ?_)
  · have hw := hw.1 c11
    refine lv_aload_n X.1 X.2.1 dX12_duty_24 rfl (lv_at hl 1 rfl) ?_
    refine lv_aload_n X.1 X.2.1 dX12_duty_25 rfl (lv_at hl 1 rfl) ?_
    obtain ⟨b6, e_b6, hw⟩ := hw
    have f_b6 := h.2.2.2.rf (c := 12) (k := 6) f_a0 (by decide) (by decide) e_b6 (t := 15) rfl
    refine kp_get X h f_a0 ff_12_37.l (v := .ref b6) (congrArg va_rf e_b6) dX12_duty_26 ?_
    refine lv_iload_n X.1 X.2.1 dX12_duty_29 rfl (lv_at hl 0 rfl) ?_
    obtain ⟨hi, hw⟩ := hw
    refine kp_lald X h f_b6 hi dX12_duty_30 ?_
    refine kp_calli X h (kp_runV (rm := { frames := 0, cells := 0, slots := 0, locals := 0 }) (mc := 0) (ms := 0) (rest := []) (Qc := fun A => kp_Qi D cy A T4 _) X h (c_X12_dutyOf l D cy ad T4 a0 (kp_B T4 b6 y2.toNatClampNeg) _ h.2.2.2 f_a0 hw) f_a0 cv_12_415 ⟨by decide, by decide, rfl, rfl, by decide, by decide⟩ rfl hl.1 rfl (Nat.le_of_ble_eq_true rfl) dX12_duty_31) (fun y8 T7 hw l_T7 H locs h => ?_)
    have f_a0 := l_T7.is f_a0
    have f_b6 := l_T7.is f_b6
    have hle := hle.tr l_T7
    refine lv_iconst (v := (-1)) X.1 X.2.1 dX12_duty_34 (by decide) ?_
    refine lv_icmp_eq (tgt := 44) X.1 X.2.1 dX12_duty_35 (by decide) (fun c10 => ?_) (fun c10 => ?_)
    · have hw := hw.1 c10
      exact j44 y2 T7 _ _ ls (lv_sub hl [1, 0] rfl) h hle f_a0 hw
    · have hw := hw.2 c10
      refine lv_aload_n X.1 X.2.1 dX12_duty_38 rfl (lv_at hl 1 rfl) ?_
      refine lv_iconst (v := 4) X.1 X.2.1 dX12_duty_39 (by decide) ?_
      refine lv_iload_n X.1 X.2.1 dX12_duty_40 rfl (lv_at hl 0 rfl) ?_
      refine kp_callv X h (kp_runV (rm := { frames := 0, cells := 0, slots := 0, locals := 0 }) (mc := 0) (ms := 0) (rest := []) (Qc := fun A => kp_Qv D cy A T7 _) X h (c_X12_bad l D cy ad T7 a0 4 y2 _ h.2.2.2 f_a0 hw) f_a0 cv_12_419 ⟨by decide, by decide, rfl, rfl, by decide, by decide⟩ rfl hl.1 rfl (Nat.le_of_ble_eq_true rfl) dX12_duty_41) (fun T9 hw l_T9 H locs h => ?_)
      have f_a0 := l_T9.is f_a0
      have f_b6 := l_T9.is f_b6
      have hle := hle.tr l_T9
      exact j44 y2 T9 _ _ ls (lv_sub hl [1, 0] rfl) h hle f_a0 hw
  · have hw := hw.2 c11
    exact kp_retv X hr hlocks h hle hw dX12_duty_23
theorem dX12_text_0 : decode cX12_text 0 = .ok (.aload_n 0, 1) := by decide +kernel
theorem dX12_text_1 : decode cX12_text 1 = .ok (.invokevirtual 406, 3) := by decide +kernel
theorem dX12_text_4 : decode cX12_text 4 = .ok (.aload_n 0, 1) := by decide +kernel
theorem dX12_text_5 : decode cX12_text 5 = .ok (.invokevirtual 408, 3) := by decide +kernel
theorem dX12_text_8 : decode cX12_text 8 = .ok (.ifCond .eq 15, 3) := by decide +kernel
theorem dX12_text_11 : decode cX12_text 11 = .ok (.aload_n 0, 1) := by decide +kernel
theorem dX12_text_12 : decode cX12_text 12 = .ok (.getfield 31, 3) := by decide +kernel
theorem dX12_text_15 : decode cX12_text 15 = .ok (.aload_n 0, 1) := by decide +kernel
theorem dX12_text_16 : decode cX12_text 16 = .ok (.getfield 376, 3) := by decide +kernel
theorem dX12_text_19 : decode cX12_text 19 = .ok (.iaload, 1) := by decide +kernel
theorem dX12_text_20 : decode cX12_text 20 = .ok (.ifCond .ne (-20), 3) := by decide +kernel
theorem dX12_text_23 : decode cX12_text 23 = .ok (.iconst 0, 1) := by decide +kernel
theorem dX12_text_24 : decode cX12_text 24 = .ok (.istore_n 1, 1) := by decide +kernel
theorem dX12_text_25 : decode cX12_text 25 = .ok (.iload_n 1, 1) := by decide +kernel
theorem dX12_text_26 : decode cX12_text 26 = .ok (.aload_n 0, 1) := by decide +kernel
theorem dX12_text_27 : decode cX12_text 27 = .ok (.getfield 412, 3) := by decide +kernel
theorem dX12_text_30 : decode cX12_text 30 = .ok (.if_icmp .ge 85, 3) := by decide +kernel
theorem dX12_text_33 : decode cX12_text 33 = .ok (.aload_n 0, 1) := by decide +kernel
theorem dX12_text_34 : decode cX12_text 34 = .ok (.invokevirtual 408, 3) := by decide +kernel
theorem dX12_text_37 : decode cX12_text 37 = .ok (.ifCond .eq 78, 3) := by decide +kernel
theorem dX12_text_40 : decode cX12_text 40 = .ok (.aload_n 0, 1) := by decide +kernel
theorem dX12_text_41 : decode cX12_text 41 = .ok (.aload_n 0, 1) := by decide +kernel
theorem dX12_text_42 : decode cX12_text 42 = .ok (.getfield 88, 3) := by decide +kernel
theorem dX12_text_45 : decode cX12_text 45 = .ok (.iload_n 1, 1) := by decide +kernel
theorem dX12_text_46 : decode cX12_text 46 = .ok (.laload, 1) := by decide +kernel
theorem dX12_text_47 : decode cX12_text 47 = .ok (.invokevirtual 415, 3) := by decide +kernel
theorem dX12_text_50 : decode cX12_text 50 = .ok (.istore_n 2, 1) := by decide +kernel
theorem dX12_text_51 : decode cX12_text 51 = .ok (.iload_n 2, 1) := by decide +kernel
theorem dX12_text_52 : decode cX12_text 52 = .ok (.iconst (-1), 1) := by decide +kernel
theorem dX12_text_53 : decode cX12_text 53 = .ok (.if_icmp .ne 17, 3) := by decide +kernel
theorem dX12_text_56 : decode cX12_text 56 = .ok (.aload_n 0, 1) := by decide +kernel
theorem dX12_text_57 : decode cX12_text 57 = .ok (.iconst 5, 1) := by decide +kernel
theorem dX12_text_58 : decode cX12_text 58 = .ok (.aload_n 0, 1) := by decide +kernel
theorem dX12_text_59 : decode cX12_text 59 = .ok (.getfield 91, 3) := by decide +kernel
theorem dX12_text_62 : decode cX12_text 62 = .ok (.iload_n 1, 1) := by decide +kernel
theorem dX12_text_63 : decode cX12_text 63 = .ok (.iaload, 1) := by decide +kernel
theorem dX12_text_64 : decode cX12_text 64 = .ok (.invokevirtual 419, 3) := by decide +kernel
theorem dX12_text_67 : decode cX12_text 67 = .ok (.goto 30, 3) := by decide +kernel
theorem dX12_text_70 : decode cX12_text 70 = .ok (.aload_n 0, 1) := by decide +kernel
theorem dX12_text_71 : decode cX12_text 71 = .ok (.getfield 73, 3) := by decide +kernel
theorem dX12_text_74 : decode cX12_text 74 = .ok (.iload_n 2, 1) := by decide +kernel
theorem dX12_text_75 : decode cX12_text 75 = .ok (.iaload, 1) := by decide +kernel
theorem dX12_text_76 : decode cX12_text 76 = .ok (.aload_n 0, 1) := by decide +kernel
theorem dX12_text_77 : decode cX12_text 77 = .ok (.getfield 94, 3) := by decide +kernel
theorem dX12_text_80 : decode cX12_text 80 = .ok (.iload_n 1, 1) := by decide +kernel
theorem dX12_text_81 : decode cX12_text 81 = .ok (.iaload, 1) := by decide +kernel
theorem dX12_text_82 : decode cX12_text 82 = .ok (.if_icmp .eq 15, 3) := by decide +kernel
theorem dX12_text_85 : decode cX12_text 85 = .ok (.aload_n 0, 1) := by decide +kernel
theorem dX12_text_86 : decode cX12_text 86 = .ok (.bipush 7, 2) := by decide +kernel
theorem dX12_text_88 : decode cX12_text 88 = .ok (.aload_n 0, 1) := by decide +kernel
theorem dX12_text_89 : decode cX12_text 89 = .ok (.getfield 91, 3) := by decide +kernel
theorem dX12_text_92 : decode cX12_text 92 = .ok (.iload_n 1, 1) := by decide +kernel
theorem dX12_text_93 : decode cX12_text 93 = .ok (.iaload, 1) := by decide +kernel
theorem dX12_text_94 : decode cX12_text 94 = .ok (.invokevirtual 419, 3) := by decide +kernel
theorem dX12_text_97 : decode cX12_text 97 = .ok (.aload_n 0, 1) := by decide +kernel
theorem dX12_text_98 : decode cX12_text 98 = .ok (.getfield 46, 3) := by decide +kernel
theorem dX12_text_101 : decode cX12_text 101 = .ok (.aload_n 0, 1) := by decide +kernel
theorem dX12_text_102 : decode cX12_text 102 = .ok (.getfield 97, 3) := by decide +kernel
theorem dX12_text_105 : decode cX12_text 105 = .ok (.iload_n 1, 1) := by decide +kernel
theorem dX12_text_106 : decode cX12_text 106 = .ok (.iaload, 1) := by decide +kernel
theorem dX12_text_107 : decode cX12_text 107 = .ok (.iload_n 2, 1) := by decide +kernel
theorem dX12_text_108 : decode cX12_text 108 = .ok (.iastore, 1) := by decide +kernel
theorem dX12_text_109 : decode cX12_text 109 = .ok (.iinc 1 1, 3) := by decide +kernel
theorem dX12_text_112 : decode cX12_text 112 = .ok (.goto (-87), 3) := by decide +kernel
theorem dX12_text_115 : decode cX12_text 115 = .ok (.return_, 1) := by decide +kernel
def wX12_text_b115 (a0 : Nat)  (Sn : kp_S) (post : kp_S → Prop) : Prop :=
  post Sn
def wX12_text_b97 (a0 : Nat) (xn1 : Int32) (xn2 : Int32) (K25 : Int32 → kp_S → Prop) (Sn : kp_S) (post : kp_S → Prop) : Prop :=
  ∃ b2001 : Nat, kp_R Sn 2415 a0 = some b2001 ∧
  ∃ b2002 : Nat, kp_R Sn 2437 a0 = some b2002 ∧
  vp_in xn1 (kp_N Sn b2002) ∧
  vp_in (kp_A Sn b2002 xn1.toNatClampNeg) (kp_N Sn b2001) ∧ ∀ T2003 : kp_S, T2003 = kp_sA Sn b2001 (upd (kp_A Sn b2001) ((kp_A Sn b2002 xn1.toNatClampNeg).toNatClampNeg) xn2) →
  ∀ y2004 : Int32, y2004 = xn1 + 1 →
  K25 y2004 T2003
def wX12_text_L25 (a0 : Nat)  (post : kp_S → Prop) : Nat → Int32 → kp_S → Prop
  | 0, _, _ => False
  | n + 1, xn1, Sn =>
  (((kp_I Sn 2438 a0) ≤ xn1 →
  wX12_text_b115 a0   Sn post) ∧ (¬ (kp_I Sn 2438 a0) ≤ xn1 →
  wX12_fine a0 Sn (fun y3002 T3001 =>
  ((y3002 = 0 →
  wX12_text_b115 a0   T3001 post) ∧ (¬ y3002 = 0 →
  ∃ b3003 : Nat, kp_R T3001 2434 a0 = some b3003 ∧
  vp_in xn1 (kp_N T3001 b3003) ∧
  wX12_dutyOf a0 (kp_B T3001 b3003 xn1.toNatClampNeg) T3001 (fun y3005 T3004 =>
  ((¬ y3005 = (-1) →
  ∃ b3006 : Nat, kp_R T3004 2428 a0 = some b3006 ∧
  vp_in y3005 (kp_N T3004 b3006) ∧
  ∃ b3007 : Nat, kp_R T3004 2436 a0 = some b3007 ∧
  vp_in xn1 (kp_N T3004 b3007) ∧
  (((kp_A T3004 b3006 y3005.toNatClampNeg) = (kp_A T3004 b3007 xn1.toNatClampNeg) →
  wX12_text_b97 a0 xn1 y3005 (fun xn1_ S_ => wX12_text_L25 a0  post n xn1_ S_) T3004 post) ∧ (¬ (kp_A T3004 b3006 y3005.toNatClampNeg) = (kp_A T3004 b3007 xn1.toNatClampNeg) →
  ∃ b3008 : Nat, kp_R T3004 2435 a0 = some b3008 ∧
  vp_in xn1 (kp_N T3004 b3008) ∧
  wX12_bad a0 7 (kp_A T3004 b3008 xn1.toNatClampNeg) T3004 (fun T3009 =>
  wX12_text_b97 a0 xn1 y3005 (fun xn1_ S_ => wX12_text_L25 a0  post n xn1_ S_) T3009 post)))) ∧ (y3005 = (-1) →
  ∃ b3011 : Nat, kp_R T3004 2435 a0 = some b3011 ∧
  vp_in xn1 (kp_N T3004 b3011) ∧
  wX12_bad a0 5 (kp_A T3004 b3011 xn1.toNatClampNeg) T3004 (fun T3012 =>
  wX12_text_b97 a0 xn1 y3005 (fun xn1_ S_ => wX12_text_L25 a0  post n xn1_ S_) T3012 post)))))))))
def wX12_text_b23 (a0 : Nat)  (Sn : kp_S) (post : kp_S → Prop) : Prop :=
  ∃ n0 : Nat, wX12_text_L25 a0  post n0 0 Sn
def wX12_text_L0 (a0 : Nat)  (post : kp_S → Prop) : Nat → kp_S → Prop
  | 0, _ => False
  | n + 1, Sn =>
  wX12_duty a0 Sn (fun T5001 =>
  wX12_fine a0 T5001 (fun y5003 T5002 =>
  ((y5003 = 0 →
  wX12_text_b23 a0   T5002 post) ∧ (¬ y5003 = 0 →
  ∃ b5004 : Nat, kp_R T5002 2404 a0 = some b5004 ∧
  vp_in (kp_I T5002 2410 a0) (kp_N T5002 b5004) ∧
  ((¬ (kp_A T5002 b5004 (kp_I T5002 2410 a0).toNatClampNeg) = 0 →
  wX12_text_L0 a0  post n  T5002) ∧ ((kp_A T5002 b5004 (kp_I T5002 2410 a0).toNatClampNeg) = 0 →
  wX12_text_b23 a0   T5002 post))))))
def wX12_text (a0 : Nat) (S : kp_S) (post : kp_S → Prop) : Prop :=
  wX12_duty a0 S (fun T1 =>
  wX12_fine a0 T1 (fun y3 T2 =>
  ((y3 = 0 →
  wX12_text_b23 a0   T2 post) ∧ (¬ y3 = 0 →
  ∃ b4 : Nat, kp_R T2 2404 a0 = some b4 ∧
  vp_in (kp_I T2 2410 a0) (kp_N T2 b4) ∧
  ((¬ (kp_A T2 b4 (kp_I T2 2410 a0).toNatClampNeg) = 0 →
  ∃ n0 : Nat, wX12_text_L0 a0  post n0  T2) ∧ ((kp_A T2 b4 (kp_I T2 2410 a0).toNatClampNeg) = 0 →
  wX12_text_b23 a0   T2 post))))))
set_option maxHeartbeats 4000000 in
set_option maxRecDepth 100000 in
theorem c_X12_text (l : Launch) (D : va_G) (cy : Nat → ClassId) (ad : (Nat → Nat) × (Nat → Nat)) (S : kp_S) (a0 : Nat) (post : kp_S → Prop) (hS : kp_ok S) (f_a0 : kp_is S a0 12) (hw : wX12_text a0 S post) : kp_M l yX12_text cX12_text 3 none { frames := 238, cells := 0, slots := 0, locals := 5436 } D cy ad S [.ref a0] 0 0 (fun A => kp_Qv D cy A S post) := by
  refine kp_start (own := RX12) (by decide) rfl (Nat.le_of_ble_eq_true rfl) hS ?_
  intro p e s m below meth c A ls X hr hlocks hname h hl
  have hle : kp_le S S := kp_le.rf
  have hl : lv_has ls 3 [(0, .ref a0)] := hl
  have j115 : ∀  (Sn : kp_S) (H : Heap) (locs : List Loc) (ls : Array Slot), lv_has ls 3 [] → kp_H D cy A Sn s.heap H locs → kp_le S Sn → kp_is Sn a0 12 → wX12_text_b115 a0   Sn post → W p l e { frames := 238, cells := 0, slots := 0, locals := 5436 } s m ([.ref a0] : List Value).toArray below meth c H locs 0 0 (MQ below (kp_Qv D cy A S post) ([.ref a0] : List Value).toArray s 0 0 A) (F0 m 115 ls []) := by
    intro  Sn H locs ls hl h hle f_a0 hw
    unfold wX12_text_b115 at hw
    exact kp_retv X hr hlocks h hle hw dX12_text_115
  have L25 : ∀ n25 : Nat, ∀ (xn1 : Int32) (Sn : kp_S) (H : Heap) (locs : List Loc) (ls : Array Slot), lv_has ls 3 [(0, .ref a0), (1, .int xn1)] → kp_H D cy A Sn s.heap H locs → kp_le S Sn → kp_is Sn a0 12 → wX12_text_L25 a0  post n25 xn1 Sn → W p l e { frames := 238, cells := 0, slots := 0, locals := 5436 } s m ([.ref a0] : List Value).toArray below meth c H locs 0 0 (MQ below (kp_Qv D cy A S post) ([.ref a0] : List Value).toArray s 0 0 A) (F0 m 25 ls []) := by
    intro n25
    induction n25 with
    | zero => intro xn1 Sn H locs ls hl h hle f_a0 hw; exact hw.elim
    | succ n25 ih25 =>
      have j97 : ∀ (xn1 : Int32) (xn2 : Int32) (Sn : kp_S) (H : Heap) (locs : List Loc) (ls : Array Slot), lv_has ls 3 [(0, .ref a0), (1, .int xn1), (2, .int xn2)] → kp_H D cy A Sn s.heap H locs → kp_le S Sn → kp_is Sn a0 12 → wX12_text_b97 a0 xn1 xn2 (fun xn1_ S_ => wX12_text_L25 a0  post n25 xn1_ S_) Sn post → W p l e { frames := 238, cells := 0, slots := 0, locals := 5436 } s m ([.ref a0] : List Value).toArray below meth c H locs 0 0 (MQ below (kp_Qv D cy A S post) ([.ref a0] : List Value).toArray s 0 0 A) (F0 m 97 ls []) := by
        intro xn1 xn2 Sn H locs ls hl h hle f_a0 hw
        unfold wX12_text_b97 at hw
        refine lv_aload_n X.1 X.2.1 dX12_text_97 rfl (lv_at hl 0 rfl) ?_
        obtain ⟨b2001, e_b2001, hw⟩ := hw
        have f_b2001 := h.2.2.2.rf (c := 12) (k := 15) f_a0 (by decide) (by decide) e_b2001 (t := 14) rfl
        refine kp_get X h f_a0 ff_12_46.l (v := .ref b2001) (congrArg va_rf e_b2001) dX12_text_98 ?_
        refine lv_aload_n X.1 X.2.1 dX12_text_101 rfl (lv_at hl 0 rfl) ?_
        obtain ⟨b2002, e_b2002, hw⟩ := hw
        have f_b2002 := h.2.2.2.rf (c := 12) (k := 37) f_a0 (by decide) (by decide) e_b2002 (t := 14) rfl
        refine kp_get X h f_a0 ff_12_97.l (v := .ref b2002) (congrArg va_rf e_b2002) dX12_text_102 ?_
        refine lv_iload_n X.1 X.2.1 dX12_text_105 rfl (lv_at hl 1 rfl) ?_
        obtain ⟨hi, hw⟩ := hw
        refine kp_iald X h f_b2002 hi dX12_text_106 ?_
        refine lv_iload_n X.1 X.2.1 dX12_text_107 rfl (lv_at hl 2 rfl) ?_
        obtain ⟨hi, hw⟩ := hw
        refine kp_iast X h f_b2001 hi dX12_text_108 (fun T2003 e_T2003 l_T2003 H locs h => ?_)
        have hw := hw T2003 e_T2003
        have f_a0 := l_T2003.is f_a0
        have f_b2001 := l_T2003.is f_b2001
        have f_b2002 := l_T2003.is f_b2002
        have hle := hle.tr l_T2003
        have e_b2001 : kp_R T2003 2415 a0 = some b2001 := by rw [e_T2003]; exact e_b2001
        have e_b2002 : kp_R T2003 2437 a0 = some b2002 := by rw [e_T2003]; exact e_b2002
        obtain ⟨y2004, e_y2004⟩ : ∃ y : Int32, y = xn1 + 1 := ⟨_, rfl⟩
        have hw := hw y2004 e_y2004
        refine lv_iinc (v := y2004) (lv' := [(1, .int y2004), (0, .ref a0), (2, .int xn2)]) X.1 X.2.1 dX12_text_109 hl (k := 1) rfl (by rw [e_y2004]; rfl) (by decide) rfl (fun ls hl => ?_)
        refine lv_goto (tgt := 25) X.1 X.2.1 dX12_text_112 (by decide) ?_
        exact ih25 y2004 T2003 H locs ls (lv_sub hl [1, 0] rfl) h hle f_a0 hw
      intro xn1 Sn H locs ls hl h hle f_a0 hw
      unfold wX12_text_L25 at hw
      refine lv_iload_n X.1 X.2.1 dX12_text_25 rfl (lv_at hl 1 rfl) ?_
      refine lv_aload_n X.1 X.2.1 dX12_text_26 rfl (lv_at hl 0 rfl) ?_
      refine kp_get X h f_a0 fp_12_412.l (v := .int (kp_I Sn 2438 a0)) rfl dX12_text_27 ?_
      refine lv_icmp_ge (tgt := 115) X.1 X.2.1 dX12_text_30 (by decide) (fun c3015 => ?_) (fun c3015 => ?_)
      · have hw := hw.1 c3015
        exact j115  Sn H locs ls (lv_sub hl [] rfl) h hle f_a0 hw
      · have hw := hw.2 c3015
        refine lv_aload_n X.1 X.2.1 dX12_text_33 rfl (lv_at hl 0 rfl) ?_
        refine kp_calli X h (kp_runV (rm := { frames := 0, cells := 0, slots := 0, locals := 0 }) (mc := 0) (ms := 0) (rest := []) (Qc := fun A => kp_Qi D cy A Sn _) X h (c_X12_fine l D cy ad Sn a0 _ h.2.2.2 f_a0 hw) f_a0 cv_12_408 ⟨by decide, by decide, rfl, rfl, by decide, by decide⟩ rfl hl.1 rfl (Nat.le_of_ble_eq_true rfl) dX12_text_34) (fun y3002 T3001 hw l_T3001 H locs h => ?_)
        have f_a0 := l_T3001.is f_a0
        have hle := hle.tr l_T3001
        refine lv_if_eq (tgt := 115) X.1 X.2.1 dX12_text_37 (by decide) (fun c3014 => ?_) (fun c3014 => ?_)
        · have hw := hw.1 c3014
          exact j115  T3001 H locs ls (lv_sub hl [] rfl) h hle f_a0 hw
        · have hw := hw.2 c3014
          refine lv_aload_n X.1 X.2.1 dX12_text_40 rfl (lv_at hl 0 rfl) ?_
          refine lv_aload_n X.1 X.2.1 dX12_text_41 rfl (lv_at hl 0 rfl) ?_
          obtain ⟨b3003, e_b3003, hw⟩ := hw
          have f_b3003 := h.2.2.2.rf (c := 12) (k := 34) f_a0 (by decide) (by decide) e_b3003 (t := 15) rfl
          refine kp_get X h f_a0 ff_12_88.l (v := .ref b3003) (congrArg va_rf e_b3003) dX12_text_42 ?_
          refine lv_iload_n X.1 X.2.1 dX12_text_45 rfl (lv_at hl 1 rfl) ?_
          obtain ⟨hi, hw⟩ := hw
          refine kp_lald X h f_b3003 hi dX12_text_46 ?_
          refine kp_calli X h (kp_runV (rm := { frames := 0, cells := 0, slots := 0, locals := 0 }) (mc := 0) (ms := 0) (rest := []) (Qc := fun A => kp_Qi D cy A T3001 _) X h (c_X12_dutyOf l D cy ad T3001 a0 (kp_B T3001 b3003 xn1.toNatClampNeg) _ h.2.2.2 f_a0 hw) f_a0 cv_12_415 ⟨by decide, by decide, rfl, rfl, by decide, by decide⟩ rfl hl.1 rfl (Nat.le_of_ble_eq_true rfl) dX12_text_47) (fun y3005 T3004 hw l_T3004 H locs h => ?_)
          have f_a0 := l_T3004.is f_a0
          have f_b3003 := l_T3004.is f_b3003
          have hle := hle.tr l_T3004
          refine lv_istore_n (lv' := [(2, .int y3005), (0, .ref a0), (1, .int xn1)]) X.1 X.2.1 dX12_text_50 rfl hl (by decide) rfl (fun ls hl => ?_)
          refine lv_iload_n X.1 X.2.1 dX12_text_51 rfl (lv_at hl 0 rfl) ?_
          refine lv_iconst (v := (-1)) X.1 X.2.1 dX12_text_52 (by decide) ?_
          refine lv_icmp_ne (tgt := 70) X.1 X.2.1 dX12_text_53 (by decide) (fun c3013 => ?_) (fun c3013 => ?_)
          · have hw := hw.1 c3013
            refine lv_aload_n X.1 X.2.1 dX12_text_70 rfl (lv_at hl 1 rfl) ?_
            obtain ⟨b3006, e_b3006, hw⟩ := hw
            have f_b3006 := h.2.2.2.rf (c := 12) (k := 28) f_a0 (by decide) (by decide) e_b3006 (t := 14) rfl
            refine kp_get X h f_a0 ff_12_73.l (v := .ref b3006) (congrArg va_rf e_b3006) dX12_text_71 ?_
            refine lv_iload_n X.1 X.2.1 dX12_text_74 rfl (lv_at hl 0 rfl) ?_
            obtain ⟨hi, hw⟩ := hw
            refine kp_iald X h f_b3006 hi dX12_text_75 ?_
            refine lv_aload_n X.1 X.2.1 dX12_text_76 rfl (lv_at hl 1 rfl) ?_
            obtain ⟨b3007, e_b3007, hw⟩ := hw
            have f_b3007 := h.2.2.2.rf (c := 12) (k := 36) f_a0 (by decide) (by decide) e_b3007 (t := 14) rfl
            refine kp_get X h f_a0 ff_12_94.l (v := .ref b3007) (congrArg va_rf e_b3007) dX12_text_77 ?_
            refine lv_iload_n X.1 X.2.1 dX12_text_80 rfl (lv_at hl 2 rfl) ?_
            obtain ⟨hi, hw⟩ := hw
            refine kp_iald X h f_b3007 hi dX12_text_81 ?_
            refine lv_icmp_eq (tgt := 97) X.1 X.2.1 dX12_text_82 (by decide) (fun c3010 => ?_) (fun c3010 => ?_)
            · have hw := hw.1 c3010
              exact j97 xn1 y3005 T3004 H locs ls (lv_sub hl [1, 2, 0] rfl) h hle f_a0 hw
            · have hw := hw.2 c3010
              refine lv_aload_n X.1 X.2.1 dX12_text_85 rfl (lv_at hl 1 rfl) ?_
              refine lv_bipush (v := 7) X.1 X.2.1 dX12_text_86 (by decide) ?_
              refine lv_aload_n X.1 X.2.1 dX12_text_88 rfl (lv_at hl 1 rfl) ?_
              obtain ⟨b3008, e_b3008, hw⟩ := hw
              have f_b3008 := h.2.2.2.rf (c := 12) (k := 35) f_a0 (by decide) (by decide) e_b3008 (t := 14) rfl
              refine kp_get X h f_a0 ff_12_91.l (v := .ref b3008) (congrArg va_rf e_b3008) dX12_text_89 ?_
              refine lv_iload_n X.1 X.2.1 dX12_text_92 rfl (lv_at hl 2 rfl) ?_
              obtain ⟨hi, hw⟩ := hw
              refine kp_iald X h f_b3008 hi dX12_text_93 ?_
              refine kp_callv X h (kp_runV (rm := { frames := 0, cells := 0, slots := 0, locals := 0 }) (mc := 0) (ms := 0) (rest := []) (Qc := fun A => kp_Qv D cy A T3004 _) X h (c_X12_bad l D cy ad T3004 a0 7 (kp_A T3004 b3008 xn1.toNatClampNeg) _ h.2.2.2 f_a0 hw) f_a0 cv_12_419 ⟨by decide, by decide, rfl, rfl, by decide, by decide⟩ rfl hl.1 rfl (Nat.le_of_ble_eq_true rfl) dX12_text_94) (fun T3009 hw l_T3009 H locs h => ?_)
              have f_a0 := l_T3009.is f_a0
              have f_b3003 := l_T3009.is f_b3003
              have f_b3006 := l_T3009.is f_b3006
              have f_b3007 := l_T3009.is f_b3007
              have f_b3008 := l_T3009.is f_b3008
              have hle := hle.tr l_T3009
              exact j97 xn1 y3005 T3009 H locs ls (lv_sub hl [1, 2, 0] rfl) h hle f_a0 hw
          · have hw := hw.2 c3013
            refine lv_aload_n X.1 X.2.1 dX12_text_56 rfl (lv_at hl 1 rfl) ?_
            refine lv_iconst (v := 5) X.1 X.2.1 dX12_text_57 (by decide) ?_
            refine lv_aload_n X.1 X.2.1 dX12_text_58 rfl (lv_at hl 1 rfl) ?_
            obtain ⟨b3011, e_b3011, hw⟩ := hw
            have f_b3011 := h.2.2.2.rf (c := 12) (k := 35) f_a0 (by decide) (by decide) e_b3011 (t := 14) rfl
            refine kp_get X h f_a0 ff_12_91.l (v := .ref b3011) (congrArg va_rf e_b3011) dX12_text_59 ?_
            refine lv_iload_n X.1 X.2.1 dX12_text_62 rfl (lv_at hl 2 rfl) ?_
            obtain ⟨hi, hw⟩ := hw
            refine kp_iald X h f_b3011 hi dX12_text_63 ?_
            refine kp_callv X h (kp_runV (rm := { frames := 0, cells := 0, slots := 0, locals := 0 }) (mc := 0) (ms := 0) (rest := []) (Qc := fun A => kp_Qv D cy A T3004 _) X h (c_X12_bad l D cy ad T3004 a0 5 (kp_A T3004 b3011 xn1.toNatClampNeg) _ h.2.2.2 f_a0 hw) f_a0 cv_12_419 ⟨by decide, by decide, rfl, rfl, by decide, by decide⟩ rfl hl.1 rfl (Nat.le_of_ble_eq_true rfl) dX12_text_64) (fun T3012 hw l_T3012 H locs h => ?_)
            have f_a0 := l_T3012.is f_a0
            have f_b3003 := l_T3012.is f_b3003
            have f_b3011 := l_T3012.is f_b3011
            have hle := hle.tr l_T3012
            refine lv_goto (tgt := 97) X.1 X.2.1 dX12_text_67 (by decide) ?_
            exact j97 xn1 y3005 T3012 H locs ls (lv_sub hl [1, 2, 0] rfl) h hle f_a0 hw
  have j23 : ∀  (Sn : kp_S) (H : Heap) (locs : List Loc) (ls : Array Slot), lv_has ls 3 [(0, .ref a0)] → kp_H D cy A Sn s.heap H locs → kp_le S Sn → kp_is Sn a0 12 → wX12_text_b23 a0   Sn post → W p l e { frames := 238, cells := 0, slots := 0, locals := 5436 } s m ([.ref a0] : List Value).toArray below meth c H locs 0 0 (MQ below (kp_Qv D cy A S post) ([.ref a0] : List Value).toArray s 0 0 A) (F0 m 23 ls []) := by
    intro  Sn H locs ls hl h hle f_a0 hw
    unfold wX12_text_b23 at hw
    refine lv_iconst (v := 0) X.1 X.2.1 dX12_text_23 (by decide) ?_
    refine lv_istore_n (lv' := [(1, .int 0), (0, .ref a0)]) X.1 X.2.1 dX12_text_24 rfl hl (by decide) rfl (fun ls hl => ?_)
    obtain ⟨n0, hw⟩ := hw
    exact L25 n0 0 Sn H locs ls (lv_sub hl [1, 0] rfl) h hle f_a0 hw
  have L0 : ∀ n0 : Nat, ∀  (Sn : kp_S) (H : Heap) (locs : List Loc) (ls : Array Slot), lv_has ls 3 [(0, .ref a0)] → kp_H D cy A Sn s.heap H locs → kp_le S Sn → kp_is Sn a0 12 → wX12_text_L0 a0  post n0  Sn → W p l e { frames := 238, cells := 0, slots := 0, locals := 5436 } s m ([.ref a0] : List Value).toArray below meth c H locs 0 0 (MQ below (kp_Qv D cy A S post) ([.ref a0] : List Value).toArray s 0 0 A) (F0 m 0 ls []) := by
    intro n0
    induction n0 with
    | zero => intro  Sn H locs ls hl h hle f_a0 hw; exact hw.elim
    | succ n0 ih0 =>
      intro  Sn H locs ls hl h hle f_a0 hw
      unfold wX12_text_L0 at hw
      refine lv_aload_n X.1 X.2.1 dX12_text_0 rfl (lv_at hl 0 rfl) ?_
      refine kp_callv X h (kp_runV (rm := { frames := 237, cells := 0, slots := 0, locals := 5412 }) (mc := 0) (ms := 0) (rest := []) (Qc := fun A => kp_Qv D cy A Sn _) X h (c_X12_duty l D cy ad Sn a0 _ h.2.2.2 f_a0 hw) f_a0 cv_12_406 ⟨by decide, by decide, rfl, rfl, by decide, by decide⟩ rfl hl.1 rfl (Nat.le_of_ble_eq_true rfl) dX12_text_1) (fun T5001 hw l_T5001 H locs h => ?_)
      have f_a0 := l_T5001.is f_a0
      have hle := hle.tr l_T5001
      refine lv_aload_n X.1 X.2.1 dX12_text_4 rfl (lv_at hl 0 rfl) ?_
      refine kp_calli X h (kp_runV (rm := { frames := 0, cells := 0, slots := 0, locals := 0 }) (mc := 0) (ms := 0) (rest := []) (Qc := fun A => kp_Qi D cy A T5001 _) X h (c_X12_fine l D cy ad T5001 a0 _ h.2.2.2 f_a0 hw) f_a0 cv_12_408 ⟨by decide, by decide, rfl, rfl, by decide, by decide⟩ rfl hl.1 rfl (Nat.le_of_ble_eq_true rfl) dX12_text_5) (fun y5003 T5002 hw l_T5002 H locs h => ?_)
      have f_a0 := l_T5002.is f_a0
      have hle := hle.tr l_T5002
      refine lv_if_eq (tgt := 23) X.1 X.2.1 dX12_text_8 (by decide) (fun c5006 => ?_) (fun c5006 => ?_)
      · have hw := hw.1 c5006
        exact j23  T5002 H locs ls (lv_sub hl [0] rfl) h hle f_a0 hw
      · have hw := hw.2 c5006
        refine lv_aload_n X.1 X.2.1 dX12_text_11 rfl (lv_at hl 0 rfl) ?_
        obtain ⟨b5004, e_b5004, hw⟩ := hw
        have f_b5004 := h.2.2.2.rf (c := 12) (k := 4) f_a0 (by decide) (by decide) e_b5004 (t := 14) rfl
        refine kp_get X h f_a0 ff_12_31.l (v := .ref b5004) (congrArg va_rf e_b5004) dX12_text_12 ?_
        refine lv_aload_n X.1 X.2.1 dX12_text_15 rfl (lv_at hl 0 rfl) ?_
        refine kp_get X h f_a0 fp_12_376.l (v := .int (kp_I T5002 2410 a0)) rfl dX12_text_16 ?_
        obtain ⟨hi, hw⟩ := hw
        refine kp_iald X h f_b5004 hi dX12_text_19 ?_
        refine lv_if_ne (tgt := 0) X.1 X.2.1 dX12_text_20 (by decide) (fun c5005 => ?_) (fun c5005 => ?_)
        · have hw := hw.1 c5005
          exact ih0  T5002 H locs ls (lv_sub hl [0] rfl) h hle f_a0 hw
        · have hw := hw.2 c5005
          exact j23  T5002 H locs ls (lv_sub hl [0] rfl) h hle f_a0 hw
  unfold wX12_text at hw
  have h : kp_H D cy A S s.heap s.heap [] := h
  revert h
  intro h
  refine lv_aload_n X.1 X.2.1 dX12_text_0 rfl (lv_at hl 0 rfl) ?_
  refine kp_callv X h (kp_runV (rm := { frames := 237, cells := 0, slots := 0, locals := 5412 }) (mc := 0) (ms := 0) (rest := []) (Qc := fun A => kp_Qv D cy A S _) X h (c_X12_duty l D cy ad S a0 _ h.2.2.2 f_a0 hw) f_a0 cv_12_406 ⟨by decide, by decide, rfl, rfl, by decide, by decide⟩ rfl hl.1 rfl (Nat.le_of_ble_eq_true rfl) dX12_text_1) (fun T1 hw l_T1 H locs h => ?_)
  have f_a0 := l_T1.is f_a0
  have hle := hle.tr l_T1
  refine lv_aload_n X.1 X.2.1 dX12_text_4 rfl (lv_at hl 0 rfl) ?_
  refine kp_calli X h (kp_runV (rm := { frames := 0, cells := 0, slots := 0, locals := 0 }) (mc := 0) (ms := 0) (rest := []) (Qc := fun A => kp_Qi D cy A T1 _) X h (c_X12_fine l D cy ad T1 a0 _ h.2.2.2 f_a0 hw) f_a0 cv_12_408 ⟨by decide, by decide, rfl, rfl, by decide, by decide⟩ rfl hl.1 rfl (Nat.le_of_ble_eq_true rfl) dX12_text_5) (fun y3 T2 hw l_T2 H locs h => ?_)
  have f_a0 := l_T2.is f_a0
  have hle := hle.tr l_T2
  refine lv_if_eq (tgt := 23) X.1 X.2.1 dX12_text_8 (by decide) (fun c6 => ?_) (fun c6 => ?_)
  · have hw := hw.1 c6
    exact j23  T2 _ _ ls (lv_sub hl [0] rfl) h hle f_a0 hw
  · have hw := hw.2 c6
    refine lv_aload_n X.1 X.2.1 dX12_text_11 rfl (lv_at hl 0 rfl) ?_
    obtain ⟨b4, e_b4, hw⟩ := hw
    have f_b4 := h.2.2.2.rf (c := 12) (k := 4) f_a0 (by decide) (by decide) e_b4 (t := 14) rfl
    refine kp_get X h f_a0 ff_12_31.l (v := .ref b4) (congrArg va_rf e_b4) dX12_text_12 ?_
    refine lv_aload_n X.1 X.2.1 dX12_text_15 rfl (lv_at hl 0 rfl) ?_
    refine kp_get X h f_a0 fp_12_376.l (v := .int (kp_I T2 2410 a0)) rfl dX12_text_16 ?_
    obtain ⟨hi, hw⟩ := hw
    refine kp_iald X h f_b4 hi dX12_text_19 ?_
    refine lv_if_ne (tgt := 0) X.1 X.2.1 dX12_text_20 (by decide) (fun c5 => ?_) (fun c5 => ?_)
    · have hw := hw.1 c5
      obtain ⟨n0, hw⟩ := hw
      exact L0 n0  T2 _ _ ls (lv_sub hl [0] rfl) h hle f_a0 hw
    · have hw := hw.2 c5
      exact j23  T2 _ _ ls (lv_sub hl [0] rfl) h hle f_a0 hw
theorem dX12_read_0 : decode cX12_read 0 = .ok (.aload_n 0, 1) := by decide +kernel
theorem dX12_read_1 : decode cX12_read 1 = .ok (.iconst 0, 1) := by decide +kernel
theorem dX12_read_2 : decode cX12_read 2 = .ok (.putfield 1, 3) := by decide +kernel
theorem dX12_read_5 : decode cX12_read 5 = .ok (.aload_n 0, 1) := by decide +kernel
theorem dX12_read_6 : decode cX12_read 6 = .ok (.invokevirtual 574, 3) := by decide +kernel
theorem dX12_read_9 : decode cX12_read 9 = .ok (.aload_n 0, 1) := by decide +kernel
theorem dX12_read_10 : decode cX12_read 10 = .ok (.iconst 0, 1) := by decide +kernel
theorem dX12_read_11 : decode cX12_read 11 = .ok (.putfield 330, 3) := by decide +kernel
theorem dX12_read_14 : decode cX12_read 14 = .ok (.aload_n 0, 1) := by decide +kernel
theorem dX12_read_15 : decode cX12_read 15 = .ok (.iconst 0, 1) := by decide +kernel
theorem dX12_read_16 : decode cX12_read 16 = .ok (.putfield 373, 3) := by decide +kernel
theorem dX12_read_19 : decode cX12_read 19 = .ok (.aload_n 0, 1) := by decide +kernel
theorem dX12_read_20 : decode cX12_read 20 = .ok (.iconst (-1), 1) := by decide +kernel
theorem dX12_read_21 : decode cX12_read 21 = .ok (.putfield 40, 3) := by decide +kernel
theorem dX12_read_24 : decode cX12_read 24 = .ok (.aload_n 0, 1) := by decide +kernel
theorem dX12_read_25 : decode cX12_read 25 = .ok (.iconst 0, 1) := by decide +kernel
theorem dX12_read_26 : decode cX12_read 26 = .ok (.putfield 391, 3) := by decide +kernel
theorem dX12_read_29 : decode cX12_read 29 = .ok (.aload_n 0, 1) := by decide +kernel
theorem dX12_read_30 : decode cX12_read 30 = .ok (.iconst 0, 1) := by decide +kernel
theorem dX12_read_31 : decode cX12_read 31 = .ok (.putfield 376, 3) := by decide +kernel
theorem dX12_read_34 : decode cX12_read 34 = .ok (.aload_n 0, 1) := by decide +kernel
theorem dX12_read_35 : decode cX12_read 35 = .ok (.iconst 0, 1) := by decide +kernel
theorem dX12_read_36 : decode cX12_read 36 = .ok (.putfield 388, 3) := by decide +kernel
theorem dX12_read_39 : decode cX12_read 39 = .ok (.aload_n 0, 1) := by decide +kernel
theorem dX12_read_40 : decode cX12_read 40 = .ok (.iconst 0, 1) := by decide +kernel
theorem dX12_read_41 : decode cX12_read 41 = .ok (.putfield 370, 3) := by decide +kernel
theorem dX12_read_44 : decode cX12_read 44 = .ok (.aload_n 0, 1) := by decide +kernel
theorem dX12_read_45 : decode cX12_read 45 = .ok (.iconst 0, 1) := by decide +kernel
theorem dX12_read_46 : decode cX12_read 46 = .ok (.putfield 535, 3) := by decide +kernel
theorem dX12_read_49 : decode cX12_read 49 = .ok (.aload_n 0, 1) := by decide +kernel
theorem dX12_read_50 : decode cX12_read 50 = .ok (.iconst 0, 1) := by decide +kernel
theorem dX12_read_51 : decode cX12_read 51 = .ok (.putfield 403, 3) := by decide +kernel
theorem dX12_read_54 : decode cX12_read 54 = .ok (.aload_n 0, 1) := by decide +kernel
theorem dX12_read_55 : decode cX12_read 55 = .ok (.iconst 0, 1) := by decide +kernel
theorem dX12_read_56 : decode cX12_read 56 = .ok (.putfield 412, 3) := by decide +kernel
theorem dX12_read_59 : decode cX12_read 59 = .ok (.aload_n 0, 1) := by decide +kernel
theorem dX12_read_60 : decode cX12_read 60 = .ok (.invokevirtual 577, 3) := by decide +kernel
theorem dX12_read_63 : decode cX12_read 63 = .ok (.aload_n 0, 1) := by decide +kernel
theorem dX12_read_64 : decode cX12_read 64 = .ok (.getfield 373, 3) := by decide +kernel
theorem dX12_read_67 : decode cX12_read 67 = .ok (.ifCond .ne 26, 3) := by decide +kernel
theorem dX12_read_70 : decode cX12_read 70 = .ok (.aload_n 0, 1) := by decide +kernel
theorem dX12_read_71 : decode cX12_read 71 = .ok (.getfield 391, 3) := by decide +kernel
theorem dX12_read_74 : decode cX12_read 74 = .ok (.ifCond .le 19, 3) := by decide +kernel
theorem dX12_read_77 : decode cX12_read 77 = .ok (.aload_n 0, 1) := by decide +kernel
theorem dX12_read_78 : decode cX12_read 78 = .ok (.aload_n 0, 1) := by decide +kernel
theorem dX12_read_79 : decode cX12_read 79 = .ok (.getfield 391, 3) := by decide +kernel
theorem dX12_read_82 : decode cX12_read 82 = .ok (.putfield 373, 3) := by decide +kernel
theorem dX12_read_85 : decode cX12_read 85 = .ok (.aload_n 0, 1) := by decide +kernel
theorem dX12_read_86 : decode cX12_read 86 = .ok (.aload_n 0, 1) := by decide +kernel
theorem dX12_read_87 : decode cX12_read 87 = .ok (.getfield 394, 3) := by decide +kernel
theorem dX12_read_90 : decode cX12_read 90 = .ok (.putfield 40, 3) := by decide +kernel
theorem dX12_read_93 : decode cX12_read 93 = .ok (.aload_n 0, 1) := by decide +kernel
theorem dX12_read_94 : decode cX12_read 94 = .ok (.getfield 373, 3) := by decide +kernel
theorem dX12_read_97 : decode cX12_read 97 = .ok (.ifCond .ne 7, 3) := by decide +kernel
theorem dX12_read_100 : decode cX12_read 100 = .ok (.aload_n 0, 1) := by decide +kernel
theorem dX12_read_101 : decode cX12_read 101 = .ok (.invokevirtual 580, 3) := by decide +kernel
theorem dX12_read_104 : decode cX12_read 104 = .ok (.aload_n 0, 1) := by decide +kernel
theorem dX12_read_105 : decode cX12_read 105 = .ok (.getfield 373, 3) := by decide +kernel
theorem dX12_read_108 : decode cX12_read 108 = .ok (.ireturn, 1) := by decide +kernel
def wX12_read_b104 (a0 : Nat)  (Sn : kp_S) (post : Int32 → kp_S → Prop) : Prop :=
  post (kp_I Sn 2408 a0) Sn
def wX12_read_b93 (a0 : Nat)  (Sn : kp_S) (post : Int32 → kp_S → Prop) : Prop :=
  ((¬ (kp_I Sn 2408 a0) = 0 →
  wX12_read_b104 a0   Sn post) ∧ ((kp_I Sn 2408 a0) = 0 →
  wX12_keep a0 Sn (fun T2001 =>
  wX12_read_b104 a0   T2001 post)))
def wX12_read (a0 : Nat) (S : kp_S) (post : Int32 → kp_S → Prop) : Prop :=
  ∀ T1 : kp_S, T1 = kp_sI S 2400 a0 0 →
  wX12_scan a0 T1 (fun T2 =>
  ∀ T3 : kp_S, T3 = kp_sI T2 2402 a0 0 →
  ∀ T4 : kp_S, T4 = kp_sI T3 2408 a0 0 →
  ∀ T5 : kp_S, T5 = kp_sI T4 2409 a0 (-1) →
  ∀ T6 : kp_S, T6 = kp_sI T5 2412 a0 0 →
  ∀ T7 : kp_S, T7 = kp_sI T6 2410 a0 0 →
  ∀ T8 : kp_S, T8 = kp_sI T7 2411 a0 0 →
  ∀ T9 : kp_S, T9 = kp_sI T8 2417 a0 0 →
  ∀ T10 : kp_S, T10 = kp_sI T9 2424 a0 0 →
  ∀ T11 : kp_S, T11 = kp_sI T10 2433 a0 0 →
  ∀ T12 : kp_S, T12 = kp_sI T11 2438 a0 0 →
  wX12_text a0 T12 (fun T13 =>
  ((¬ (kp_I T13 2408 a0) = 0 →
  wX12_read_b93 a0   T13 post) ∧ ((kp_I T13 2408 a0) = 0 →
  (((kp_I T13 2412 a0) ≤ 0 →
  wX12_read_b93 a0   T13 post) ∧ (¬ (kp_I T13 2412 a0) ≤ 0 →
  ∀ T14 : kp_S, T14 = kp_sI T13 2408 a0 (kp_I T13 2412 a0) →
  ∀ T15 : kp_S, T15 = kp_sI T14 2409 a0 (kp_I T14 2413 a0) →
  wX12_read_b93 a0   T15 post))))))
set_option maxHeartbeats 4000000 in
set_option maxRecDepth 100000 in
theorem c_X12_read (l : Launch) (D : va_G) (cy : Nat → ClassId) (ad : (Nat → Nat) × (Nat → Nat)) (S : kp_S) (a0 : Nat) (post : Int32 → kp_S → Prop) (hS : kp_ok S) (f_a0 : kp_is S a0 12) (hw : wX12_read a0 S post) : kp_M l yX12_read cX12_read 1 (some .int) { frames := 239, cells := 0, slots := 0, locals := 5458 } D cy ad S [.ref a0] 0 0 (fun A => kp_Qi D cy A S post) := by
  refine kp_start (own := RX12) (by decide) rfl (Nat.le_of_ble_eq_true rfl) hS ?_
  intro p e s m below meth c A ls X hr hlocks hname h hl
  have hle : kp_le S S := kp_le.rf
  have hl : lv_has ls 1 [(0, .ref a0)] := hl
  have j104 : ∀  (Sn : kp_S) (H : Heap) (locs : List Loc) (ls : Array Slot), lv_has ls 1 [(0, .ref a0)] → kp_H D cy A Sn s.heap H locs → kp_le S Sn → kp_is Sn a0 12 → wX12_read_b104 a0   Sn post → W p l e { frames := 239, cells := 0, slots := 0, locals := 5458 } s m ([.ref a0] : List Value).toArray below meth c H locs 0 0 (MQ below (kp_Qi D cy A S post) ([.ref a0] : List Value).toArray s 0 0 A) (F0 m 104 ls []) := by
    intro  Sn H locs ls hl h hle f_a0 hw
    unfold wX12_read_b104 at hw
    refine lv_aload_n X.1 X.2.1 dX12_read_104 rfl (lv_at hl 0 rfl) ?_
    refine kp_get X h f_a0 fp_12_373.l (v := .int (kp_I Sn 2408 a0)) rfl dX12_read_105 ?_
    exact kp_reti X hr hlocks h hle rfl hw dX12_read_108
  have j93 : ∀  (Sn : kp_S) (H : Heap) (locs : List Loc) (ls : Array Slot), lv_has ls 1 [(0, .ref a0)] → kp_H D cy A Sn s.heap H locs → kp_le S Sn → kp_is Sn a0 12 → wX12_read_b93 a0   Sn post → W p l e { frames := 239, cells := 0, slots := 0, locals := 5458 } s m ([.ref a0] : List Value).toArray below meth c H locs 0 0 (MQ below (kp_Qi D cy A S post) ([.ref a0] : List Value).toArray s 0 0 A) (F0 m 93 ls []) := by
    intro  Sn H locs ls hl h hle f_a0 hw
    unfold wX12_read_b93 at hw
    refine lv_aload_n X.1 X.2.1 dX12_read_93 rfl (lv_at hl 0 rfl) ?_
    refine kp_get X h f_a0 fp_12_373.l (v := .int (kp_I Sn 2408 a0)) rfl dX12_read_94 ?_
    refine lv_if_ne (tgt := 104) X.1 X.2.1 dX12_read_97 (by decide) (fun c2002 => ?_) (fun c2002 => ?_)
    · have hw := hw.1 c2002
      exact j104  Sn H locs ls (lv_sub hl [0] rfl) h hle f_a0 hw
    · have hw := hw.2 c2002
      refine lv_aload_n X.1 X.2.1 dX12_read_100 rfl (lv_at hl 0 rfl) ?_
      refine kp_callv X h (kp_runV (rm := { frames := 0, cells := 0, slots := 0, locals := 0 }) (mc := 0) (ms := 0) (rest := []) (Qc := fun A => kp_Qv D cy A Sn _) X h (c_X12_keep l D cy ad Sn a0 _ h.2.2.2 f_a0 hw) f_a0 cv_12_580 ⟨by decide, by decide, rfl, rfl, by decide, by decide⟩ rfl hl.1 rfl (Nat.le_of_ble_eq_true rfl) dX12_read_101) (fun T2001 hw l_T2001 H locs h => ?_)
      have f_a0 := l_T2001.is f_a0
      have hle := hle.tr l_T2001
      exact j104  T2001 H locs ls (lv_sub hl [0] rfl) h hle f_a0 hw
  unfold wX12_read at hw
  have h : kp_H D cy A S s.heap s.heap [] := h
  revert h
  intro h
  refine lv_aload_n X.1 X.2.1 dX12_read_0 rfl (lv_at hl 0 rfl) ?_
  refine lv_iconst (v := 0) X.1 X.2.1 dX12_read_1 (by decide) ?_
  refine kp_putI X h f_a0 fp_12_1 rfl ⟨rfl, rfl⟩ dX12_read_2 (fun T1 e_T1 l_T1 H locs h => ?_)
  have hw := hw T1 e_T1
  have f_a0 := l_T1.is f_a0
  have hle := hle.tr l_T1
  refine lv_aload_n X.1 X.2.1 dX12_read_5 rfl (lv_at hl 0 rfl) ?_
  refine kp_callv X h (kp_runV (rm := { frames := 2, cells := 0, slots := 0, locals := 50 }) (mc := 0) (ms := 0) (rest := []) (Qc := fun A => kp_Qv D cy A T1 _) X h (c_X12_scan l D cy ad T1 a0 _ h.2.2.2 f_a0 hw) f_a0 cv_12_574 ⟨by decide, by decide, rfl, rfl, by decide, by decide⟩ rfl hl.1 rfl (Nat.le_of_ble_eq_true rfl) dX12_read_6) (fun T2 hw l_T2 H locs h => ?_)
  have f_a0 := l_T2.is f_a0
  have hle := hle.tr l_T2
  refine lv_aload_n X.1 X.2.1 dX12_read_9 rfl (lv_at hl 0 rfl) ?_
  refine lv_iconst (v := 0) X.1 X.2.1 dX12_read_10 (by decide) ?_
  refine kp_putI X h f_a0 fp_12_330 rfl ⟨rfl, rfl⟩ dX12_read_11 (fun T3 e_T3 l_T3 H locs h => ?_)
  have hw := hw T3 e_T3
  have f_a0 := l_T3.is f_a0
  have hle := hle.tr l_T3
  refine lv_aload_n X.1 X.2.1 dX12_read_14 rfl (lv_at hl 0 rfl) ?_
  refine lv_iconst (v := 0) X.1 X.2.1 dX12_read_15 (by decide) ?_
  refine kp_putI X h f_a0 fp_12_373 rfl ⟨rfl, rfl⟩ dX12_read_16 (fun T4 e_T4 l_T4 H locs h => ?_)
  have hw := hw T4 e_T4
  have f_a0 := l_T4.is f_a0
  have hle := hle.tr l_T4
  refine lv_aload_n X.1 X.2.1 dX12_read_19 rfl (lv_at hl 0 rfl) ?_
  refine lv_iconst (v := (-1)) X.1 X.2.1 dX12_read_20 (by decide) ?_
  refine kp_putI X h f_a0 fp_12_40 rfl ⟨rfl, rfl⟩ dX12_read_21 (fun T5 e_T5 l_T5 H locs h => ?_)
  have hw := hw T5 e_T5
  have f_a0 := l_T5.is f_a0
  have hle := hle.tr l_T5
  refine lv_aload_n X.1 X.2.1 dX12_read_24 rfl (lv_at hl 0 rfl) ?_
  refine lv_iconst (v := 0) X.1 X.2.1 dX12_read_25 (by decide) ?_
  refine kp_putI X h f_a0 fp_12_391 rfl ⟨rfl, rfl⟩ dX12_read_26 (fun T6 e_T6 l_T6 H locs h => ?_)
  have hw := hw T6 e_T6
  have f_a0 := l_T6.is f_a0
  have hle := hle.tr l_T6
  refine lv_aload_n X.1 X.2.1 dX12_read_29 rfl (lv_at hl 0 rfl) ?_
  refine lv_iconst (v := 0) X.1 X.2.1 dX12_read_30 (by decide) ?_
  refine kp_putI X h f_a0 fp_12_376 rfl ⟨rfl, rfl⟩ dX12_read_31 (fun T7 e_T7 l_T7 H locs h => ?_)
  have hw := hw T7 e_T7
  have f_a0 := l_T7.is f_a0
  have hle := hle.tr l_T7
  refine lv_aload_n X.1 X.2.1 dX12_read_34 rfl (lv_at hl 0 rfl) ?_
  refine lv_iconst (v := 0) X.1 X.2.1 dX12_read_35 (by decide) ?_
  refine kp_putI X h f_a0 fp_12_388 rfl ⟨rfl, rfl⟩ dX12_read_36 (fun T8 e_T8 l_T8 H locs h => ?_)
  have hw := hw T8 e_T8
  have f_a0 := l_T8.is f_a0
  have hle := hle.tr l_T8
  refine lv_aload_n X.1 X.2.1 dX12_read_39 rfl (lv_at hl 0 rfl) ?_
  refine lv_iconst (v := 0) X.1 X.2.1 dX12_read_40 (by decide) ?_
  refine kp_putI X h f_a0 fp_12_370 rfl ⟨rfl, rfl⟩ dX12_read_41 (fun T9 e_T9 l_T9 H locs h => ?_)
  have hw := hw T9 e_T9
  have f_a0 := l_T9.is f_a0
  have hle := hle.tr l_T9
  refine lv_aload_n X.1 X.2.1 dX12_read_44 rfl (lv_at hl 0 rfl) ?_
  refine lv_iconst (v := 0) X.1 X.2.1 dX12_read_45 (by decide) ?_
  refine kp_putI X h f_a0 fp_12_535 rfl ⟨rfl, rfl⟩ dX12_read_46 (fun T10 e_T10 l_T10 H locs h => ?_)
  have hw := hw T10 e_T10
  have f_a0 := l_T10.is f_a0
  have hle := hle.tr l_T10
  refine lv_aload_n X.1 X.2.1 dX12_read_49 rfl (lv_at hl 0 rfl) ?_
  refine lv_iconst (v := 0) X.1 X.2.1 dX12_read_50 (by decide) ?_
  refine kp_putI X h f_a0 fp_12_403 rfl ⟨rfl, rfl⟩ dX12_read_51 (fun T11 e_T11 l_T11 H locs h => ?_)
  have hw := hw T11 e_T11
  have f_a0 := l_T11.is f_a0
  have hle := hle.tr l_T11
  refine lv_aload_n X.1 X.2.1 dX12_read_54 rfl (lv_at hl 0 rfl) ?_
  refine lv_iconst (v := 0) X.1 X.2.1 dX12_read_55 (by decide) ?_
  refine kp_putI X h f_a0 fp_12_412 rfl ⟨rfl, rfl⟩ dX12_read_56 (fun T12 e_T12 l_T12 H locs h => ?_)
  have hw := hw T12 e_T12
  have f_a0 := l_T12.is f_a0
  have hle := hle.tr l_T12
  refine lv_aload_n X.1 X.2.1 dX12_read_59 rfl (lv_at hl 0 rfl) ?_
  refine kp_callv X h (kp_runV (rm := { frames := 238, cells := 0, slots := 0, locals := 5436 }) (mc := 0) (ms := 0) (rest := []) (Qc := fun A => kp_Qv D cy A T12 _) X h (c_X12_text l D cy ad T12 a0 _ h.2.2.2 f_a0 hw) f_a0 cv_12_577 ⟨by decide, by decide, rfl, rfl, by decide, by decide⟩ rfl hl.1 rfl (Nat.le_of_ble_eq_true rfl) dX12_read_60) (fun T13 hw l_T13 H locs h => ?_)
  have f_a0 := l_T13.is f_a0
  have hle := hle.tr l_T13
  refine lv_aload_n X.1 X.2.1 dX12_read_63 rfl (lv_at hl 0 rfl) ?_
  refine kp_get X h f_a0 fp_12_373.l (v := .int (kp_I T13 2408 a0)) rfl dX12_read_64 ?_
  refine lv_if_ne (tgt := 93) X.1 X.2.1 dX12_read_67 (by decide) (fun c17 => ?_) (fun c17 => ?_)
  · have hw := hw.1 c17
    exact j93  T13 _ _ ls (lv_sub hl [0] rfl) h hle f_a0 hw
  · have hw := hw.2 c17
    refine lv_aload_n X.1 X.2.1 dX12_read_70 rfl (lv_at hl 0 rfl) ?_
    refine kp_get X h f_a0 fp_12_391.l (v := .int (kp_I T13 2412 a0)) rfl dX12_read_71 ?_
    refine lv_if_le (tgt := 93) X.1 X.2.1 dX12_read_74 (by decide) (fun c16 => ?_) (fun c16 => ?_)
    · have hw := hw.1 c16
      exact j93  T13 _ _ ls (lv_sub hl [0] rfl) h hle f_a0 hw
    · have hw := hw.2 c16
      refine lv_aload_n X.1 X.2.1 dX12_read_77 rfl (lv_at hl 0 rfl) ?_
      refine lv_aload_n X.1 X.2.1 dX12_read_78 rfl (lv_at hl 0 rfl) ?_
      refine kp_get X h f_a0 fp_12_391.l (v := .int (kp_I T13 2412 a0)) rfl dX12_read_79 ?_
      refine kp_putI X h f_a0 fp_12_373 rfl ⟨rfl, rfl⟩ dX12_read_82 (fun T14 e_T14 l_T14 H locs h => ?_)
      have hw := hw T14 e_T14
      have f_a0 := l_T14.is f_a0
      have hle := hle.tr l_T14
      refine lv_aload_n X.1 X.2.1 dX12_read_85 rfl (lv_at hl 0 rfl) ?_
      refine lv_aload_n X.1 X.2.1 dX12_read_86 rfl (lv_at hl 0 rfl) ?_
      refine kp_get X h f_a0 fp_12_394.l (v := .int (kp_I T14 2413 a0)) rfl dX12_read_87 ?_
      refine kp_putI X h f_a0 fp_12_40 rfl ⟨rfl, rfl⟩ dX12_read_90 (fun T15 e_T15 l_T15 H locs h => ?_)
      have hw := hw T15 e_T15
      have f_a0 := l_T15.is f_a0
      have hle := hle.tr l_T15
      exact j93  T15 _ _ ls (lv_sub hl [0] rfl) h hle f_a0 hw
