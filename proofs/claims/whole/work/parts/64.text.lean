theorem cv_8_113 : kp_CV RX8 113 yX5_variableCount cX5_variableCount 1 (some .int) 0 5 := ⟨⟨kp_mem 845 (by decide +kernel) (by decide +kernel), kp_mem 212 (by decide +kernel) (by decide +kernel), by decide +kernel⟩, kp_mem 842 (by decide +kernel) (by decide +kernel), kp_mem 843 (by decide +kernel) (by decide +kernel), kp_mem 844 (by decide +kernel) (by decide +kernel), by decide, TX5, 13, rfl⟩
theorem cv_8_127 : kp_CV RX8 127 yX0_setCounts cX0_setCounts 4 none 3 0 := ⟨⟨kp_mem 1134 (by decide +kernel) (by decide +kernel), kp_mem 205 (by decide +kernel) (by decide +kernel), by decide +kernel⟩, kp_mem 1131 (by decide +kernel) (by decide +kernel), kp_mem 1132 (by decide +kernel) (by decide +kernel), kp_mem 1133 (by decide +kernel) (by decide +kernel), by decide, TX0, 4, rfl⟩
theorem cv_8_131 : kp_CV RX8 131 yX0_setWays cX0_setWays 3 none 2 0 := ⟨⟨kp_mem 1138 (by decide +kernel) (by decide +kernel), kp_mem 205 (by decide +kernel) (by decide +kernel), by decide +kernel⟩, kp_mem 1135 (by decide +kernel) (by decide +kernel), kp_mem 1136 (by decide +kernel) (by decide +kernel), kp_mem 1137 (by decide +kernel) (by decide +kernel), by decide, TX0, 4, rfl⟩
theorem cv_8_100 : kp_CV RX8 100 yX5_beginDuty cX5_beginDuty 6 none 3 5 := ⟨⟨kp_mem 809 (by decide +kernel) (by decide +kernel), kp_mem 212 (by decide +kernel) (by decide +kernel), by decide +kernel⟩, kp_mem 806 (by decide +kernel) (by decide +kernel), kp_mem 807 (by decide +kernel) (by decide +kernel), kp_mem 808 (by decide +kernel) (by decide +kernel), by decide, TX5, 13, rfl⟩
theorem cv_8_104 : kp_CV RX8 104 yX0_addDuty cX0_addDuty 3 none 2 0 := ⟨⟨kp_mem 821 (by decide +kernel) (by decide +kernel), kp_mem 205 (by decide +kernel) (by decide +kernel), by decide +kernel⟩, kp_mem 818 (by decide +kernel) (by decide +kernel), kp_mem 819 (by decide +kernel) (by decide +kernel), kp_mem 820 (by decide +kernel) (by decide +kernel), by decide, TX0, 4, rfl⟩
theorem cv_8_110 : kp_CV RX8 110 yX8_readParameters cX8_readParameters 5 none 0 8 := ⟨⟨kp_mem 829 (by decide +kernel) (by decide +kernel), kp_mem 206 (by decide +kernel) (by decide +kernel), by decide +kernel⟩, kp_mem 826 (by decide +kernel) (by decide +kernel), kp_mem 828 (by decide +kernel) (by decide +kernel), kp_mem 13 (by decide +kernel) (by decide +kernel), by decide, TX8, 5, rfl⟩
theorem cv_8_63 : kp_CV RX8 63 yX8_readDuty cX8_readDuty 7 none 1 8 := ⟨⟨kp_mem 789 (by decide +kernel) (by decide +kernel), kp_mem 206 (by decide +kernel) (by decide +kernel), by decide +kernel⟩, kp_mem 786 (by decide +kernel) (by decide +kernel), kp_mem 788 (by decide +kernel) (by decide +kernel), kp_mem 8 (by decide +kernel) (by decide +kernel), by decide, TX8, 5, rfl⟩
theorem cv_8_49 : kp_CV RX8 49 yX2_writeTo cX2_writeTo 2 none 1 2 := ⟨⟨kp_mem 670 (by decide +kernel) (by decide +kernel), kp_mem 213 (by decide +kernel) (by decide +kernel), by decide +kernel⟩, kp_mem 667 (by decide +kernel) (by decide +kernel), kp_mem 668 (by decide +kernel) (by decide +kernel), kp_mem 669 (by decide +kernel) (by decide +kernel), by decide, TX2, 3, rfl⟩
theorem cv_8_53 : kp_CV RX8 53 yX5_clear cX5_clear 1 none 0 5 := ⟨⟨kp_mem 674 (by decide +kernel) (by decide +kernel), kp_mem 212 (by decide +kernel) (by decide +kernel), by decide +kernel⟩, kp_mem 671 (by decide +kernel) (by decide +kernel), kp_mem 672 (by decide +kernel) (by decide +kernel), kp_mem 673 (by decide +kernel) (by decide +kernel), by decide, TX5, 13, rfl⟩
theorem cv_8_56 : kp_CV RX8 56 yX9_start cX9_start 2 none 1 9 := ⟨⟨kp_mem 678 (by decide +kernel) (by decide +kernel), kp_mem 207 (by decide +kernel) (by decide +kernel), by decide +kernel⟩, kp_mem 675 (by decide +kernel) (by decide +kernel), kp_mem 676 (by decide +kernel) (by decide +kernel), kp_mem 677 (by decide +kernel) (by decide +kernel), by decide, TX9, 11, rfl⟩
theorem cv_8_60 : kp_CV RX8 60 yX8_collectDuties cX8_collectDuties 2 none 0 8 := ⟨⟨kp_mem 773 (by decide +kernel) (by decide +kernel), kp_mem 206 (by decide +kernel) (by decide +kernel), by decide +kernel⟩, kp_mem 770 (by decide +kernel) (by decide +kernel), kp_mem 772 (by decide +kernel) (by decide +kernel), kp_mem 6 (by decide +kernel) (by decide +kernel), by decide, TX8, 5, rfl⟩
theorem dX8_readDuty_0 : decode cX8_readDuty 0 = .ok (.aload_n 0, 1) := by decide +kernel
theorem dX8_readDuty_1 : decode cX8_readDuty 1 = .ok (.getfield 14, 3) := by decide +kernel
theorem dX8_readDuty_4 : decode cX8_readDuty 4 = .ok (.sipush 300, 3) := by decide +kernel
theorem dX8_readDuty_7 : decode cX8_readDuty 7 = .ok (.invokevirtual 90, 3) := by decide +kernel
theorem dX8_readDuty_10 : decode cX8_readDuty 10 = .ok (.aload_n 0, 1) := by decide +kernel
theorem dX8_readDuty_11 : decode cX8_readDuty 11 = .ok (.getfield 14, 3) := by decide +kernel
theorem dX8_readDuty_14 : decode cX8_readDuty 14 = .ok (.getfield 78, 3) := by decide +kernel
theorem dX8_readDuty_17 : decode cX8_readDuty 17 = .ok (.lstore_n 2, 1) := by decide +kernel
theorem dX8_readDuty_18 : decode cX8_readDuty 18 = .ok (.aload_n 0, 1) := by decide +kernel
theorem dX8_readDuty_19 : decode cX8_readDuty 19 = .ok (.getfield 14, 3) := by decide +kernel
theorem dX8_readDuty_22 : decode cX8_readDuty 22 = .ok (.getfield 93, 3) := by decide +kernel
theorem dX8_readDuty_25 : decode cX8_readDuty 25 = .ok (.istore 4, 2) := by decide +kernel
theorem dX8_readDuty_27 : decode cX8_readDuty 27 = .ok (.aload_n 0, 1) := by decide +kernel
theorem dX8_readDuty_28 : decode cX8_readDuty 28 = .ok (.getfield 14, 3) := by decide +kernel
theorem dX8_readDuty_31 : decode cX8_readDuty 31 = .ok (.sipush 259, 3) := by decide +kernel
theorem dX8_readDuty_34 : decode cX8_readDuty 34 = .ok (.invokevirtual 90, 3) := by decide +kernel
theorem dX8_readDuty_37 : decode cX8_readDuty 37 = .ok (.aload_n 0, 1) := by decide +kernel
theorem dX8_readDuty_38 : decode cX8_readDuty 38 = .ok (.getfield 14, 3) := by decide +kernel
theorem dX8_readDuty_41 : decode cX8_readDuty 41 = .ok (.invokevirtual 96, 3) := by decide +kernel
theorem dX8_readDuty_44 : decode cX8_readDuty 44 = .ok (.ifCond .eq 4, 3) := by decide +kernel
theorem dX8_readDuty_47 : decode cX8_readDuty 47 = .ok (.return_, 1) := by decide +kernel
theorem dX8_readDuty_48 : decode cX8_readDuty 48 = .ok (.aload_n 0, 1) := by decide +kernel
theorem dX8_readDuty_49 : decode cX8_readDuty 49 = .ok (.getfield 23, 3) := by decide +kernel
theorem dX8_readDuty_52 : decode cX8_readDuty 52 = .ok (.iload_n 1, 1) := by decide +kernel
theorem dX8_readDuty_53 : decode cX8_readDuty 53 = .ok (.lload_n 2, 1) := by decide +kernel
theorem dX8_readDuty_54 : decode cX8_readDuty 54 = .ok (.iload 4, 2) := by decide +kernel
theorem dX8_readDuty_56 : decode cX8_readDuty 56 = .ok (.invokevirtual 100, 3) := by decide +kernel
theorem dX8_readDuty_59 : decode cX8_readDuty 59 = .ok (.aload_n 0, 1) := by decide +kernel
theorem dX8_readDuty_60 : decode cX8_readDuty 60 = .ok (.getfield 27, 3) := by decide +kernel
theorem dX8_readDuty_63 : decode cX8_readDuty 63 = .ok (.iload_n 1, 1) := by decide +kernel
theorem dX8_readDuty_64 : decode cX8_readDuty 64 = .ok (.iload 4, 2) := by decide +kernel
theorem dX8_readDuty_66 : decode cX8_readDuty 66 = .ok (.invokevirtual 104, 3) := by decide +kernel
theorem dX8_readDuty_69 : decode cX8_readDuty 69 = .ok (.aload_n 0, 1) := by decide +kernel
theorem dX8_readDuty_70 : decode cX8_readDuty 70 = .ok (.getfield 14, 3) := by decide +kernel
theorem dX8_readDuty_73 : decode cX8_readDuty 73 = .ok (.bipush 40, 2) := by decide +kernel
theorem dX8_readDuty_75 : decode cX8_readDuty 75 = .ok (.invokevirtual 90, 3) := by decide +kernel
theorem dX8_readDuty_78 : decode cX8_readDuty 78 = .ok (.aload_n 0, 1) := by decide +kernel
theorem dX8_readDuty_79 : decode cX8_readDuty 79 = .ok (.getfield 14, 3) := by decide +kernel
theorem dX8_readDuty_82 : decode cX8_readDuty 82 = .ok (.getfield 66, 3) := by decide +kernel
theorem dX8_readDuty_85 : decode cX8_readDuty 85 = .ok (.bipush 41, 2) := by decide +kernel
theorem dX8_readDuty_87 : decode cX8_readDuty 87 = .ok (.if_icmp .eq 7, 3) := by decide +kernel
theorem dX8_readDuty_90 : decode cX8_readDuty 90 = .ok (.aload_n 0, 1) := by decide +kernel
theorem dX8_readDuty_91 : decode cX8_readDuty 91 = .ok (.invokevirtual 110, 3) := by decide +kernel
theorem dX8_readDuty_94 : decode cX8_readDuty 94 = .ok (.aload_n 0, 1) := by decide +kernel
theorem dX8_readDuty_95 : decode cX8_readDuty 95 = .ok (.getfield 14, 3) := by decide +kernel
theorem dX8_readDuty_98 : decode cX8_readDuty 98 = .ok (.bipush 41, 2) := by decide +kernel
theorem dX8_readDuty_100 : decode cX8_readDuty 100 = .ok (.invokevirtual 90, 3) := by decide +kernel
theorem dX8_readDuty_103 : decode cX8_readDuty 103 = .ok (.aload_n 0, 1) := by decide +kernel
theorem dX8_readDuty_104 : decode cX8_readDuty 104 = .ok (.getfield 23, 3) := by decide +kernel
theorem dX8_readDuty_107 : decode cX8_readDuty 107 = .ok (.invokevirtual 113, 3) := by decide +kernel
theorem dX8_readDuty_110 : decode cX8_readDuty 110 = .ok (.istore 5, 2) := by decide +kernel
theorem dX8_readDuty_112 : decode cX8_readDuty 112 = .ok (.aload_n 0, 1) := by decide +kernel
theorem dX8_readDuty_113 : decode cX8_readDuty 113 = .ok (.iconst 0, 1) := by decide +kernel
theorem dX8_readDuty_114 : decode cX8_readDuty 114 = .ok (.putfield 117, 3) := by decide +kernel
theorem dX8_readDuty_117 : decode cX8_readDuty 117 = .ok (.aload_n 0, 1) := by decide +kernel
theorem dX8_readDuty_118 : decode cX8_readDuty 118 = .ok (.invokevirtual 120, 3) := by decide +kernel
theorem dX8_readDuty_121 : decode cX8_readDuty 121 = .ok (.istore 6, 2) := by decide +kernel
theorem dX8_readDuty_123 : decode cX8_readDuty 123 = .ok (.aload_n 0, 1) := by decide +kernel
theorem dX8_readDuty_124 : decode cX8_readDuty 124 = .ok (.getfield 27, 3) := by decide +kernel
theorem dX8_readDuty_127 : decode cX8_readDuty 127 = .ok (.bipush 54, 2) := by decide +kernel
theorem dX8_readDuty_129 : decode cX8_readDuty 129 = .ok (.invokevirtual 123, 3) := by decide +kernel
theorem dX8_readDuty_132 : decode cX8_readDuty 132 = .ok (.pop, 1) := by decide +kernel
theorem dX8_readDuty_133 : decode cX8_readDuty 133 = .ok (.aload_n 0, 1) := by decide +kernel
theorem dX8_readDuty_134 : decode cX8_readDuty 134 = .ok (.getfield 27, 3) := by decide +kernel
theorem dX8_readDuty_137 : decode cX8_readDuty 137 = .ok (.iload_n 1, 1) := by decide +kernel
theorem dX8_readDuty_138 : decode cX8_readDuty 138 = .ok (.iload 5, 2) := by decide +kernel
theorem dX8_readDuty_140 : decode cX8_readDuty 140 = .ok (.aload_n 0, 1) := by decide +kernel
theorem dX8_readDuty_141 : decode cX8_readDuty 141 = .ok (.getfield 23, 3) := by decide +kernel
theorem dX8_readDuty_144 : decode cX8_readDuty 144 = .ok (.invokevirtual 113, 3) := by decide +kernel
theorem dX8_readDuty_147 : decode cX8_readDuty 147 = .ok (.invokevirtual 127, 3) := by decide +kernel
theorem dX8_readDuty_150 : decode cX8_readDuty 150 = .ok (.aload_n 0, 1) := by decide +kernel
theorem dX8_readDuty_151 : decode cX8_readDuty 151 = .ok (.getfield 27, 3) := by decide +kernel
theorem dX8_readDuty_154 : decode cX8_readDuty 154 = .ok (.iload_n 1, 1) := by decide +kernel
theorem dX8_readDuty_155 : decode cX8_readDuty 155 = .ok (.iload 6, 2) := by decide +kernel
theorem dX8_readDuty_157 : decode cX8_readDuty 157 = .ok (.aload_n 0, 1) := by decide +kernel
theorem dX8_readDuty_158 : decode cX8_readDuty 158 = .ok (.getfield 117, 3) := by decide +kernel
theorem dX8_readDuty_161 : decode cX8_readDuty 161 = .ok (.ior, 1) := by decide +kernel
theorem dX8_readDuty_162 : decode cX8_readDuty 162 = .ok (.invokevirtual 131, 3) := by decide +kernel
theorem dX8_readDuty_165 : decode cX8_readDuty 165 = .ok (.return_, 1) := by decide +kernel
def wX8_readDuty_b94 (a0 : Nat) (x1 : Int32)  (Sn : kp_S) (post : kp_S → Prop) : Prop :=
  ∃ b1001 : Nat, kp_R Sn 1600 a0 = some b1001 ∧
  wX9_expect b1001 41 Sn (fun T1002 =>
  ∃ b1003 : Nat, kp_R T1002 1601 a0 = some b1003 ∧
  wX5_variableCount b1003 T1002 (fun y1005 T1004 =>
  ∀ T1006 : kp_S, T1006 = kp_sI T1004 1604 a0 0 →
  wX8_block_t a0 T1006 (fun y1008 T1007 =>
  ∃ b1009 : Nat, kp_R T1007 1603 a0 = some b1009 ∧
  wX0_add b1009 54 T1007 (fun y1011 T1010 =>
  ∃ b1012 : Nat, kp_R T1010 1603 a0 = some b1012 ∧
  ∃ b1013 : Nat, kp_R T1010 1601 a0 = some b1013 ∧
  wX5_variableCount b1013 T1010 (fun y1015 T1014 =>
  wX0_setCounts b1012 x1 y1005 y1015 T1014 (fun T1016 =>
  ∃ b1017 : Nat, kp_R T1016 1603 a0 = some b1017 ∧
  wX0_setWays b1017 x1 (y1008 ||| (kp_I T1016 1604 a0)) T1016 (fun T1018 =>
  post T1018)))))))
def wX8_readDuty (a0 : Nat) (x1 : Int32) (S : kp_S) (post : kp_S → Prop) : Prop :=
  ∃ b1 : Nat, kp_R S 1600 a0 = some b1 ∧
  wX9_expect b1 300 S (fun T2 =>
  ∃ b3 : Nat, kp_R T2 1600 a0 = some b3 ∧
  ∀ z4 : Int64, z4 = (kp_J T2 1808 b3) →
  ∀ y5 : Int32, y5 = (kp_I T2 1806 b3) →
  wX9_expect b3 259 T2 (fun T6 =>
  ∃ b7 : Nat, kp_R T6 1600 a0 = some b7 ∧
  wX9_isStopped b7 T6 (fun y9 T8 =>
  ((y9 = 0 →
  ∃ b10 : Nat, kp_R T8 1601 a0 = some b10 ∧
  wX5_beginDuty b10 x1 z4 y5 T8 (fun T11 =>
  ∃ b12 : Nat, kp_R T11 1603 a0 = some b12 ∧
  wX0_addDuty b12 x1 y5 T11 (fun T13 =>
  ∃ b14 : Nat, kp_R T13 1600 a0 = some b14 ∧
  wX9_expect b14 40 T13 (fun T15 =>
  ∃ b16 : Nat, kp_R T15 1600 a0 = some b16 ∧
  (((kp_I T15 1805 b16) = 41 →
  wX8_readDuty_b94 a0 x1   T15 post) ∧ (¬ (kp_I T15 1805 b16) = 41 →
  wX8_readParameters a0 T15 (fun T17 =>
  wX8_readDuty_b94 a0 x1   T17 post))))))) ∧ (¬ y9 = 0 →
  post T8)))))
set_option maxHeartbeats 4000000 in
set_option maxRecDepth 100000 in
theorem c_X8_readDuty (l : Launch) (D : va_G) (cy : Nat → ClassId) (ad : (Nat → Nat) × (Nat → Nat)) (S : kp_S) (a0 : Nat) (x1 : Int32) (post : kp_S → Prop) (hS : kp_ok S) (f_a0 : kp_is S a0 8) (hw : wX8_readDuty a0 x1 S post) : kp_M l yX8_readDuty cX8_readDuty 7 none { frames := 311, cells := 0, slots := 0, locals := 7335 } D cy ad S [.ref a0, .int x1] 0 0 (fun A => kp_Qv D cy A S post) := by
  refine kp_start (own := RX8) (by decide) rfl (Nat.le_of_ble_eq_true rfl) hS ?_
  intro p e s m below meth c A ls X hr hlocks hname h hl
  have hle : kp_le S S := kp_le.rf
  have hl : lv_has ls 7 [(0, .ref a0), (1, .int x1)] := hl
  have j94 : ∀  (Sn : kp_S) (H : Heap) (locs : List Loc) (ls : Array Slot), lv_has ls 7 [(0, .ref a0), (1, .int x1)] → kp_H D cy A Sn s.heap H locs → kp_le S Sn → kp_is Sn a0 8 → wX8_readDuty_b94 a0 x1   Sn post → W p l e { frames := 311, cells := 0, slots := 0, locals := 7335 } s m ([.ref a0, .int x1] : List Value).toArray below meth c H locs 0 0 (MQ below (kp_Qv D cy A S post) ([.ref a0, .int x1] : List Value).toArray s 0 0 A) (F0 m 94 ls []) := by
    intro  Sn H locs ls hl h hle f_a0 hw
    unfold wX8_readDuty_b94 at hw
    refine lv_aload_n X.1 X.2.1 dX8_readDuty_94 rfl (lv_at hl 0 rfl) ?_
    obtain ⟨b1001, e_b1001, hw⟩ := hw
    have f_b1001 := h.2.2.2.rf (c := 8) (k := 0) f_a0 (by decide) (by decide) e_b1001 (t := 9) rfl
    refine kp_get X h f_a0 ff_8_14.l (v := .ref b1001) (congrArg va_rf e_b1001) dX8_readDuty_95 ?_
    refine lv_bipush (v := 41) X.1 X.2.1 dX8_readDuty_98 (by decide) ?_
    refine kp_callv X h (kp_runV (rm := { frames := 6, cells := 0, slots := 0, locals := 134 }) (mc := 0) (ms := 0) (rest := []) (Qc := fun A => kp_Qv D cy A Sn _) X h (c_X9_expect l D cy ad Sn b1001 41 _ h.2.2.2 f_b1001 hw) f_b1001 cv_8_90 ⟨by decide, by decide, rfl, rfl, by decide, by decide⟩ rfl hl.1 rfl (Nat.le_of_ble_eq_true rfl) dX8_readDuty_100) (fun T1002 hw l_T1002 H locs h => ?_)
    have f_a0 := l_T1002.is f_a0
    have f_b1001 := l_T1002.is f_b1001
    have hle := hle.tr l_T1002
    refine lv_aload_n X.1 X.2.1 dX8_readDuty_103 rfl (lv_at hl 0 rfl) ?_
    obtain ⟨b1003, e_b1003, hw⟩ := hw
    have f_b1003 := h.2.2.2.rf (c := 8) (k := 1) f_a0 (by decide) (by decide) e_b1003 (t := 5) rfl
    refine kp_get X h f_a0 ff_8_23.l (v := .ref b1003) (congrArg va_rf e_b1003) dX8_readDuty_104 ?_
    refine kp_calli X h (kp_runV (rm := { frames := 0, cells := 0, slots := 0, locals := 0 }) (mc := 0) (ms := 0) (rest := []) (Qc := fun A => kp_Qi D cy A T1002 _) X h (c_X5_variableCount l D cy ad T1002 b1003 _ h.2.2.2 f_b1003 hw) f_b1003 cv_8_113 ⟨by decide, by decide, rfl, rfl, by decide, by decide⟩ rfl hl.1 rfl (Nat.le_of_ble_eq_true rfl) dX8_readDuty_107) (fun y1005 T1004 hw l_T1004 H locs h => ?_)
    have f_a0 := l_T1004.is f_a0
    have f_b1001 := l_T1004.is f_b1001
    have f_b1003 := l_T1004.is f_b1003
    have hle := hle.tr l_T1004
    refine lv_istore (lv' := [(5, .int y1005), (0, .ref a0), (1, .int x1)]) X.1 X.2.1 dX8_readDuty_110 hl (by decide) rfl (fun ls hl => ?_)
    refine lv_aload_n X.1 X.2.1 dX8_readDuty_112 rfl (lv_at hl 1 rfl) ?_
    refine lv_iconst (v := 0) X.1 X.2.1 dX8_readDuty_113 (by decide) ?_
    refine kp_putI X h f_a0 fp_8_117 rfl ⟨rfl, rfl⟩ dX8_readDuty_114 (fun T1006 e_T1006 l_T1006 H locs h => ?_)
    have hw := hw T1006 e_T1006
    have f_a0 := l_T1006.is f_a0
    have f_b1001 := l_T1006.is f_b1001
    have f_b1003 := l_T1006.is f_b1003
    have hle := hle.tr l_T1006
    refine lv_aload_n X.1 X.2.1 dX8_readDuty_117 rfl (lv_at hl 1 rfl) ?_
    refine kp_calli X h (kp_runV (rm := { frames := 310, cells := 0, slots := 0, locals := 7311 }) (mc := 0) (ms := 0) (rest := []) (Qc := fun A => kp_Qi D cy A T1006 _) X h (c_X8_block_t l D cy ad T1006 a0 _ h.2.2.2 f_a0 hw) f_a0 cv_8_120 ⟨by decide, by decide, rfl, rfl, by decide, by decide⟩ rfl hl.1 rfl (Nat.le_of_ble_eq_true rfl) dX8_readDuty_118) (fun y1008 T1007 hw l_T1007 H locs h => ?_)
    have f_a0 := l_T1007.is f_a0
    have f_b1001 := l_T1007.is f_b1001
    have f_b1003 := l_T1007.is f_b1003
    have hle := hle.tr l_T1007
    refine lv_istore (lv' := [(6, .int y1008), (5, .int y1005), (0, .ref a0), (1, .int x1)]) X.1 X.2.1 dX8_readDuty_121 hl (by decide) rfl (fun ls hl => ?_)
    refine lv_aload_n X.1 X.2.1 dX8_readDuty_123 rfl (lv_at hl 2 rfl) ?_
    obtain ⟨b1009, e_b1009, hw⟩ := hw
    have f_b1009 := h.2.2.2.rf (c := 8) (k := 3) f_a0 (by decide) (by decide) e_b1009 (t := 0) rfl
    refine kp_get X h f_a0 fp_8_27.l (v := .ref b1009) (congrArg va_rf e_b1009) dX8_readDuty_124 ?_
    refine lv_bipush (v := 54) X.1 X.2.1 dX8_readDuty_127 (by decide) ?_
    refine kp_calli X h (kp_runV (rm := { frames := 0, cells := 0, slots := 0, locals := 0 }) (mc := 0) (ms := 0) (rest := []) (Qc := fun A => kp_Qi D cy A T1007 _) X h (c_X0_add l D cy ad T1007 b1009 54 _ h.2.2.2 f_b1009 hw) f_b1009 cv_8_123 ⟨by decide, by decide, rfl, rfl, by decide, by decide⟩ rfl hl.1 rfl (Nat.le_of_ble_eq_true rfl) dX8_readDuty_129) (fun y1011 T1010 hw l_T1010 H locs h => ?_)
    have f_a0 := l_T1010.is f_a0
    have f_b1001 := l_T1010.is f_b1001
    have f_b1003 := l_T1010.is f_b1003
    have f_b1009 := l_T1010.is f_b1009
    have hle := hle.tr l_T1010
    refine lv_pop X.1 X.2.1 dX8_readDuty_132 rfl ?_
    refine lv_aload_n X.1 X.2.1 dX8_readDuty_133 rfl (lv_at hl 2 rfl) ?_
    obtain ⟨b1012, e_b1012, hw⟩ := hw
    have f_b1012 := h.2.2.2.rf (c := 8) (k := 3) f_a0 (by decide) (by decide) e_b1012 (t := 0) rfl
    refine kp_get X h f_a0 fp_8_27.l (v := .ref b1012) (congrArg va_rf e_b1012) dX8_readDuty_134 ?_
    refine lv_iload_n X.1 X.2.1 dX8_readDuty_137 rfl (lv_at hl 3 rfl) ?_
    refine lv_iload X.1 X.2.1 dX8_readDuty_138 (lv_at hl 1 rfl) ?_
    refine lv_aload_n X.1 X.2.1 dX8_readDuty_140 rfl (lv_at hl 2 rfl) ?_
    obtain ⟨b1013, e_b1013, hw⟩ := hw
    have f_b1013 := h.2.2.2.rf (c := 8) (k := 1) f_a0 (by decide) (by decide) e_b1013 (t := 5) rfl
    refine kp_get X h f_a0 ff_8_23.l (v := .ref b1013) (congrArg va_rf e_b1013) dX8_readDuty_141 ?_
    refine kp_calli X h (kp_runV (rm := { frames := 0, cells := 0, slots := 0, locals := 0 }) (mc := 0) (ms := 0) (rest := [.int y1005, .int x1, .ref b1012]) (Qc := fun A => kp_Qi D cy A T1010 _) X h (c_X5_variableCount l D cy ad T1010 b1013 _ h.2.2.2 f_b1013 hw) f_b1013 cv_8_113 ⟨by decide, by decide, rfl, rfl, by decide, by decide⟩ rfl hl.1 rfl (Nat.le_of_ble_eq_true rfl) dX8_readDuty_144) (fun y1015 T1014 hw l_T1014 H locs h => ?_)
    have f_a0 := l_T1014.is f_a0
    have f_b1001 := l_T1014.is f_b1001
    have f_b1003 := l_T1014.is f_b1003
    have f_b1009 := l_T1014.is f_b1009
    have f_b1012 := l_T1014.is f_b1012
    have f_b1013 := l_T1014.is f_b1013
    have hle := hle.tr l_T1014
    refine kp_callv X h (kp_runV (rm := { frames := 1, cells := 0, slots := 0, locals := 24 }) (mc := 0) (ms := 0) (rest := []) (Qc := fun A => kp_Qv D cy A T1014 _) X h (c_X0_setCounts l D cy ad T1014 b1012 x1 y1005 y1015 _ h.2.2.2 f_b1012 hw) f_b1012 cv_8_127 ⟨by decide, by decide, rfl, rfl, by decide, by decide⟩ rfl hl.1 rfl (Nat.le_of_ble_eq_true rfl) dX8_readDuty_147) (fun T1016 hw l_T1016 H locs h => ?_)
    have f_a0 := l_T1016.is f_a0
    have f_b1001 := l_T1016.is f_b1001
    have f_b1003 := l_T1016.is f_b1003
    have f_b1009 := l_T1016.is f_b1009
    have f_b1012 := l_T1016.is f_b1012
    have f_b1013 := l_T1016.is f_b1013
    have hle := hle.tr l_T1016
    refine lv_aload_n X.1 X.2.1 dX8_readDuty_150 rfl (lv_at hl 2 rfl) ?_
    obtain ⟨b1017, e_b1017, hw⟩ := hw
    have f_b1017 := h.2.2.2.rf (c := 8) (k := 3) f_a0 (by decide) (by decide) e_b1017 (t := 0) rfl
    refine kp_get X h f_a0 fp_8_27.l (v := .ref b1017) (congrArg va_rf e_b1017) dX8_readDuty_151 ?_
    refine lv_iload_n X.1 X.2.1 dX8_readDuty_154 rfl (lv_at hl 3 rfl) ?_
    refine lv_iload X.1 X.2.1 dX8_readDuty_155 (lv_at hl 0 rfl) ?_
    refine lv_aload_n X.1 X.2.1 dX8_readDuty_157 rfl (lv_at hl 2 rfl) ?_
    refine kp_get X h f_a0 fp_8_117.l (v := .int (kp_I T1016 1604 a0)) rfl dX8_readDuty_158 ?_
    refine lv_ior X.1 X.2.1 dX8_readDuty_161 ?_
    refine kp_callv X h (kp_runV (rm := { frames := 1, cells := 0, slots := 0, locals := 24 }) (mc := 0) (ms := 0) (rest := []) (Qc := fun A => kp_Qv D cy A T1016 _) X h (c_X0_setWays l D cy ad T1016 b1017 x1 (y1008 ||| (kp_I T1016 1604 a0)) _ h.2.2.2 f_b1017 hw) f_b1017 cv_8_131 ⟨by decide, by decide, rfl, rfl, by decide, by decide⟩ rfl hl.1 rfl (Nat.le_of_ble_eq_true rfl) dX8_readDuty_162) (fun T1018 hw l_T1018 H locs h => ?_)
    have f_a0 := l_T1018.is f_a0
    have f_b1001 := l_T1018.is f_b1001
    have f_b1003 := l_T1018.is f_b1003
    have f_b1009 := l_T1018.is f_b1009
    have f_b1012 := l_T1018.is f_b1012
    have f_b1013 := l_T1018.is f_b1013
    have f_b1017 := l_T1018.is f_b1017
    have hle := hle.tr l_T1018
    exact kp_retv X hr hlocks h hle hw dX8_readDuty_165
  unfold wX8_readDuty at hw
  have h : kp_H D cy A S s.heap s.heap [] := h
  revert h
  intro h
  refine lv_aload_n X.1 X.2.1 dX8_readDuty_0 rfl (lv_at hl 0 rfl) ?_
  obtain ⟨b1, e_b1, hw⟩ := hw
  have f_b1 := h.2.2.2.rf (c := 8) (k := 0) f_a0 (by decide) (by decide) e_b1 (t := 9) rfl
  refine kp_get X h f_a0 ff_8_14.l (v := .ref b1) (congrArg va_rf e_b1) dX8_readDuty_1 ?_
  refine lv_sipush (v := 300) X.1 X.2.1 dX8_readDuty_4 (by decide) ?_
  refine kp_callv X h (kp_runV (rm := { frames := 6, cells := 0, slots := 0, locals := 134 }) (mc := 0) (ms := 0) (rest := []) (Qc := fun A => kp_Qv D cy A S _) X h (c_X9_expect l D cy ad S b1 300 _ h.2.2.2 f_b1 hw) f_b1 cv_8_90 ⟨by decide, by decide, rfl, rfl, by decide, by decide⟩ rfl hl.1 rfl (Nat.le_of_ble_eq_true rfl) dX8_readDuty_7) (fun T2 hw l_T2 H locs h => ?_)
  have f_a0 := l_T2.is f_a0
  have f_b1 := l_T2.is f_b1
  have hle := hle.tr l_T2
  refine lv_aload_n X.1 X.2.1 dX8_readDuty_10 rfl (lv_at hl 0 rfl) ?_
  obtain ⟨b3, e_b3, hw⟩ := hw
  have f_b3 := h.2.2.2.rf (c := 8) (k := 0) f_a0 (by decide) (by decide) e_b3 (t := 9) rfl
  refine kp_get X h f_a0 ff_8_14.l (v := .ref b3) (congrArg va_rf e_b3) dX8_readDuty_11 ?_
  refine kp_get X h f_b3 fp_8_78.l (v := .long (kp_J T2 1808 b3)) rfl dX8_readDuty_14 ?_
  refine lv_topl (fun z4 e_z4 => ?_)
  have hw := hw z4 e_z4
  refine lv_lstore_n (lv' := [(2, .long z4), (0, .ref a0), (1, .int x1)]) X.1 X.2.1 dX8_readDuty_17 rfl hl (by decide) rfl (fun ls hl => ?_)
  refine lv_aload_n X.1 X.2.1 dX8_readDuty_18 rfl (lv_at hl 1 rfl) ?_
  refine kp_get X h f_a0 ff_8_14.l (v := .ref b3) (congrArg va_rf e_b3) dX8_readDuty_19 ?_
  refine kp_get X h f_b3 fp_8_93.l (v := .int (kp_I T2 1806 b3)) rfl dX8_readDuty_22 ?_
  refine lv_topi (fun y5 e_y5 => ?_)
  have hw := hw y5 e_y5
  refine lv_istore (lv' := [(4, .int y5), (2, .long z4), (0, .ref a0), (1, .int x1)]) X.1 X.2.1 dX8_readDuty_25 hl (by decide) rfl (fun ls hl => ?_)
  refine lv_aload_n X.1 X.2.1 dX8_readDuty_27 rfl (lv_at hl 2 rfl) ?_
  refine kp_get X h f_a0 ff_8_14.l (v := .ref b3) (congrArg va_rf e_b3) dX8_readDuty_28 ?_
  refine lv_sipush (v := 259) X.1 X.2.1 dX8_readDuty_31 (by decide) ?_
  refine kp_callv X h (kp_runV (rm := { frames := 6, cells := 0, slots := 0, locals := 134 }) (mc := 0) (ms := 0) (rest := []) (Qc := fun A => kp_Qv D cy A T2 _) X h (c_X9_expect l D cy ad T2 b3 259 _ h.2.2.2 f_b3 hw) f_b3 cv_8_90 ⟨by decide, by decide, rfl, rfl, by decide, by decide⟩ rfl hl.1 rfl (Nat.le_of_ble_eq_true rfl) dX8_readDuty_34) (fun T6 hw l_T6 H locs h => ?_)
  have f_a0 := l_T6.is f_a0
  have f_b1 := l_T6.is f_b1
  have f_b3 := l_T6.is f_b3
  have hle := hle.tr l_T6
  refine lv_aload_n X.1 X.2.1 dX8_readDuty_37 rfl (lv_at hl 2 rfl) ?_
  obtain ⟨b7, e_b7, hw⟩ := hw
  have f_b7 := h.2.2.2.rf (c := 8) (k := 0) f_a0 (by decide) (by decide) e_b7 (t := 9) rfl
  refine kp_get X h f_a0 ff_8_14.l (v := .ref b7) (congrArg va_rf e_b7) dX8_readDuty_38 ?_
  refine kp_calli X h (kp_runV (rm := { frames := 0, cells := 0, slots := 0, locals := 0 }) (mc := 0) (ms := 0) (rest := []) (Qc := fun A => kp_Qi D cy A T6 _) X h (c_X9_isStopped l D cy ad T6 b7 _ h.2.2.2 f_b7 hw) f_b7 cv_8_96 ⟨by decide, by decide, rfl, rfl, by decide, by decide⟩ rfl hl.1 rfl (Nat.le_of_ble_eq_true rfl) dX8_readDuty_41) (fun y9 T8 hw l_T8 H locs h => ?_)
  have f_a0 := l_T8.is f_a0
  have f_b1 := l_T8.is f_b1
  have f_b3 := l_T8.is f_b3
  have f_b7 := l_T8.is f_b7
  have hle := hle.tr l_T8
  refine lv_if_eq (tgt := 48) X.1 X.2.1 dX8_readDuty_44 (by decide) (fun c19 => ?_) (fun c19 => ?_)
  · have hw := hw.1 c19
    refine lv_aload_n X.1 X.2.1 dX8_readDuty_48 rfl (lv_at hl 2 rfl) ?_
    obtain ⟨b10, e_b10, hw⟩ := hw
    have f_b10 := h.2.2.2.rf (c := 8) (k := 1) f_a0 (by decide) (by decide) e_b10 (t := 5) rfl
    refine kp_get X h f_a0 ff_8_23.l (v := .ref b10) (congrArg va_rf e_b10) dX8_readDuty_49 ?_
    refine lv_iload_n X.1 X.2.1 dX8_readDuty_52 rfl (lv_at hl 3 rfl) ?_
    refine lv_lload_n X.1 X.2.1 dX8_readDuty_53 rfl (lv_at hl 1 rfl) ?_
    refine lv_iload X.1 X.2.1 dX8_readDuty_54 (lv_at hl 0 rfl) ?_
    refine kp_callv X h (kp_runV (rm := { frames := 1, cells := 0, slots := 0, locals := 23 }) (mc := 0) (ms := 0) (rest := []) (Qc := fun A => kp_Qv D cy A T8 _) X h (c_X5_beginDuty l D cy ad T8 b10 x1 z4 y5 _ h.2.2.2 f_b10 hw) f_b10 cv_8_100 ⟨by decide, by decide, rfl, rfl, by decide, by decide⟩ rfl hl.1 rfl (Nat.le_of_ble_eq_true rfl) dX8_readDuty_56) (fun T11 hw l_T11 H locs h => ?_)
    have f_a0 := l_T11.is f_a0
    have f_b1 := l_T11.is f_b1
    have f_b3 := l_T11.is f_b3
    have f_b7 := l_T11.is f_b7
    have f_b10 := l_T11.is f_b10
    have hle := hle.tr l_T11
    refine lv_aload_n X.1 X.2.1 dX8_readDuty_59 rfl (lv_at hl 2 rfl) ?_
    obtain ⟨b12, e_b12, hw⟩ := hw
    have f_b12 := h.2.2.2.rf (c := 8) (k := 3) f_a0 (by decide) (by decide) e_b12 (t := 0) rfl
    refine kp_get X h f_a0 fp_8_27.l (v := .ref b12) (congrArg va_rf e_b12) dX8_readDuty_60 ?_
    refine lv_iload_n X.1 X.2.1 dX8_readDuty_63 rfl (lv_at hl 3 rfl) ?_
    refine lv_iload X.1 X.2.1 dX8_readDuty_64 (lv_at hl 0 rfl) ?_
    refine kp_callv X h (kp_runV (rm := { frames := 1, cells := 0, slots := 0, locals := 24 }) (mc := 0) (ms := 0) (rest := []) (Qc := fun A => kp_Qv D cy A T11 _) X h (c_X0_addDuty l D cy ad T11 b12 x1 y5 _ h.2.2.2 f_b12 hw) f_b12 cv_8_104 ⟨by decide, by decide, rfl, rfl, by decide, by decide⟩ rfl hl.1 rfl (Nat.le_of_ble_eq_true rfl) dX8_readDuty_66) (fun T13 hw l_T13 H locs h => ?_)
    have f_a0 := l_T13.is f_a0
    have f_b1 := l_T13.is f_b1
    have f_b3 := l_T13.is f_b3
    have f_b7 := l_T13.is f_b7
    have f_b10 := l_T13.is f_b10
    have f_b12 := l_T13.is f_b12
    have hle := hle.tr l_T13
    refine lv_aload_n X.1 X.2.1 dX8_readDuty_69 rfl (lv_at hl 2 rfl) ?_
    obtain ⟨b14, e_b14, hw⟩ := hw
    have f_b14 := h.2.2.2.rf (c := 8) (k := 0) f_a0 (by decide) (by decide) e_b14 (t := 9) rfl
    refine kp_get X h f_a0 ff_8_14.l (v := .ref b14) (congrArg va_rf e_b14) dX8_readDuty_70 ?_
    refine lv_bipush (v := 40) X.1 X.2.1 dX8_readDuty_73 (by decide) ?_
    refine kp_callv X h (kp_runV (rm := { frames := 6, cells := 0, slots := 0, locals := 134 }) (mc := 0) (ms := 0) (rest := []) (Qc := fun A => kp_Qv D cy A T13 _) X h (c_X9_expect l D cy ad T13 b14 40 _ h.2.2.2 f_b14 hw) f_b14 cv_8_90 ⟨by decide, by decide, rfl, rfl, by decide, by decide⟩ rfl hl.1 rfl (Nat.le_of_ble_eq_true rfl) dX8_readDuty_75) (fun T15 hw l_T15 H locs h => ?_)
    have f_a0 := l_T15.is f_a0
    have f_b1 := l_T15.is f_b1
    have f_b3 := l_T15.is f_b3
    have f_b7 := l_T15.is f_b7
    have f_b10 := l_T15.is f_b10
    have f_b12 := l_T15.is f_b12
    have f_b14 := l_T15.is f_b14
    have hle := hle.tr l_T15
    refine lv_aload_n X.1 X.2.1 dX8_readDuty_78 rfl (lv_at hl 2 rfl) ?_
    obtain ⟨b16, e_b16, hw⟩ := hw
    have f_b16 := h.2.2.2.rf (c := 8) (k := 0) f_a0 (by decide) (by decide) e_b16 (t := 9) rfl
    refine kp_get X h f_a0 ff_8_14.l (v := .ref b16) (congrArg va_rf e_b16) dX8_readDuty_79 ?_
    refine kp_get X h f_b16 fp_8_66.l (v := .int (kp_I T15 1805 b16)) rfl dX8_readDuty_82 ?_
    refine lv_bipush (v := 41) X.1 X.2.1 dX8_readDuty_85 (by decide) ?_
    refine lv_icmp_eq (tgt := 94) X.1 X.2.1 dX8_readDuty_87 (by decide) (fun c18 => ?_) (fun c18 => ?_)
    · have hw := hw.1 c18
      exact j94  T15 _ _ ls (lv_sub hl [2, 3] rfl) h hle f_a0 hw
    · have hw := hw.2 c18
      refine lv_aload_n X.1 X.2.1 dX8_readDuty_90 rfl (lv_at hl 2 rfl) ?_
      refine kp_callv X h (kp_runV (rm := { frames := 7, cells := 0, slots := 0, locals := 155 }) (mc := 0) (ms := 0) (rest := []) (Qc := fun A => kp_Qv D cy A T15 _) X h (c_X8_readParameters l D cy ad T15 a0 _ h.2.2.2 f_a0 hw) f_a0 cv_8_110 ⟨by decide, by decide, rfl, rfl, by decide, by decide⟩ rfl hl.1 rfl (Nat.le_of_ble_eq_true rfl) dX8_readDuty_91) (fun T17 hw l_T17 H locs h => ?_)
      have f_a0 := l_T17.is f_a0
      have f_b1 := l_T17.is f_b1
      have f_b3 := l_T17.is f_b3
      have f_b7 := l_T17.is f_b7
      have f_b10 := l_T17.is f_b10
      have f_b12 := l_T17.is f_b12
      have f_b14 := l_T17.is f_b14
      have f_b16 := l_T17.is f_b16
      have hle := hle.tr l_T17
      exact j94  T17 _ _ ls (lv_sub hl [2, 3] rfl) h hle f_a0 hw
  · have hw := hw.2 c19
    exact kp_retv X hr hlocks h hle hw dX8_readDuty_47
theorem dX8_readText_0 : decode cX8_readText 0 = .ok (.aload_n 0, 1) := by decide +kernel
theorem dX8_readText_1 : decode cX8_readText 1 = .ok (.aload_n 1, 1) := by decide +kernel
theorem dX8_readText_2 : decode cX8_readText 2 = .ok (.putfield 27, 3) := by decide +kernel
theorem dX8_readText_5 : decode cX8_readText 5 = .ok (.aload_n 0, 1) := by decide +kernel
theorem dX8_readText_6 : decode cX8_readText 6 = .ok (.getfield 36, 3) := by decide +kernel
theorem dX8_readText_9 : decode cX8_readText 9 = .ok (.aload_n 1, 1) := by decide +kernel
theorem dX8_readText_10 : decode cX8_readText 10 = .ok (.invokevirtual 49, 3) := by decide +kernel
theorem dX8_readText_13 : decode cX8_readText 13 = .ok (.aload_n 0, 1) := by decide +kernel
theorem dX8_readText_14 : decode cX8_readText 14 = .ok (.getfield 23, 3) := by decide +kernel
theorem dX8_readText_17 : decode cX8_readText 17 = .ok (.invokevirtual 53, 3) := by decide +kernel
theorem dX8_readText_20 : decode cX8_readText 20 = .ok (.aload_n 0, 1) := by decide +kernel
theorem dX8_readText_21 : decode cX8_readText 21 = .ok (.getfield 14, 3) := by decide +kernel
theorem dX8_readText_24 : decode cX8_readText 24 = .ok (.iload_n 2, 1) := by decide +kernel
theorem dX8_readText_25 : decode cX8_readText 25 = .ok (.invokevirtual 56, 3) := by decide +kernel
theorem dX8_readText_28 : decode cX8_readText 28 = .ok (.aload_n 0, 1) := by decide +kernel
theorem dX8_readText_29 : decode cX8_readText 29 = .ok (.invokevirtual 60, 3) := by decide +kernel
theorem dX8_readText_32 : decode cX8_readText 32 = .ok (.aload_n 0, 1) := by decide +kernel
theorem dX8_readText_33 : decode cX8_readText 33 = .ok (.getfield 14, 3) := by decide +kernel
theorem dX8_readText_36 : decode cX8_readText 36 = .ok (.iload_n 2, 1) := by decide +kernel
theorem dX8_readText_37 : decode cX8_readText 37 = .ok (.invokevirtual 56, 3) := by decide +kernel
theorem dX8_readText_40 : decode cX8_readText 40 = .ok (.aload_n 0, 1) := by decide +kernel
theorem dX8_readText_41 : decode cX8_readText 41 = .ok (.iconst 0, 1) := by decide +kernel
theorem dX8_readText_42 : decode cX8_readText 42 = .ok (.invokevirtual 63, 3) := by decide +kernel
theorem dX8_readText_45 : decode cX8_readText 45 = .ok (.iconst 1, 1) := by decide +kernel
theorem dX8_readText_46 : decode cX8_readText 46 = .ok (.istore_n 3, 1) := by decide +kernel
theorem dX8_readText_47 : decode cX8_readText 47 = .ok (.iload_n 3, 1) := by decide +kernel
theorem dX8_readText_48 : decode cX8_readText 48 = .ok (.sipush 3000, 3) := by decide +kernel
theorem dX8_readText_51 : decode cX8_readText 51 = .ok (.if_icmp .gt 27, 3) := by decide +kernel
theorem dX8_readText_54 : decode cX8_readText 54 = .ok (.aload_n 0, 1) := by decide +kernel
theorem dX8_readText_55 : decode cX8_readText 55 = .ok (.getfield 14, 3) := by decide +kernel
theorem dX8_readText_58 : decode cX8_readText 58 = .ok (.getfield 66, 3) := by decide +kernel
theorem dX8_readText_61 : decode cX8_readText 61 = .ok (.sipush 300, 3) := by decide +kernel
theorem dX8_readText_64 : decode cX8_readText 64 = .ok (.if_icmp .ne 14, 3) := by decide +kernel
theorem dX8_readText_67 : decode cX8_readText 67 = .ok (.aload_n 0, 1) := by decide +kernel
theorem dX8_readText_68 : decode cX8_readText 68 = .ok (.iload_n 3, 1) := by decide +kernel
theorem dX8_readText_69 : decode cX8_readText 69 = .ok (.invokevirtual 63, 3) := by decide +kernel
theorem dX8_readText_72 : decode cX8_readText 72 = .ok (.iinc 3 1, 3) := by decide +kernel
theorem dX8_readText_75 : decode cX8_readText 75 = .ok (.goto (-28), 3) := by decide +kernel
theorem dX8_readText_78 : decode cX8_readText 78 = .ok (.aload_n 0, 1) := by decide +kernel
theorem dX8_readText_79 : decode cX8_readText 79 = .ok (.getfield 14, 3) := by decide +kernel
theorem dX8_readText_82 : decode cX8_readText 82 = .ok (.getfield 66, 3) := by decide +kernel
theorem dX8_readText_85 : decode cX8_readText 85 = .ok (.sipush 261, 3) := by decide +kernel
theorem dX8_readText_88 : decode cX8_readText 88 = .ok (.if_icmp .eq 10, 3) := by decide +kernel
theorem dX8_readText_91 : decode cX8_readText 91 = .ok (.aload_n 0, 1) := by decide +kernel
theorem dX8_readText_92 : decode cX8_readText 92 = .ok (.getfield 14, 3) := by decide +kernel
theorem dX8_readText_95 : decode cX8_readText 95 = .ok (.invokevirtual 69, 3) := by decide +kernel
theorem dX8_readText_98 : decode cX8_readText 98 = .ok (.return_, 1) := by decide +kernel
def wX8_readText_b98 (a0 : Nat) (a1 : Nat) (x2 : Int32)  (Sn : kp_S) (post : kp_S → Prop) : Prop :=
  post Sn
def wX8_readText_b78 (a0 : Nat) (a1 : Nat) (x2 : Int32)  (Sn : kp_S) (post : kp_S → Prop) : Prop :=
  ∃ b2001 : Nat, kp_R Sn 1600 a0 = some b2001 ∧
  (((kp_I Sn 1805 b2001) = 261 →
  wX8_readText_b98 a0 a1 x2   Sn post) ∧ (¬ (kp_I Sn 1805 b2001) = 261 →
  wX9_refuse b2001 Sn (fun T2002 =>
  wX8_readText_b98 a0 a1 x2   T2002 post)))
def wX8_readText_L47 (a0 : Nat) (a1 : Nat) (x2 : Int32)  (post : kp_S → Prop) : Nat → Int32 → kp_S → Prop
  | 0, _, _ => False
  | n + 1, xn3, Sn =>
  ((3000 < xn3 →
  wX8_readText_b78 a0 a1 x2   Sn post) ∧ (¬ 3000 < xn3 →
  ∃ b3001 : Nat, kp_R Sn 1600 a0 = some b3001 ∧
  ((¬ (kp_I Sn 1805 b3001) = 300 →
  wX8_readText_b78 a0 a1 x2   Sn post) ∧ ((kp_I Sn 1805 b3001) = 300 →
  wX8_readDuty a0 xn3 Sn (fun T3002 =>
  ∀ y3003 : Int32, y3003 = xn3 + 1 →
  wX8_readText_L47 a0 a1 x2  post n y3003 T3002)))))
def wX8_readText (a0 : Nat) (a1 : Nat) (x2 : Int32) (S : kp_S) (post : kp_S → Prop) : Prop :=
  ∀ T1 : kp_S, T1 = kp_sR S 1603 a0 a1 →
  ∃ b2 : Nat, kp_R T1 1602 a0 = some b2 ∧
  wX2_writeTo b2 a1 T1 (fun T3 =>
  ∃ b4 : Nat, kp_R T3 1601 a0 = some b4 ∧
  wX5_clear b4 T3 (fun T5 =>
  ∃ b6 : Nat, kp_R T5 1600 a0 = some b6 ∧
  wX9_start b6 x2 T5 (fun T7 =>
  wX8_collectDuties a0 T7 (fun T8 =>
  ∃ b9 : Nat, kp_R T8 1600 a0 = some b9 ∧
  wX9_start b9 x2 T8 (fun T10 =>
  wX8_readDuty a0 0 T10 (fun T11 =>
  ∃ n0 : Nat, wX8_readText_L47 a0 a1 x2  post n0 1 T11))))))
set_option maxHeartbeats 4000000 in
set_option maxRecDepth 100000 in
theorem c_X8_readText (l : Launch) (D : va_G) (cy : Nat → ClassId) (ad : (Nat → Nat) × (Nat → Nat)) (S : kp_S) (a0 : Nat) (a1 : Nat) (x2 : Int32) (post : kp_S → Prop) (hS : kp_ok S) (f_a0 : kp_is S a0 8) (f_a1 : kp_is S a1 0) (hw : wX8_readText a0 a1 x2 S post) : kp_M l yX8_readText cX8_readText 4 none { frames := 312, cells := 0, slots := 0, locals := 7361 } D cy ad S [.ref a0, .ref a1, .int x2] 0 0 (fun A => kp_Qv D cy A S post) := by
  refine kp_start (own := RX8) (by decide) rfl (Nat.le_of_ble_eq_true rfl) hS ?_
  intro p e s m below meth c A ls X hr hlocks hname h hl
  have hle : kp_le S S := kp_le.rf
  have hl : lv_has ls 4 [(0, .ref a0), (1, .ref a1), (2, .int x2)] := hl
  have j98 : ∀  (Sn : kp_S) (H : Heap) (locs : List Loc) (ls : Array Slot), lv_has ls 4 [] → kp_H D cy A Sn s.heap H locs → kp_le S Sn → kp_is Sn a0 8 → kp_is Sn a1 0 → wX8_readText_b98 a0 a1 x2   Sn post → W p l e { frames := 312, cells := 0, slots := 0, locals := 7361 } s m ([.ref a0, .ref a1, .int x2] : List Value).toArray below meth c H locs 0 0 (MQ below (kp_Qv D cy A S post) ([.ref a0, .ref a1, .int x2] : List Value).toArray s 0 0 A) (F0 m 98 ls []) := by
    intro  Sn H locs ls hl h hle f_a0 f_a1 hw
    unfold wX8_readText_b98 at hw
    exact kp_retv X hr hlocks h hle hw dX8_readText_98
  have j78 : ∀  (Sn : kp_S) (H : Heap) (locs : List Loc) (ls : Array Slot), lv_has ls 4 [(0, .ref a0)] → kp_H D cy A Sn s.heap H locs → kp_le S Sn → kp_is Sn a0 8 → kp_is Sn a1 0 → wX8_readText_b78 a0 a1 x2   Sn post → W p l e { frames := 312, cells := 0, slots := 0, locals := 7361 } s m ([.ref a0, .ref a1, .int x2] : List Value).toArray below meth c H locs 0 0 (MQ below (kp_Qv D cy A S post) ([.ref a0, .ref a1, .int x2] : List Value).toArray s 0 0 A) (F0 m 78 ls []) := by
    intro  Sn H locs ls hl h hle f_a0 f_a1 hw
    unfold wX8_readText_b78 at hw
    refine lv_aload_n X.1 X.2.1 dX8_readText_78 rfl (lv_at hl 0 rfl) ?_
    obtain ⟨b2001, e_b2001, hw⟩ := hw
    have f_b2001 := h.2.2.2.rf (c := 8) (k := 0) f_a0 (by decide) (by decide) e_b2001 (t := 9) rfl
    refine kp_get X h f_a0 ff_8_14.l (v := .ref b2001) (congrArg va_rf e_b2001) dX8_readText_79 ?_
    refine kp_get X h f_b2001 fp_8_66.l (v := .int (kp_I Sn 1805 b2001)) rfl dX8_readText_82 ?_
    refine lv_sipush (v := 261) X.1 X.2.1 dX8_readText_85 (by decide) ?_
    refine lv_icmp_eq (tgt := 98) X.1 X.2.1 dX8_readText_88 (by decide) (fun c2003 => ?_) (fun c2003 => ?_)
    · have hw := hw.1 c2003
      exact j98  Sn H locs ls (lv_sub hl [] rfl) h hle f_a0 f_a1 hw
    · have hw := hw.2 c2003
      refine lv_aload_n X.1 X.2.1 dX8_readText_91 rfl (lv_at hl 0 rfl) ?_
      refine kp_get X h f_a0 ff_8_14.l (v := .ref b2001) (congrArg va_rf e_b2001) dX8_readText_92 ?_
      refine kp_callv X h (kp_runV (rm := { frames := 1, cells := 0, slots := 0, locals := 21 }) (mc := 0) (ms := 0) (rest := []) (Qc := fun A => kp_Qv D cy A Sn _) X h (c_X9_refuse l D cy ad Sn b2001 _ h.2.2.2 f_b2001 hw) f_b2001 cv_8_69 ⟨by decide, by decide, rfl, rfl, by decide, by decide⟩ rfl hl.1 rfl (Nat.le_of_ble_eq_true rfl) dX8_readText_95) (fun T2002 hw l_T2002 H locs h => ?_)
      have f_a0 := l_T2002.is f_a0
      have f_a1 := l_T2002.is f_a1
      have f_b2001 := l_T2002.is f_b2001
      have hle := hle.tr l_T2002
      exact j98  T2002 H locs ls (lv_sub hl [] rfl) h hle f_a0 f_a1 hw
  have L47 : ∀ n47 : Nat, ∀ (xn3 : Int32) (Sn : kp_S) (H : Heap) (locs : List Loc) (ls : Array Slot), lv_has ls 4 [(0, .ref a0), (3, .int xn3)] → kp_H D cy A Sn s.heap H locs → kp_le S Sn → kp_is Sn a0 8 → kp_is Sn a1 0 → wX8_readText_L47 a0 a1 x2  post n47 xn3 Sn → W p l e { frames := 312, cells := 0, slots := 0, locals := 7361 } s m ([.ref a0, .ref a1, .int x2] : List Value).toArray below meth c H locs 0 0 (MQ below (kp_Qv D cy A S post) ([.ref a0, .ref a1, .int x2] : List Value).toArray s 0 0 A) (F0 m 47 ls []) := by
    intro n47
    induction n47 with
    | zero => intro xn3 Sn H locs ls hl h hle f_a0 f_a1 hw; exact hw.elim
    | succ n47 ih47 =>
      intro xn3 Sn H locs ls hl h hle f_a0 f_a1 hw
      unfold wX8_readText_L47 at hw
      refine lv_iload_n X.1 X.2.1 dX8_readText_47 rfl (lv_at hl 1 rfl) ?_
      refine lv_sipush (v := 3000) X.1 X.2.1 dX8_readText_48 (by decide) ?_
      refine lv_icmp_gt (tgt := 78) X.1 X.2.1 dX8_readText_51 (by decide) (fun c3005 => ?_) (fun c3005 => ?_)
      · have hw := hw.1 c3005
        exact j78  Sn H locs ls (lv_sub hl [0] rfl) h hle f_a0 f_a1 hw
      · have hw := hw.2 c3005
        refine lv_aload_n X.1 X.2.1 dX8_readText_54 rfl (lv_at hl 0 rfl) ?_
        obtain ⟨b3001, e_b3001, hw⟩ := hw
        have f_b3001 := h.2.2.2.rf (c := 8) (k := 0) f_a0 (by decide) (by decide) e_b3001 (t := 9) rfl
        refine kp_get X h f_a0 ff_8_14.l (v := .ref b3001) (congrArg va_rf e_b3001) dX8_readText_55 ?_
        refine kp_get X h f_b3001 fp_8_66.l (v := .int (kp_I Sn 1805 b3001)) rfl dX8_readText_58 ?_
        refine lv_sipush (v := 300) X.1 X.2.1 dX8_readText_61 (by decide) ?_
        refine lv_icmp_ne (tgt := 78) X.1 X.2.1 dX8_readText_64 (by decide) (fun c3004 => ?_) (fun c3004 => ?_)
        · have hw := hw.1 c3004
          exact j78  Sn H locs ls (lv_sub hl [0] rfl) h hle f_a0 f_a1 hw
        · have hw := hw.2 c3004
          refine lv_aload_n X.1 X.2.1 dX8_readText_67 rfl (lv_at hl 0 rfl) ?_
          refine lv_iload_n X.1 X.2.1 dX8_readText_68 rfl (lv_at hl 1 rfl) ?_
          refine kp_callv X h (kp_runV (rm := { frames := 311, cells := 0, slots := 0, locals := 7335 }) (mc := 0) (ms := 0) (rest := []) (Qc := fun A => kp_Qv D cy A Sn _) X h (c_X8_readDuty l D cy ad Sn a0 xn3 _ h.2.2.2 f_a0 hw) f_a0 cv_8_63 ⟨by decide, by decide, rfl, rfl, by decide, by decide⟩ rfl hl.1 rfl (Nat.le_of_ble_eq_true rfl) dX8_readText_69) (fun T3002 hw l_T3002 H locs h => ?_)
          have f_a0 := l_T3002.is f_a0
          have f_a1 := l_T3002.is f_a1
          have f_b3001 := l_T3002.is f_b3001
          have hle := hle.tr l_T3002
          obtain ⟨y3003, e_y3003⟩ : ∃ y : Int32, y = xn3 + 1 := ⟨_, rfl⟩
          have hw := hw y3003 e_y3003
          refine lv_iinc (v := y3003) (lv' := [(3, .int y3003), (0, .ref a0)]) X.1 X.2.1 dX8_readText_72 hl (k := 1) rfl (by rw [e_y3003]; rfl) (by decide) rfl (fun ls hl => ?_)
          refine lv_goto (tgt := 47) X.1 X.2.1 dX8_readText_75 (by decide) ?_
          exact ih47 y3003 T3002 H locs ls (lv_sub hl [1, 0] rfl) h hle f_a0 f_a1 hw
  unfold wX8_readText at hw
  have h : kp_H D cy A S s.heap s.heap [] := h
  revert h
  intro h
  refine lv_aload_n X.1 X.2.1 dX8_readText_0 rfl (lv_at hl 0 rfl) ?_
  refine lv_aload_n X.1 X.2.1 dX8_readText_1 rfl (lv_at hl 1 rfl) ?_
  refine kp_putR X h f_a0 fp_8_27 f_a1 rfl ⟨by decide, by decide⟩ ⟨rfl, rfl⟩ dX8_readText_2 (fun T1 e_T1 l_T1 H locs h => ?_)
  have hw := hw T1 e_T1
  have f_a0 := l_T1.is f_a0
  have f_a1 := l_T1.is f_a1
  have hle := hle.tr l_T1
  refine lv_aload_n X.1 X.2.1 dX8_readText_5 rfl (lv_at hl 0 rfl) ?_
  obtain ⟨b2, e_b2, hw⟩ := hw
  have f_b2 := h.2.2.2.rf (c := 8) (k := 2) f_a0 (by decide) (by decide) e_b2 (t := 2) rfl
  refine kp_get X h f_a0 ff_8_36.l (v := .ref b2) (congrArg va_rf e_b2) dX8_readText_6 ?_
  refine lv_aload_n X.1 X.2.1 dX8_readText_9 rfl (lv_at hl 1 rfl) ?_
  refine kp_callv X h (kp_runV (rm := { frames := 0, cells := 0, slots := 0, locals := 0 }) (mc := 0) (ms := 0) (rest := []) (Qc := fun A => kp_Qv D cy A T1 _) X h (c_X2_writeTo l D cy ad T1 b2 a1 _ h.2.2.2 f_b2 f_a1 hw) f_b2 cv_8_49 ⟨by decide, by decide, rfl, rfl, by decide, by decide⟩ rfl hl.1 rfl (Nat.le_of_ble_eq_true rfl) dX8_readText_10) (fun T3 hw l_T3 H locs h => ?_)
  have f_a0 := l_T3.is f_a0
  have f_a1 := l_T3.is f_a1
  have f_b2 := l_T3.is f_b2
  have hle := hle.tr l_T3
  refine lv_aload_n X.1 X.2.1 dX8_readText_13 rfl (lv_at hl 0 rfl) ?_
  obtain ⟨b4, e_b4, hw⟩ := hw
  have f_b4 := h.2.2.2.rf (c := 8) (k := 1) f_a0 (by decide) (by decide) e_b4 (t := 5) rfl
  refine kp_get X h f_a0 ff_8_23.l (v := .ref b4) (congrArg va_rf e_b4) dX8_readText_14 ?_
  refine kp_callv X h (kp_runV (rm := { frames := 0, cells := 0, slots := 0, locals := 0 }) (mc := 0) (ms := 0) (rest := []) (Qc := fun A => kp_Qv D cy A T3 _) X h (c_X5_clear l D cy ad T3 b4 _ h.2.2.2 f_b4 hw) f_b4 cv_8_53 ⟨by decide, by decide, rfl, rfl, by decide, by decide⟩ rfl hl.1 rfl (Nat.le_of_ble_eq_true rfl) dX8_readText_17) (fun T5 hw l_T5 H locs h => ?_)
  have f_a0 := l_T5.is f_a0
  have f_a1 := l_T5.is f_a1
  have f_b2 := l_T5.is f_b2
  have f_b4 := l_T5.is f_b4
  have hle := hle.tr l_T5
  refine lv_aload_n X.1 X.2.1 dX8_readText_20 rfl (lv_at hl 0 rfl) ?_
  obtain ⟨b6, e_b6, hw⟩ := hw
  have f_b6 := h.2.2.2.rf (c := 8) (k := 0) f_a0 (by decide) (by decide) e_b6 (t := 9) rfl
  refine kp_get X h f_a0 ff_8_14.l (v := .ref b6) (congrArg va_rf e_b6) dX8_readText_21 ?_
  refine lv_iload_n X.1 X.2.1 dX8_readText_24 rfl (lv_at hl 2 rfl) ?_
  refine kp_callv X h (kp_runV (rm := { frames := 6, cells := 0, slots := 0, locals := 134 }) (mc := 0) (ms := 0) (rest := []) (Qc := fun A => kp_Qv D cy A T5 _) X h (c_X9_start l D cy ad T5 b6 x2 _ h.2.2.2 f_b6 hw) f_b6 cv_8_56 ⟨by decide, by decide, rfl, rfl, by decide, by decide⟩ rfl hl.1 rfl (Nat.le_of_ble_eq_true rfl) dX8_readText_25) (fun T7 hw l_T7 H locs h => ?_)
  have f_a0 := l_T7.is f_a0
  have f_a1 := l_T7.is f_a1
  have f_b2 := l_T7.is f_b2
  have f_b4 := l_T7.is f_b4
  have f_b6 := l_T7.is f_b6
  have hle := hle.tr l_T7
  refine lv_aload_n X.1 X.2.1 dX8_readText_28 rfl (lv_at hl 0 rfl) ?_
  refine kp_callv X h (kp_runV (rm := { frames := 7, cells := 0, slots := 0, locals := 158 }) (mc := 0) (ms := 0) (rest := []) (Qc := fun A => kp_Qv D cy A T7 _) X h (c_X8_collectDuties l D cy ad T7 a0 _ h.2.2.2 f_a0 hw) f_a0 cv_8_60 ⟨by decide, by decide, rfl, rfl, by decide, by decide⟩ rfl hl.1 rfl (Nat.le_of_ble_eq_true rfl) dX8_readText_29) (fun T8 hw l_T8 H locs h => ?_)
  have f_a0 := l_T8.is f_a0
  have f_a1 := l_T8.is f_a1
  have f_b2 := l_T8.is f_b2
  have f_b4 := l_T8.is f_b4
  have f_b6 := l_T8.is f_b6
  have hle := hle.tr l_T8
  refine lv_aload_n X.1 X.2.1 dX8_readText_32 rfl (lv_at hl 0 rfl) ?_
  obtain ⟨b9, e_b9, hw⟩ := hw
  have f_b9 := h.2.2.2.rf (c := 8) (k := 0) f_a0 (by decide) (by decide) e_b9 (t := 9) rfl
  refine kp_get X h f_a0 ff_8_14.l (v := .ref b9) (congrArg va_rf e_b9) dX8_readText_33 ?_
  refine lv_iload_n X.1 X.2.1 dX8_readText_36 rfl (lv_at hl 2 rfl) ?_
  refine kp_callv X h (kp_runV (rm := { frames := 6, cells := 0, slots := 0, locals := 134 }) (mc := 0) (ms := 0) (rest := []) (Qc := fun A => kp_Qv D cy A T8 _) X h (c_X9_start l D cy ad T8 b9 x2 _ h.2.2.2 f_b9 hw) f_b9 cv_8_56 ⟨by decide, by decide, rfl, rfl, by decide, by decide⟩ rfl hl.1 rfl (Nat.le_of_ble_eq_true rfl) dX8_readText_37) (fun T10 hw l_T10 H locs h => ?_)
  have f_a0 := l_T10.is f_a0
  have f_a1 := l_T10.is f_a1
  have f_b2 := l_T10.is f_b2
  have f_b4 := l_T10.is f_b4
  have f_b6 := l_T10.is f_b6
  have f_b9 := l_T10.is f_b9
  have hle := hle.tr l_T10
  refine lv_aload_n X.1 X.2.1 dX8_readText_40 rfl (lv_at hl 0 rfl) ?_
  refine lv_iconst (v := 0) X.1 X.2.1 dX8_readText_41 (by decide) ?_
  refine kp_callv X h (kp_runV (rm := { frames := 311, cells := 0, slots := 0, locals := 7335 }) (mc := 0) (ms := 0) (rest := []) (Qc := fun A => kp_Qv D cy A T10 _) X h (c_X8_readDuty l D cy ad T10 a0 0 _ h.2.2.2 f_a0 hw) f_a0 cv_8_63 ⟨by decide, by decide, rfl, rfl, by decide, by decide⟩ rfl hl.1 rfl (Nat.le_of_ble_eq_true rfl) dX8_readText_42) (fun T11 hw l_T11 H locs h => ?_)
  have f_a0 := l_T11.is f_a0
  have f_a1 := l_T11.is f_a1
  have f_b2 := l_T11.is f_b2
  have f_b4 := l_T11.is f_b4
  have f_b6 := l_T11.is f_b6
  have f_b9 := l_T11.is f_b9
  have hle := hle.tr l_T11
  refine lv_iconst (v := 1) X.1 X.2.1 dX8_readText_45 (by decide) ?_
  refine lv_istore_n (lv' := [(3, .int 1), (0, .ref a0), (1, .ref a1), (2, .int x2)]) X.1 X.2.1 dX8_readText_46 rfl hl (by decide) rfl (fun ls hl => ?_)
  obtain ⟨n0, hw⟩ := hw
  exact L47 n0 1 T11 _ _ ls (lv_sub hl [1, 0] rfl) h hle f_a0 f_a1 hw
