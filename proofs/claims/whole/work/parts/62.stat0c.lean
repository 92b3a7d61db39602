theorem cv_8_216 : kp_CV RX8 216 yX5_tellVariable cX5_tellVariable 5 (some .int) 2 5 := ⟨⟨kp_mem 837 (by decide +kernel) (by decide +kernel), kp_mem 212 (by decide +kernel) (by decide +kernel), by decide +kernel⟩, kp_mem 1040 (by decide +kernel) (by decide +kernel), kp_mem 835 (by decide +kernel) (by decide +kernel), kp_mem 836 (by decide +kernel) (by decide +kernel), by decide, TX5, 13, rfl⟩
theorem cv_8_123 : kp_CV RX8 123 yX0_add cX0_add 3 (some .int) 1 0 := ⟨⟨kp_mem 869 (by decide +kernel) (by decide +kernel), kp_mem 205 (by decide +kernel) (by decide +kernel), by decide +kernel⟩, kp_mem 1007 (by decide +kernel) (by decide +kernel), kp_mem 867 (by decide +kernel) (by decide +kernel), kp_mem 868 (by decide +kernel) (by decide +kernel), by decide, TX0, 4, rfl⟩
theorem cv_8_225 : kp_CV RX8 225 yX5_roundOf cX5_roundOf 2 (some .int) 1 5 := ⟨⟨kp_mem 1077 (by decide +kernel) (by decide +kernel), kp_mem 212 (by decide +kernel) (by decide +kernel), by decide +kernel⟩, kp_mem 1074 (by decide +kernel) (by decide +kernel), kp_mem 1075 (by decide +kernel) (by decide +kernel), kp_mem 1076 (by decide +kernel) (by decide +kernel), by decide, TX5, 13, rfl⟩
theorem cv_8_222 : kp_CV RX8 222 yX5_innermostLoop cX5_innermostLoop 2 (some .int) 1 5 := ⟨⟨kp_mem 1073 (by decide +kernel) (by decide +kernel), kp_mem 212 (by decide +kernel) (by decide +kernel), by decide +kernel⟩, kp_mem 1070 (by decide +kernel) (by decide +kernel), kp_mem 1071 (by decide +kernel) (by decide +kernel), kp_mem 1072 (by decide +kernel) (by decide +kernel), by decide, TX5, 13, rfl⟩
theorem cv_8_219 : kp_CV RX8 219 yX5_loopLabelled cX5_loopLabelled 5 (some .int) 2 5 := ⟨⟨kp_mem 1069 (by decide +kernel) (by decide +kernel), kp_mem 212 (by decide +kernel) (by decide +kernel), by decide +kernel⟩, kp_mem 1066 (by decide +kernel) (by decide +kernel), kp_mem 1067 (by decide +kernel) (by decide +kernel), kp_mem 1068 (by decide +kernel) (by decide +kernel), by decide, TX5, 13, rfl⟩
theorem cv_8_240 : kp_CV RX8 240 yX0_setChain cX0_setChain 6 none 2 0 := ⟨⟨kp_mem 1101 (by decide +kernel) (by decide +kernel), kp_mem 205 (by decide +kernel) (by decide +kernel), by decide +kernel⟩, kp_mem 1098 (by decide +kernel) (by decide +kernel), kp_mem 1099 (by decide +kernel) (by decide +kernel), kp_mem 1100 (by decide +kernel) (by decide +kernel), by decide, TX0, 4, rfl⟩
theorem dX8_setRound_0 : decode cX8_setRound 0 = .ok (.aload_n 0, 1) := by decide +kernel
theorem dX8_setRound_1 : decode cX8_setRound 1 = .ok (.getfield 27, 3) := by decide +kernel
theorem dX8_setRound_4 : decode cX8_setRound 4 = .ok (.iload_n 1, 1) := by decide +kernel
theorem dX8_setRound_5 : decode cX8_setRound 5 = .ok (.iconst 2, 1) := by decide +kernel
theorem dX8_setRound_6 : decode cX8_setRound 6 = .ok (.iadd, 1) := by decide +kernel
theorem dX8_setRound_7 : decode cX8_setRound 7 = .ok (.iload_n 2, 1) := by decide +kernel
theorem dX8_setRound_8 : decode cX8_setRound 8 = .ok (.invokevirtual 237, 3) := by decide +kernel
theorem dX8_setRound_11 : decode cX8_setRound 11 = .ok (.aload_n 0, 1) := by decide +kernel
theorem dX8_setRound_12 : decode cX8_setRound 12 = .ok (.getfield 27, 3) := by decide +kernel
theorem dX8_setRound_15 : decode cX8_setRound 15 = .ok (.iload_n 1, 1) := by decide +kernel
theorem dX8_setRound_16 : decode cX8_setRound 16 = .ok (.iconst 3, 1) := by decide +kernel
theorem dX8_setRound_17 : decode cX8_setRound 17 = .ok (.iadd, 1) := by decide +kernel
theorem dX8_setRound_18 : decode cX8_setRound 18 = .ok (.iload_n 3, 1) := by decide +kernel
theorem dX8_setRound_19 : decode cX8_setRound 19 = .ok (.invokevirtual 237, 3) := by decide +kernel
theorem dX8_setRound_22 : decode cX8_setRound 22 = .ok (.return_, 1) := by decide +kernel
def wX8_setRound (a0 : Nat) (x1 : Int32) (x2 : Int32) (x3 : Int32) (S : kp_S) (post : kp_S → Prop) : Prop :=
  ∃ b1 : Nat, kp_R S 1603 a0 = some b1 ∧
  wX0_set b1 (x1 + 2) x2 S (fun T2 =>
  ∃ b3 : Nat, kp_R T2 1603 a0 = some b3 ∧
  wX0_set b3 (x1 + 3) x3 T2 (fun T4 =>
  post T4))
set_option maxHeartbeats 4000000 in
set_option maxRecDepth 100000 in
theorem c_X8_setRound (l : Launch) (D : va_G) (cy : Nat → ClassId) (ad : (Nat → Nat) × (Nat → Nat)) (S : kp_S) (a0 : Nat) (x1 : Int32) (x2 : Int32) (x3 : Int32) (post : kp_S → Prop) (hS : kp_ok S) (f_a0 : kp_is S a0 8) (hw : wX8_setRound a0 x1 x2 x3 S post) : kp_M l yX8_setRound cX8_setRound 4 none { frames := 1, cells := 0, slots := 0, locals := 22 } D cy ad S [.ref a0, .int x1, .int x2, .int x3] 0 0 (fun A => kp_Qv D cy A S post) := by
  refine kp_start (own := RX8) (by decide) rfl (Nat.le_of_ble_eq_true rfl) hS ?_
  intro p e s m below meth c A ls X hr hlocks hname h hl
  have hle : kp_le S S := kp_le.rf
  have hl : lv_has ls 4 [(0, .ref a0), (1, .int x1), (2, .int x2), (3, .int x3)] := hl
  unfold wX8_setRound at hw
  have h : kp_H D cy A S s.heap s.heap [] := h
  revert h
  intro h
  refine lv_aload_n X.1 X.2.1 dX8_setRound_0 rfl (lv_at hl 0 rfl) ?_
  obtain ⟨b1, e_b1, hw⟩ := hw
  have f_b1 := h.2.2.2.rf (c := 8) (k := 3) f_a0 (by decide) (by decide) e_b1 (t := 0) rfl
  refine kp_get X h f_a0 fp_8_27.l (v := .ref b1) (congrArg va_rf e_b1) dX8_setRound_1 ?_
  refine lv_iload_n X.1 X.2.1 dX8_setRound_4 rfl (lv_at hl 1 rfl) ?_
  refine lv_iconst (v := 2) X.1 X.2.1 dX8_setRound_5 (by decide) ?_
  refine lv_iadd X.1 X.2.1 dX8_setRound_6 ?_
  refine lv_iload_n X.1 X.2.1 dX8_setRound_7 rfl (lv_at hl 2 rfl) ?_
  refine kp_callv X h (kp_runV (rm := { frames := 0, cells := 0, slots := 0, locals := 0 }) (mc := 0) (ms := 0) (rest := []) (Qc := fun A => kp_Qv D cy A S _) X h (c_X0_set l D cy ad S b1 (x1 + 2) x2 _ h.2.2.2 f_b1 hw) f_b1 cv_8_237 ⟨by decide, by decide, rfl, rfl, by decide, by decide⟩ rfl hl.1 rfl (Nat.le_of_ble_eq_true rfl) dX8_setRound_8) (fun T2 hw l_T2 H locs h => ?_)
  have f_a0 := l_T2.is f_a0
  have f_b1 := l_T2.is f_b1
  have hle := hle.tr l_T2
  refine lv_aload_n X.1 X.2.1 dX8_setRound_11 rfl (lv_at hl 0 rfl) ?_
  obtain ⟨b3, e_b3, hw⟩ := hw
  have f_b3 := h.2.2.2.rf (c := 8) (k := 3) f_a0 (by decide) (by decide) e_b3 (t := 0) rfl
  refine kp_get X h f_a0 fp_8_27.l (v := .ref b3) (congrArg va_rf e_b3) dX8_setRound_12 ?_
  refine lv_iload_n X.1 X.2.1 dX8_setRound_15 rfl (lv_at hl 1 rfl) ?_
  refine lv_iconst (v := 3) X.1 X.2.1 dX8_setRound_16 (by decide) ?_
  refine lv_iadd X.1 X.2.1 dX8_setRound_17 ?_
  refine lv_iload_n X.1 X.2.1 dX8_setRound_18 rfl (lv_at hl 3 rfl) ?_
  refine kp_callv X h (kp_runV (rm := { frames := 0, cells := 0, slots := 0, locals := 0 }) (mc := 0) (ms := 0) (rest := []) (Qc := fun A => kp_Qv D cy A T2 _) X h (c_X0_set l D cy ad T2 b3 (x1 + 3) x3 _ h.2.2.2 f_b3 hw) f_b3 cv_8_237 ⟨by decide, by decide, rfl, rfl, by decide, by decide⟩ rfl hl.1 rfl (Nat.le_of_ble_eq_true rfl) dX8_setRound_19) (fun T4 hw l_T4 H locs h => ?_)
  have f_a0 := l_T4.is f_a0
  have f_b1 := l_T4.is f_b1
  have f_b3 := l_T4.is f_b3
  have hle := hle.tr l_T4
  exact kp_retv X hr hlocks h hle hw dX8_setRound_22
theorem dX8_ownWays_0 : decode cX8_ownWays 0 = .ok (.aload_n 0, 1) := by decide +kernel
theorem dX8_ownWays_1 : decode cX8_ownWays 1 = .ok (.getfield 23, 3) := by decide +kernel
theorem dX8_ownWays_4 : decode cX8_ownWays 4 = .ok (.invokevirtual 270, 3) := by decide +kernel
theorem dX8_ownWays_7 : decode cX8_ownWays 7 = .ok (.invokestatic 228, 3) := by decide +kernel
theorem dX8_ownWays_10 : decode cX8_ownWays 10 = .ok (.aload_n 0, 1) := by decide +kernel
theorem dX8_ownWays_11 : decode cX8_ownWays 11 = .ok (.getfield 23, 3) := by decide +kernel
theorem dX8_ownWays_14 : decode cX8_ownWays 14 = .ok (.invokevirtual 270, 3) := by decide +kernel
theorem dX8_ownWays_17 : decode cX8_ownWays 17 = .ok (.invokestatic 231, 3) := by decide +kernel
theorem dX8_ownWays_20 : decode cX8_ownWays 20 = .ok (.ior, 1) := by decide +kernel
theorem dX8_ownWays_21 : decode cX8_ownWays 21 = .ok (.ireturn, 1) := by decide +kernel
def wX8_ownWays (a0 : Nat) (S : kp_S) (post : Int32 → kp_S → Prop) : Prop :=
  ∃ b1 : Nat, kp_R S 1601 a0 = some b1 ∧
  wX5_loopsNow b1 S (fun y3 T2 =>
  wX10_leaveOf y3 T2 (fun y5 T4 =>
  ∃ b6 : Nat, kp_R T4 1601 a0 = some b6 ∧
  wX5_loopsNow b6 T4 (fun y8 T7 =>
  wX10_againOf y8 T7 (fun y10 T9 =>
  post (y5 ||| y10) T9))))
set_option maxHeartbeats 4000000 in
set_option maxRecDepth 100000 in
theorem c_X8_ownWays (l : Launch) (D : va_G) (cy : Nat → ClassId) (ad : (Nat → Nat) × (Nat → Nat)) (S : kp_S) (a0 : Nat) (post : Int32 → kp_S → Prop) (hS : kp_ok S) (f_a0 : kp_is S a0 8) (hw : wX8_ownWays a0 S post) : kp_M l yX8_ownWays cX8_ownWays 1 (some .int) { frames := 1, cells := 0, slots := 0, locals := 20 } D cy ad S [.ref a0] 0 0 (fun A => kp_Qi D cy A S post) := by
  refine kp_start (own := RX8) (by decide) rfl (Nat.le_of_ble_eq_true rfl) hS ?_
  intro p e s m below meth c A ls X hr hlocks hname h hl
  have hle : kp_le S S := kp_le.rf
  have hl : lv_has ls 1 [(0, .ref a0)] := hl
  unfold wX8_ownWays at hw
  have h : kp_H D cy A S s.heap s.heap [] := h
  revert h
  intro h
  refine lv_aload_n X.1 X.2.1 dX8_ownWays_0 rfl (lv_at hl 0 rfl) ?_
  obtain ⟨b1, e_b1, hw⟩ := hw
  have f_b1 := h.2.2.2.rf (c := 8) (k := 1) f_a0 (by decide) (by decide) e_b1 (t := 5) rfl
  refine kp_get X h f_a0 ff_8_23.l (v := .ref b1) (congrArg va_rf e_b1) dX8_ownWays_1 ?_
  refine kp_calli X h (kp_runV (rm := { frames := 0, cells := 0, slots := 0, locals := 0 }) (mc := 0) (ms := 0) (rest := []) (Qc := fun A => kp_Qi D cy A S _) X h (c_X5_loopsNow l D cy ad S b1 _ h.2.2.2 f_b1 hw) f_b1 cv_8_270 ⟨by decide, by decide, rfl, rfl, by decide, by decide⟩ rfl hl.1 rfl (Nat.le_of_ble_eq_true rfl) dX8_ownWays_4) (fun y3 T2 hw l_T2 H locs h => ?_)
  have f_a0 := l_T2.is f_a0
  have f_b1 := l_T2.is f_b1
  have hle := hle.tr l_T2
  refine kp_calli X h (kp_runS (rm := { frames := 0, cells := 0, slots := 0, locals := 0 }) (mc := 0) (ms := 0) (rest := []) (Qc := fun A => kp_Qi D cy A T2 _) X h (c_X10_leaveOf l D cy ad T2 y3 _ h.2.2.2  hw) cs_8_228 ⟨by decide, by decide, rfl, rfl, by decide, by decide⟩ rfl hl.1 rfl (Nat.le_of_ble_eq_true rfl) dX8_ownWays_7) (fun y5 T4 hw l_T4 H locs h => ?_)
  have f_a0 := l_T4.is f_a0
  have f_b1 := l_T4.is f_b1
  have hle := hle.tr l_T4
  refine lv_aload_n X.1 X.2.1 dX8_ownWays_10 rfl (lv_at hl 0 rfl) ?_
  obtain ⟨b6, e_b6, hw⟩ := hw
  have f_b6 := h.2.2.2.rf (c := 8) (k := 1) f_a0 (by decide) (by decide) e_b6 (t := 5) rfl
  refine kp_get X h f_a0 ff_8_23.l (v := .ref b6) (congrArg va_rf e_b6) dX8_ownWays_11 ?_
  refine kp_calli X h (kp_runV (rm := { frames := 0, cells := 0, slots := 0, locals := 0 }) (mc := 0) (ms := 0) (rest := [.int y5]) (Qc := fun A => kp_Qi D cy A T4 _) X h (c_X5_loopsNow l D cy ad T4 b6 _ h.2.2.2 f_b6 hw) f_b6 cv_8_270 ⟨by decide, by decide, rfl, rfl, by decide, by decide⟩ rfl hl.1 rfl (Nat.le_of_ble_eq_true rfl) dX8_ownWays_14) (fun y8 T7 hw l_T7 H locs h => ?_)
  have f_a0 := l_T7.is f_a0
  have f_b1 := l_T7.is f_b1
  have f_b6 := l_T7.is f_b6
  have hle := hle.tr l_T7
  refine kp_calli X h (kp_runS (rm := { frames := 0, cells := 0, slots := 0, locals := 0 }) (mc := 0) (ms := 0) (rest := [.int y5]) (Qc := fun A => kp_Qi D cy A T7 _) X h (c_X10_againOf l D cy ad T7 y8 _ h.2.2.2  hw) cs_8_231 ⟨by decide, by decide, rfl, rfl, by decide, by decide⟩ rfl hl.1 rfl (Nat.le_of_ble_eq_true rfl) dX8_ownWays_17) (fun y10 T9 hw l_T9 H locs h => ?_)
  have f_a0 := l_T9.is f_a0
  have f_b1 := l_T9.is f_b1
  have f_b6 := l_T9.is f_b6
  have hle := hle.tr l_T9
  refine lv_ior X.1 X.2.1 dX8_ownWays_20 ?_
  exact kp_reti X hr hlocks h hle rfl hw dX8_ownWays_21
theorem dX8_troubleOf_0 : decode cX8_troubleOf 0 = .ok (.iload_n 0, 1) := by decide +kernel
theorem dX8_troubleOf_1 : decode cX8_troubleOf 1 = .ok (.iconst 1, 1) := by decide +kernel
theorem dX8_troubleOf_2 : decode cX8_troubleOf 2 = .ok (.iand, 1) := by decide +kernel
theorem dX8_troubleOf_3 : decode cX8_troubleOf 3 = .ok (.ifCond .eq 7, 3) := by decide +kernel
theorem dX8_troubleOf_6 : decode cX8_troubleOf 6 = .ok (.iconst 4, 1) := by decide +kernel
theorem dX8_troubleOf_7 : decode cX8_troubleOf 7 = .ok (.goto 4, 3) := by decide +kernel
theorem dX8_troubleOf_10 : decode cX8_troubleOf 10 = .ok (.iconst 0, 1) := by decide +kernel
theorem dX8_troubleOf_11 : decode cX8_troubleOf 11 = .ok (.ireturn, 1) := by decide +kernel
def wX8_troubleOf_b11 (x0 : Int32) (xt0 : Int32)  (Sn : kp_S) (post : Int32 → kp_S → Prop) : Prop :=
  post xt0 Sn
def wX8_troubleOf (x0 : Int32) (S : kp_S) (post : Int32 → kp_S → Prop) : Prop :=
  (((x0 &&& 1) = 0 →
  wX8_troubleOf_b11 x0 0  S post) ∧ (¬ (x0 &&& 1) = 0 →
  wX8_troubleOf_b11 x0 4  S post))
set_option maxHeartbeats 4000000 in
set_option maxRecDepth 100000 in
theorem c_X8_troubleOf (l : Launch) (D : va_G) (cy : Nat → ClassId) (ad : (Nat → Nat) × (Nat → Nat)) (S : kp_S) (x0 : Int32) (post : Int32 → kp_S → Prop) (hS : kp_ok S)  (hw : wX8_troubleOf x0 S post) : kp_M l yX8_troubleOf cX8_troubleOf 1 (some .int) { frames := 0, cells := 0, slots := 0, locals := 0 } D cy ad S [.int x0] 0 0 (fun A => kp_Qi D cy A S post) := by
  refine kp_start (own := RX8) (by decide) rfl (Nat.le_of_ble_eq_true rfl) hS ?_
  intro p e s m below meth c A ls X hr hlocks hname h hl
  have hle : kp_le S S := kp_le.rf
  have hl : lv_has ls 1 [(0, .int x0)] := hl
  have j11 : ∀ (xt0 : Int32) (Sn : kp_S) (H : Heap) (locs : List Loc) (ls : Array Slot), lv_has ls 1 [] → kp_H D cy A Sn s.heap H locs → kp_le S Sn → wX8_troubleOf_b11 x0 xt0  Sn post → W p l e { frames := 0, cells := 0, slots := 0, locals := 0 } s m ([.int x0] : List Value).toArray below meth c H locs 0 0 (MQ below (kp_Qi D cy A S post) ([.int x0] : List Value).toArray s 0 0 A) (F0 m 11 ls [.int xt0]) := by
    intro xt0 Sn H locs ls hl h hle  hw
    unfold wX8_troubleOf_b11 at hw
    exact kp_reti X hr hlocks h hle rfl hw dX8_troubleOf_11
  unfold wX8_troubleOf at hw
  have h : kp_H D cy A S s.heap s.heap [] := h
  revert h
  intro h
  refine lv_iload_n X.1 X.2.1 dX8_troubleOf_0 rfl (lv_at hl 0 rfl) ?_
  refine lv_iconst (v := 1) X.1 X.2.1 dX8_troubleOf_1 (by decide) ?_
  refine lv_iand X.1 X.2.1 dX8_troubleOf_2 ?_
  refine lv_if_eq (tgt := 10) X.1 X.2.1 dX8_troubleOf_3 (by decide) (fun c1 => ?_) (fun c1 => ?_)
  · have hw := hw.1 c1
    refine lv_iconst (v := 0) X.1 X.2.1 dX8_troubleOf_10 (by decide) ?_
    exact j11 0 S _ _ ls (lv_sub hl [] rfl) h hle  hw
  · have hw := hw.2 c1
    refine lv_iconst (v := 4) X.1 X.2.1 dX8_troubleOf_6 (by decide) ?_
    refine lv_goto (tgt := 11) X.1 X.2.1 dX8_troubleOf_7 (by decide) ?_
    exact j11 4 S _ _ ls (lv_sub hl [] rfl) h hle  hw
theorem dX8_isHeadToken_0 : decode cX8_isHeadToken 0 = .ok (.iload_n 0, 1) := by decide +kernel
theorem dX8_isHeadToken_1 : decode cX8_isHeadToken 1 = .ok (.bipush 40, 2) := by decide +kernel
theorem dX8_isHeadToken_3 : decode cX8_isHeadToken 3 = .ok (.if_icmp .eq 16, 3) := by decide +kernel
theorem dX8_isHeadToken_6 : decode cX8_isHeadToken 6 = .ok (.iload_n 0, 1) := by decide +kernel
theorem dX8_isHeadToken_7 : decode cX8_isHeadToken 7 = .ok (.bipush 44, 2) := by decide +kernel
theorem dX8_isHeadToken_9 : decode cX8_isHeadToken 9 = .ok (.if_icmp .eq 10, 3) := by decide +kernel
theorem dX8_isHeadToken_12 : decode cX8_isHeadToken 12 = .ok (.iload_n 0, 1) := by decide +kernel
theorem dX8_isHeadToken_13 : decode cX8_isHeadToken 13 = .ok (.sipush 259, 3) := by decide +kernel
theorem dX8_isHeadToken_16 : decode cX8_isHeadToken 16 = .ok (.if_icmp .ne 7, 3) := by decide +kernel
theorem dX8_isHeadToken_19 : decode cX8_isHeadToken 19 = .ok (.iconst 1, 1) := by decide +kernel
theorem dX8_isHeadToken_20 : decode cX8_isHeadToken 20 = .ok (.goto 4, 3) := by decide +kernel
theorem dX8_isHeadToken_23 : decode cX8_isHeadToken 23 = .ok (.iconst 0, 1) := by decide +kernel
theorem dX8_isHeadToken_24 : decode cX8_isHeadToken 24 = .ok (.ireturn, 1) := by decide +kernel
def wX8_isHeadToken_b24 (x0 : Int32) (xt0 : Int32)  (Sn : kp_S) (post : Int32 → kp_S → Prop) : Prop :=
  kp_b xt0 ∧ post xt0 Sn
def wX8_isHeadToken_b19 (x0 : Int32)  (Sn : kp_S) (post : Int32 → kp_S → Prop) : Prop :=
  wX8_isHeadToken_b24 x0 1  Sn post
def wX8_isHeadToken (x0 : Int32) (S : kp_S) (post : Int32 → kp_S → Prop) : Prop :=
  ((x0 = 40 →
  wX8_isHeadToken_b19 x0   S post) ∧ (¬ x0 = 40 →
  ((x0 = 44 →
  wX8_isHeadToken_b19 x0   S post) ∧ (¬ x0 = 44 →
  ((¬ x0 = 259 →
  wX8_isHeadToken_b24 x0 0  S post) ∧ (x0 = 259 →
  wX8_isHeadToken_b19 x0   S post))))))
set_option maxHeartbeats 4000000 in
set_option maxRecDepth 100000 in
theorem c_X8_isHeadToken (l : Launch) (D : va_G) (cy : Nat → ClassId) (ad : (Nat → Nat) × (Nat → Nat)) (S : kp_S) (x0 : Int32) (post : Int32 → kp_S → Prop) (hS : kp_ok S)  (hw : wX8_isHeadToken x0 S post) : kp_M l yX8_isHeadToken cX8_isHeadToken 1 (some .boolean) { frames := 0, cells := 0, slots := 0, locals := 0 } D cy ad S [.int x0] 0 0 (fun A => kp_Qi D cy A S post) := by
  refine kp_start (own := RX8) (by decide) rfl (Nat.le_of_ble_eq_true rfl) hS ?_
  intro p e s m below meth c A ls X hr hlocks hname h hl
  have hle : kp_le S S := kp_le.rf
  have hl : lv_has ls 1 [(0, .int x0)] := hl
  have j24 : ∀ (xt0 : Int32) (Sn : kp_S) (H : Heap) (locs : List Loc) (ls : Array Slot), lv_has ls 1 [] → kp_H D cy A Sn s.heap H locs → kp_le S Sn → wX8_isHeadToken_b24 x0 xt0  Sn post → W p l e { frames := 0, cells := 0, slots := 0, locals := 0 } s m ([.int x0] : List Value).toArray below meth c H locs 0 0 (MQ below (kp_Qi D cy A S post) ([.int x0] : List Value).toArray s 0 0 A) (F0 m 24 ls [.int xt0]) := by
    intro xt0 Sn H locs ls hl h hle  hw
    unfold wX8_isHeadToken_b24 at hw
    exact kp_reti X hr hlocks h hle (kp_bz hw.1).1 hw.2 dX8_isHeadToken_24
  have j19 : ∀  (Sn : kp_S) (H : Heap) (locs : List Loc) (ls : Array Slot), lv_has ls 1 [] → kp_H D cy A Sn s.heap H locs → kp_le S Sn → wX8_isHeadToken_b19 x0   Sn post → W p l e { frames := 0, cells := 0, slots := 0, locals := 0 } s m ([.int x0] : List Value).toArray below meth c H locs 0 0 (MQ below (kp_Qi D cy A S post) ([.int x0] : List Value).toArray s 0 0 A) (F0 m 19 ls []) := by
    intro  Sn H locs ls hl h hle  hw
    unfold wX8_isHeadToken_b19 at hw
    refine lv_iconst (v := 1) X.1 X.2.1 dX8_isHeadToken_19 (by decide) ?_
    refine lv_goto (tgt := 24) X.1 X.2.1 dX8_isHeadToken_20 (by decide) ?_
    exact j24 1 Sn H locs ls (lv_sub hl [] rfl) h hle  hw
  unfold wX8_isHeadToken at hw
  have h : kp_H D cy A S s.heap s.heap [] := h
  revert h
  intro h
  refine lv_iload_n X.1 X.2.1 dX8_isHeadToken_0 rfl (lv_at hl 0 rfl) ?_
  refine lv_bipush (v := 40) X.1 X.2.1 dX8_isHeadToken_1 (by decide) ?_
  refine lv_icmp_eq (tgt := 19) X.1 X.2.1 dX8_isHeadToken_3 (by decide) (fun c3 => ?_) (fun c3 => ?_)
  · have hw := hw.1 c3
    exact j19  S _ _ ls (lv_sub hl [] rfl) h hle  hw
  · have hw := hw.2 c3
    refine lv_iload_n X.1 X.2.1 dX8_isHeadToken_6 rfl (lv_at hl 0 rfl) ?_
    refine lv_bipush (v := 44) X.1 X.2.1 dX8_isHeadToken_7 (by decide) ?_
    refine lv_icmp_eq (tgt := 19) X.1 X.2.1 dX8_isHeadToken_9 (by decide) (fun c2 => ?_) (fun c2 => ?_)
    · have hw := hw.1 c2
      exact j19  S _ _ ls (lv_sub hl [] rfl) h hle  hw
    · have hw := hw.2 c2
      refine lv_iload_n X.1 X.2.1 dX8_isHeadToken_12 rfl (lv_at hl 0 rfl) ?_
      refine lv_sipush (v := 259) X.1 X.2.1 dX8_isHeadToken_13 (by decide) ?_
      refine lv_icmp_ne (tgt := 23) X.1 X.2.1 dX8_isHeadToken_16 (by decide) (fun c1 => ?_) (fun c1 => ?_)
      · have hw := hw.1 c1
        refine lv_iconst (v := 0) X.1 X.2.1 dX8_isHeadToken_23 (by decide) ?_
        exact j24 0 S _ _ ls (lv_sub hl [] rfl) h hle  hw
      · have hw := hw.2 c1
        exact j19  S _ _ ls (lv_sub hl [] rfl) h hle  hw
theorem dX8_faultKind_0 : decode cX8_faultKind 0 = .ok (.aload_n 0, 1) := by decide +kernel
theorem dX8_faultKind_1 : decode cX8_faultKind 1 = .ok (.getfield 14, 3) := by decide +kernel
theorem dX8_faultKind_4 : decode cX8_faultKind 4 = .ok (.getfield 40, 3) := by decide +kernel
theorem dX8_faultKind_7 : decode cX8_faultKind 7 = .ok (.ifCond .eq 13, 3) := by decide +kernel
theorem dX8_faultKind_10 : decode cX8_faultKind 10 = .ok (.aload_n 0, 1) := by decide +kernel
theorem dX8_faultKind_11 : decode cX8_faultKind 11 = .ok (.getfield 14, 3) := by decide +kernel
theorem dX8_faultKind_14 : decode cX8_faultKind 14 = .ok (.getfield 40, 3) := by decide +kernel
theorem dX8_faultKind_17 : decode cX8_faultKind 17 = .ok (.goto 10, 3) := by decide +kernel
theorem dX8_faultKind_20 : decode cX8_faultKind 20 = .ok (.aload_n 0, 1) := by decide +kernel
theorem dX8_faultKind_21 : decode cX8_faultKind 21 = .ok (.getfield 23, 3) := by decide +kernel
theorem dX8_faultKind_24 : decode cX8_faultKind 24 = .ok (.getfield 44, 3) := by decide +kernel
theorem dX8_faultKind_27 : decode cX8_faultKind 27 = .ok (.ireturn, 1) := by decide +kernel
def wX8_faultKind_b27 (a0 : Nat) (xt0 : Int32)  (Sn : kp_S) (post : Int32 → kp_S → Prop) : Prop :=
  post xt0 Sn
def wX8_faultKind (a0 : Nat) (S : kp_S) (post : Int32 → kp_S → Prop) : Prop :=
  ∃ b1 : Nat, kp_R S 1600 a0 = some b1 ∧
  (((kp_I S 1809 b1) = 0 →
  ∃ b2 : Nat, kp_R S 1601 a0 = some b2 ∧
  wX8_faultKind_b27 a0 (kp_I S 1011 b2)  S post) ∧ (¬ (kp_I S 1809 b1) = 0 →
  wX8_faultKind_b27 a0 (kp_I S 1809 b1)  S post))
set_option maxHeartbeats 4000000 in
set_option maxRecDepth 100000 in
theorem c_X8_faultKind (l : Launch) (D : va_G) (cy : Nat → ClassId) (ad : (Nat → Nat) × (Nat → Nat)) (S : kp_S) (a0 : Nat) (post : Int32 → kp_S → Prop) (hS : kp_ok S) (f_a0 : kp_is S a0 8) (hw : wX8_faultKind a0 S post) : kp_M l yX8_faultKind cX8_faultKind 1 (some .int) { frames := 0, cells := 0, slots := 0, locals := 0 } D cy ad S [.ref a0] 0 0 (fun A => kp_Qi D cy A S post) := by
  refine kp_start (own := RX8) (by decide) rfl (Nat.le_of_ble_eq_true rfl) hS ?_
  intro p e s m below meth c A ls X hr hlocks hname h hl
  have hle : kp_le S S := kp_le.rf
  have hl : lv_has ls 1 [(0, .ref a0)] := hl
  have j27 : ∀ (xt0 : Int32) (Sn : kp_S) (H : Heap) (locs : List Loc) (ls : Array Slot), lv_has ls 1 [] → kp_H D cy A Sn s.heap H locs → kp_le S Sn → kp_is Sn a0 8 → wX8_faultKind_b27 a0 xt0  Sn post → W p l e { frames := 0, cells := 0, slots := 0, locals := 0 } s m ([.ref a0] : List Value).toArray below meth c H locs 0 0 (MQ below (kp_Qi D cy A S post) ([.ref a0] : List Value).toArray s 0 0 A) (F0 m 27 ls [.int xt0]) := by
    intro xt0 Sn H locs ls hl h hle f_a0 hw
    unfold wX8_faultKind_b27 at hw
    exact kp_reti X hr hlocks h hle rfl hw dX8_faultKind_27
  unfold wX8_faultKind at hw
  have h : kp_H D cy A S s.heap s.heap [] := h
  revert h
  intro h
  refine lv_aload_n X.1 X.2.1 dX8_faultKind_0 rfl (lv_at hl 0 rfl) ?_
  obtain ⟨b1, e_b1, hw⟩ := hw
  have f_b1 := h.2.2.2.rf (c := 8) (k := 0) f_a0 (by decide) (by decide) e_b1 (t := 9) rfl
  refine kp_get X h f_a0 ff_8_14.l (v := .ref b1) (congrArg va_rf e_b1) dX8_faultKind_1 ?_
  refine kp_get X h f_b1 fp_8_40.l (v := .int (kp_I S 1809 b1)) rfl dX8_faultKind_4 ?_
  refine lv_if_eq (tgt := 20) X.1 X.2.1 dX8_faultKind_7 (by decide) (fun c3 => ?_) (fun c3 => ?_)
  · have hw := hw.1 c3
    refine lv_aload_n X.1 X.2.1 dX8_faultKind_20 rfl (lv_at hl 0 rfl) ?_
    obtain ⟨b2, e_b2, hw⟩ := hw
    have f_b2 := h.2.2.2.rf (c := 8) (k := 1) f_a0 (by decide) (by decide) e_b2 (t := 5) rfl
    refine kp_get X h f_a0 ff_8_23.l (v := .ref b2) (congrArg va_rf e_b2) dX8_faultKind_21 ?_
    refine kp_get X h f_b2 fp_8_44.l (v := .int (kp_I S 1011 b2)) rfl dX8_faultKind_24 ?_
    exact j27 (kp_I S 1011 b2) S _ _ ls (lv_sub hl [] rfl) h hle f_a0 hw
  · have hw := hw.2 c3
    refine lv_aload_n X.1 X.2.1 dX8_faultKind_10 rfl (lv_at hl 0 rfl) ?_
    refine kp_get X h f_a0 ff_8_14.l (v := .ref b1) (congrArg va_rf e_b1) dX8_faultKind_11 ?_
    refine kp_get X h f_b1 fp_8_40.l (v := .int (kp_I S 1809 b1)) rfl dX8_faultKind_14 ?_
    refine lv_goto (tgt := 27) X.1 X.2.1 dX8_faultKind_17 (by decide) ?_
    exact j27 (kp_I S 1809 b1) S _ _ ls (lv_sub hl [] rfl) h hle f_a0 hw
theorem dX8_faultPlace_0 : decode cX8_faultPlace 0 = .ok (.aload_n 0, 1) := by decide +kernel
theorem dX8_faultPlace_1 : decode cX8_faultPlace 1 = .ok (.getfield 14, 3) := by decide +kernel
theorem dX8_faultPlace_4 : decode cX8_faultPlace 4 = .ok (.getfield 40, 3) := by decide +kernel
theorem dX8_faultPlace_7 : decode cX8_faultPlace 7 = .ok (.ifCond .eq 13, 3) := by decide +kernel
theorem dX8_faultPlace_10 : decode cX8_faultPlace 10 = .ok (.aload_n 0, 1) := by decide +kernel
theorem dX8_faultPlace_11 : decode cX8_faultPlace 11 = .ok (.getfield 14, 3) := by decide +kernel
theorem dX8_faultPlace_14 : decode cX8_faultPlace 14 = .ok (.getfield 45, 3) := by decide +kernel
theorem dX8_faultPlace_17 : decode cX8_faultPlace 17 = .ok (.goto 10, 3) := by decide +kernel
theorem dX8_faultPlace_20 : decode cX8_faultPlace 20 = .ok (.aload_n 0, 1) := by decide +kernel
theorem dX8_faultPlace_21 : decode cX8_faultPlace 21 = .ok (.getfield 23, 3) := by decide +kernel
theorem dX8_faultPlace_24 : decode cX8_faultPlace 24 = .ok (.getfield 48, 3) := by decide +kernel
theorem dX8_faultPlace_27 : decode cX8_faultPlace 27 = .ok (.ireturn, 1) := by decide +kernel
def wX8_faultPlace_b27 (a0 : Nat) (xt0 : Int32)  (Sn : kp_S) (post : Int32 → kp_S → Prop) : Prop :=
  post xt0 Sn
def wX8_faultPlace (a0 : Nat) (S : kp_S) (post : Int32 → kp_S → Prop) : Prop :=
  ∃ b1 : Nat, kp_R S 1600 a0 = some b1 ∧
  (((kp_I S 1809 b1) = 0 →
  ∃ b2 : Nat, kp_R S 1601 a0 = some b2 ∧
  wX8_faultPlace_b27 a0 (kp_I S 1012 b2)  S post) ∧ (¬ (kp_I S 1809 b1) = 0 →
  wX8_faultPlace_b27 a0 (kp_I S 1810 b1)  S post))
set_option maxHeartbeats 4000000 in
set_option maxRecDepth 100000 in
theorem c_X8_faultPlace (l : Launch) (D : va_G) (cy : Nat → ClassId) (ad : (Nat → Nat) × (Nat → Nat)) (S : kp_S) (a0 : Nat) (post : Int32 → kp_S → Prop) (hS : kp_ok S) (f_a0 : kp_is S a0 8) (hw : wX8_faultPlace a0 S post) : kp_M l yX8_faultPlace cX8_faultPlace 1 (some .int) { frames := 0, cells := 0, slots := 0, locals := 0 } D cy ad S [.ref a0] 0 0 (fun A => kp_Qi D cy A S post) := by
  refine kp_start (own := RX8) (by decide) rfl (Nat.le_of_ble_eq_true rfl) hS ?_
  intro p e s m below meth c A ls X hr hlocks hname h hl
  have hle : kp_le S S := kp_le.rf
  have hl : lv_has ls 1 [(0, .ref a0)] := hl
  have j27 : ∀ (xt0 : Int32) (Sn : kp_S) (H : Heap) (locs : List Loc) (ls : Array Slot), lv_has ls 1 [] → kp_H D cy A Sn s.heap H locs → kp_le S Sn → kp_is Sn a0 8 → wX8_faultPlace_b27 a0 xt0  Sn post → W p l e { frames := 0, cells := 0, slots := 0, locals := 0 } s m ([.ref a0] : List Value).toArray below meth c H locs 0 0 (MQ below (kp_Qi D cy A S post) ([.ref a0] : List Value).toArray s 0 0 A) (F0 m 27 ls [.int xt0]) := by
    intro xt0 Sn H locs ls hl h hle f_a0 hw
    unfold wX8_faultPlace_b27 at hw
    exact kp_reti X hr hlocks h hle rfl hw dX8_faultPlace_27
  unfold wX8_faultPlace at hw
  have h : kp_H D cy A S s.heap s.heap [] := h
  revert h
  intro h
  refine lv_aload_n X.1 X.2.1 dX8_faultPlace_0 rfl (lv_at hl 0 rfl) ?_
  obtain ⟨b1, e_b1, hw⟩ := hw
  have f_b1 := h.2.2.2.rf (c := 8) (k := 0) f_a0 (by decide) (by decide) e_b1 (t := 9) rfl
  refine kp_get X h f_a0 ff_8_14.l (v := .ref b1) (congrArg va_rf e_b1) dX8_faultPlace_1 ?_
  refine kp_get X h f_b1 fp_8_40.l (v := .int (kp_I S 1809 b1)) rfl dX8_faultPlace_4 ?_
  refine lv_if_eq (tgt := 20) X.1 X.2.1 dX8_faultPlace_7 (by decide) (fun c3 => ?_) (fun c3 => ?_)
  · have hw := hw.1 c3
    refine lv_aload_n X.1 X.2.1 dX8_faultPlace_20 rfl (lv_at hl 0 rfl) ?_
    obtain ⟨b2, e_b2, hw⟩ := hw
    have f_b2 := h.2.2.2.rf (c := 8) (k := 1) f_a0 (by decide) (by decide) e_b2 (t := 5) rfl
    refine kp_get X h f_a0 ff_8_23.l (v := .ref b2) (congrArg va_rf e_b2) dX8_faultPlace_21 ?_
    refine kp_get X h f_b2 fp_8_48.l (v := .int (kp_I S 1012 b2)) rfl dX8_faultPlace_24 ?_
    exact j27 (kp_I S 1012 b2) S _ _ ls (lv_sub hl [] rfl) h hle f_a0 hw
  · have hw := hw.2 c3
    refine lv_aload_n X.1 X.2.1 dX8_faultPlace_10 rfl (lv_at hl 0 rfl) ?_
    refine kp_get X h f_a0 ff_8_14.l (v := .ref b1) (congrArg va_rf e_b1) dX8_faultPlace_11 ?_
    refine kp_get X h f_b1 fp_8_45.l (v := .int (kp_I S 1810 b1)) rfl dX8_faultPlace_14 ?_
    refine lv_goto (tgt := 27) X.1 X.2.1 dX8_faultPlace_17 (by decide) ?_
    exact j27 (kp_I S 1810 b1) S _ _ ls (lv_sub hl [] rfl) h hle f_a0 hw
theorem dX8_collectDuty_0 : decode cX8_collectDuty 0 = .ok (.aload_n 0, 1) := by decide +kernel
theorem dX8_collectDuty_1 : decode cX8_collectDuty 1 = .ok (.getfield 14, 3) := by decide +kernel
theorem dX8_collectDuty_4 : decode cX8_collectDuty 4 = .ok (.invokevirtual 75, 3) := by decide +kernel
theorem dX8_collectDuty_7 : decode cX8_collectDuty 7 = .ok (.aload_n 0, 1) := by decide +kernel
theorem dX8_collectDuty_8 : decode cX8_collectDuty 8 = .ok (.getfield 14, 3) := by decide +kernel
theorem dX8_collectDuty_11 : decode cX8_collectDuty 11 = .ok (.getfield 66, 3) := by decide +kernel
theorem dX8_collectDuty_14 : decode cX8_collectDuty 14 = .ok (.sipush 259, 3) := by decide +kernel
theorem dX8_collectDuty_17 : decode cX8_collectDuty 17 = .ok (.if_icmp .eq 4, 3) := by decide +kernel
theorem dX8_collectDuty_20 : decode cX8_collectDuty 20 = .ok (.return_, 1) := by decide +kernel
theorem dX8_collectDuty_21 : decode cX8_collectDuty 21 = .ok (.aload_n 0, 1) := by decide +kernel
theorem dX8_collectDuty_22 : decode cX8_collectDuty 22 = .ok (.getfield 14, 3) := by decide +kernel
theorem dX8_collectDuty_25 : decode cX8_collectDuty 25 = .ok (.getfield 78, 3) := by decide +kernel
theorem dX8_collectDuty_28 : decode cX8_collectDuty 28 = .ok (.lstore_n 1, 1) := by decide +kernel
theorem dX8_collectDuty_29 : decode cX8_collectDuty 29 = .ok (.aload_n 0, 1) := by decide +kernel
theorem dX8_collectDuty_30 : decode cX8_collectDuty 30 = .ok (.getfield 14, 3) := by decide +kernel
theorem dX8_collectDuty_33 : decode cX8_collectDuty 33 = .ok (.invokevirtual 75, 3) := by decide +kernel
theorem dX8_collectDuty_36 : decode cX8_collectDuty 36 = .ok (.iconst 0, 1) := by decide +kernel
theorem dX8_collectDuty_37 : decode cX8_collectDuty 37 = .ok (.istore_n 3, 1) := by decide +kernel
theorem dX8_collectDuty_38 : decode cX8_collectDuty 38 = .ok (.iconst 0, 1) := by decide +kernel
theorem dX8_collectDuty_39 : decode cX8_collectDuty 39 = .ok (.istore 4, 2) := by decide +kernel
theorem dX8_collectDuty_41 : decode cX8_collectDuty 41 = .ok (.iload 4, 2) := by decide +kernel
theorem dX8_collectDuty_43 : decode cX8_collectDuty 43 = .ok (.sipush 3000, 3) := by decide +kernel
theorem dX8_collectDuty_46 : decode cX8_collectDuty 46 = .ok (.if_icmp .ge 45, 3) := by decide +kernel
theorem dX8_collectDuty_49 : decode cX8_collectDuty 49 = .ok (.aload_n 0, 1) := by decide +kernel
theorem dX8_collectDuty_50 : decode cX8_collectDuty 50 = .ok (.getfield 14, 3) := by decide +kernel
theorem dX8_collectDuty_53 : decode cX8_collectDuty 53 = .ok (.getfield 66, 3) := by decide +kernel
theorem dX8_collectDuty_56 : decode cX8_collectDuty 56 = .ok (.invokestatic 82, 3) := by decide +kernel
theorem dX8_collectDuty_59 : decode cX8_collectDuty 59 = .ok (.ifCond .eq 32, 3) := by decide +kernel
theorem dX8_collectDuty_62 : decode cX8_collectDuty 62 = .ok (.aload_n 0, 1) := by decide +kernel
theorem dX8_collectDuty_63 : decode cX8_collectDuty 63 = .ok (.getfield 14, 3) := by decide +kernel
theorem dX8_collectDuty_66 : decode cX8_collectDuty 66 = .ok (.getfield 66, 3) := by decide +kernel
theorem dX8_collectDuty_69 : decode cX8_collectDuty 69 = .ok (.sipush 259, 3) := by decide +kernel
theorem dX8_collectDuty_72 : decode cX8_collectDuty 72 = .ok (.if_icmp .ne 6, 3) := by decide +kernel
theorem dX8_collectDuty_75 : decode cX8_collectDuty 75 = .ok (.iinc 3 1, 3) := by decide +kernel
theorem dX8_collectDuty_78 : decode cX8_collectDuty 78 = .ok (.aload_n 0, 1) := by decide +kernel
theorem dX8_collectDuty_79 : decode cX8_collectDuty 79 = .ok (.getfield 14, 3) := by decide +kernel
theorem dX8_collectDuty_82 : decode cX8_collectDuty 82 = .ok (.invokevirtual 75, 3) := by decide +kernel
theorem dX8_collectDuty_85 : decode cX8_collectDuty 85 = .ok (.iinc 4 1, 3) := by decide +kernel
theorem dX8_collectDuty_88 : decode cX8_collectDuty 88 = .ok (.goto (-47), 3) := by decide +kernel
theorem dX8_collectDuty_91 : decode cX8_collectDuty 91 = .ok (.aload_n 0, 1) := by decide +kernel
theorem dX8_collectDuty_92 : decode cX8_collectDuty 92 = .ok (.getfield 23, 3) := by decide +kernel
theorem dX8_collectDuty_95 : decode cX8_collectDuty 95 = .ok (.lload_n 1, 1) := by decide +kernel
theorem dX8_collectDuty_96 : decode cX8_collectDuty 96 = .ok (.iload_n 3, 1) := by decide +kernel
theorem dX8_collectDuty_97 : decode cX8_collectDuty 97 = .ok (.invokevirtual 86, 3) := by decide +kernel
theorem dX8_collectDuty_100 : decode cX8_collectDuty 100 = .ok (.return_, 1) := by decide +kernel
def wX8_collectDuty_b91 (a0 : Nat) (wn1 : Int64) (xn3 : Int32)  (Sn : kp_S) (post : kp_S → Prop) : Prop :=
  ∃ b1001 : Nat, kp_R Sn 1601 a0 = some b1001 ∧
  wX5_tellDuty b1001 wn1 xn3 Sn (fun T1002 =>
  post T1002)
def wX8_collectDuty_b78 (a0 : Nat) (wn1 : Int64) (xn3 : Int32) (xn4 : Int32) (K41 : Int64 → Int32 → Int32 → kp_S → Prop) (Sn : kp_S) (post : kp_S → Prop) : Prop :=
  ∃ b2001 : Nat, kp_R Sn 1600 a0 = some b2001 ∧
  wX9_advance b2001 Sn (fun T2002 =>
  ∀ y2003 : Int32, y2003 = xn4 + 1 →
  K41 wn1 xn3 y2003 T2002)
def wX8_collectDuty_L41 (a0 : Nat)  (post : kp_S → Prop) : Nat → Int64 → Int32 → Int32 → kp_S → Prop
  | 0, _, _, _, _ => False
  | n + 1, wn1, xn3, xn4, Sn =>
  ((3000 ≤ xn4 →
  wX8_collectDuty_b91 a0 wn1 xn3  Sn post) ∧ (¬ 3000 ≤ xn4 →
  ∃ b3001 : Nat, kp_R Sn 1600 a0 = some b3001 ∧
  wX8_isHeadToken (kp_I Sn 1805 b3001) Sn (fun y3003 T3002 =>
  ((y3003 = 0 →
  wX8_collectDuty_b91 a0 wn1 xn3  T3002 post) ∧ (¬ y3003 = 0 →
  ∃ b3004 : Nat, kp_R T3002 1600 a0 = some b3004 ∧
  ((¬ (kp_I T3002 1805 b3004) = 259 →
  wX8_collectDuty_b78 a0 wn1 xn3 xn4 (fun wn1_ xn3_ xn4_ S_ => wX8_collectDuty_L41 a0  post n wn1_ xn3_ xn4_ S_) T3002 post) ∧ ((kp_I T3002 1805 b3004) = 259 →
  ∀ y3005 : Int32, y3005 = xn3 + 1 →
  wX8_collectDuty_b78 a0 wn1 y3005 xn4 (fun wn1_ xn3_ xn4_ S_ => wX8_collectDuty_L41 a0  post n wn1_ xn3_ xn4_ S_) T3002 post)))))))
def wX8_collectDuty (a0 : Nat) (S : kp_S) (post : kp_S → Prop) : Prop :=
  ∃ b1 : Nat, kp_R S 1600 a0 = some b1 ∧
  wX9_advance b1 S (fun T2 =>
  ∃ b3 : Nat, kp_R T2 1600 a0 = some b3 ∧
  (((kp_I T2 1805 b3) = 259 →
  ∀ z4 : Int64, z4 = (kp_J T2 1808 b3) →
  wX9_advance b3 T2 (fun T5 =>
  ∃ n0 : Nat, wX8_collectDuty_L41 a0  post n0 z4 0 0 T5)) ∧ (¬ (kp_I T2 1805 b3) = 259 →
  post T2)))
set_option maxHeartbeats 4000000 in
set_option maxRecDepth 100000 in
theorem c_X8_collectDuty (l : Launch) (D : va_G) (cy : Nat → ClassId) (ad : (Nat → Nat) × (Nat → Nat)) (S : kp_S) (a0 : Nat) (post : kp_S → Prop) (hS : kp_ok S) (f_a0 : kp_is S a0 8) (hw : wX8_collectDuty a0 S post) : kp_M l yX8_collectDuty cX8_collectDuty 5 none { frames := 6, cells := 0, slots := 0, locals := 134 } D cy ad S [.ref a0] 0 0 (fun A => kp_Qv D cy A S post) := by
  refine kp_start (own := RX8) (by decide) rfl (Nat.le_of_ble_eq_true rfl) hS ?_
  intro p e s m below meth c A ls X hr hlocks hname h hl
  have hle : kp_le S S := kp_le.rf
  have hl : lv_has ls 5 [(0, .ref a0)] := hl
  have j91 : ∀ (wn1 : Int64) (xn3 : Int32) (Sn : kp_S) (H : Heap) (locs : List Loc) (ls : Array Slot), lv_has ls 5 [(0, .ref a0), (1, .long wn1), (3, .int xn3)] → kp_H D cy A Sn s.heap H locs → kp_le S Sn → kp_is Sn a0 8 → wX8_collectDuty_b91 a0 wn1 xn3  Sn post → W p l e { frames := 6, cells := 0, slots := 0, locals := 134 } s m ([.ref a0] : List Value).toArray below meth c H locs 0 0 (MQ below (kp_Qv D cy A S post) ([.ref a0] : List Value).toArray s 0 0 A) (F0 m 91 ls []) := by
    intro wn1 xn3 Sn H locs ls hl h hle f_a0 hw
    unfold wX8_collectDuty_b91 at hw
    refine lv_aload_n X.1 X.2.1 dX8_collectDuty_91 rfl (lv_at hl 0 rfl) ?_
    obtain ⟨b1001, e_b1001, hw⟩ := hw
    have f_b1001 := h.2.2.2.rf (c := 8) (k := 1) f_a0 (by decide) (by decide) e_b1001 (t := 5) rfl
    refine kp_get X h f_a0 ff_8_23.l (v := .ref b1001) (congrArg va_rf e_b1001) dX8_collectDuty_92 ?_
    refine lv_lload_n X.1 X.2.1 dX8_collectDuty_95 rfl (lv_at hl 1 rfl) ?_
    refine lv_iload_n X.1 X.2.1 dX8_collectDuty_96 rfl (lv_at hl 2 rfl) ?_
    refine kp_callv X h (kp_runV (rm := { frames := 0, cells := 0, slots := 0, locals := 0 }) (mc := 0) (ms := 0) (rest := []) (Qc := fun A => kp_Qv D cy A Sn _) X h (c_X5_tellDuty l D cy ad Sn b1001 wn1 xn3 _ h.2.2.2 f_b1001 hw) f_b1001 cv_8_86 ⟨by decide, by decide, rfl, rfl, by decide, by decide⟩ rfl hl.1 rfl (Nat.le_of_ble_eq_true rfl) dX8_collectDuty_97) (fun T1002 hw l_T1002 H locs h => ?_)
    have f_a0 := l_T1002.is f_a0
    have f_b1001 := l_T1002.is f_b1001
    have hle := hle.tr l_T1002
    exact kp_retv X hr hlocks h hle hw dX8_collectDuty_100
  have L41 : ∀ n41 : Nat, ∀ (wn1 : Int64) (xn3 : Int32) (xn4 : Int32) (Sn : kp_S) (H : Heap) (locs : List Loc) (ls : Array Slot), lv_has ls 5 [(0, .ref a0), (1, .long wn1), (3, .int xn3), (4, .int xn4)] → kp_H D cy A Sn s.heap H locs → kp_le S Sn → kp_is Sn a0 8 → wX8_collectDuty_L41 a0  post n41 wn1 xn3 xn4 Sn → W p l e { frames := 6, cells := 0, slots := 0, locals := 134 } s m ([.ref a0] : List Value).toArray below meth c H locs 0 0 (MQ below (kp_Qv D cy A S post) ([.ref a0] : List Value).toArray s 0 0 A) (F0 m 41 ls []) := by
    intro n41
    induction n41 with
    | zero => intro wn1 xn3 xn4 Sn H locs ls hl h hle f_a0 hw; exact hw.elim
    | succ n41 ih41 =>
      have j78 : ∀ (wn1 : Int64) (xn3 : Int32) (xn4 : Int32) (Sn : kp_S) (H : Heap) (locs : List Loc) (ls : Array Slot), lv_has ls 5 [(0, .ref a0), (1, .long wn1), (3, .int xn3), (4, .int xn4)] → kp_H D cy A Sn s.heap H locs → kp_le S Sn → kp_is Sn a0 8 → wX8_collectDuty_b78 a0 wn1 xn3 xn4 (fun wn1_ xn3_ xn4_ S_ => wX8_collectDuty_L41 a0  post n41 wn1_ xn3_ xn4_ S_) Sn post → W p l e { frames := 6, cells := 0, slots := 0, locals := 134 } s m ([.ref a0] : List Value).toArray below meth c H locs 0 0 (MQ below (kp_Qv D cy A S post) ([.ref a0] : List Value).toArray s 0 0 A) (F0 m 78 ls []) := by
        intro wn1 xn3 xn4 Sn H locs ls hl h hle f_a0 hw
        unfold wX8_collectDuty_b78 at hw
        refine lv_aload_n X.1 X.2.1 dX8_collectDuty_78 rfl (lv_at hl 0 rfl) ?_
        obtain ⟨b2001, e_b2001, hw⟩ := hw
        have f_b2001 := h.2.2.2.rf (c := 8) (k := 0) f_a0 (by decide) (by decide) e_b2001 (t := 9) rfl
        refine kp_get X h f_a0 ff_8_14.l (v := .ref b2001) (congrArg va_rf e_b2001) dX8_collectDuty_79 ?_
        refine kp_callv X h (kp_runV (rm := { frames := 5, cells := 0, slots := 0, locals := 113 }) (mc := 0) (ms := 0) (rest := []) (Qc := fun A => kp_Qv D cy A Sn _) X h (c_X9_advance l D cy ad Sn b2001 _ h.2.2.2 f_b2001 hw) f_b2001 cv_8_75 ⟨by decide, by decide, rfl, rfl, by decide, by decide⟩ rfl hl.1 rfl (Nat.le_of_ble_eq_true rfl) dX8_collectDuty_82) (fun T2002 hw l_T2002 H locs h => ?_)
        have f_a0 := l_T2002.is f_a0
        have f_b2001 := l_T2002.is f_b2001
        have hle := hle.tr l_T2002
        obtain ⟨y2003, e_y2003⟩ : ∃ y : Int32, y = xn4 + 1 := ⟨_, rfl⟩
        have hw := hw y2003 e_y2003
        refine lv_iinc (v := y2003) (lv' := [(4, .int y2003), (0, .ref a0), (1, .long wn1), (3, .int xn3)]) X.1 X.2.1 dX8_collectDuty_85 hl (k := 3) rfl (by rw [e_y2003]; rfl) (by decide) rfl (fun ls hl => ?_)
        refine lv_goto (tgt := 41) X.1 X.2.1 dX8_collectDuty_88 (by decide) ?_
        exact ih41 wn1 xn3 y2003 T2002 H locs ls (lv_sub hl [1, 2, 3, 0] rfl) h hle f_a0 hw
      intro wn1 xn3 xn4 Sn H locs ls hl h hle f_a0 hw
      unfold wX8_collectDuty_L41 at hw
      refine lv_iload X.1 X.2.1 dX8_collectDuty_41 (lv_at hl 3 rfl) ?_
      refine lv_sipush (v := 3000) X.1 X.2.1 dX8_collectDuty_43 (by decide) ?_
      refine lv_icmp_ge (tgt := 91) X.1 X.2.1 dX8_collectDuty_46 (by decide) (fun c3008 => ?_) (fun c3008 => ?_)
      · have hw := hw.1 c3008
        exact j91 wn1 xn3 Sn H locs ls (lv_sub hl [0, 1, 2] rfl) h hle f_a0 hw
      · have hw := hw.2 c3008
        refine lv_aload_n X.1 X.2.1 dX8_collectDuty_49 rfl (lv_at hl 0 rfl) ?_
        obtain ⟨b3001, e_b3001, hw⟩ := hw
        have f_b3001 := h.2.2.2.rf (c := 8) (k := 0) f_a0 (by decide) (by decide) e_b3001 (t := 9) rfl
        refine kp_get X h f_a0 ff_8_14.l (v := .ref b3001) (congrArg va_rf e_b3001) dX8_collectDuty_50 ?_
        refine kp_get X h f_b3001 fp_8_66.l (v := .int (kp_I Sn 1805 b3001)) rfl dX8_collectDuty_53 ?_
        refine kp_calli X h (kp_runS (rm := { frames := 0, cells := 0, slots := 0, locals := 0 }) (mc := 0) (ms := 0) (rest := []) (Qc := fun A => kp_Qi D cy A Sn _) X h (c_X8_isHeadToken l D cy ad Sn (kp_I Sn 1805 b3001) _ h.2.2.2  hw) cs_8_82 ⟨by decide, by decide, rfl, rfl, by decide, by decide⟩ rfl hl.1 rfl (Nat.le_of_ble_eq_true rfl) dX8_collectDuty_56) (fun y3003 T3002 hw l_T3002 H locs h => ?_)
        have f_a0 := l_T3002.is f_a0
        have f_b3001 := l_T3002.is f_b3001
        have hle := hle.tr l_T3002
        refine lv_if_eq (tgt := 91) X.1 X.2.1 dX8_collectDuty_59 (by decide) (fun c3007 => ?_) (fun c3007 => ?_)
        · have hw := hw.1 c3007
          exact j91 wn1 xn3 T3002 H locs ls (lv_sub hl [0, 1, 2] rfl) h hle f_a0 hw
        · have hw := hw.2 c3007
          refine lv_aload_n X.1 X.2.1 dX8_collectDuty_62 rfl (lv_at hl 0 rfl) ?_
          obtain ⟨b3004, e_b3004, hw⟩ := hw
          have f_b3004 := h.2.2.2.rf (c := 8) (k := 0) f_a0 (by decide) (by decide) e_b3004 (t := 9) rfl
          refine kp_get X h f_a0 ff_8_14.l (v := .ref b3004) (congrArg va_rf e_b3004) dX8_collectDuty_63 ?_
          refine kp_get X h f_b3004 fp_8_66.l (v := .int (kp_I T3002 1805 b3004)) rfl dX8_collectDuty_66 ?_
          refine lv_sipush (v := 259) X.1 X.2.1 dX8_collectDuty_69 (by decide) ?_
          refine lv_icmp_ne (tgt := 78) X.1 X.2.1 dX8_collectDuty_72 (by decide) (fun c3006 => ?_) (fun c3006 => ?_)
          · have hw := hw.1 c3006
            exact j78 wn1 xn3 xn4 T3002 H locs ls (lv_sub hl [0, 1, 2, 3] rfl) h hle f_a0 hw
          · have hw := hw.2 c3006
            obtain ⟨y3005, e_y3005⟩ : ∃ y : Int32, y = xn3 + 1 := ⟨_, rfl⟩
            have hw := hw y3005 e_y3005
            refine lv_iinc (v := y3005) (lv' := [(3, .int y3005), (0, .ref a0), (1, .long wn1), (4, .int xn4)]) X.1 X.2.1 dX8_collectDuty_75 hl (k := 2) rfl (by rw [e_y3005]; rfl) (by decide) rfl (fun ls hl => ?_)
            exact j78 wn1 y3005 xn4 T3002 H locs ls (lv_sub hl [1, 2, 0, 3] rfl) h hle f_a0 hw
  unfold wX8_collectDuty at hw
  have h : kp_H D cy A S s.heap s.heap [] := h
  revert h
  intro h
  refine lv_aload_n X.1 X.2.1 dX8_collectDuty_0 rfl (lv_at hl 0 rfl) ?_
  obtain ⟨b1, e_b1, hw⟩ := hw
  have f_b1 := h.2.2.2.rf (c := 8) (k := 0) f_a0 (by decide) (by decide) e_b1 (t := 9) rfl
  refine kp_get X h f_a0 ff_8_14.l (v := .ref b1) (congrArg va_rf e_b1) dX8_collectDuty_1 ?_
  refine kp_callv X h (kp_runV (rm := { frames := 5, cells := 0, slots := 0, locals := 113 }) (mc := 0) (ms := 0) (rest := []) (Qc := fun A => kp_Qv D cy A S _) X h (c_X9_advance l D cy ad S b1 _ h.2.2.2 f_b1 hw) f_b1 cv_8_75 ⟨by decide, by decide, rfl, rfl, by decide, by decide⟩ rfl hl.1 rfl (Nat.le_of_ble_eq_true rfl) dX8_collectDuty_4) (fun T2 hw l_T2 H locs h => ?_)
  have f_a0 := l_T2.is f_a0
  have f_b1 := l_T2.is f_b1
  have hle := hle.tr l_T2
  refine lv_aload_n X.1 X.2.1 dX8_collectDuty_7 rfl (lv_at hl 0 rfl) ?_
  obtain ⟨b3, e_b3, hw⟩ := hw
  have f_b3 := h.2.2.2.rf (c := 8) (k := 0) f_a0 (by decide) (by decide) e_b3 (t := 9) rfl
  refine kp_get X h f_a0 ff_8_14.l (v := .ref b3) (congrArg va_rf e_b3) dX8_collectDuty_8 ?_
  refine kp_get X h f_b3 fp_8_66.l (v := .int (kp_I T2 1805 b3)) rfl dX8_collectDuty_11 ?_
  refine lv_sipush (v := 259) X.1 X.2.1 dX8_collectDuty_14 (by decide) ?_
  refine lv_icmp_eq (tgt := 21) X.1 X.2.1 dX8_collectDuty_17 (by decide) (fun c6 => ?_) (fun c6 => ?_)
  · have hw := hw.1 c6
    refine lv_aload_n X.1 X.2.1 dX8_collectDuty_21 rfl (lv_at hl 0 rfl) ?_
    refine kp_get X h f_a0 ff_8_14.l (v := .ref b3) (congrArg va_rf e_b3) dX8_collectDuty_22 ?_
    refine kp_get X h f_b3 fp_8_78.l (v := .long (kp_J T2 1808 b3)) rfl dX8_collectDuty_25 ?_
    refine lv_topl (fun z4 e_z4 => ?_)
    have hw := hw z4 e_z4
    refine lv_lstore_n (lv' := [(1, .long z4), (0, .ref a0)]) X.1 X.2.1 dX8_collectDuty_28 rfl hl (by decide) rfl (fun ls hl => ?_)
    refine lv_aload_n X.1 X.2.1 dX8_collectDuty_29 rfl (lv_at hl 1 rfl) ?_
    refine kp_get X h f_a0 ff_8_14.l (v := .ref b3) (congrArg va_rf e_b3) dX8_collectDuty_30 ?_
    refine kp_callv X h (kp_runV (rm := { frames := 5, cells := 0, slots := 0, locals := 113 }) (mc := 0) (ms := 0) (rest := []) (Qc := fun A => kp_Qv D cy A T2 _) X h (c_X9_advance l D cy ad T2 b3 _ h.2.2.2 f_b3 hw) f_b3 cv_8_75 ⟨by decide, by decide, rfl, rfl, by decide, by decide⟩ rfl hl.1 rfl (Nat.le_of_ble_eq_true rfl) dX8_collectDuty_33) (fun T5 hw l_T5 H locs h => ?_)
    have f_a0 := l_T5.is f_a0
    have f_b1 := l_T5.is f_b1
    have f_b3 := l_T5.is f_b3
    have hle := hle.tr l_T5
    refine lv_iconst (v := 0) X.1 X.2.1 dX8_collectDuty_36 (by decide) ?_
    refine lv_istore_n (lv' := [(3, .int 0), (1, .long z4), (0, .ref a0)]) X.1 X.2.1 dX8_collectDuty_37 rfl hl (by decide) rfl (fun ls hl => ?_)
    refine lv_iconst (v := 0) X.1 X.2.1 dX8_collectDuty_38 (by decide) ?_
    refine lv_istore (lv' := [(4, .int 0), (3, .int 0), (1, .long z4), (0, .ref a0)]) X.1 X.2.1 dX8_collectDuty_39 hl (by decide) rfl (fun ls hl => ?_)
    obtain ⟨n0, hw⟩ := hw
    exact L41 n0 z4 0 0 T5 _ _ ls (lv_sub hl [3, 2, 1, 0] rfl) h hle f_a0 hw
  · have hw := hw.2 c6
    exact kp_retv X hr hlocks h hle hw dX8_collectDuty_20
theorem dX8_collectDuties_0 : decode cX8_collectDuties 0 = .ok (.iconst 0, 1) := by decide +kernel
theorem dX8_collectDuties_1 : decode cX8_collectDuties 1 = .ok (.istore_n 1, 1) := by decide +kernel
theorem dX8_collectDuties_2 : decode cX8_collectDuties 2 = .ok (.iload_n 1, 1) := by decide +kernel
theorem dX8_collectDuties_3 : decode cX8_collectDuties 3 = .ok (.sipush 3000, 3) := by decide +kernel
theorem dX8_collectDuties_6 : decode cX8_collectDuties 6 = .ok (.if_icmp .gt 49, 3) := by decide +kernel
theorem dX8_collectDuties_9 : decode cX8_collectDuties 9 = .ok (.aload_n 0, 1) := by decide +kernel
theorem dX8_collectDuties_10 : decode cX8_collectDuties 10 = .ok (.getfield 14, 3) := by decide +kernel
theorem dX8_collectDuties_13 : decode cX8_collectDuties 13 = .ok (.getfield 66, 3) := by decide +kernel
theorem dX8_collectDuties_16 : decode cX8_collectDuties 16 = .ok (.sipush 261, 3) := by decide +kernel
theorem dX8_collectDuties_19 : decode cX8_collectDuties 19 = .ok (.if_icmp .eq 36, 3) := by decide +kernel
theorem dX8_collectDuties_22 : decode cX8_collectDuties 22 = .ok (.aload_n 0, 1) := by decide +kernel
theorem dX8_collectDuties_23 : decode cX8_collectDuties 23 = .ok (.getfield 14, 3) := by decide +kernel
theorem dX8_collectDuties_26 : decode cX8_collectDuties 26 = .ok (.getfield 66, 3) := by decide +kernel
theorem dX8_collectDuties_29 : decode cX8_collectDuties 29 = .ok (.sipush 300, 3) := by decide +kernel
theorem dX8_collectDuties_32 : decode cX8_collectDuties 32 = .ok (.if_icmp .ne 10, 3) := by decide +kernel
theorem dX8_collectDuties_35 : decode cX8_collectDuties 35 = .ok (.aload_n 0, 1) := by decide +kernel
theorem dX8_collectDuties_36 : decode cX8_collectDuties 36 = .ok (.invokevirtual 72, 3) := by decide +kernel
theorem dX8_collectDuties_39 : decode cX8_collectDuties 39 = .ok (.goto 10, 3) := by decide +kernel
theorem dX8_collectDuties_42 : decode cX8_collectDuties 42 = .ok (.aload_n 0, 1) := by decide +kernel
theorem dX8_collectDuties_43 : decode cX8_collectDuties 43 = .ok (.getfield 14, 3) := by decide +kernel
theorem dX8_collectDuties_46 : decode cX8_collectDuties 46 = .ok (.invokevirtual 75, 3) := by decide +kernel
theorem dX8_collectDuties_49 : decode cX8_collectDuties 49 = .ok (.iinc 1 1, 3) := by decide +kernel
theorem dX8_collectDuties_52 : decode cX8_collectDuties 52 = .ok (.goto (-50), 3) := by decide +kernel
theorem dX8_collectDuties_55 : decode cX8_collectDuties 55 = .ok (.return_, 1) := by decide +kernel
def wX8_collectDuties_b55 (a0 : Nat)  (Sn : kp_S) (post : kp_S → Prop) : Prop :=
  post Sn
def wX8_collectDuties_b49 (a0 : Nat) (xn1 : Int32) (K2 : Int32 → kp_S → Prop) (Sn : kp_S) (post : kp_S → Prop) : Prop :=
  ∀ y2001 : Int32, y2001 = xn1 + 1 →
  K2 y2001 Sn
def wX8_collectDuties_L2 (a0 : Nat)  (post : kp_S → Prop) : Nat → Int32 → kp_S → Prop
  | 0, _, _ => False
  | n + 1, xn1, Sn =>
  ((3000 < xn1 →
  wX8_collectDuties_b55 a0   Sn post) ∧ (¬ 3000 < xn1 →
  ∃ b3001 : Nat, kp_R Sn 1600 a0 = some b3001 ∧
  (((kp_I Sn 1805 b3001) = 261 →
  wX8_collectDuties_b55 a0   Sn post) ∧ (¬ (kp_I Sn 1805 b3001) = 261 →
  ((¬ (kp_I Sn 1805 b3001) = 300 →
  wX9_advance b3001 Sn (fun T3002 =>
  wX8_collectDuties_b49 a0 xn1 (fun xn1_ S_ => wX8_collectDuties_L2 a0  post n xn1_ S_) T3002 post)) ∧ ((kp_I Sn 1805 b3001) = 300 →
  wX8_collectDuty a0 Sn (fun T3003 =>
  wX8_collectDuties_b49 a0 xn1 (fun xn1_ S_ => wX8_collectDuties_L2 a0  post n xn1_ S_) T3003 post)))))))
def wX8_collectDuties (a0 : Nat) (S : kp_S) (post : kp_S → Prop) : Prop :=
  ∃ n0 : Nat, wX8_collectDuties_L2 a0  post n0 0 S
set_option maxHeartbeats 4000000 in
set_option maxRecDepth 100000 in
theorem c_X8_collectDuties (l : Launch) (D : va_G) (cy : Nat → ClassId) (ad : (Nat → Nat) × (Nat → Nat)) (S : kp_S) (a0 : Nat) (post : kp_S → Prop) (hS : kp_ok S) (f_a0 : kp_is S a0 8) (hw : wX8_collectDuties a0 S post) : kp_M l yX8_collectDuties cX8_collectDuties 2 none { frames := 7, cells := 0, slots := 0, locals := 158 } D cy ad S [.ref a0] 0 0 (fun A => kp_Qv D cy A S post) := by
  refine kp_start (own := RX8) (by decide) rfl (Nat.le_of_ble_eq_true rfl) hS ?_
  intro p e s m below meth c A ls X hr hlocks hname h hl
  have hle : kp_le S S := kp_le.rf
  have hl : lv_has ls 2 [(0, .ref a0)] := hl
  have j55 : ∀  (Sn : kp_S) (H : Heap) (locs : List Loc) (ls : Array Slot), lv_has ls 2 [] → kp_H D cy A Sn s.heap H locs → kp_le S Sn → kp_is Sn a0 8 → wX8_collectDuties_b55 a0   Sn post → W p l e { frames := 7, cells := 0, slots := 0, locals := 158 } s m ([.ref a0] : List Value).toArray below meth c H locs 0 0 (MQ below (kp_Qv D cy A S post) ([.ref a0] : List Value).toArray s 0 0 A) (F0 m 55 ls []) := by
    intro  Sn H locs ls hl h hle f_a0 hw
    unfold wX8_collectDuties_b55 at hw
    exact kp_retv X hr hlocks h hle hw dX8_collectDuties_55
  have L2 : ∀ n2 : Nat, ∀ (xn1 : Int32) (Sn : kp_S) (H : Heap) (locs : List Loc) (ls : Array Slot), lv_has ls 2 [(0, .ref a0), (1, .int xn1)] → kp_H D cy A Sn s.heap H locs → kp_le S Sn → kp_is Sn a0 8 → wX8_collectDuties_L2 a0  post n2 xn1 Sn → W p l e { frames := 7, cells := 0, slots := 0, locals := 158 } s m ([.ref a0] : List Value).toArray below meth c H locs 0 0 (MQ below (kp_Qv D cy A S post) ([.ref a0] : List Value).toArray s 0 0 A) (F0 m 2 ls []) := by
    intro n2
    induction n2 with
    | zero => intro xn1 Sn H locs ls hl h hle f_a0 hw; exact hw.elim
    | succ n2 ih2 =>
      have j49 : ∀ (xn1 : Int32) (Sn : kp_S) (H : Heap) (locs : List Loc) (ls : Array Slot), lv_has ls 2 [(0, .ref a0), (1, .int xn1)] → kp_H D cy A Sn s.heap H locs → kp_le S Sn → kp_is Sn a0 8 → wX8_collectDuties_b49 a0 xn1 (fun xn1_ S_ => wX8_collectDuties_L2 a0  post n2 xn1_ S_) Sn post → W p l e { frames := 7, cells := 0, slots := 0, locals := 158 } s m ([.ref a0] : List Value).toArray below meth c H locs 0 0 (MQ below (kp_Qv D cy A S post) ([.ref a0] : List Value).toArray s 0 0 A) (F0 m 49 ls []) := by
        intro xn1 Sn H locs ls hl h hle f_a0 hw
        unfold wX8_collectDuties_b49 at hw
        obtain ⟨y2001, e_y2001⟩ : ∃ y : Int32, y = xn1 + 1 := ⟨_, rfl⟩
        have hw := hw y2001 e_y2001
        refine lv_iinc (v := y2001) (lv' := [(1, .int y2001), (0, .ref a0)]) X.1 X.2.1 dX8_collectDuties_49 hl (k := 1) rfl (by rw [e_y2001]; rfl) (by decide) rfl (fun ls hl => ?_)
        refine lv_goto (tgt := 2) X.1 X.2.1 dX8_collectDuties_52 (by decide) ?_
        exact ih2 y2001 Sn H locs ls (lv_sub hl [1, 0] rfl) h hle f_a0 hw
      intro xn1 Sn H locs ls hl h hle f_a0 hw
      unfold wX8_collectDuties_L2 at hw
      refine lv_iload_n X.1 X.2.1 dX8_collectDuties_2 rfl (lv_at hl 1 rfl) ?_
      refine lv_sipush (v := 3000) X.1 X.2.1 dX8_collectDuties_3 (by decide) ?_
      refine lv_icmp_gt (tgt := 55) X.1 X.2.1 dX8_collectDuties_6 (by decide) (fun c3006 => ?_) (fun c3006 => ?_)
      · have hw := hw.1 c3006
        exact j55  Sn H locs ls (lv_sub hl [] rfl) h hle f_a0 hw
      · have hw := hw.2 c3006
        refine lv_aload_n X.1 X.2.1 dX8_collectDuties_9 rfl (lv_at hl 0 rfl) ?_
        obtain ⟨b3001, e_b3001, hw⟩ := hw
        have f_b3001 := h.2.2.2.rf (c := 8) (k := 0) f_a0 (by decide) (by decide) e_b3001 (t := 9) rfl
        refine kp_get X h f_a0 ff_8_14.l (v := .ref b3001) (congrArg va_rf e_b3001) dX8_collectDuties_10 ?_
        refine kp_get X h f_b3001 fp_8_66.l (v := .int (kp_I Sn 1805 b3001)) rfl dX8_collectDuties_13 ?_
        refine lv_sipush (v := 261) X.1 X.2.1 dX8_collectDuties_16 (by decide) ?_
        refine lv_icmp_eq (tgt := 55) X.1 X.2.1 dX8_collectDuties_19 (by decide) (fun c3005 => ?_) (fun c3005 => ?_)
        · have hw := hw.1 c3005
          exact j55  Sn H locs ls (lv_sub hl [] rfl) h hle f_a0 hw
        · have hw := hw.2 c3005
          refine lv_aload_n X.1 X.2.1 dX8_collectDuties_22 rfl (lv_at hl 0 rfl) ?_
          refine kp_get X h f_a0 ff_8_14.l (v := .ref b3001) (congrArg va_rf e_b3001) dX8_collectDuties_23 ?_
          refine kp_get X h f_b3001 fp_8_66.l (v := .int (kp_I Sn 1805 b3001)) rfl dX8_collectDuties_26 ?_
          refine lv_sipush (v := 300) X.1 X.2.1 dX8_collectDuties_29 (by decide) ?_
          refine lv_icmp_ne (tgt := 42) X.1 X.2.1 dX8_collectDuties_32 (by decide) (fun c3004 => ?_) (fun c3004 => ?_)
          · have hw := hw.1 c3004
            refine lv_aload_n X.1 X.2.1 dX8_collectDuties_42 rfl (lv_at hl 0 rfl) ?_
            refine kp_get X h f_a0 ff_8_14.l (v := .ref b3001) (congrArg va_rf e_b3001) dX8_collectDuties_43 ?_
            refine kp_callv X h (kp_runV (rm := { frames := 5, cells := 0, slots := 0, locals := 113 }) (mc := 0) (ms := 0) (rest := []) (Qc := fun A => kp_Qv D cy A Sn _) X h (c_X9_advance l D cy ad Sn b3001 _ h.2.2.2 f_b3001 hw) f_b3001 cv_8_75 ⟨by decide, by decide, rfl, rfl, by decide, by decide⟩ rfl hl.1 rfl (Nat.le_of_ble_eq_true rfl) dX8_collectDuties_46) (fun T3002 hw l_T3002 H locs h => ?_)
            have f_a0 := l_T3002.is f_a0
            have f_b3001 := l_T3002.is f_b3001
            have hle := hle.tr l_T3002
            exact j49 xn1 T3002 H locs ls (lv_sub hl [0, 1] rfl) h hle f_a0 hw
          · have hw := hw.2 c3004
            refine lv_aload_n X.1 X.2.1 dX8_collectDuties_35 rfl (lv_at hl 0 rfl) ?_
            refine kp_callv X h (kp_runV (rm := { frames := 6, cells := 0, slots := 0, locals := 134 }) (mc := 0) (ms := 0) (rest := []) (Qc := fun A => kp_Qv D cy A Sn _) X h (c_X8_collectDuty l D cy ad Sn a0 _ h.2.2.2 f_a0 hw) f_a0 cv_8_72 ⟨by decide, by decide, rfl, rfl, by decide, by decide⟩ rfl hl.1 rfl (Nat.le_of_ble_eq_true rfl) dX8_collectDuties_36) (fun T3003 hw l_T3003 H locs h => ?_)
            have f_a0 := l_T3003.is f_a0
            have f_b3001 := l_T3003.is f_b3001
            have hle := hle.tr l_T3003
            refine lv_goto (tgt := 49) X.1 X.2.1 dX8_collectDuties_39 (by decide) ?_
            exact j49 xn1 T3003 H locs ls (lv_sub hl [0, 1] rfl) h hle f_a0 hw
  unfold wX8_collectDuties at hw
  have h : kp_H D cy A S s.heap s.heap [] := h
  revert h
  intro h
  refine lv_iconst (v := 0) X.1 X.2.1 dX8_collectDuties_0 (by decide) ?_
  refine lv_istore_n (lv' := [(1, .int 0), (0, .ref a0)]) X.1 X.2.1 dX8_collectDuties_1 rfl hl (by decide) rfl (fun ls hl => ?_)
  obtain ⟨n0, hw⟩ := hw
  exact L2 n0 0 S _ _ ls (lv_sub hl [1, 0] rfl) h hle f_a0 hw
theorem dX8_readParameters_0 : decode cX8_readParameters 0 = .ok (.iconst 0, 1) := by decide +kernel
theorem dX8_readParameters_1 : decode cX8_readParameters 1 = .ok (.istore_n 1, 1) := by decide +kernel
theorem dX8_readParameters_2 : decode cX8_readParameters 2 = .ok (.iload_n 1, 1) := by decide +kernel
theorem dX8_readParameters_3 : decode cX8_readParameters 3 = .ok (.sipush 3000, 3) := by decide +kernel
theorem dX8_readParameters_6 : decode cX8_readParameters 6 = .ok (.if_icmp .ge 78, 3) := by decide +kernel
theorem dX8_readParameters_9 : decode cX8_readParameters 9 = .ok (.aload_n 0, 1) := by decide +kernel
theorem dX8_readParameters_10 : decode cX8_readParameters 10 = .ok (.getfield 14, 3) := by decide +kernel
theorem dX8_readParameters_13 : decode cX8_readParameters 13 = .ok (.getfield 78, 3) := by decide +kernel
theorem dX8_readParameters_16 : decode cX8_readParameters 16 = .ok (.lstore_n 2, 1) := by decide +kernel
theorem dX8_readParameters_17 : decode cX8_readParameters 17 = .ok (.aload_n 0, 1) := by decide +kernel
theorem dX8_readParameters_18 : decode cX8_readParameters 18 = .ok (.getfield 14, 3) := by decide +kernel
theorem dX8_readParameters_21 : decode cX8_readParameters 21 = .ok (.getfield 93, 3) := by decide +kernel
theorem dX8_readParameters_24 : decode cX8_readParameters 24 = .ok (.istore 4, 2) := by decide +kernel
theorem dX8_readParameters_26 : decode cX8_readParameters 26 = .ok (.aload_n 0, 1) := by decide +kernel
theorem dX8_readParameters_27 : decode cX8_readParameters 27 = .ok (.getfield 14, 3) := by decide +kernel
theorem dX8_readParameters_30 : decode cX8_readParameters 30 = .ok (.sipush 259, 3) := by decide +kernel
theorem dX8_readParameters_33 : decode cX8_readParameters 33 = .ok (.invokevirtual 90, 3) := by decide +kernel
theorem dX8_readParameters_36 : decode cX8_readParameters 36 = .ok (.aload_n 0, 1) := by decide +kernel
theorem dX8_readParameters_37 : decode cX8_readParameters 37 = .ok (.getfield 14, 3) := by decide +kernel
theorem dX8_readParameters_40 : decode cX8_readParameters 40 = .ok (.invokevirtual 96, 3) := by decide +kernel
theorem dX8_readParameters_43 : decode cX8_readParameters 43 = .ok (.ifCond .ne 13, 3) := by decide +kernel
theorem dX8_readParameters_46 : decode cX8_readParameters 46 = .ok (.aload_n 0, 1) := by decide +kernel
theorem dX8_readParameters_47 : decode cX8_readParameters 47 = .ok (.getfield 23, 3) := by decide +kernel
theorem dX8_readParameters_50 : decode cX8_readParameters 50 = .ok (.lload_n 2, 1) := by decide +kernel
theorem dX8_readParameters_51 : decode cX8_readParameters 51 = .ok (.iload 4, 2) := by decide +kernel
theorem dX8_readParameters_53 : decode cX8_readParameters 53 = .ok (.invokevirtual 134, 3) := by decide +kernel
theorem dX8_readParameters_56 : decode cX8_readParameters 56 = .ok (.aload_n 0, 1) := by decide +kernel
theorem dX8_readParameters_57 : decode cX8_readParameters 57 = .ok (.getfield 14, 3) := by decide +kernel
theorem dX8_readParameters_60 : decode cX8_readParameters 60 = .ok (.getfield 66, 3) := by decide +kernel
theorem dX8_readParameters_63 : decode cX8_readParameters 63 = .ok (.bipush 44, 2) := by decide +kernel
theorem dX8_readParameters_65 : decode cX8_readParameters 65 = .ok (.if_icmp .eq 6, 3) := by decide +kernel
theorem dX8_readParameters_68 : decode cX8_readParameters 68 = .ok (.goto 16, 3) := by decide +kernel
theorem dX8_readParameters_71 : decode cX8_readParameters 71 = .ok (.aload_n 0, 1) := by decide +kernel
theorem dX8_readParameters_72 : decode cX8_readParameters 72 = .ok (.getfield 14, 3) := by decide +kernel
theorem dX8_readParameters_75 : decode cX8_readParameters 75 = .ok (.invokevirtual 75, 3) := by decide +kernel
theorem dX8_readParameters_78 : decode cX8_readParameters 78 = .ok (.iinc 1 1, 3) := by decide +kernel
theorem dX8_readParameters_81 : decode cX8_readParameters 81 = .ok (.goto (-79), 3) := by decide +kernel
theorem dX8_readParameters_84 : decode cX8_readParameters 84 = .ok (.return_, 1) := by decide +kernel
def wX8_readParameters_b84 (a0 : Nat)  (Sn : kp_S) (post : kp_S → Prop) : Prop :=
  post Sn
def wX8_readParameters_b56 (a0 : Nat) (xn1 : Int32) (K2 : Int32 → kp_S → Prop) (Sn : kp_S) (post : kp_S → Prop) : Prop :=
  ∃ b2001 : Nat, kp_R Sn 1600 a0 = some b2001 ∧
  (((kp_I Sn 1805 b2001) = 44 →
  wX9_advance b2001 Sn (fun T2002 =>
  ∀ y2003 : Int32, y2003 = xn1 + 1 →
  K2 y2003 T2002)) ∧ (¬ (kp_I Sn 1805 b2001) = 44 →
  wX8_readParameters_b84 a0   Sn post))
def wX8_readParameters_L2 (a0 : Nat)  (post : kp_S → Prop) : Nat → Int32 → kp_S → Prop
  | 0, _, _ => False
  | n + 1, xn1, Sn =>
  ((3000 ≤ xn1 →
  wX8_readParameters_b84 a0   Sn post) ∧ (¬ 3000 ≤ xn1 →
  ∃ b3001 : Nat, kp_R Sn 1600 a0 = some b3001 ∧
  ∀ z3002 : Int64, z3002 = (kp_J Sn 1808 b3001) →
  ∀ y3003 : Int32, y3003 = (kp_I Sn 1806 b3001) →
  wX9_expect b3001 259 Sn (fun T3004 =>
  ∃ b3005 : Nat, kp_R T3004 1600 a0 = some b3005 ∧
  wX9_isStopped b3005 T3004 (fun y3007 T3006 =>
  ((¬ y3007 = 0 →
  wX8_readParameters_b56 a0 xn1 (fun xn1_ S_ => wX8_readParameters_L2 a0  post n xn1_ S_) T3006 post) ∧ (y3007 = 0 →
  ∃ b3008 : Nat, kp_R T3006 1601 a0 = some b3008 ∧
  wX5_tellParameter b3008 z3002 y3003 T3006 (fun T3009 =>
  wX8_readParameters_b56 a0 xn1 (fun xn1_ S_ => wX8_readParameters_L2 a0  post n xn1_ S_) T3009 post)))))))
def wX8_readParameters (a0 : Nat) (S : kp_S) (post : kp_S → Prop) : Prop :=
  ∃ n0 : Nat, wX8_readParameters_L2 a0  post n0 0 S
set_option maxHeartbeats 4000000 in
set_option maxRecDepth 100000 in
theorem c_X8_readParameters (l : Launch) (D : va_G) (cy : Nat → ClassId) (ad : (Nat → Nat) × (Nat → Nat)) (S : kp_S) (a0 : Nat) (post : kp_S → Prop) (hS : kp_ok S) (f_a0 : kp_is S a0 8) (hw : wX8_readParameters a0 S post) : kp_M l yX8_readParameters cX8_readParameters 5 none { frames := 7, cells := 0, slots := 0, locals := 155 } D cy ad S [.ref a0] 0 0 (fun A => kp_Qv D cy A S post) := by
  refine kp_start (own := RX8) (by decide) rfl (Nat.le_of_ble_eq_true rfl) hS ?_
  intro p e s m below meth c A ls X hr hlocks hname h hl
  have hle : kp_le S S := kp_le.rf
  have hl : lv_has ls 5 [(0, .ref a0)] := hl
  have j84 : ∀  (Sn : kp_S) (H : Heap) (locs : List Loc) (ls : Array Slot), lv_has ls 5 [] → kp_H D cy A Sn s.heap H locs → kp_le S Sn → kp_is Sn a0 8 → wX8_readParameters_b84 a0   Sn post → W p l e { frames := 7, cells := 0, slots := 0, locals := 155 } s m ([.ref a0] : List Value).toArray below meth c H locs 0 0 (MQ below (kp_Qv D cy A S post) ([.ref a0] : List Value).toArray s 0 0 A) (F0 m 84 ls []) := by
    intro  Sn H locs ls hl h hle f_a0 hw
    unfold wX8_readParameters_b84 at hw
    exact kp_retv X hr hlocks h hle hw dX8_readParameters_84
  have L2 : ∀ n2 : Nat, ∀ (xn1 : Int32) (Sn : kp_S) (H : Heap) (locs : List Loc) (ls : Array Slot), lv_has ls 5 [(0, .ref a0), (1, .int xn1)] → kp_H D cy A Sn s.heap H locs → kp_le S Sn → kp_is Sn a0 8 → wX8_readParameters_L2 a0  post n2 xn1 Sn → W p l e { frames := 7, cells := 0, slots := 0, locals := 155 } s m ([.ref a0] : List Value).toArray below meth c H locs 0 0 (MQ below (kp_Qv D cy A S post) ([.ref a0] : List Value).toArray s 0 0 A) (F0 m 2 ls []) := by
    intro n2
    induction n2 with
    | zero => intro xn1 Sn H locs ls hl h hle f_a0 hw; exact hw.elim
    | succ n2 ih2 =>
      have j56 : ∀ (xn1 : Int32) (Sn : kp_S) (H : Heap) (locs : List Loc) (ls : Array Slot), lv_has ls 5 [(0, .ref a0), (1, .int xn1)] → kp_H D cy A Sn s.heap H locs → kp_le S Sn → kp_is Sn a0 8 → wX8_readParameters_b56 a0 xn1 (fun xn1_ S_ => wX8_readParameters_L2 a0  post n2 xn1_ S_) Sn post → W p l e { frames := 7, cells := 0, slots := 0, locals := 155 } s m ([.ref a0] : List Value).toArray below meth c H locs 0 0 (MQ below (kp_Qv D cy A S post) ([.ref a0] : List Value).toArray s 0 0 A) (F0 m 56 ls []) := by
        intro xn1 Sn H locs ls hl h hle f_a0 hw
        unfold wX8_readParameters_b56 at hw
        refine lv_aload_n X.1 X.2.1 dX8_readParameters_56 rfl (lv_at hl 0 rfl) ?_
        obtain ⟨b2001, e_b2001, hw⟩ := hw
        have f_b2001 := h.2.2.2.rf (c := 8) (k := 0) f_a0 (by decide) (by decide) e_b2001 (t := 9) rfl
        refine kp_get X h f_a0 ff_8_14.l (v := .ref b2001) (congrArg va_rf e_b2001) dX8_readParameters_57 ?_
        refine kp_get X h f_b2001 fp_8_66.l (v := .int (kp_I Sn 1805 b2001)) rfl dX8_readParameters_60 ?_
        refine lv_bipush (v := 44) X.1 X.2.1 dX8_readParameters_63 (by decide) ?_
        refine lv_icmp_eq (tgt := 71) X.1 X.2.1 dX8_readParameters_65 (by decide) (fun c2004 => ?_) (fun c2004 => ?_)
        · have hw := hw.1 c2004
          refine lv_aload_n X.1 X.2.1 dX8_readParameters_71 rfl (lv_at hl 0 rfl) ?_
          refine kp_get X h f_a0 ff_8_14.l (v := .ref b2001) (congrArg va_rf e_b2001) dX8_readParameters_72 ?_
          refine kp_callv X h (kp_runV (rm := { frames := 5, cells := 0, slots := 0, locals := 113 }) (mc := 0) (ms := 0) (rest := []) (Qc := fun A => kp_Qv D cy A Sn _) X h (c_X9_advance l D cy ad Sn b2001 _ h.2.2.2 f_b2001 hw) f_b2001 cv_8_75 ⟨by decide, by decide, rfl, rfl, by decide, by decide⟩ rfl hl.1 rfl (Nat.le_of_ble_eq_true rfl) dX8_readParameters_75) (fun T2002 hw l_T2002 H locs h => ?_)
          have f_a0 := l_T2002.is f_a0
          have f_b2001 := l_T2002.is f_b2001
          have hle := hle.tr l_T2002
          obtain ⟨y2003, e_y2003⟩ : ∃ y : Int32, y = xn1 + 1 := ⟨_, rfl⟩
          have hw := hw y2003 e_y2003
          refine lv_iinc (v := y2003) (lv' := [(1, .int y2003), (0, .ref a0)]) X.1 X.2.1 dX8_readParameters_78 hl (k := 1) rfl (by rw [e_y2003]; rfl) (by decide) rfl (fun ls hl => ?_)
          refine lv_goto (tgt := 2) X.1 X.2.1 dX8_readParameters_81 (by decide) ?_
          exact ih2 y2003 T2002 H locs ls (lv_sub hl [1, 0] rfl) h hle f_a0 hw
        · have hw := hw.2 c2004
          refine lv_goto (tgt := 84) X.1 X.2.1 dX8_readParameters_68 (by decide) ?_
          exact j84  Sn H locs ls (lv_sub hl [] rfl) h hle f_a0 hw
      intro xn1 Sn H locs ls hl h hle f_a0 hw
      unfold wX8_readParameters_L2 at hw
      refine lv_iload_n X.1 X.2.1 dX8_readParameters_2 rfl (lv_at hl 1 rfl) ?_
      refine lv_sipush (v := 3000) X.1 X.2.1 dX8_readParameters_3 (by decide) ?_
      refine lv_icmp_ge (tgt := 84) X.1 X.2.1 dX8_readParameters_6 (by decide) (fun c3011 => ?_) (fun c3011 => ?_)
      · have hw := hw.1 c3011
        exact j84  Sn H locs ls (lv_sub hl [] rfl) h hle f_a0 hw
      · have hw := hw.2 c3011
        refine lv_aload_n X.1 X.2.1 dX8_readParameters_9 rfl (lv_at hl 0 rfl) ?_
        obtain ⟨b3001, e_b3001, hw⟩ := hw
        have f_b3001 := h.2.2.2.rf (c := 8) (k := 0) f_a0 (by decide) (by decide) e_b3001 (t := 9) rfl
        refine kp_get X h f_a0 ff_8_14.l (v := .ref b3001) (congrArg va_rf e_b3001) dX8_readParameters_10 ?_
        refine kp_get X h f_b3001 fp_8_78.l (v := .long (kp_J Sn 1808 b3001)) rfl dX8_readParameters_13 ?_
        refine lv_topl (fun z3002 e_z3002 => ?_)
        have hw := hw z3002 e_z3002
        refine lv_lstore_n (lv' := [(2, .long z3002), (0, .ref a0), (1, .int xn1)]) X.1 X.2.1 dX8_readParameters_16 rfl hl (by decide) rfl (fun ls hl => ?_)
        refine lv_aload_n X.1 X.2.1 dX8_readParameters_17 rfl (lv_at hl 1 rfl) ?_
        refine kp_get X h f_a0 ff_8_14.l (v := .ref b3001) (congrArg va_rf e_b3001) dX8_readParameters_18 ?_
        refine kp_get X h f_b3001 fp_8_93.l (v := .int (kp_I Sn 1806 b3001)) rfl dX8_readParameters_21 ?_
        refine lv_topi (fun y3003 e_y3003 => ?_)
        have hw := hw y3003 e_y3003
        refine lv_istore (lv' := [(4, .int y3003), (2, .long z3002), (0, .ref a0), (1, .int xn1)]) X.1 X.2.1 dX8_readParameters_24 hl (by decide) rfl (fun ls hl => ?_)
        refine lv_aload_n X.1 X.2.1 dX8_readParameters_26 rfl (lv_at hl 2 rfl) ?_
        refine kp_get X h f_a0 ff_8_14.l (v := .ref b3001) (congrArg va_rf e_b3001) dX8_readParameters_27 ?_
        refine lv_sipush (v := 259) X.1 X.2.1 dX8_readParameters_30 (by decide) ?_
        refine kp_callv X h (kp_runV (rm := { frames := 6, cells := 0, slots := 0, locals := 134 }) (mc := 0) (ms := 0) (rest := []) (Qc := fun A => kp_Qv D cy A Sn _) X h (c_X9_expect l D cy ad Sn b3001 259 _ h.2.2.2 f_b3001 hw) f_b3001 cv_8_90 ⟨by decide, by decide, rfl, rfl, by decide, by decide⟩ rfl hl.1 rfl (Nat.le_of_ble_eq_true rfl) dX8_readParameters_33) (fun T3004 hw l_T3004 H locs h => ?_)
        have f_a0 := l_T3004.is f_a0
        have f_b3001 := l_T3004.is f_b3001
        have hle := hle.tr l_T3004
        refine lv_aload_n X.1 X.2.1 dX8_readParameters_36 rfl (lv_at hl 2 rfl) ?_
        obtain ⟨b3005, e_b3005, hw⟩ := hw
        have f_b3005 := h.2.2.2.rf (c := 8) (k := 0) f_a0 (by decide) (by decide) e_b3005 (t := 9) rfl
        refine kp_get X h f_a0 ff_8_14.l (v := .ref b3005) (congrArg va_rf e_b3005) dX8_readParameters_37 ?_
        refine kp_calli X h (kp_runV (rm := { frames := 0, cells := 0, slots := 0, locals := 0 }) (mc := 0) (ms := 0) (rest := []) (Qc := fun A => kp_Qi D cy A T3004 _) X h (c_X9_isStopped l D cy ad T3004 b3005 _ h.2.2.2 f_b3005 hw) f_b3005 cv_8_96 ⟨by decide, by decide, rfl, rfl, by decide, by decide⟩ rfl hl.1 rfl (Nat.le_of_ble_eq_true rfl) dX8_readParameters_40) (fun y3007 T3006 hw l_T3006 H locs h => ?_)
        have f_a0 := l_T3006.is f_a0
        have f_b3001 := l_T3006.is f_b3001
        have f_b3005 := l_T3006.is f_b3005
        have hle := hle.tr l_T3006
        refine lv_if_ne (tgt := 56) X.1 X.2.1 dX8_readParameters_43 (by decide) (fun c3010 => ?_) (fun c3010 => ?_)
        · have hw := hw.1 c3010
          exact j56 xn1 T3006 H locs ls (lv_sub hl [2, 3] rfl) h hle f_a0 hw
        · have hw := hw.2 c3010
          refine lv_aload_n X.1 X.2.1 dX8_readParameters_46 rfl (lv_at hl 2 rfl) ?_
          obtain ⟨b3008, e_b3008, hw⟩ := hw
          have f_b3008 := h.2.2.2.rf (c := 8) (k := 1) f_a0 (by decide) (by decide) e_b3008 (t := 5) rfl
          refine kp_get X h f_a0 ff_8_23.l (v := .ref b3008) (congrArg va_rf e_b3008) dX8_readParameters_47 ?_
          refine lv_lload_n X.1 X.2.1 dX8_readParameters_50 rfl (lv_at hl 1 rfl) ?_
          refine lv_iload X.1 X.2.1 dX8_readParameters_51 (lv_at hl 0 rfl) ?_
          refine kp_callv X h (kp_runV (rm := { frames := 2, cells := 0, slots := 0, locals := 47 }) (mc := 0) (ms := 0) (rest := []) (Qc := fun A => kp_Qv D cy A T3006 _) X h (c_X5_tellParameter l D cy ad T3006 b3008 z3002 y3003 _ h.2.2.2 f_b3008 hw) f_b3008 cv_8_134 ⟨by decide, by decide, rfl, rfl, by decide, by decide⟩ rfl hl.1 rfl (Nat.le_of_ble_eq_true rfl) dX8_readParameters_53) (fun T3009 hw l_T3009 H locs h => ?_)
          have f_a0 := l_T3009.is f_a0
          have f_b3001 := l_T3009.is f_b3001
          have f_b3005 := l_T3009.is f_b3005
          have f_b3008 := l_T3009.is f_b3008
          have hle := hle.tr l_T3009
          exact j56 xn1 T3009 H locs ls (lv_sub hl [2, 3] rfl) h hle f_a0 hw
  unfold wX8_readParameters at hw
  have h : kp_H D cy A S s.heap s.heap [] := h
  revert h
  intro h
  refine lv_iconst (v := 0) X.1 X.2.1 dX8_readParameters_0 (by decide) ?_
  refine lv_istore_n (lv' := [(1, .int 0), (0, .ref a0)]) X.1 X.2.1 dX8_readParameters_1 rfl hl (by decide) rfl (fun ls hl => ?_)
  obtain ⟨n0, hw⟩ := hw
  exact L2 n0 0 S _ _ ls (lv_sub hl [1, 0] rfl) h hle f_a0 hw
theorem dX8_assign_0 : decode cX8_assign 0 = .ok (.aload_n 0, 1) := by decide +kernel
theorem dX8_assign_1 : decode cX8_assign 1 = .ok (.getfield 14, 3) := by decide +kernel
theorem dX8_assign_4 : decode cX8_assign 4 = .ok (.invokevirtual 75, 3) := by decide +kernel
theorem dX8_assign_7 : decode cX8_assign 7 = .ok (.aload_n 0, 1) := by decide +kernel
theorem dX8_assign_8 : decode cX8_assign 8 = .ok (.getfield 36, 3) := by decide +kernel
theorem dX8_assign_11 : decode cX8_assign 11 = .ok (.invokevirtual 210, 3) := by decide +kernel
theorem dX8_assign_14 : decode cX8_assign 14 = .ok (.istore_n 2, 1) := by decide +kernel
theorem dX8_assign_15 : decode cX8_assign 15 = .ok (.aload_n 0, 1) := by decide +kernel
theorem dX8_assign_16 : decode cX8_assign 16 = .ok (.getfield 27, 3) := by decide +kernel
theorem dX8_assign_19 : decode cX8_assign 19 = .ok (.bipush 27, 2) := by decide +kernel
theorem dX8_assign_21 : decode cX8_assign 21 = .ok (.iload_n 1, 1) := by decide +kernel
theorem dX8_assign_22 : decode cX8_assign 22 = .ok (.invokevirtual 154, 3) := by decide +kernel
theorem dX8_assign_25 : decode cX8_assign 25 = .ok (.pop, 1) := by decide +kernel
theorem dX8_assign_26 : decode cX8_assign 26 = .ok (.aload_n 0, 1) := by decide +kernel
theorem dX8_assign_27 : decode cX8_assign 27 = .ok (.getfield 14, 3) := by decide +kernel
theorem dX8_assign_30 : decode cX8_assign 30 = .ok (.bipush 59, 2) := by decide +kernel
theorem dX8_assign_32 : decode cX8_assign 32 = .ok (.invokevirtual 90, 3) := by decide +kernel
theorem dX8_assign_35 : decode cX8_assign 35 = .ok (.iconst 1, 1) := by decide +kernel
theorem dX8_assign_36 : decode cX8_assign 36 = .ok (.iload_n 2, 1) := by decide +kernel
theorem dX8_assign_37 : decode cX8_assign 37 = .ok (.invokestatic 213, 3) := by decide +kernel
theorem dX8_assign_40 : decode cX8_assign 40 = .ok (.ior, 1) := by decide +kernel
theorem dX8_assign_41 : decode cX8_assign 41 = .ok (.ireturn, 1) := by decide +kernel
def wX8_assign (a0 : Nat) (x1 : Int32) (S : kp_S) (post : Int32 → kp_S → Prop) : Prop :=
  ∃ b1 : Nat, kp_R S 1600 a0 = some b1 ∧
  wX9_advance b1 S (fun T2 =>
  ∃ b3 : Nat, kp_R T2 1602 a0 = some b3 ∧
  wX2_whole_t b3 T2 (fun y5 T4 =>
  ∃ b6 : Nat, kp_R T4 1603 a0 = some b6 ∧
  wX0_add_ b6 27 x1 T4 (fun y8 T7 =>
  ∃ b9 : Nat, kp_R T7 1600 a0 = some b9 ∧
  wX9_expect b9 59 T7 (fun T10 =>
  wX8_troubleOf y5 T10 (fun y12 T11 =>
  post (1 ||| y12) T11)))))
set_option maxHeartbeats 4000000 in
set_option maxRecDepth 100000 in
theorem c_X8_assign (l : Launch) (D : va_G) (cy : Nat → ClassId) (ad : (Nat → Nat) × (Nat → Nat)) (S : kp_S) (a0 : Nat) (x1 : Int32) (post : Int32 → kp_S → Prop) (hS : kp_ok S) (f_a0 : kp_is S a0 8) (hw : wX8_assign a0 x1 S post) : kp_M l yX8_assign cX8_assign 3 (some .int) { frames := 190, cells := 0, slots := 0, locals := 4362 } D cy ad S [.ref a0, .int x1] 0 0 (fun A => kp_Qi D cy A S post) := by
  refine kp_start (own := RX8) (by decide) rfl (Nat.le_of_ble_eq_true rfl) hS ?_
  intro p e s m below meth c A ls X hr hlocks hname h hl
  have hle : kp_le S S := kp_le.rf
  have hl : lv_has ls 3 [(0, .ref a0), (1, .int x1)] := hl
  unfold wX8_assign at hw
  have h : kp_H D cy A S s.heap s.heap [] := h
  revert h
  intro h
  refine lv_aload_n X.1 X.2.1 dX8_assign_0 rfl (lv_at hl 0 rfl) ?_
  obtain ⟨b1, e_b1, hw⟩ := hw
  have f_b1 := h.2.2.2.rf (c := 8) (k := 0) f_a0 (by decide) (by decide) e_b1 (t := 9) rfl
  refine kp_get X h f_a0 ff_8_14.l (v := .ref b1) (congrArg va_rf e_b1) dX8_assign_1 ?_
  refine kp_callv X h (kp_runV (rm := { frames := 5, cells := 0, slots := 0, locals := 113 }) (mc := 0) (ms := 0) (rest := []) (Qc := fun A => kp_Qv D cy A S _) X h (c_X9_advance l D cy ad S b1 _ h.2.2.2 f_b1 hw) f_b1 cv_8_75 ⟨by decide, by decide, rfl, rfl, by decide, by decide⟩ rfl hl.1 rfl (Nat.le_of_ble_eq_true rfl) dX8_assign_4) (fun T2 hw l_T2 H locs h => ?_)
  have f_a0 := l_T2.is f_a0
  have f_b1 := l_T2.is f_b1
  have hle := hle.tr l_T2
  refine lv_aload_n X.1 X.2.1 dX8_assign_7 rfl (lv_at hl 0 rfl) ?_
  obtain ⟨b3, e_b3, hw⟩ := hw
  have f_b3 := h.2.2.2.rf (c := 8) (k := 2) f_a0 (by decide) (by decide) e_b3 (t := 2) rfl
  refine kp_get X h f_a0 ff_8_36.l (v := .ref b3) (congrArg va_rf e_b3) dX8_assign_8 ?_
  refine kp_calli X h (kp_runV (rm := { frames := 189, cells := 0, slots := 0, locals := 4339 }) (mc := 0) (ms := 0) (rest := []) (Qc := fun A => kp_Qi D cy A T2 _) X h (c_X2_whole_t l D cy ad T2 b3 _ h.2.2.2 f_b3 hw) f_b3 cv_8_210 ⟨by decide, by decide, rfl, rfl, by decide, by decide⟩ rfl hl.1 rfl (Nat.le_of_ble_eq_true rfl) dX8_assign_11) (fun y5 T4 hw l_T4 H locs h => ?_)
  have f_a0 := l_T4.is f_a0
  have f_b1 := l_T4.is f_b1
  have f_b3 := l_T4.is f_b3
  have hle := hle.tr l_T4
  refine lv_istore_n (lv' := [(2, .int y5), (0, .ref a0), (1, .int x1)]) X.1 X.2.1 dX8_assign_14 rfl hl (by decide) rfl (fun ls hl => ?_)
  refine lv_aload_n X.1 X.2.1 dX8_assign_15 rfl (lv_at hl 1 rfl) ?_
  obtain ⟨b6, e_b6, hw⟩ := hw
  have f_b6 := h.2.2.2.rf (c := 8) (k := 3) f_a0 (by decide) (by decide) e_b6 (t := 0) rfl
  refine kp_get X h f_a0 fp_8_27.l (v := .ref b6) (congrArg va_rf e_b6) dX8_assign_16 ?_
  refine lv_bipush (v := 27) X.1 X.2.1 dX8_assign_19 (by decide) ?_
  refine lv_iload_n X.1 X.2.1 dX8_assign_21 rfl (lv_at hl 2 rfl) ?_
  refine kp_calli X h (kp_runV (rm := { frames := 1, cells := 0, slots := 0, locals := 22 }) (mc := 0) (ms := 0) (rest := []) (Qc := fun A => kp_Qi D cy A T4 _) X h (c_X0_add_ l D cy ad T4 b6 27 x1 _ h.2.2.2 f_b6 hw) f_b6 cv_8_154 ⟨by decide, by decide, rfl, rfl, by decide, by decide⟩ rfl hl.1 rfl (Nat.le_of_ble_eq_true rfl) dX8_assign_22) (fun y8 T7 hw l_T7 H locs h => ?_)
  have f_a0 := l_T7.is f_a0
  have f_b1 := l_T7.is f_b1
  have f_b3 := l_T7.is f_b3
  have f_b6 := l_T7.is f_b6
  have hle := hle.tr l_T7
  refine lv_pop X.1 X.2.1 dX8_assign_25 rfl ?_
  refine lv_aload_n X.1 X.2.1 dX8_assign_26 rfl (lv_at hl 1 rfl) ?_
  obtain ⟨b9, e_b9, hw⟩ := hw
  have f_b9 := h.2.2.2.rf (c := 8) (k := 0) f_a0 (by decide) (by decide) e_b9 (t := 9) rfl
  refine kp_get X h f_a0 ff_8_14.l (v := .ref b9) (congrArg va_rf e_b9) dX8_assign_27 ?_
  refine lv_bipush (v := 59) X.1 X.2.1 dX8_assign_30 (by decide) ?_
  refine kp_callv X h (kp_runV (rm := { frames := 6, cells := 0, slots := 0, locals := 134 }) (mc := 0) (ms := 0) (rest := []) (Qc := fun A => kp_Qv D cy A T7 _) X h (c_X9_expect l D cy ad T7 b9 59 _ h.2.2.2 f_b9 hw) f_b9 cv_8_90 ⟨by decide, by decide, rfl, rfl, by decide, by decide⟩ rfl hl.1 rfl (Nat.le_of_ble_eq_true rfl) dX8_assign_32) (fun T10 hw l_T10 H locs h => ?_)
  have f_a0 := l_T10.is f_a0
  have f_b1 := l_T10.is f_b1
  have f_b3 := l_T10.is f_b3
  have f_b6 := l_T10.is f_b6
  have f_b9 := l_T10.is f_b9
  have hle := hle.tr l_T10
  refine lv_iconst (v := 1) X.1 X.2.1 dX8_assign_35 (by decide) ?_
  refine lv_iload_n X.1 X.2.1 dX8_assign_36 rfl (lv_at hl 0 rfl) ?_
  refine kp_calli X h (kp_runS (rm := { frames := 0, cells := 0, slots := 0, locals := 0 }) (mc := 0) (ms := 0) (rest := [.int 1]) (Qc := fun A => kp_Qi D cy A T10 _) X h (c_X8_troubleOf l D cy ad T10 y5 _ h.2.2.2  hw) cs_8_213 ⟨by decide, by decide, rfl, rfl, by decide, by decide⟩ rfl hl.1 rfl (Nat.le_of_ble_eq_true rfl) dX8_assign_37) (fun y12 T11 hw l_T11 H locs h => ?_)
  have f_a0 := l_T11.is f_a0
  have f_b1 := l_T11.is f_b1
  have f_b3 := l_T11.is f_b3
  have f_b6 := l_T11.is f_b6
  have f_b9 := l_T11.is f_b9
  have hle := hle.tr l_T11
  refine lv_ior X.1 X.2.1 dX8_assign_40 ?_
  exact kp_reti X hr hlocks h hle rfl hw dX8_assign_41
theorem dX8_variable_0 : decode cX8_variable 0 = .ok (.aload_n 0, 1) := by decide +kernel
theorem dX8_variable_1 : decode cX8_variable 1 = .ok (.getfield 14, 3) := by decide +kernel
theorem dX8_variable_4 : decode cX8_variable 4 = .ok (.invokevirtual 75, 3) := by decide +kernel
theorem dX8_variable_7 : decode cX8_variable 7 = .ok (.aload_n 0, 1) := by decide +kernel
theorem dX8_variable_8 : decode cX8_variable 8 = .ok (.getfield 14, 3) := by decide +kernel
theorem dX8_variable_11 : decode cX8_variable 11 = .ok (.getfield 78, 3) := by decide +kernel
theorem dX8_variable_14 : decode cX8_variable 14 = .ok (.lstore_n 1, 1) := by decide +kernel
theorem dX8_variable_15 : decode cX8_variable 15 = .ok (.aload_n 0, 1) := by decide +kernel
theorem dX8_variable_16 : decode cX8_variable 16 = .ok (.getfield 14, 3) := by decide +kernel
theorem dX8_variable_19 : decode cX8_variable 19 = .ok (.getfield 93, 3) := by decide +kernel
theorem dX8_variable_22 : decode cX8_variable 22 = .ok (.istore_n 3, 1) := by decide +kernel
theorem dX8_variable_23 : decode cX8_variable 23 = .ok (.aload_n 0, 1) := by decide +kernel
theorem dX8_variable_24 : decode cX8_variable 24 = .ok (.getfield 14, 3) := by decide +kernel
theorem dX8_variable_27 : decode cX8_variable 27 = .ok (.sipush 259, 3) := by decide +kernel
theorem dX8_variable_30 : decode cX8_variable 30 = .ok (.invokevirtual 90, 3) := by decide +kernel
theorem dX8_variable_33 : decode cX8_variable 33 = .ok (.aload_n 0, 1) := by decide +kernel
theorem dX8_variable_34 : decode cX8_variable 34 = .ok (.getfield 14, 3) := by decide +kernel
theorem dX8_variable_37 : decode cX8_variable 37 = .ok (.bipush 61, 2) := by decide +kernel
theorem dX8_variable_39 : decode cX8_variable 39 = .ok (.invokevirtual 90, 3) := by decide +kernel
theorem dX8_variable_42 : decode cX8_variable 42 = .ok (.aload_n 0, 1) := by decide +kernel
theorem dX8_variable_43 : decode cX8_variable 43 = .ok (.getfield 36, 3) := by decide +kernel
theorem dX8_variable_46 : decode cX8_variable 46 = .ok (.invokevirtual 210, 3) := by decide +kernel
theorem dX8_variable_49 : decode cX8_variable 49 = .ok (.istore 4, 2) := by decide +kernel
theorem dX8_variable_51 : decode cX8_variable 51 = .ok (.aload_n 0, 1) := by decide +kernel
theorem dX8_variable_52 : decode cX8_variable 52 = .ok (.getfield 14, 3) := by decide +kernel
theorem dX8_variable_55 : decode cX8_variable 55 = .ok (.invokevirtual 96, 3) := by decide +kernel
theorem dX8_variable_58 : decode cX8_variable 58 = .ok (.ifCond .ne 22, 3) := by decide +kernel
theorem dX8_variable_61 : decode cX8_variable 61 = .ok (.aload_n 0, 1) := by decide +kernel
theorem dX8_variable_62 : decode cX8_variable 62 = .ok (.getfield 27, 3) := by decide +kernel
theorem dX8_variable_65 : decode cX8_variable 65 = .ok (.bipush 27, 2) := by decide +kernel
theorem dX8_variable_67 : decode cX8_variable 67 = .ok (.aload_n 0, 1) := by decide +kernel
theorem dX8_variable_68 : decode cX8_variable 68 = .ok (.getfield 23, 3) := by decide +kernel
theorem dX8_variable_71 : decode cX8_variable 71 = .ok (.lload_n 1, 1) := by decide +kernel
theorem dX8_variable_72 : decode cX8_variable 72 = .ok (.iload_n 3, 1) := by decide +kernel
theorem dX8_variable_73 : decode cX8_variable 73 = .ok (.invokevirtual 216, 3) := by decide +kernel
theorem dX8_variable_76 : decode cX8_variable 76 = .ok (.invokevirtual 154, 3) := by decide +kernel
theorem dX8_variable_79 : decode cX8_variable 79 = .ok (.pop, 1) := by decide +kernel
theorem dX8_variable_80 : decode cX8_variable 80 = .ok (.aload_n 0, 1) := by decide +kernel
theorem dX8_variable_81 : decode cX8_variable 81 = .ok (.getfield 14, 3) := by decide +kernel
theorem dX8_variable_84 : decode cX8_variable 84 = .ok (.bipush 59, 2) := by decide +kernel
theorem dX8_variable_86 : decode cX8_variable 86 = .ok (.invokevirtual 90, 3) := by decide +kernel
theorem dX8_variable_89 : decode cX8_variable 89 = .ok (.iconst 1, 1) := by decide +kernel
theorem dX8_variable_90 : decode cX8_variable 90 = .ok (.iload 4, 2) := by decide +kernel
theorem dX8_variable_92 : decode cX8_variable 92 = .ok (.invokestatic 213, 3) := by decide +kernel
theorem dX8_variable_95 : decode cX8_variable 95 = .ok (.ior, 1) := by decide +kernel
theorem dX8_variable_96 : decode cX8_variable 96 = .ok (.ireturn, 1) := by decide +kernel
def wX8_variable_b80 (a0 : Nat) (xn4 : Int32)  (Sn : kp_S) (post : Int32 → kp_S → Prop) : Prop :=
  ∃ b1001 : Nat, kp_R Sn 1600 a0 = some b1001 ∧
  wX9_expect b1001 59 Sn (fun T1002 =>
  wX8_troubleOf xn4 T1002 (fun y1004 T1003 =>
  post (1 ||| y1004) T1003))
def wX8_variable (a0 : Nat) (S : kp_S) (post : Int32 → kp_S → Prop) : Prop :=
  ∃ b1 : Nat, kp_R S 1600 a0 = some b1 ∧
  wX9_advance b1 S (fun T2 =>
  ∃ b3 : Nat, kp_R T2 1600 a0 = some b3 ∧
  ∀ z4 : Int64, z4 = (kp_J T2 1808 b3) →
  ∀ y5 : Int32, y5 = (kp_I T2 1806 b3) →
  wX9_expect b3 259 T2 (fun T6 =>
  ∃ b7 : Nat, kp_R T6 1600 a0 = some b7 ∧
  wX9_expect b7 61 T6 (fun T8 =>
  ∃ b9 : Nat, kp_R T8 1602 a0 = some b9 ∧
  wX2_whole_t b9 T8 (fun y11 T10 =>
  ∃ b12 : Nat, kp_R T10 1600 a0 = some b12 ∧
  wX9_isStopped b12 T10 (fun y14 T13 =>
  ((¬ y14 = 0 →
  wX8_variable_b80 a0 y11  T13 post) ∧ (y14 = 0 →
  ∃ b15 : Nat, kp_R T13 1603 a0 = some b15 ∧
  ∃ b16 : Nat, kp_R T13 1601 a0 = some b16 ∧
  wX5_tellVariable b16 z4 y5 T13 (fun y18 T17 =>
  wX0_add_ b15 27 y18 T17 (fun y20 T19 =>
  wX8_variable_b80 a0 y11  T19 post)))))))))
set_option maxHeartbeats 4000000 in
set_option maxRecDepth 100000 in
theorem c_X8_variable (l : Launch) (D : va_G) (cy : Nat → ClassId) (ad : (Nat → Nat) × (Nat → Nat)) (S : kp_S) (a0 : Nat) (post : Int32 → kp_S → Prop) (hS : kp_ok S) (f_a0 : kp_is S a0 8) (hw : wX8_variable a0 S post) : kp_M l yX8_variable cX8_variable 5 (some .int) { frames := 190, cells := 0, slots := 0, locals := 4362 } D cy ad S [.ref a0] 0 0 (fun A => kp_Qi D cy A S post) := by
  refine kp_start (own := RX8) (by decide) rfl (Nat.le_of_ble_eq_true rfl) hS ?_
  intro p e s m below meth c A ls X hr hlocks hname h hl
  have hle : kp_le S S := kp_le.rf
  have hl : lv_has ls 5 [(0, .ref a0)] := hl
  have j80 : ∀ (xn4 : Int32) (Sn : kp_S) (H : Heap) (locs : List Loc) (ls : Array Slot), lv_has ls 5 [(0, .ref a0), (4, .int xn4)] → kp_H D cy A Sn s.heap H locs → kp_le S Sn → kp_is Sn a0 8 → wX8_variable_b80 a0 xn4  Sn post → W p l e { frames := 190, cells := 0, slots := 0, locals := 4362 } s m ([.ref a0] : List Value).toArray below meth c H locs 0 0 (MQ below (kp_Qi D cy A S post) ([.ref a0] : List Value).toArray s 0 0 A) (F0 m 80 ls []) := by
    intro xn4 Sn H locs ls hl h hle f_a0 hw
    unfold wX8_variable_b80 at hw
    refine lv_aload_n X.1 X.2.1 dX8_variable_80 rfl (lv_at hl 0 rfl) ?_
    obtain ⟨b1001, e_b1001, hw⟩ := hw
    have f_b1001 := h.2.2.2.rf (c := 8) (k := 0) f_a0 (by decide) (by decide) e_b1001 (t := 9) rfl
    refine kp_get X h f_a0 ff_8_14.l (v := .ref b1001) (congrArg va_rf e_b1001) dX8_variable_81 ?_
    refine lv_bipush (v := 59) X.1 X.2.1 dX8_variable_84 (by decide) ?_
    refine kp_callv X h (kp_runV (rm := { frames := 6, cells := 0, slots := 0, locals := 134 }) (mc := 0) (ms := 0) (rest := []) (Qc := fun A => kp_Qv D cy A Sn _) X h (c_X9_expect l D cy ad Sn b1001 59 _ h.2.2.2 f_b1001 hw) f_b1001 cv_8_90 ⟨by decide, by decide, rfl, rfl, by decide, by decide⟩ rfl hl.1 rfl (Nat.le_of_ble_eq_true rfl) dX8_variable_86) (fun T1002 hw l_T1002 H locs h => ?_)
    have f_a0 := l_T1002.is f_a0
    have f_b1001 := l_T1002.is f_b1001
    have hle := hle.tr l_T1002
    refine lv_iconst (v := 1) X.1 X.2.1 dX8_variable_89 (by decide) ?_
    refine lv_iload X.1 X.2.1 dX8_variable_90 (lv_at hl 1 rfl) ?_
    refine kp_calli X h (kp_runS (rm := { frames := 0, cells := 0, slots := 0, locals := 0 }) (mc := 0) (ms := 0) (rest := [.int 1]) (Qc := fun A => kp_Qi D cy A T1002 _) X h (c_X8_troubleOf l D cy ad T1002 xn4 _ h.2.2.2  hw) cs_8_213 ⟨by decide, by decide, rfl, rfl, by decide, by decide⟩ rfl hl.1 rfl (Nat.le_of_ble_eq_true rfl) dX8_variable_92) (fun y1004 T1003 hw l_T1003 H locs h => ?_)
    have f_a0 := l_T1003.is f_a0
    have f_b1001 := l_T1003.is f_b1001
    have hle := hle.tr l_T1003
    refine lv_ior X.1 X.2.1 dX8_variable_95 ?_
    exact kp_reti X hr hlocks h hle rfl hw dX8_variable_96
  unfold wX8_variable at hw
  have h : kp_H D cy A S s.heap s.heap [] := h
  revert h
  intro h
  refine lv_aload_n X.1 X.2.1 dX8_variable_0 rfl (lv_at hl 0 rfl) ?_
  obtain ⟨b1, e_b1, hw⟩ := hw
  have f_b1 := h.2.2.2.rf (c := 8) (k := 0) f_a0 (by decide) (by decide) e_b1 (t := 9) rfl
  refine kp_get X h f_a0 ff_8_14.l (v := .ref b1) (congrArg va_rf e_b1) dX8_variable_1 ?_
  refine kp_callv X h (kp_runV (rm := { frames := 5, cells := 0, slots := 0, locals := 113 }) (mc := 0) (ms := 0) (rest := []) (Qc := fun A => kp_Qv D cy A S _) X h (c_X9_advance l D cy ad S b1 _ h.2.2.2 f_b1 hw) f_b1 cv_8_75 ⟨by decide, by decide, rfl, rfl, by decide, by decide⟩ rfl hl.1 rfl (Nat.le_of_ble_eq_true rfl) dX8_variable_4) (fun T2 hw l_T2 H locs h => ?_)
  have f_a0 := l_T2.is f_a0
  have f_b1 := l_T2.is f_b1
  have hle := hle.tr l_T2
  refine lv_aload_n X.1 X.2.1 dX8_variable_7 rfl (lv_at hl 0 rfl) ?_
  obtain ⟨b3, e_b3, hw⟩ := hw
  have f_b3 := h.2.2.2.rf (c := 8) (k := 0) f_a0 (by decide) (by decide) e_b3 (t := 9) rfl
  refine kp_get X h f_a0 ff_8_14.l (v := .ref b3) (congrArg va_rf e_b3) dX8_variable_8 ?_
  refine kp_get X h f_b3 fp_8_78.l (v := .long (kp_J T2 1808 b3)) rfl dX8_variable_11 ?_
  refine lv_topl (fun z4 e_z4 => ?_)
  have hw := hw z4 e_z4
  refine lv_lstore_n (lv' := [(1, .long z4), (0, .ref a0)]) X.1 X.2.1 dX8_variable_14 rfl hl (by decide) rfl (fun ls hl => ?_)
  refine lv_aload_n X.1 X.2.1 dX8_variable_15 rfl (lv_at hl 1 rfl) ?_
  refine kp_get X h f_a0 ff_8_14.l (v := .ref b3) (congrArg va_rf e_b3) dX8_variable_16 ?_
  refine kp_get X h f_b3 fp_8_93.l (v := .int (kp_I T2 1806 b3)) rfl dX8_variable_19 ?_
  refine lv_topi (fun y5 e_y5 => ?_)
  have hw := hw y5 e_y5
  refine lv_istore_n (lv' := [(3, .int y5), (1, .long z4), (0, .ref a0)]) X.1 X.2.1 dX8_variable_22 rfl hl (by decide) rfl (fun ls hl => ?_)
  refine lv_aload_n X.1 X.2.1 dX8_variable_23 rfl (lv_at hl 2 rfl) ?_
  refine kp_get X h f_a0 ff_8_14.l (v := .ref b3) (congrArg va_rf e_b3) dX8_variable_24 ?_
  refine lv_sipush (v := 259) X.1 X.2.1 dX8_variable_27 (by decide) ?_
  refine kp_callv X h (kp_runV (rm := { frames := 6, cells := 0, slots := 0, locals := 134 }) (mc := 0) (ms := 0) (rest := []) (Qc := fun A => kp_Qv D cy A T2 _) X h (c_X9_expect l D cy ad T2 b3 259 _ h.2.2.2 f_b3 hw) f_b3 cv_8_90 ⟨by decide, by decide, rfl, rfl, by decide, by decide⟩ rfl hl.1 rfl (Nat.le_of_ble_eq_true rfl) dX8_variable_30) (fun T6 hw l_T6 H locs h => ?_)
  have f_a0 := l_T6.is f_a0
  have f_b1 := l_T6.is f_b1
  have f_b3 := l_T6.is f_b3
  have hle := hle.tr l_T6
  refine lv_aload_n X.1 X.2.1 dX8_variable_33 rfl (lv_at hl 2 rfl) ?_
  obtain ⟨b7, e_b7, hw⟩ := hw
  have f_b7 := h.2.2.2.rf (c := 8) (k := 0) f_a0 (by decide) (by decide) e_b7 (t := 9) rfl
  refine kp_get X h f_a0 ff_8_14.l (v := .ref b7) (congrArg va_rf e_b7) dX8_variable_34 ?_
  refine lv_bipush (v := 61) X.1 X.2.1 dX8_variable_37 (by decide) ?_
  refine kp_callv X h (kp_runV (rm := { frames := 6, cells := 0, slots := 0, locals := 134 }) (mc := 0) (ms := 0) (rest := []) (Qc := fun A => kp_Qv D cy A T6 _) X h (c_X9_expect l D cy ad T6 b7 61 _ h.2.2.2 f_b7 hw) f_b7 cv_8_90 ⟨by decide, by decide, rfl, rfl, by decide, by decide⟩ rfl hl.1 rfl (Nat.le_of_ble_eq_true rfl) dX8_variable_39) (fun T8 hw l_T8 H locs h => ?_)
  have f_a0 := l_T8.is f_a0
  have f_b1 := l_T8.is f_b1
  have f_b3 := l_T8.is f_b3
  have f_b7 := l_T8.is f_b7
  have hle := hle.tr l_T8
  refine lv_aload_n X.1 X.2.1 dX8_variable_42 rfl (lv_at hl 2 rfl) ?_
  obtain ⟨b9, e_b9, hw⟩ := hw
  have f_b9 := h.2.2.2.rf (c := 8) (k := 2) f_a0 (by decide) (by decide) e_b9 (t := 2) rfl
  refine kp_get X h f_a0 ff_8_36.l (v := .ref b9) (congrArg va_rf e_b9) dX8_variable_43 ?_
  refine kp_calli X h (kp_runV (rm := { frames := 189, cells := 0, slots := 0, locals := 4339 }) (mc := 0) (ms := 0) (rest := []) (Qc := fun A => kp_Qi D cy A T8 _) X h (c_X2_whole_t l D cy ad T8 b9 _ h.2.2.2 f_b9 hw) f_b9 cv_8_210 ⟨by decide, by decide, rfl, rfl, by decide, by decide⟩ rfl hl.1 rfl (Nat.le_of_ble_eq_true rfl) dX8_variable_46) (fun y11 T10 hw l_T10 H locs h => ?_)
  have f_a0 := l_T10.is f_a0
  have f_b1 := l_T10.is f_b1
  have f_b3 := l_T10.is f_b3
  have f_b7 := l_T10.is f_b7
  have f_b9 := l_T10.is f_b9
  have hle := hle.tr l_T10
  refine lv_istore (lv' := [(4, .int y11), (3, .int y5), (1, .long z4), (0, .ref a0)]) X.1 X.2.1 dX8_variable_49 hl (by decide) rfl (fun ls hl => ?_)
  refine lv_aload_n X.1 X.2.1 dX8_variable_51 rfl (lv_at hl 3 rfl) ?_
  obtain ⟨b12, e_b12, hw⟩ := hw
  have f_b12 := h.2.2.2.rf (c := 8) (k := 0) f_a0 (by decide) (by decide) e_b12 (t := 9) rfl
  refine kp_get X h f_a0 ff_8_14.l (v := .ref b12) (congrArg va_rf e_b12) dX8_variable_52 ?_
  refine kp_calli X h (kp_runV (rm := { frames := 0, cells := 0, slots := 0, locals := 0 }) (mc := 0) (ms := 0) (rest := []) (Qc := fun A => kp_Qi D cy A T10 _) X h (c_X9_isStopped l D cy ad T10 b12 _ h.2.2.2 f_b12 hw) f_b12 cv_8_96 ⟨by decide, by decide, rfl, rfl, by decide, by decide⟩ rfl hl.1 rfl (Nat.le_of_ble_eq_true rfl) dX8_variable_55) (fun y14 T13 hw l_T13 H locs h => ?_)
  have f_a0 := l_T13.is f_a0
  have f_b1 := l_T13.is f_b1
  have f_b3 := l_T13.is f_b3
  have f_b7 := l_T13.is f_b7
  have f_b9 := l_T13.is f_b9
  have f_b12 := l_T13.is f_b12
  have hle := hle.tr l_T13
  refine lv_if_ne (tgt := 80) X.1 X.2.1 dX8_variable_58 (by decide) (fun c21 => ?_) (fun c21 => ?_)
  · have hw := hw.1 c21
    exact j80 y11 T13 _ _ ls (lv_sub hl [3, 0] rfl) h hle f_a0 hw
  · have hw := hw.2 c21
    refine lv_aload_n X.1 X.2.1 dX8_variable_61 rfl (lv_at hl 3 rfl) ?_
    obtain ⟨b15, e_b15, hw⟩ := hw
    have f_b15 := h.2.2.2.rf (c := 8) (k := 3) f_a0 (by decide) (by decide) e_b15 (t := 0) rfl
    refine kp_get X h f_a0 fp_8_27.l (v := .ref b15) (congrArg va_rf e_b15) dX8_variable_62 ?_
    refine lv_bipush (v := 27) X.1 X.2.1 dX8_variable_65 (by decide) ?_
    refine lv_aload_n X.1 X.2.1 dX8_variable_67 rfl (lv_at hl 3 rfl) ?_
    obtain ⟨b16, e_b16, hw⟩ := hw
    have f_b16 := h.2.2.2.rf (c := 8) (k := 1) f_a0 (by decide) (by decide) e_b16 (t := 5) rfl
    refine kp_get X h f_a0 ff_8_23.l (v := .ref b16) (congrArg va_rf e_b16) dX8_variable_68 ?_
    refine lv_lload_n X.1 X.2.1 dX8_variable_71 rfl (lv_at hl 2 rfl) ?_
    refine lv_iload_n X.1 X.2.1 dX8_variable_72 rfl (lv_at hl 1 rfl) ?_
    refine kp_calli X h (kp_runV (rm := { frames := 1, cells := 0, slots := 0, locals := 23 }) (mc := 0) (ms := 0) (rest := [.int 27, .ref b15]) (Qc := fun A => kp_Qi D cy A T13 _) X h (c_X5_tellVariable l D cy ad T13 b16 z4 y5 _ h.2.2.2 f_b16 hw) f_b16 cv_8_216 ⟨by decide, by decide, rfl, rfl, by decide, by decide⟩ rfl hl.1 rfl (Nat.le_of_ble_eq_true rfl) dX8_variable_73) (fun y18 T17 hw l_T17 H locs h => ?_)
    have f_a0 := l_T17.is f_a0
    have f_b1 := l_T17.is f_b1
    have f_b3 := l_T17.is f_b3
    have f_b7 := l_T17.is f_b7
    have f_b9 := l_T17.is f_b9
    have f_b12 := l_T17.is f_b12
    have f_b15 := l_T17.is f_b15
    have f_b16 := l_T17.is f_b16
    have hle := hle.tr l_T17
    refine kp_calli X h (kp_runV (rm := { frames := 1, cells := 0, slots := 0, locals := 22 }) (mc := 0) (ms := 0) (rest := []) (Qc := fun A => kp_Qi D cy A T17 _) X h (c_X0_add_ l D cy ad T17 b15 27 y18 _ h.2.2.2 f_b15 hw) f_b15 cv_8_154 ⟨by decide, by decide, rfl, rfl, by decide, by decide⟩ rfl hl.1 rfl (Nat.le_of_ble_eq_true rfl) dX8_variable_76) (fun y20 T19 hw l_T19 H locs h => ?_)
    have f_a0 := l_T19.is f_a0
    have f_b1 := l_T19.is f_b1
    have f_b3 := l_T19.is f_b3
    have f_b7 := l_T19.is f_b7
    have f_b9 := l_T19.is f_b9
    have f_b12 := l_T19.is f_b12
    have f_b15 := l_T19.is f_b15
    have f_b16 := l_T19.is f_b16
    have hle := hle.tr l_T19
    refine lv_pop X.1 X.2.1 dX8_variable_79 rfl ?_
    exact j80 y11 T19 _ _ ls (lv_sub hl [3, 0] rfl) h hle f_a0 hw
theorem dX8_order_0 : decode cX8_order 0 = .ok (.aload_n 0, 1) := by decide +kernel
theorem dX8_order_1 : decode cX8_order 1 = .ok (.getfield 14, 3) := by decide +kernel
theorem dX8_order_4 : decode cX8_order 4 = .ok (.invokevirtual 75, 3) := by decide +kernel
theorem dX8_order_7 : decode cX8_order 7 = .ok (.aload_n 0, 1) := by decide +kernel
theorem dX8_order_8 : decode cX8_order 8 = .ok (.getfield 36, 3) := by decide +kernel
theorem dX8_order_11 : decode cX8_order 11 = .ok (.invokevirtual 210, 3) := by decide +kernel
theorem dX8_order_14 : decode cX8_order 14 = .ok (.istore 4, 2) := by decide +kernel
theorem dX8_order_16 : decode cX8_order 16 = .ok (.iconst 1, 1) := by decide +kernel
theorem dX8_order_17 : decode cX8_order 17 = .ok (.istore 5, 2) := by decide +kernel
theorem dX8_order_19 : decode cX8_order 19 = .ok (.iload 5, 2) := by decide +kernel
theorem dX8_order_21 : decode cX8_order 21 = .ok (.iload_n 2, 1) := by decide +kernel
theorem dX8_order_22 : decode cX8_order 22 = .ok (.if_icmp .ge 30, 3) := by decide +kernel
theorem dX8_order_25 : decode cX8_order 25 = .ok (.aload_n 0, 1) := by decide +kernel
theorem dX8_order_26 : decode cX8_order 26 = .ok (.getfield 14, 3) := by decide +kernel
theorem dX8_order_29 : decode cX8_order 29 = .ok (.bipush 44, 2) := by decide +kernel
theorem dX8_order_31 : decode cX8_order 31 = .ok (.invokevirtual 90, 3) := by decide +kernel
theorem dX8_order_34 : decode cX8_order 34 = .ok (.iload 4, 2) := by decide +kernel
theorem dX8_order_36 : decode cX8_order 36 = .ok (.aload_n 0, 1) := by decide +kernel
theorem dX8_order_37 : decode cX8_order 37 = .ok (.getfield 36, 3) := by decide +kernel
theorem dX8_order_40 : decode cX8_order 40 = .ok (.invokevirtual 210, 3) := by decide +kernel
theorem dX8_order_43 : decode cX8_order 43 = .ok (.ior, 1) := by decide +kernel
theorem dX8_order_44 : decode cX8_order 44 = .ok (.istore 4, 2) := by decide +kernel
theorem dX8_order_46 : decode cX8_order 46 = .ok (.iinc 5 1, 3) := by decide +kernel
theorem dX8_order_49 : decode cX8_order 49 = .ok (.goto (-30), 3) := by decide +kernel
theorem dX8_order_52 : decode cX8_order 52 = .ok (.aload_n 0, 1) := by decide +kernel
theorem dX8_order_53 : decode cX8_order 53 = .ok (.getfield 27, 3) := by decide +kernel
theorem dX8_order_56 : decode cX8_order 56 = .ok (.iload_n 1, 1) := by decide +kernel
theorem dX8_order_57 : decode cX8_order 57 = .ok (.invokevirtual 123, 3) := by decide +kernel
theorem dX8_order_60 : decode cX8_order 60 = .ok (.pop, 1) := by decide +kernel
theorem dX8_order_61 : decode cX8_order 61 = .ok (.aload_n 0, 1) := by decide +kernel
theorem dX8_order_62 : decode cX8_order 62 = .ok (.getfield 14, 3) := by decide +kernel
theorem dX8_order_65 : decode cX8_order 65 = .ok (.bipush 59, 2) := by decide +kernel
theorem dX8_order_67 : decode cX8_order 67 = .ok (.invokevirtual 90, 3) := by decide +kernel
theorem dX8_order_70 : decode cX8_order 70 = .ok (.iload_n 3, 1) := by decide +kernel
theorem dX8_order_71 : decode cX8_order 71 = .ok (.iload 4, 2) := by decide +kernel
theorem dX8_order_73 : decode cX8_order 73 = .ok (.invokestatic 213, 3) := by decide +kernel
theorem dX8_order_76 : decode cX8_order 76 = .ok (.ior, 1) := by decide +kernel
theorem dX8_order_77 : decode cX8_order 77 = .ok (.ireturn, 1) := by decide +kernel
def wX8_order_L19 (a0 : Nat) (x1 : Int32) (x2 : Int32) (x3 : Int32)  (post : Int32 → kp_S → Prop) : Nat → Int32 → Int32 → kp_S → Prop
  | 0, _, _, _ => False
  | n + 1, xn4, xn5, Sn =>
  ((x2 ≤ xn5 →
  ∃ b1001 : Nat, kp_R Sn 1603 a0 = some b1001 ∧
  wX0_add b1001 x1 Sn (fun y1003 T1002 =>
  ∃ b1004 : Nat, kp_R T1002 1600 a0 = some b1004 ∧
  wX9_expect b1004 59 T1002 (fun T1005 =>
  wX8_troubleOf xn4 T1005 (fun y1007 T1006 =>
  post (x3 ||| y1007) T1006)))) ∧ (¬ x2 ≤ xn5 →
  ∃ b1008 : Nat, kp_R Sn 1600 a0 = some b1008 ∧
  wX9_expect b1008 44 Sn (fun T1009 =>
  ∃ b1010 : Nat, kp_R T1009 1602 a0 = some b1010 ∧
  wX2_whole_t b1010 T1009 (fun y1012 T1011 =>
  ∀ y1013 : Int32, y1013 = (xn4 ||| y1012) →
  ∀ y1014 : Int32, y1014 = xn5 + 1 →
  wX8_order_L19 a0 x1 x2 x3  post n y1013 y1014 T1011))))
def wX8_order (a0 : Nat) (x1 : Int32) (x2 : Int32) (x3 : Int32) (S : kp_S) (post : Int32 → kp_S → Prop) : Prop :=
  ∃ b1 : Nat, kp_R S 1600 a0 = some b1 ∧
  wX9_advance b1 S (fun T2 =>
  ∃ b3 : Nat, kp_R T2 1602 a0 = some b3 ∧
  wX2_whole_t b3 T2 (fun y5 T4 =>
  ∃ n0 : Nat, wX8_order_L19 a0 x1 x2 x3  post n0 y5 1 T4))
set_option maxHeartbeats 4000000 in
set_option maxRecDepth 100000 in
theorem c_X8_order (l : Launch) (D : va_G) (cy : Nat → ClassId) (ad : (Nat → Nat) × (Nat → Nat)) (S : kp_S) (a0 : Nat) (x1 : Int32) (x2 : Int32) (x3 : Int32) (post : Int32 → kp_S → Prop) (hS : kp_ok S) (f_a0 : kp_is S a0 8) (hw : wX8_order a0 x1 x2 x3 S post) : kp_M l yX8_order cX8_order 6 (some .int) { frames := 190, cells := 0, slots := 0, locals := 4362 } D cy ad S [.ref a0, .int x1, .int x2, .int x3] 0 0 (fun A => kp_Qi D cy A S post) := by
  refine kp_start (own := RX8) (by decide) rfl (Nat.le_of_ble_eq_true rfl) hS ?_
  intro p e s m below meth c A ls X hr hlocks hname h hl
  have hle : kp_le S S := kp_le.rf
  have hl : lv_has ls 6 [(0, .ref a0), (1, .int x1), (2, .int x2), (3, .int x3)] := hl
  have L19 : ∀ n19 : Nat, ∀ (xn4 : Int32) (xn5 : Int32) (Sn : kp_S) (H : Heap) (locs : List Loc) (ls : Array Slot), lv_has ls 6 [(0, .ref a0), (1, .int x1), (2, .int x2), (3, .int x3), (4, .int xn4), (5, .int xn5)] → kp_H D cy A Sn s.heap H locs → kp_le S Sn → kp_is Sn a0 8 → wX8_order_L19 a0 x1 x2 x3  post n19 xn4 xn5 Sn → W p l e { frames := 190, cells := 0, slots := 0, locals := 4362 } s m ([.ref a0, .int x1, .int x2, .int x3] : List Value).toArray below meth c H locs 0 0 (MQ below (kp_Qi D cy A S post) ([.ref a0, .int x1, .int x2, .int x3] : List Value).toArray s 0 0 A) (F0 m 19 ls []) := by
    intro n19
    induction n19 with
    | zero => intro xn4 xn5 Sn H locs ls hl h hle f_a0 hw; exact hw.elim
    | succ n19 ih19 =>
      intro xn4 xn5 Sn H locs ls hl h hle f_a0 hw
      unfold wX8_order_L19 at hw
      refine lv_iload X.1 X.2.1 dX8_order_19 (lv_at hl 5 rfl) ?_
      refine lv_iload_n X.1 X.2.1 dX8_order_21 rfl (lv_at hl 2 rfl) ?_
      refine lv_icmp_ge (tgt := 52) X.1 X.2.1 dX8_order_22 (by decide) (fun c1015 => ?_) (fun c1015 => ?_)
      · have hw := hw.1 c1015
        refine lv_aload_n X.1 X.2.1 dX8_order_52 rfl (lv_at hl 0 rfl) ?_
        obtain ⟨b1001, e_b1001, hw⟩ := hw
        have f_b1001 := h.2.2.2.rf (c := 8) (k := 3) f_a0 (by decide) (by decide) e_b1001 (t := 0) rfl
        refine kp_get X h f_a0 fp_8_27.l (v := .ref b1001) (congrArg va_rf e_b1001) dX8_order_53 ?_
        refine lv_iload_n X.1 X.2.1 dX8_order_56 rfl (lv_at hl 1 rfl) ?_
        refine kp_calli X h (kp_runV (rm := { frames := 0, cells := 0, slots := 0, locals := 0 }) (mc := 0) (ms := 0) (rest := []) (Qc := fun A => kp_Qi D cy A Sn _) X h (c_X0_add l D cy ad Sn b1001 x1 _ h.2.2.2 f_b1001 hw) f_b1001 cv_8_123 ⟨by decide, by decide, rfl, rfl, by decide, by decide⟩ rfl hl.1 rfl (Nat.le_of_ble_eq_true rfl) dX8_order_57) (fun y1003 T1002 hw l_T1002 H locs h => ?_)
        have f_a0 := l_T1002.is f_a0
        have f_b1001 := l_T1002.is f_b1001
        have hle := hle.tr l_T1002
        refine lv_pop X.1 X.2.1 dX8_order_60 rfl ?_
        refine lv_aload_n X.1 X.2.1 dX8_order_61 rfl (lv_at hl 0 rfl) ?_
        obtain ⟨b1004, e_b1004, hw⟩ := hw
        have f_b1004 := h.2.2.2.rf (c := 8) (k := 0) f_a0 (by decide) (by decide) e_b1004 (t := 9) rfl
        refine kp_get X h f_a0 ff_8_14.l (v := .ref b1004) (congrArg va_rf e_b1004) dX8_order_62 ?_
        refine lv_bipush (v := 59) X.1 X.2.1 dX8_order_65 (by decide) ?_
        refine kp_callv X h (kp_runV (rm := { frames := 6, cells := 0, slots := 0, locals := 134 }) (mc := 0) (ms := 0) (rest := []) (Qc := fun A => kp_Qv D cy A T1002 _) X h (c_X9_expect l D cy ad T1002 b1004 59 _ h.2.2.2 f_b1004 hw) f_b1004 cv_8_90 ⟨by decide, by decide, rfl, rfl, by decide, by decide⟩ rfl hl.1 rfl (Nat.le_of_ble_eq_true rfl) dX8_order_67) (fun T1005 hw l_T1005 H locs h => ?_)
        have f_a0 := l_T1005.is f_a0
        have f_b1001 := l_T1005.is f_b1001
        have f_b1004 := l_T1005.is f_b1004
        have hle := hle.tr l_T1005
        refine lv_iload_n X.1 X.2.1 dX8_order_70 rfl (lv_at hl 3 rfl) ?_
        refine lv_iload X.1 X.2.1 dX8_order_71 (lv_at hl 4 rfl) ?_
        refine kp_calli X h (kp_runS (rm := { frames := 0, cells := 0, slots := 0, locals := 0 }) (mc := 0) (ms := 0) (rest := [.int x3]) (Qc := fun A => kp_Qi D cy A T1005 _) X h (c_X8_troubleOf l D cy ad T1005 xn4 _ h.2.2.2  hw) cs_8_213 ⟨by decide, by decide, rfl, rfl, by decide, by decide⟩ rfl hl.1 rfl (Nat.le_of_ble_eq_true rfl) dX8_order_73) (fun y1007 T1006 hw l_T1006 H locs h => ?_)
        have f_a0 := l_T1006.is f_a0
        have f_b1001 := l_T1006.is f_b1001
        have f_b1004 := l_T1006.is f_b1004
        have hle := hle.tr l_T1006
        refine lv_ior X.1 X.2.1 dX8_order_76 ?_
        exact kp_reti X hr hlocks h hle rfl hw dX8_order_77
      · have hw := hw.2 c1015
        refine lv_aload_n X.1 X.2.1 dX8_order_25 rfl (lv_at hl 0 rfl) ?_
        obtain ⟨b1008, e_b1008, hw⟩ := hw
        have f_b1008 := h.2.2.2.rf (c := 8) (k := 0) f_a0 (by decide) (by decide) e_b1008 (t := 9) rfl
        refine kp_get X h f_a0 ff_8_14.l (v := .ref b1008) (congrArg va_rf e_b1008) dX8_order_26 ?_
        refine lv_bipush (v := 44) X.1 X.2.1 dX8_order_29 (by decide) ?_
        refine kp_callv X h (kp_runV (rm := { frames := 6, cells := 0, slots := 0, locals := 134 }) (mc := 0) (ms := 0) (rest := []) (Qc := fun A => kp_Qv D cy A Sn _) X h (c_X9_expect l D cy ad Sn b1008 44 _ h.2.2.2 f_b1008 hw) f_b1008 cv_8_90 ⟨by decide, by decide, rfl, rfl, by decide, by decide⟩ rfl hl.1 rfl (Nat.le_of_ble_eq_true rfl) dX8_order_31) (fun T1009 hw l_T1009 H locs h => ?_)
        have f_a0 := l_T1009.is f_a0
        have f_b1008 := l_T1009.is f_b1008
        have hle := hle.tr l_T1009
        refine lv_iload X.1 X.2.1 dX8_order_34 (lv_at hl 4 rfl) ?_
        refine lv_aload_n X.1 X.2.1 dX8_order_36 rfl (lv_at hl 0 rfl) ?_
        obtain ⟨b1010, e_b1010, hw⟩ := hw
        have f_b1010 := h.2.2.2.rf (c := 8) (k := 2) f_a0 (by decide) (by decide) e_b1010 (t := 2) rfl
        refine kp_get X h f_a0 ff_8_36.l (v := .ref b1010) (congrArg va_rf e_b1010) dX8_order_37 ?_
        refine kp_calli X h (kp_runV (rm := { frames := 189, cells := 0, slots := 0, locals := 4339 }) (mc := 0) (ms := 0) (rest := [.int xn4]) (Qc := fun A => kp_Qi D cy A T1009 _) X h (c_X2_whole_t l D cy ad T1009 b1010 _ h.2.2.2 f_b1010 hw) f_b1010 cv_8_210 ⟨by decide, by decide, rfl, rfl, by decide, by decide⟩ rfl hl.1 rfl (Nat.le_of_ble_eq_true rfl) dX8_order_40) (fun y1012 T1011 hw l_T1011 H locs h => ?_)
        have f_a0 := l_T1011.is f_a0
        have f_b1008 := l_T1011.is f_b1008
        have f_b1010 := l_T1011.is f_b1010
        have hle := hle.tr l_T1011
        refine lv_ior X.1 X.2.1 dX8_order_43 ?_
        refine lv_topi (fun y1013 e_y1013 => ?_)
        have hw := hw y1013 e_y1013
        refine lv_istore (lv' := [(4, .int y1013), (0, .ref a0), (1, .int x1), (2, .int x2), (3, .int x3), (5, .int xn5)]) X.1 X.2.1 dX8_order_44 hl (by decide) rfl (fun ls hl => ?_)
        obtain ⟨y1014, e_y1014⟩ : ∃ y : Int32, y = xn5 + 1 := ⟨_, rfl⟩
        have hw := hw y1014 e_y1014
        refine lv_iinc (v := y1014) (lv' := [(5, .int y1014), (4, .int y1013), (0, .ref a0), (1, .int x1), (2, .int x2), (3, .int x3)]) X.1 X.2.1 dX8_order_46 hl (k := 5) rfl (by rw [e_y1014]; rfl) (by decide) rfl (fun ls hl => ?_)
        refine lv_goto (tgt := 19) X.1 X.2.1 dX8_order_49 (by decide) ?_
        exact ih19 y1013 y1014 T1011 H locs ls (lv_sub hl [2, 3, 4, 5, 1, 0] rfl) h hle f_a0 hw
  unfold wX8_order at hw
  have h : kp_H D cy A S s.heap s.heap [] := h
  revert h
  intro h
  refine lv_aload_n X.1 X.2.1 dX8_order_0 rfl (lv_at hl 0 rfl) ?_
  obtain ⟨b1, e_b1, hw⟩ := hw
  have f_b1 := h.2.2.2.rf (c := 8) (k := 0) f_a0 (by decide) (by decide) e_b1 (t := 9) rfl
  refine kp_get X h f_a0 ff_8_14.l (v := .ref b1) (congrArg va_rf e_b1) dX8_order_1 ?_
  refine kp_callv X h (kp_runV (rm := { frames := 5, cells := 0, slots := 0, locals := 113 }) (mc := 0) (ms := 0) (rest := []) (Qc := fun A => kp_Qv D cy A S _) X h (c_X9_advance l D cy ad S b1 _ h.2.2.2 f_b1 hw) f_b1 cv_8_75 ⟨by decide, by decide, rfl, rfl, by decide, by decide⟩ rfl hl.1 rfl (Nat.le_of_ble_eq_true rfl) dX8_order_4) (fun T2 hw l_T2 H locs h => ?_)
  have f_a0 := l_T2.is f_a0
  have f_b1 := l_T2.is f_b1
  have hle := hle.tr l_T2
  refine lv_aload_n X.1 X.2.1 dX8_order_7 rfl (lv_at hl 0 rfl) ?_
  obtain ⟨b3, e_b3, hw⟩ := hw
  have f_b3 := h.2.2.2.rf (c := 8) (k := 2) f_a0 (by decide) (by decide) e_b3 (t := 2) rfl
  refine kp_get X h f_a0 ff_8_36.l (v := .ref b3) (congrArg va_rf e_b3) dX8_order_8 ?_
  refine kp_calli X h (kp_runV (rm := { frames := 189, cells := 0, slots := 0, locals := 4339 }) (mc := 0) (ms := 0) (rest := []) (Qc := fun A => kp_Qi D cy A T2 _) X h (c_X2_whole_t l D cy ad T2 b3 _ h.2.2.2 f_b3 hw) f_b3 cv_8_210 ⟨by decide, by decide, rfl, rfl, by decide, by decide⟩ rfl hl.1 rfl (Nat.le_of_ble_eq_true rfl) dX8_order_11) (fun y5 T4 hw l_T4 H locs h => ?_)
  have f_a0 := l_T4.is f_a0
  have f_b1 := l_T4.is f_b1
  have f_b3 := l_T4.is f_b3
  have hle := hle.tr l_T4
  refine lv_istore (lv' := [(4, .int y5), (0, .ref a0), (1, .int x1), (2, .int x2), (3, .int x3)]) X.1 X.2.1 dX8_order_14 hl (by decide) rfl (fun ls hl => ?_)
  refine lv_iconst (v := 1) X.1 X.2.1 dX8_order_16 (by decide) ?_
  refine lv_istore (lv' := [(5, .int 1), (4, .int y5), (0, .ref a0), (1, .int x1), (2, .int x2), (3, .int x3)]) X.1 X.2.1 dX8_order_17 hl (by decide) rfl (fun ls hl => ?_)
  obtain ⟨n0, hw⟩ := hw
  exact L19 n0 y5 1 T4 _ _ ls (lv_sub hl [2, 3, 4, 5, 1, 0] rfl) h hle f_a0 hw
theorem dX8_answer_0 : decode cX8_answer 0 = .ok (.aload_n 0, 1) := by decide +kernel
theorem dX8_answer_1 : decode cX8_answer 1 = .ok (.getfield 14, 3) := by decide +kernel
theorem dX8_answer_4 : decode cX8_answer 4 = .ok (.invokevirtual 75, 3) := by decide +kernel
theorem dX8_answer_7 : decode cX8_answer 7 = .ok (.iconst 0, 1) := by decide +kernel
theorem dX8_answer_8 : decode cX8_answer 8 = .ok (.istore_n 1, 1) := by decide +kernel
theorem dX8_answer_9 : decode cX8_answer 9 = .ok (.aload_n 0, 1) := by decide +kernel
theorem dX8_answer_10 : decode cX8_answer 10 = .ok (.getfield 14, 3) := by decide +kernel
theorem dX8_answer_13 : decode cX8_answer 13 = .ok (.getfield 66, 3) := by decide +kernel
theorem dX8_answer_16 : decode cX8_answer 16 = .ok (.bipush 59, 2) := by decide +kernel
theorem dX8_answer_18 : decode cX8_answer 18 = .ok (.if_icmp .ne 16, 3) := by decide +kernel
theorem dX8_answer_21 : decode cX8_answer 21 = .ok (.aload_n 0, 1) := by decide +kernel
theorem dX8_answer_22 : decode cX8_answer 22 = .ok (.getfield 27, 3) := by decide +kernel
theorem dX8_answer_25 : decode cX8_answer 25 = .ok (.iconst 1, 1) := by decide +kernel
theorem dX8_answer_26 : decode cX8_answer 26 = .ok (.iconst 0, 1) := by decide +kernel
theorem dX8_answer_27 : decode cX8_answer 27 = .ok (.invokevirtual 154, 3) := by decide +kernel
theorem dX8_answer_30 : decode cX8_answer 30 = .ok (.pop, 1) := by decide +kernel
theorem dX8_answer_31 : decode cX8_answer 31 = .ok (.goto 11, 3) := by decide +kernel
theorem dX8_answer_34 : decode cX8_answer 34 = .ok (.aload_n 0, 1) := by decide +kernel
theorem dX8_answer_35 : decode cX8_answer 35 = .ok (.getfield 36, 3) := by decide +kernel
theorem dX8_answer_38 : decode cX8_answer 38 = .ok (.invokevirtual 210, 3) := by decide +kernel
theorem dX8_answer_41 : decode cX8_answer 41 = .ok (.istore_n 1, 1) := by decide +kernel
theorem dX8_answer_42 : decode cX8_answer 42 = .ok (.aload_n 0, 1) := by decide +kernel
theorem dX8_answer_43 : decode cX8_answer 43 = .ok (.getfield 27, 3) := by decide +kernel
theorem dX8_answer_46 : decode cX8_answer 46 = .ok (.bipush 42, 2) := by decide +kernel
theorem dX8_answer_48 : decode cX8_answer 48 = .ok (.invokevirtual 123, 3) := by decide +kernel
theorem dX8_answer_51 : decode cX8_answer 51 = .ok (.pop, 1) := by decide +kernel
theorem dX8_answer_52 : decode cX8_answer 52 = .ok (.aload_n 0, 1) := by decide +kernel
theorem dX8_answer_53 : decode cX8_answer 53 = .ok (.getfield 14, 3) := by decide +kernel
theorem dX8_answer_56 : decode cX8_answer 56 = .ok (.bipush 59, 2) := by decide +kernel
theorem dX8_answer_58 : decode cX8_answer 58 = .ok (.invokevirtual 90, 3) := by decide +kernel
theorem dX8_answer_61 : decode cX8_answer 61 = .ok (.iconst 2, 1) := by decide +kernel
theorem dX8_answer_62 : decode cX8_answer 62 = .ok (.iload_n 1, 1) := by decide +kernel
theorem dX8_answer_63 : decode cX8_answer 63 = .ok (.invokestatic 213, 3) := by decide +kernel
theorem dX8_answer_66 : decode cX8_answer 66 = .ok (.ior, 1) := by decide +kernel
theorem dX8_answer_67 : decode cX8_answer 67 = .ok (.ireturn, 1) := by decide +kernel
def wX8_answer_b42 (a0 : Nat) (xn1 : Int32)  (Sn : kp_S) (post : Int32 → kp_S → Prop) : Prop :=
  ∃ b1001 : Nat, kp_R Sn 1603 a0 = some b1001 ∧
  wX0_add b1001 42 Sn (fun y1003 T1002 =>
  ∃ b1004 : Nat, kp_R T1002 1600 a0 = some b1004 ∧
  wX9_expect b1004 59 T1002 (fun T1005 =>
  wX8_troubleOf xn1 T1005 (fun y1007 T1006 =>
  post (2 ||| y1007) T1006)))
def wX8_answer (a0 : Nat) (S : kp_S) (post : Int32 → kp_S → Prop) : Prop :=
  ∃ b1 : Nat, kp_R S 1600 a0 = some b1 ∧
  wX9_advance b1 S (fun T2 =>
  ∃ b3 : Nat, kp_R T2 1600 a0 = some b3 ∧
  ((¬ (kp_I T2 1805 b3) = 59 →
  ∃ b4 : Nat, kp_R T2 1602 a0 = some b4 ∧
  wX2_whole_t b4 T2 (fun y6 T5 =>
  wX8_answer_b42 a0 y6  T5 post)) ∧ ((kp_I T2 1805 b3) = 59 →
  ∃ b7 : Nat, kp_R T2 1603 a0 = some b7 ∧
  wX0_add_ b7 1 0 T2 (fun y9 T8 =>
  wX8_answer_b42 a0 0  T8 post))))
