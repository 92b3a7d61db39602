set_option maxHeartbeats 4000000 in
set_option maxRecDepth 100000 in
theorem c_X8_answer (l : Launch) (D : va_G) (cy : Nat → ClassId) (ad : (Nat → Nat) × (Nat → Nat)) (S : kp_S) (a0 : Nat) (post : Int32 → kp_S → Prop) (hS : kp_ok S) (f_a0 : kp_is S a0 8) (hw : wX8_answer a0 S post) : kp_M l yX8_answer cX8_answer 2 (some .int) { frames := 190, cells := 0, slots := 0, locals := 4362 } D cy ad S [.ref a0] 0 0 (fun A => kp_Qi D cy A S post) := by
  refine kp_start (own := RX8) (by decide) rfl (Nat.le_of_ble_eq_true rfl) hS ?_
  intro p e s m below meth c A ls X hr hlocks hname h hl
  have hle : kp_le S S := kp_le.rf
  have hl : lv_has ls 2 [(0, .ref a0)] := hl
  have j42 : ∀ (xn1 : Int32) (Sn : kp_S) (H : Heap) (locs : List Loc) (ls : Array Slot), lv_has ls 2 [(0, .ref a0), (1, .int xn1)] → kp_H D cy A Sn s.heap H locs → kp_le S Sn → kp_is Sn a0 8 → wX8_answer_b42 a0 xn1  Sn post → W p l e { frames := 190, cells := 0, slots := 0, locals := 4362 } s m ([.ref a0] : List Value).toArray below meth c H locs 0 0 (MQ below (kp_Qi D cy A S post) ([.ref a0] : List Value).toArray s 0 0 A) (F0 m 42 ls []) := by
    intro xn1 Sn H locs ls hl h hle f_a0 hw
    unfold wX8_answer_b42 at hw
    refine lv_aload_n X.1 X.2.1 dX8_answer_42 rfl (lv_at hl 0 rfl) ?_
    obtain ⟨b1001, e_b1001, hw⟩ := hw
    have f_b1001 := h.2.2.2.rf (c := 8) (k := 3) f_a0 (by decide) (by decide) e_b1001 (t := 0) rfl
    refine kp_get X h f_a0 fp_8_27.l (v := .ref b1001) (congrArg va_rf e_b1001) dX8_answer_43 ?_
    refine lv_bipush (v := 42) X.1 X.2.1 dX8_answer_46 (by decide) ?_
    refine kp_calli X h (kp_runV (rm := { frames := 0, cells := 0, slots := 0, locals := 0 }) (mc := 0) (ms := 0) (rest := []) (Qc := fun A => kp_Qi D cy A Sn _) X h (c_X0_add l D cy ad Sn b1001 42 _ h.2.2.2 f_b1001 hw) f_b1001 cv_8_123 ⟨by decide, by decide, rfl, rfl, by decide, by decide⟩ rfl hl.1 rfl (Nat.le_of_ble_eq_true rfl) dX8_answer_48) (fun y1003 T1002 hw l_T1002 H locs h => ?_)
    have f_a0 := l_T1002.is f_a0
    have f_b1001 := l_T1002.is f_b1001
    have hle := hle.tr l_T1002
    refine lv_pop X.1 X.2.1 dX8_answer_51 rfl ?_
    refine lv_aload_n X.1 X.2.1 dX8_answer_52 rfl (lv_at hl 0 rfl) ?_
    obtain ⟨b1004, e_b1004, hw⟩ := hw
    have f_b1004 := h.2.2.2.rf (c := 8) (k := 0) f_a0 (by decide) (by decide) e_b1004 (t := 9) rfl
    refine kp_get X h f_a0 ff_8_14.l (v := .ref b1004) (congrArg va_rf e_b1004) dX8_answer_53 ?_
    refine lv_bipush (v := 59) X.1 X.2.1 dX8_answer_56 (by decide) ?_
    refine kp_callv X h (kp_runV (rm := { frames := 6, cells := 0, slots := 0, locals := 134 }) (mc := 0) (ms := 0) (rest := []) (Qc := fun A => kp_Qv D cy A T1002 _) X h (c_X9_expect l D cy ad T1002 b1004 59 _ h.2.2.2 f_b1004 hw) f_b1004 cv_8_90 ⟨by decide, by decide, rfl, rfl, by decide, by decide⟩ rfl hl.1 rfl (Nat.le_of_ble_eq_true rfl) dX8_answer_58) (fun T1005 hw l_T1005 H locs h => ?_)
    have f_a0 := l_T1005.is f_a0
    have f_b1001 := l_T1005.is f_b1001
    have f_b1004 := l_T1005.is f_b1004
    have hle := hle.tr l_T1005
    refine lv_iconst (v := 2) X.1 X.2.1 dX8_answer_61 (by decide) ?_
    refine lv_iload_n X.1 X.2.1 dX8_answer_62 rfl (lv_at hl 1 rfl) ?_
    refine kp_calli X h (kp_runS (rm := { frames := 0, cells := 0, slots := 0, locals := 0 }) (mc := 0) (ms := 0) (rest := [.int 2]) (Qc := fun A => kp_Qi D cy A T1005 _) X h (c_X8_troubleOf l D cy ad T1005 xn1 _ h.2.2.2  hw) cs_8_213 ⟨by decide, by decide, rfl, rfl, by decide, by decide⟩ rfl hl.1 rfl (Nat.le_of_ble_eq_true rfl) dX8_answer_63) (fun y1007 T1006 hw l_T1006 H locs h => ?_)
    have f_a0 := l_T1006.is f_a0
    have f_b1001 := l_T1006.is f_b1001
    have f_b1004 := l_T1006.is f_b1004
    have hle := hle.tr l_T1006
    refine lv_ior X.1 X.2.1 dX8_answer_66 ?_
    exact kp_reti X hr hlocks h hle rfl hw dX8_answer_67
  unfold wX8_answer at hw
  have h : kp_H D cy A S s.heap s.heap [] := h
  revert h
  intro h
  refine lv_aload_n X.1 X.2.1 dX8_answer_0 rfl (lv_at hl 0 rfl) ?_
  obtain ⟨b1, e_b1, hw⟩ := hw
  have f_b1 := h.2.2.2.rf (c := 8) (k := 0) f_a0 (by decide) (by decide) e_b1 (t := 9) rfl
  refine kp_get X h f_a0 ff_8_14.l (v := .ref b1) (congrArg va_rf e_b1) dX8_answer_1 ?_
  refine kp_callv X h (kp_runV (rm := { frames := 5, cells := 0, slots := 0, locals := 113 }) (mc := 0) (ms := 0) (rest := []) (Qc := fun A => kp_Qv D cy A S _) X h (c_X9_advance l D cy ad S b1 _ h.2.2.2 f_b1 hw) f_b1 cv_8_75 ⟨by decide, by decide, rfl, rfl, by decide, by decide⟩ rfl hl.1 rfl (Nat.le_of_ble_eq_true rfl) dX8_answer_4) (fun T2 hw l_T2 H locs h => ?_)
  have f_a0 := l_T2.is f_a0
  have f_b1 := l_T2.is f_b1
  have hle := hle.tr l_T2
  refine lv_iconst (v := 0) X.1 X.2.1 dX8_answer_7 (by decide) ?_
  refine lv_istore_n (lv' := [(1, .int 0), (0, .ref a0)]) X.1 X.2.1 dX8_answer_8 rfl hl (by decide) rfl (fun ls hl => ?_)
  refine lv_aload_n X.1 X.2.1 dX8_answer_9 rfl (lv_at hl 1 rfl) ?_
  obtain ⟨b3, e_b3, hw⟩ := hw
  have f_b3 := h.2.2.2.rf (c := 8) (k := 0) f_a0 (by decide) (by decide) e_b3 (t := 9) rfl
  refine kp_get X h f_a0 ff_8_14.l (v := .ref b3) (congrArg va_rf e_b3) dX8_answer_10 ?_
  refine kp_get X h f_b3 fp_8_66.l (v := .int (kp_I T2 1805 b3)) rfl dX8_answer_13 ?_
  refine lv_bipush (v := 59) X.1 X.2.1 dX8_answer_16 (by decide) ?_
  refine lv_icmp_ne (tgt := 34) X.1 X.2.1 dX8_answer_18 (by decide) (fun c10 => ?_) (fun c10 => ?_)
  · have hw := hw.1 c10
    refine lv_aload_n X.1 X.2.1 dX8_answer_34 rfl (lv_at hl 1 rfl) ?_
    obtain ⟨b4, e_b4, hw⟩ := hw
    have f_b4 := h.2.2.2.rf (c := 8) (k := 2) f_a0 (by decide) (by decide) e_b4 (t := 2) rfl
    refine kp_get X h f_a0 ff_8_36.l (v := .ref b4) (congrArg va_rf e_b4) dX8_answer_35 ?_
    refine kp_calli X h (kp_runV (rm := { frames := 189, cells := 0, slots := 0, locals := 4339 }) (mc := 0) (ms := 0) (rest := []) (Qc := fun A => kp_Qi D cy A T2 _) X h (c_X2_whole_t l D cy ad T2 b4 _ h.2.2.2 f_b4 hw) f_b4 cv_8_210 ⟨by decide, by decide, rfl, rfl, by decide, by decide⟩ rfl hl.1 rfl (Nat.le_of_ble_eq_true rfl) dX8_answer_38) (fun y6 T5 hw l_T5 H locs h => ?_)
    have f_a0 := l_T5.is f_a0
    have f_b1 := l_T5.is f_b1
    have f_b3 := l_T5.is f_b3
    have f_b4 := l_T5.is f_b4
    have hle := hle.tr l_T5
    refine lv_istore_n (lv' := [(1, .int y6), (0, .ref a0)]) X.1 X.2.1 dX8_answer_41 rfl hl (by decide) rfl (fun ls hl => ?_)
    exact j42 y6 T5 _ _ ls (lv_sub hl [1, 0] rfl) h hle f_a0 hw
  · have hw := hw.2 c10
    refine lv_aload_n X.1 X.2.1 dX8_answer_21 rfl (lv_at hl 1 rfl) ?_
    obtain ⟨b7, e_b7, hw⟩ := hw
    have f_b7 := h.2.2.2.rf (c := 8) (k := 3) f_a0 (by decide) (by decide) e_b7 (t := 0) rfl
    refine kp_get X h f_a0 fp_8_27.l (v := .ref b7) (congrArg va_rf e_b7) dX8_answer_22 ?_
    refine lv_iconst (v := 1) X.1 X.2.1 dX8_answer_25 (by decide) ?_
    refine lv_iconst (v := 0) X.1 X.2.1 dX8_answer_26 (by decide) ?_
    refine kp_calli X h (kp_runV (rm := { frames := 1, cells := 0, slots := 0, locals := 22 }) (mc := 0) (ms := 0) (rest := []) (Qc := fun A => kp_Qi D cy A T2 _) X h (c_X0_add_ l D cy ad T2 b7 1 0 _ h.2.2.2 f_b7 hw) f_b7 cv_8_154 ⟨by decide, by decide, rfl, rfl, by decide, by decide⟩ rfl hl.1 rfl (Nat.le_of_ble_eq_true rfl) dX8_answer_27) (fun y9 T8 hw l_T8 H locs h => ?_)
    have f_a0 := l_T8.is f_a0
    have f_b1 := l_T8.is f_b1
    have f_b3 := l_T8.is f_b3
    have f_b7 := l_T8.is f_b7
    have hle := hle.tr l_T8
    refine lv_pop X.1 X.2.1 dX8_answer_30 rfl ?_
    refine lv_goto (tgt := 42) X.1 X.2.1 dX8_answer_31 (by decide) ?_
    exact j42 0 T8 _ _ ls (lv_sub hl [1, 0] rfl) h hle f_a0 hw
theorem dX8_leaveOrAgain_0 : decode cX8_leaveOrAgain 0 = .ok (.aload_n 0, 1) := by decide +kernel
theorem dX8_leaveOrAgain_1 : decode cX8_leaveOrAgain 1 = .ok (.getfield 14, 3) := by decide +kernel
theorem dX8_leaveOrAgain_4 : decode cX8_leaveOrAgain 4 = .ok (.getfield 93, 3) := by decide +kernel
theorem dX8_leaveOrAgain_7 : decode cX8_leaveOrAgain 7 = .ok (.istore_n 2, 1) := by decide +kernel
theorem dX8_leaveOrAgain_8 : decode cX8_leaveOrAgain 8 = .ok (.aload_n 0, 1) := by decide +kernel
theorem dX8_leaveOrAgain_9 : decode cX8_leaveOrAgain 9 = .ok (.getfield 14, 3) := by decide +kernel
theorem dX8_leaveOrAgain_12 : decode cX8_leaveOrAgain 12 = .ok (.invokevirtual 75, 3) := by decide +kernel
theorem dX8_leaveOrAgain_15 : decode cX8_leaveOrAgain 15 = .ok (.aload_n 0, 1) := by decide +kernel
theorem dX8_leaveOrAgain_16 : decode cX8_leaveOrAgain 16 = .ok (.getfield 14, 3) := by decide +kernel
theorem dX8_leaveOrAgain_19 : decode cX8_leaveOrAgain 19 = .ok (.getfield 66, 3) := by decide +kernel
theorem dX8_leaveOrAgain_22 : decode cX8_leaveOrAgain 22 = .ok (.sipush 259, 3) := by decide +kernel
theorem dX8_leaveOrAgain_25 : decode cX8_leaveOrAgain 25 = .ok (.if_icmp .ne 35, 3) := by decide +kernel
theorem dX8_leaveOrAgain_28 : decode cX8_leaveOrAgain 28 = .ok (.aload_n 0, 1) := by decide +kernel
theorem dX8_leaveOrAgain_29 : decode cX8_leaveOrAgain 29 = .ok (.getfield 23, 3) := by decide +kernel
theorem dX8_leaveOrAgain_32 : decode cX8_leaveOrAgain 32 = .ok (.aload_n 0, 1) := by decide +kernel
theorem dX8_leaveOrAgain_33 : decode cX8_leaveOrAgain 33 = .ok (.getfield 14, 3) := by decide +kernel
theorem dX8_leaveOrAgain_36 : decode cX8_leaveOrAgain 36 = .ok (.getfield 78, 3) := by decide +kernel
theorem dX8_leaveOrAgain_39 : decode cX8_leaveOrAgain 39 = .ok (.aload_n 0, 1) := by decide +kernel
theorem dX8_leaveOrAgain_40 : decode cX8_leaveOrAgain 40 = .ok (.getfield 14, 3) := by decide +kernel
theorem dX8_leaveOrAgain_43 : decode cX8_leaveOrAgain 43 = .ok (.getfield 93, 3) := by decide +kernel
theorem dX8_leaveOrAgain_46 : decode cX8_leaveOrAgain 46 = .ok (.invokevirtual 219, 3) := by decide +kernel
theorem dX8_leaveOrAgain_49 : decode cX8_leaveOrAgain 49 = .ok (.istore_n 3, 1) := by decide +kernel
theorem dX8_leaveOrAgain_50 : decode cX8_leaveOrAgain 50 = .ok (.aload_n 0, 1) := by decide +kernel
theorem dX8_leaveOrAgain_51 : decode cX8_leaveOrAgain 51 = .ok (.getfield 14, 3) := by decide +kernel
theorem dX8_leaveOrAgain_54 : decode cX8_leaveOrAgain 54 = .ok (.invokevirtual 75, 3) := by decide +kernel
theorem dX8_leaveOrAgain_57 : decode cX8_leaveOrAgain 57 = .ok (.goto 12, 3) := by decide +kernel
theorem dX8_leaveOrAgain_60 : decode cX8_leaveOrAgain 60 = .ok (.aload_n 0, 1) := by decide +kernel
theorem dX8_leaveOrAgain_61 : decode cX8_leaveOrAgain 61 = .ok (.getfield 23, 3) := by decide +kernel
theorem dX8_leaveOrAgain_64 : decode cX8_leaveOrAgain 64 = .ok (.iload_n 2, 1) := by decide +kernel
theorem dX8_leaveOrAgain_65 : decode cX8_leaveOrAgain 65 = .ok (.invokevirtual 222, 3) := by decide +kernel
theorem dX8_leaveOrAgain_68 : decode cX8_leaveOrAgain 68 = .ok (.istore_n 3, 1) := by decide +kernel
theorem dX8_leaveOrAgain_69 : decode cX8_leaveOrAgain 69 = .ok (.aload_n 0, 1) := by decide +kernel
theorem dX8_leaveOrAgain_70 : decode cX8_leaveOrAgain 70 = .ok (.getfield 27, 3) := by decide +kernel
theorem dX8_leaveOrAgain_73 : decode cX8_leaveOrAgain 73 = .ok (.iload_n 1, 1) := by decide +kernel
theorem dX8_leaveOrAgain_74 : decode cX8_leaveOrAgain 74 = .ok (.aload_n 0, 1) := by decide +kernel
theorem dX8_leaveOrAgain_75 : decode cX8_leaveOrAgain 75 = .ok (.getfield 23, 3) := by decide +kernel
theorem dX8_leaveOrAgain_78 : decode cX8_leaveOrAgain 78 = .ok (.iload_n 3, 1) := by decide +kernel
theorem dX8_leaveOrAgain_79 : decode cX8_leaveOrAgain 79 = .ok (.invokevirtual 225, 3) := by decide +kernel
theorem dX8_leaveOrAgain_82 : decode cX8_leaveOrAgain 82 = .ok (.invokevirtual 154, 3) := by decide +kernel
theorem dX8_leaveOrAgain_85 : decode cX8_leaveOrAgain 85 = .ok (.pop, 1) := by decide +kernel
theorem dX8_leaveOrAgain_86 : decode cX8_leaveOrAgain 86 = .ok (.aload_n 0, 1) := by decide +kernel
theorem dX8_leaveOrAgain_87 : decode cX8_leaveOrAgain 87 = .ok (.getfield 14, 3) := by decide +kernel
theorem dX8_leaveOrAgain_90 : decode cX8_leaveOrAgain 90 = .ok (.bipush 59, 2) := by decide +kernel
theorem dX8_leaveOrAgain_92 : decode cX8_leaveOrAgain 92 = .ok (.invokevirtual 90, 3) := by decide +kernel
theorem dX8_leaveOrAgain_95 : decode cX8_leaveOrAgain 95 = .ok (.iload_n 1, 1) := by decide +kernel
theorem dX8_leaveOrAgain_96 : decode cX8_leaveOrAgain 96 = .ok (.bipush 40, 2) := by decide +kernel
theorem dX8_leaveOrAgain_98 : decode cX8_leaveOrAgain 98 = .ok (.if_icmp .ne 10, 3) := by decide +kernel
theorem dX8_leaveOrAgain_101 : decode cX8_leaveOrAgain 101 = .ok (.iload_n 3, 1) := by decide +kernel
theorem dX8_leaveOrAgain_102 : decode cX8_leaveOrAgain 102 = .ok (.invokestatic 228, 3) := by decide +kernel
theorem dX8_leaveOrAgain_105 : decode cX8_leaveOrAgain 105 = .ok (.goto 7, 3) := by decide +kernel
theorem dX8_leaveOrAgain_108 : decode cX8_leaveOrAgain 108 = .ok (.iload_n 3, 1) := by decide +kernel
theorem dX8_leaveOrAgain_109 : decode cX8_leaveOrAgain 109 = .ok (.invokestatic 231, 3) := by decide +kernel
theorem dX8_leaveOrAgain_112 : decode cX8_leaveOrAgain 112 = .ok (.ireturn, 1) := by decide +kernel
def wX8_leaveOrAgain_b112 (a0 : Nat) (x1 : Int32) (xt0 : Int32)  (Sn : kp_S) (post : Int32 → kp_S → Prop) : Prop :=
  post xt0 Sn
def wX8_leaveOrAgain_b69 (a0 : Nat) (x1 : Int32) (xn3 : Int32)  (Sn : kp_S) (post : Int32 → kp_S → Prop) : Prop :=
  ∃ b2001 : Nat, kp_R Sn 1603 a0 = some b2001 ∧
  ∃ b2002 : Nat, kp_R Sn 1601 a0 = some b2002 ∧
  wX5_roundOf b2002 xn3 Sn (fun y2004 T2003 =>
  wX0_add_ b2001 x1 y2004 T2003 (fun y2006 T2005 =>
  ∃ b2007 : Nat, kp_R T2005 1600 a0 = some b2007 ∧
  wX9_expect b2007 59 T2005 (fun T2008 =>
  ((¬ x1 = 40 →
  wX10_againOf xn3 T2008 (fun y2010 T2009 =>
  wX8_leaveOrAgain_b112 a0 x1 y2010  T2009 post)) ∧ (x1 = 40 →
  wX10_leaveOf xn3 T2008 (fun y2012 T2011 =>
  wX8_leaveOrAgain_b112 a0 x1 y2012  T2011 post))))))
def wX8_leaveOrAgain (a0 : Nat) (x1 : Int32) (S : kp_S) (post : Int32 → kp_S → Prop) : Prop :=
  ∃ b1 : Nat, kp_R S 1600 a0 = some b1 ∧
  ∀ y2 : Int32, y2 = (kp_I S 1806 b1) →
  wX9_advance b1 S (fun T3 =>
  ∃ b4 : Nat, kp_R T3 1600 a0 = some b4 ∧
  ((¬ (kp_I T3 1805 b4) = 259 →
  ∃ b5 : Nat, kp_R T3 1601 a0 = some b5 ∧
  wX5_innermostLoop b5 y2 T3 (fun y7 T6 =>
  wX8_leaveOrAgain_b69 a0 x1 y7  T6 post)) ∧ ((kp_I T3 1805 b4) = 259 →
  ∃ b8 : Nat, kp_R T3 1601 a0 = some b8 ∧
  wX5_loopLabelled b8 (kp_J T3 1808 b4) (kp_I T3 1806 b4) T3 (fun y10 T9 =>
  ∃ b11 : Nat, kp_R T9 1600 a0 = some b11 ∧
  wX9_advance b11 T9 (fun T12 =>
  wX8_leaveOrAgain_b69 a0 x1 y10  T12 post)))))
set_option maxHeartbeats 4000000 in
set_option maxRecDepth 100000 in
theorem c_X8_leaveOrAgain (l : Launch) (D : va_G) (cy : Nat → ClassId) (ad : (Nat → Nat) × (Nat → Nat)) (S : kp_S) (a0 : Nat) (x1 : Int32) (post : Int32 → kp_S → Prop) (hS : kp_ok S) (f_a0 : kp_is S a0 8) (hw : wX8_leaveOrAgain a0 x1 S post) : kp_M l yX8_leaveOrAgain cX8_leaveOrAgain 4 (some .int) { frames := 7, cells := 0, slots := 0, locals := 155 } D cy ad S [.ref a0, .int x1] 0 0 (fun A => kp_Qi D cy A S post) := by
  refine kp_start (own := RX8) (by decide) rfl (Nat.le_of_ble_eq_true rfl) hS ?_
  intro p e s m below meth c A ls X hr hlocks hname h hl
  have hle : kp_le S S := kp_le.rf
  have hl : lv_has ls 4 [(0, .ref a0), (1, .int x1)] := hl
  have j112 : ∀ (xt0 : Int32) (Sn : kp_S) (H : Heap) (locs : List Loc) (ls : Array Slot), lv_has ls 4 [] → kp_H D cy A Sn s.heap H locs → kp_le S Sn → kp_is Sn a0 8 → wX8_leaveOrAgain_b112 a0 x1 xt0  Sn post → W p l e { frames := 7, cells := 0, slots := 0, locals := 155 } s m ([.ref a0, .int x1] : List Value).toArray below meth c H locs 0 0 (MQ below (kp_Qi D cy A S post) ([.ref a0, .int x1] : List Value).toArray s 0 0 A) (F0 m 112 ls [.int xt0]) := by
    intro xt0 Sn H locs ls hl h hle f_a0 hw
    unfold wX8_leaveOrAgain_b112 at hw
    exact kp_reti X hr hlocks h hle rfl hw dX8_leaveOrAgain_112
  have j69 : ∀ (xn3 : Int32) (Sn : kp_S) (H : Heap) (locs : List Loc) (ls : Array Slot), lv_has ls 4 [(0, .ref a0), (1, .int x1), (3, .int xn3)] → kp_H D cy A Sn s.heap H locs → kp_le S Sn → kp_is Sn a0 8 → wX8_leaveOrAgain_b69 a0 x1 xn3  Sn post → W p l e { frames := 7, cells := 0, slots := 0, locals := 155 } s m ([.ref a0, .int x1] : List Value).toArray below meth c H locs 0 0 (MQ below (kp_Qi D cy A S post) ([.ref a0, .int x1] : List Value).toArray s 0 0 A) (F0 m 69 ls []) := by
    intro xn3 Sn H locs ls hl h hle f_a0 hw
    unfold wX8_leaveOrAgain_b69 at hw
    refine lv_aload_n X.1 X.2.1 dX8_leaveOrAgain_69 rfl (lv_at hl 0 rfl) ?_
    obtain ⟨b2001, e_b2001, hw⟩ := hw
    have f_b2001 := h.2.2.2.rf (c := 8) (k := 3) f_a0 (by decide) (by decide) e_b2001 (t := 0) rfl
    refine kp_get X h f_a0 fp_8_27.l (v := .ref b2001) (congrArg va_rf e_b2001) dX8_leaveOrAgain_70 ?_
    refine lv_iload_n X.1 X.2.1 dX8_leaveOrAgain_73 rfl (lv_at hl 1 rfl) ?_
    refine lv_aload_n X.1 X.2.1 dX8_leaveOrAgain_74 rfl (lv_at hl 0 rfl) ?_
    obtain ⟨b2002, e_b2002, hw⟩ := hw
    have f_b2002 := h.2.2.2.rf (c := 8) (k := 1) f_a0 (by decide) (by decide) e_b2002 (t := 5) rfl
    refine kp_get X h f_a0 ff_8_23.l (v := .ref b2002) (congrArg va_rf e_b2002) dX8_leaveOrAgain_75 ?_
    refine lv_iload_n X.1 X.2.1 dX8_leaveOrAgain_78 rfl (lv_at hl 2 rfl) ?_
    refine kp_calli X h (kp_runV (rm := { frames := 0, cells := 0, slots := 0, locals := 0 }) (mc := 0) (ms := 0) (rest := [.int x1, .ref b2001]) (Qc := fun A => kp_Qi D cy A Sn _) X h (c_X5_roundOf l D cy ad Sn b2002 xn3 _ h.2.2.2 f_b2002 hw) f_b2002 cv_8_225 ⟨by decide, by decide, rfl, rfl, by decide, by decide⟩ rfl hl.1 rfl (Nat.le_of_ble_eq_true rfl) dX8_leaveOrAgain_79) (fun y2004 T2003 hw l_T2003 H locs h => ?_)
    have f_a0 := l_T2003.is f_a0
    have f_b2001 := l_T2003.is f_b2001
    have f_b2002 := l_T2003.is f_b2002
    have hle := hle.tr l_T2003
    refine kp_calli X h (kp_runV (rm := { frames := 1, cells := 0, slots := 0, locals := 22 }) (mc := 0) (ms := 0) (rest := []) (Qc := fun A => kp_Qi D cy A T2003 _) X h (c_X0_add_ l D cy ad T2003 b2001 x1 y2004 _ h.2.2.2 f_b2001 hw) f_b2001 cv_8_154 ⟨by decide, by decide, rfl, rfl, by decide, by decide⟩ rfl hl.1 rfl (Nat.le_of_ble_eq_true rfl) dX8_leaveOrAgain_82) (fun y2006 T2005 hw l_T2005 H locs h => ?_)
    have f_a0 := l_T2005.is f_a0
    have f_b2001 := l_T2005.is f_b2001
    have f_b2002 := l_T2005.is f_b2002
    have hle := hle.tr l_T2005
    refine lv_pop X.1 X.2.1 dX8_leaveOrAgain_85 rfl ?_
    refine lv_aload_n X.1 X.2.1 dX8_leaveOrAgain_86 rfl (lv_at hl 0 rfl) ?_
    obtain ⟨b2007, e_b2007, hw⟩ := hw
    have f_b2007 := h.2.2.2.rf (c := 8) (k := 0) f_a0 (by decide) (by decide) e_b2007 (t := 9) rfl
    refine kp_get X h f_a0 ff_8_14.l (v := .ref b2007) (congrArg va_rf e_b2007) dX8_leaveOrAgain_87 ?_
    refine lv_bipush (v := 59) X.1 X.2.1 dX8_leaveOrAgain_90 (by decide) ?_
    refine kp_callv X h (kp_runV (rm := { frames := 6, cells := 0, slots := 0, locals := 134 }) (mc := 0) (ms := 0) (rest := []) (Qc := fun A => kp_Qv D cy A T2005 _) X h (c_X9_expect l D cy ad T2005 b2007 59 _ h.2.2.2 f_b2007 hw) f_b2007 cv_8_90 ⟨by decide, by decide, rfl, rfl, by decide, by decide⟩ rfl hl.1 rfl (Nat.le_of_ble_eq_true rfl) dX8_leaveOrAgain_92) (fun T2008 hw l_T2008 H locs h => ?_)
    have f_a0 := l_T2008.is f_a0
    have f_b2001 := l_T2008.is f_b2001
    have f_b2002 := l_T2008.is f_b2002
    have f_b2007 := l_T2008.is f_b2007
    have hle := hle.tr l_T2008
    refine lv_iload_n X.1 X.2.1 dX8_leaveOrAgain_95 rfl (lv_at hl 1 rfl) ?_
    refine lv_bipush (v := 40) X.1 X.2.1 dX8_leaveOrAgain_96 (by decide) ?_
    refine lv_icmp_ne (tgt := 108) X.1 X.2.1 dX8_leaveOrAgain_98 (by decide) (fun c2013 => ?_) (fun c2013 => ?_)
    · have hw := hw.1 c2013
      refine lv_iload_n X.1 X.2.1 dX8_leaveOrAgain_108 rfl (lv_at hl 2 rfl) ?_
      refine kp_calli X h (kp_runS (rm := { frames := 0, cells := 0, slots := 0, locals := 0 }) (mc := 0) (ms := 0) (rest := []) (Qc := fun A => kp_Qi D cy A T2008 _) X h (c_X10_againOf l D cy ad T2008 xn3 _ h.2.2.2  hw) cs_8_231 ⟨by decide, by decide, rfl, rfl, by decide, by decide⟩ rfl hl.1 rfl (Nat.le_of_ble_eq_true rfl) dX8_leaveOrAgain_109) (fun y2010 T2009 hw l_T2009 H locs h => ?_)
      have f_a0 := l_T2009.is f_a0
      have f_b2001 := l_T2009.is f_b2001
      have f_b2002 := l_T2009.is f_b2002
      have f_b2007 := l_T2009.is f_b2007
      have hle := hle.tr l_T2009
      exact j112 y2010 T2009 H locs ls (lv_sub hl [] rfl) h hle f_a0 hw
    · have hw := hw.2 c2013
      refine lv_iload_n X.1 X.2.1 dX8_leaveOrAgain_101 rfl (lv_at hl 2 rfl) ?_
      refine kp_calli X h (kp_runS (rm := { frames := 0, cells := 0, slots := 0, locals := 0 }) (mc := 0) (ms := 0) (rest := []) (Qc := fun A => kp_Qi D cy A T2008 _) X h (c_X10_leaveOf l D cy ad T2008 xn3 _ h.2.2.2  hw) cs_8_228 ⟨by decide, by decide, rfl, rfl, by decide, by decide⟩ rfl hl.1 rfl (Nat.le_of_ble_eq_true rfl) dX8_leaveOrAgain_102) (fun y2012 T2011 hw l_T2011 H locs h => ?_)
      have f_a0 := l_T2011.is f_a0
      have f_b2001 := l_T2011.is f_b2001
      have f_b2002 := l_T2011.is f_b2002
      have f_b2007 := l_T2011.is f_b2007
      have hle := hle.tr l_T2011
      refine lv_goto (tgt := 112) X.1 X.2.1 dX8_leaveOrAgain_105 (by decide) ?_
      exact j112 y2012 T2011 H locs ls (lv_sub hl [] rfl) h hle f_a0 hw
  unfold wX8_leaveOrAgain at hw
  have h : kp_H D cy A S s.heap s.heap [] := h
  revert h
  intro h
  refine lv_aload_n X.1 X.2.1 dX8_leaveOrAgain_0 rfl (lv_at hl 0 rfl) ?_
  obtain ⟨b1, e_b1, hw⟩ := hw
  have f_b1 := h.2.2.2.rf (c := 8) (k := 0) f_a0 (by decide) (by decide) e_b1 (t := 9) rfl
  refine kp_get X h f_a0 ff_8_14.l (v := .ref b1) (congrArg va_rf e_b1) dX8_leaveOrAgain_1 ?_
  refine kp_get X h f_b1 fp_8_93.l (v := .int (kp_I S 1806 b1)) rfl dX8_leaveOrAgain_4 ?_
  refine lv_topi (fun y2 e_y2 => ?_)
  have hw := hw y2 e_y2
  refine lv_istore_n (lv' := [(2, .int y2), (0, .ref a0), (1, .int x1)]) X.1 X.2.1 dX8_leaveOrAgain_7 rfl hl (by decide) rfl (fun ls hl => ?_)
  refine lv_aload_n X.1 X.2.1 dX8_leaveOrAgain_8 rfl (lv_at hl 1 rfl) ?_
  refine kp_get X h f_a0 ff_8_14.l (v := .ref b1) (congrArg va_rf e_b1) dX8_leaveOrAgain_9 ?_
  refine kp_callv X h (kp_runV (rm := { frames := 5, cells := 0, slots := 0, locals := 113 }) (mc := 0) (ms := 0) (rest := []) (Qc := fun A => kp_Qv D cy A S _) X h (c_X9_advance l D cy ad S b1 _ h.2.2.2 f_b1 hw) f_b1 cv_8_75 ⟨by decide, by decide, rfl, rfl, by decide, by decide⟩ rfl hl.1 rfl (Nat.le_of_ble_eq_true rfl) dX8_leaveOrAgain_12) (fun T3 hw l_T3 H locs h => ?_)
  have f_a0 := l_T3.is f_a0
  have f_b1 := l_T3.is f_b1
  have hle := hle.tr l_T3
  refine lv_aload_n X.1 X.2.1 dX8_leaveOrAgain_15 rfl (lv_at hl 1 rfl) ?_
  obtain ⟨b4, e_b4, hw⟩ := hw
  have f_b4 := h.2.2.2.rf (c := 8) (k := 0) f_a0 (by decide) (by decide) e_b4 (t := 9) rfl
  refine kp_get X h f_a0 ff_8_14.l (v := .ref b4) (congrArg va_rf e_b4) dX8_leaveOrAgain_16 ?_
  refine kp_get X h f_b4 fp_8_66.l (v := .int (kp_I T3 1805 b4)) rfl dX8_leaveOrAgain_19 ?_
  refine lv_sipush (v := 259) X.1 X.2.1 dX8_leaveOrAgain_22 (by decide) ?_
  refine lv_icmp_ne (tgt := 60) X.1 X.2.1 dX8_leaveOrAgain_25 (by decide) (fun c13 => ?_) (fun c13 => ?_)
  · have hw := hw.1 c13
    refine lv_aload_n X.1 X.2.1 dX8_leaveOrAgain_60 rfl (lv_at hl 1 rfl) ?_
    obtain ⟨b5, e_b5, hw⟩ := hw
    have f_b5 := h.2.2.2.rf (c := 8) (k := 1) f_a0 (by decide) (by decide) e_b5 (t := 5) rfl
    refine kp_get X h f_a0 ff_8_23.l (v := .ref b5) (congrArg va_rf e_b5) dX8_leaveOrAgain_61 ?_
    refine lv_iload_n X.1 X.2.1 dX8_leaveOrAgain_64 rfl (lv_at hl 0 rfl) ?_
    refine kp_calli X h (kp_runV (rm := { frames := 1, cells := 0, slots := 0, locals := 23 }) (mc := 0) (ms := 0) (rest := []) (Qc := fun A => kp_Qi D cy A T3 _) X h (c_X5_innermostLoop l D cy ad T3 b5 y2 _ h.2.2.2 f_b5 hw) f_b5 cv_8_222 ⟨by decide, by decide, rfl, rfl, by decide, by decide⟩ rfl hl.1 rfl (Nat.le_of_ble_eq_true rfl) dX8_leaveOrAgain_65) (fun y7 T6 hw l_T6 H locs h => ?_)
    have f_a0 := l_T6.is f_a0
    have f_b1 := l_T6.is f_b1
    have f_b4 := l_T6.is f_b4
    have f_b5 := l_T6.is f_b5
    have hle := hle.tr l_T6
    refine lv_istore_n (lv' := [(3, .int y7), (2, .int y2), (0, .ref a0), (1, .int x1)]) X.1 X.2.1 dX8_leaveOrAgain_68 rfl hl (by decide) rfl (fun ls hl => ?_)
    exact j69 y7 T6 _ _ ls (lv_sub hl [2, 3, 0] rfl) h hle f_a0 hw
  · have hw := hw.2 c13
    refine lv_aload_n X.1 X.2.1 dX8_leaveOrAgain_28 rfl (lv_at hl 1 rfl) ?_
    obtain ⟨b8, e_b8, hw⟩ := hw
    have f_b8 := h.2.2.2.rf (c := 8) (k := 1) f_a0 (by decide) (by decide) e_b8 (t := 5) rfl
    refine kp_get X h f_a0 ff_8_23.l (v := .ref b8) (congrArg va_rf e_b8) dX8_leaveOrAgain_29 ?_
    refine lv_aload_n X.1 X.2.1 dX8_leaveOrAgain_32 rfl (lv_at hl 1 rfl) ?_
    refine kp_get X h f_a0 ff_8_14.l (v := .ref b4) (congrArg va_rf e_b4) dX8_leaveOrAgain_33 ?_
    refine kp_get X h f_b4 fp_8_78.l (v := .long (kp_J T3 1808 b4)) rfl dX8_leaveOrAgain_36 ?_
    refine lv_aload_n X.1 X.2.1 dX8_leaveOrAgain_39 rfl (lv_at hl 1 rfl) ?_
    refine kp_get X h f_a0 ff_8_14.l (v := .ref b4) (congrArg va_rf e_b4) dX8_leaveOrAgain_40 ?_
    refine kp_get X h f_b4 fp_8_93.l (v := .int (kp_I T3 1806 b4)) rfl dX8_leaveOrAgain_43 ?_
    refine kp_calli X h (kp_runV (rm := { frames := 2, cells := 0, slots := 0, locals := 44 }) (mc := 0) (ms := 0) (rest := []) (Qc := fun A => kp_Qi D cy A T3 _) X h (c_X5_loopLabelled l D cy ad T3 b8 (kp_J T3 1808 b4) (kp_I T3 1806 b4) _ h.2.2.2 f_b8 hw) f_b8 cv_8_219 ⟨by decide, by decide, rfl, rfl, by decide, by decide⟩ rfl hl.1 rfl (Nat.le_of_ble_eq_true rfl) dX8_leaveOrAgain_46) (fun y10 T9 hw l_T9 H locs h => ?_)
    have f_a0 := l_T9.is f_a0
    have f_b1 := l_T9.is f_b1
    have f_b4 := l_T9.is f_b4
    have f_b8 := l_T9.is f_b8
    have hle := hle.tr l_T9
    refine lv_istore_n (lv' := [(3, .int y10), (2, .int y2), (0, .ref a0), (1, .int x1)]) X.1 X.2.1 dX8_leaveOrAgain_49 rfl hl (by decide) rfl (fun ls hl => ?_)
    refine lv_aload_n X.1 X.2.1 dX8_leaveOrAgain_50 rfl (lv_at hl 2 rfl) ?_
    obtain ⟨b11, e_b11, hw⟩ := hw
    have f_b11 := h.2.2.2.rf (c := 8) (k := 0) f_a0 (by decide) (by decide) e_b11 (t := 9) rfl
    refine kp_get X h f_a0 ff_8_14.l (v := .ref b11) (congrArg va_rf e_b11) dX8_leaveOrAgain_51 ?_
    refine kp_callv X h (kp_runV (rm := { frames := 5, cells := 0, slots := 0, locals := 113 }) (mc := 0) (ms := 0) (rest := []) (Qc := fun A => kp_Qv D cy A T9 _) X h (c_X9_advance l D cy ad T9 b11 _ h.2.2.2 f_b11 hw) f_b11 cv_8_75 ⟨by decide, by decide, rfl, rfl, by decide, by decide⟩ rfl hl.1 rfl (Nat.le_of_ble_eq_true rfl) dX8_leaveOrAgain_54) (fun T12 hw l_T12 H locs h => ?_)
    have f_a0 := l_T12.is f_a0
    have f_b1 := l_T12.is f_b1
    have f_b4 := l_T12.is f_b4
    have f_b8 := l_T12.is f_b8
    have f_b11 := l_T12.is f_b11
    have hle := hle.tr l_T12
    refine lv_goto (tgt := 69) X.1 X.2.1 dX8_leaveOrAgain_57 (by decide) ?_
    exact j69 y10 T12 _ _ ls (lv_sub hl [2, 3, 0] rfl) h hle f_a0 hw
theorem dX8_stop_0 : decode cX8_stop 0 = .ok (.aload_n 0, 1) := by decide +kernel
theorem dX8_stop_1 : decode cX8_stop 1 = .ok (.getfield 14, 3) := by decide +kernel
theorem dX8_stop_4 : decode cX8_stop 4 = .ok (.invokevirtual 75, 3) := by decide +kernel
theorem dX8_stop_7 : decode cX8_stop 7 = .ok (.aload_n 0, 1) := by decide +kernel
theorem dX8_stop_8 : decode cX8_stop 8 = .ok (.getfield 27, 3) := by decide +kernel
theorem dX8_stop_11 : decode cX8_stop 11 = .ok (.bipush 44, 2) := by decide +kernel
theorem dX8_stop_13 : decode cX8_stop 13 = .ok (.invokevirtual 123, 3) := by decide +kernel
theorem dX8_stop_16 : decode cX8_stop 16 = .ok (.pop, 1) := by decide +kernel
theorem dX8_stop_17 : decode cX8_stop 17 = .ok (.aload_n 0, 1) := by decide +kernel
theorem dX8_stop_18 : decode cX8_stop 18 = .ok (.getfield 14, 3) := by decide +kernel
theorem dX8_stop_21 : decode cX8_stop 21 = .ok (.bipush 59, 2) := by decide +kernel
theorem dX8_stop_23 : decode cX8_stop 23 = .ok (.invokevirtual 90, 3) := by decide +kernel
theorem dX8_stop_26 : decode cX8_stop 26 = .ok (.iconst 0, 1) := by decide +kernel
theorem dX8_stop_27 : decode cX8_stop 27 = .ok (.ireturn, 1) := by decide +kernel
def wX8_stop (a0 : Nat) (S : kp_S) (post : Int32 → kp_S → Prop) : Prop :=
  ∃ b1 : Nat, kp_R S 1600 a0 = some b1 ∧
  wX9_advance b1 S (fun T2 =>
  ∃ b3 : Nat, kp_R T2 1603 a0 = some b3 ∧
  wX0_add b3 44 T2 (fun y5 T4 =>
  ∃ b6 : Nat, kp_R T4 1600 a0 = some b6 ∧
  wX9_expect b6 59 T4 (fun T7 =>
  post 0 T7)))
set_option maxHeartbeats 4000000 in
set_option maxRecDepth 100000 in
theorem c_X8_stop (l : Launch) (D : va_G) (cy : Nat → ClassId) (ad : (Nat → Nat) × (Nat → Nat)) (S : kp_S) (a0 : Nat) (post : Int32 → kp_S → Prop) (hS : kp_ok S) (f_a0 : kp_is S a0 8) (hw : wX8_stop a0 S post) : kp_M l yX8_stop cX8_stop 1 (some .int) { frames := 7, cells := 0, slots := 0, locals := 155 } D cy ad S [.ref a0] 0 0 (fun A => kp_Qi D cy A S post) := by
  refine kp_start (own := RX8) (by decide) rfl (Nat.le_of_ble_eq_true rfl) hS ?_
  intro p e s m below meth c A ls X hr hlocks hname h hl
  have hle : kp_le S S := kp_le.rf
  have hl : lv_has ls 1 [(0, .ref a0)] := hl
  unfold wX8_stop at hw
  have h : kp_H D cy A S s.heap s.heap [] := h
  revert h
  intro h
  refine lv_aload_n X.1 X.2.1 dX8_stop_0 rfl (lv_at hl 0 rfl) ?_
  obtain ⟨b1, e_b1, hw⟩ := hw
  have f_b1 := h.2.2.2.rf (c := 8) (k := 0) f_a0 (by decide) (by decide) e_b1 (t := 9) rfl
  refine kp_get X h f_a0 ff_8_14.l (v := .ref b1) (congrArg va_rf e_b1) dX8_stop_1 ?_
  refine kp_callv X h (kp_runV (rm := { frames := 5, cells := 0, slots := 0, locals := 113 }) (mc := 0) (ms := 0) (rest := []) (Qc := fun A => kp_Qv D cy A S _) X h (c_X9_advance l D cy ad S b1 _ h.2.2.2 f_b1 hw) f_b1 cv_8_75 ⟨by decide, by decide, rfl, rfl, by decide, by decide⟩ rfl hl.1 rfl (Nat.le_of_ble_eq_true rfl) dX8_stop_4) (fun T2 hw l_T2 H locs h => ?_)
  have f_a0 := l_T2.is f_a0
  have f_b1 := l_T2.is f_b1
  have hle := hle.tr l_T2
  refine lv_aload_n X.1 X.2.1 dX8_stop_7 rfl (lv_at hl 0 rfl) ?_
  obtain ⟨b3, e_b3, hw⟩ := hw
  have f_b3 := h.2.2.2.rf (c := 8) (k := 3) f_a0 (by decide) (by decide) e_b3 (t := 0) rfl
  refine kp_get X h f_a0 fp_8_27.l (v := .ref b3) (congrArg va_rf e_b3) dX8_stop_8 ?_
  refine lv_bipush (v := 44) X.1 X.2.1 dX8_stop_11 (by decide) ?_
  refine kp_calli X h (kp_runV (rm := { frames := 0, cells := 0, slots := 0, locals := 0 }) (mc := 0) (ms := 0) (rest := []) (Qc := fun A => kp_Qi D cy A T2 _) X h (c_X0_add l D cy ad T2 b3 44 _ h.2.2.2 f_b3 hw) f_b3 cv_8_123 ⟨by decide, by decide, rfl, rfl, by decide, by decide⟩ rfl hl.1 rfl (Nat.le_of_ble_eq_true rfl) dX8_stop_13) (fun y5 T4 hw l_T4 H locs h => ?_)
  have f_a0 := l_T4.is f_a0
  have f_b1 := l_T4.is f_b1
  have f_b3 := l_T4.is f_b3
  have hle := hle.tr l_T4
  refine lv_pop X.1 X.2.1 dX8_stop_16 rfl ?_
  refine lv_aload_n X.1 X.2.1 dX8_stop_17 rfl (lv_at hl 0 rfl) ?_
  obtain ⟨b6, e_b6, hw⟩ := hw
  have f_b6 := h.2.2.2.rf (c := 8) (k := 0) f_a0 (by decide) (by decide) e_b6 (t := 9) rfl
  refine kp_get X h f_a0 ff_8_14.l (v := .ref b6) (congrArg va_rf e_b6) dX8_stop_18 ?_
  refine lv_bipush (v := 59) X.1 X.2.1 dX8_stop_21 (by decide) ?_
  refine kp_callv X h (kp_runV (rm := { frames := 6, cells := 0, slots := 0, locals := 134 }) (mc := 0) (ms := 0) (rest := []) (Qc := fun A => kp_Qv D cy A T4 _) X h (c_X9_expect l D cy ad T4 b6 59 _ h.2.2.2 f_b6 hw) f_b6 cv_8_90 ⟨by decide, by decide, rfl, rfl, by decide, by decide⟩ rfl hl.1 rfl (Nat.le_of_ble_eq_true rfl) dX8_stop_23) (fun T7 hw l_T7 H locs h => ?_)
  have f_a0 := l_T7.is f_a0
  have f_b1 := l_T7.is f_b1
  have f_b3 := l_T7.is f_b3
  have f_b6 := l_T7.is f_b6
  have hle := hle.tr l_T7
  refine lv_iconst (v := 0) X.1 X.2.1 dX8_stop_26 (by decide) ?_
  exact kp_reti X hr hlocks h hle rfl hw dX8_stop_27
theorem dX8_list_0 : decode cX8_list 0 = .ok (.iconst 0, 1) := by decide +kernel
theorem dX8_list_1 : decode cX8_list 1 = .ok (.istore_n 2, 1) := by decide +kernel
theorem dX8_list_2 : decode cX8_list 2 = .ok (.iconst 0, 1) := by decide +kernel
theorem dX8_list_3 : decode cX8_list 3 = .ok (.istore_n 3, 1) := by decide +kernel
theorem dX8_list_4 : decode cX8_list 4 = .ok (.iconst 0, 1) := by decide +kernel
theorem dX8_list_5 : decode cX8_list 5 = .ok (.istore 4, 2) := by decide +kernel
theorem dX8_list_7 : decode cX8_list 7 = .ok (.iload 4, 2) := by decide +kernel
theorem dX8_list_9 : decode cX8_list 9 = .ok (.sipush 3000, 3) := by decide +kernel
theorem dX8_list_12 : decode cX8_list 12 = .ok (.if_icmp .ge 53, 3) := by decide +kernel
theorem dX8_list_15 : decode cX8_list 15 = .ok (.iload_n 2, 1) := by decide +kernel
theorem dX8_list_16 : decode cX8_list 16 = .ok (.aload_n 0, 1) := by decide +kernel
theorem dX8_list_17 : decode cX8_list 17 = .ok (.getfield 36, 3) := by decide +kernel
theorem dX8_list_20 : decode cX8_list 20 = .ok (.invokevirtual 210, 3) := by decide +kernel
theorem dX8_list_23 : decode cX8_list 23 = .ok (.ior, 1) := by decide +kernel
theorem dX8_list_24 : decode cX8_list 24 = .ok (.istore_n 2, 1) := by decide +kernel
theorem dX8_list_25 : decode cX8_list 25 = .ok (.aload_n 0, 1) := by decide +kernel
theorem dX8_list_26 : decode cX8_list 26 = .ok (.getfield 27, 3) := by decide +kernel
theorem dX8_list_29 : decode cX8_list 29 = .ok (.iload_n 1, 1) := by decide +kernel
theorem dX8_list_30 : decode cX8_list 30 = .ok (.iload_n 3, 1) := by decide +kernel
theorem dX8_list_31 : decode cX8_list 31 = .ok (.invokevirtual 154, 3) := by decide +kernel
theorem dX8_list_34 : decode cX8_list 34 = .ok (.iconst 1, 1) := by decide +kernel
theorem dX8_list_35 : decode cX8_list 35 = .ok (.iadd, 1) := by decide +kernel
theorem dX8_list_36 : decode cX8_list 36 = .ok (.istore_n 3, 1) := by decide +kernel
theorem dX8_list_37 : decode cX8_list 37 = .ok (.aload_n 0, 1) := by decide +kernel
theorem dX8_list_38 : decode cX8_list 38 = .ok (.getfield 14, 3) := by decide +kernel
theorem dX8_list_41 : decode cX8_list 41 = .ok (.getfield 66, 3) := by decide +kernel
theorem dX8_list_44 : decode cX8_list 44 = .ok (.bipush 44, 2) := by decide +kernel
theorem dX8_list_46 : decode cX8_list 46 = .ok (.if_icmp .eq 6, 3) := by decide +kernel
theorem dX8_list_49 : decode cX8_list 49 = .ok (.goto 16, 3) := by decide +kernel
theorem dX8_list_52 : decode cX8_list 52 = .ok (.aload_n 0, 1) := by decide +kernel
theorem dX8_list_53 : decode cX8_list 53 = .ok (.getfield 14, 3) := by decide +kernel
theorem dX8_list_56 : decode cX8_list 56 = .ok (.invokevirtual 75, 3) := by decide +kernel
theorem dX8_list_59 : decode cX8_list 59 = .ok (.iinc 4 1, 3) := by decide +kernel
theorem dX8_list_62 : decode cX8_list 62 = .ok (.goto (-55), 3) := by decide +kernel
theorem dX8_list_65 : decode cX8_list 65 = .ok (.aload_n 0, 1) := by decide +kernel
theorem dX8_list_66 : decode cX8_list 66 = .ok (.getfield 27, 3) := by decide +kernel
theorem dX8_list_69 : decode cX8_list 69 = .ok (.bipush 22, 2) := by decide +kernel
theorem dX8_list_71 : decode cX8_list 71 = .ok (.iconst 0, 1) := by decide +kernel
theorem dX8_list_72 : decode cX8_list 72 = .ok (.invokevirtual 154, 3) := by decide +kernel
theorem dX8_list_75 : decode cX8_list 75 = .ok (.istore 4, 2) := by decide +kernel
theorem dX8_list_77 : decode cX8_list 77 = .ok (.aload_n 0, 1) := by decide +kernel
theorem dX8_list_78 : decode cX8_list 78 = .ok (.getfield 27, 3) := by decide +kernel
theorem dX8_list_81 : decode cX8_list 81 = .ok (.iload_n 3, 1) := by decide +kernel
theorem dX8_list_82 : decode cX8_list 82 = .ok (.iload 4, 2) := by decide +kernel
theorem dX8_list_84 : decode cX8_list 84 = .ok (.iconst 2, 1) := by decide +kernel
theorem dX8_list_85 : decode cX8_list 85 = .ok (.iadd, 1) := by decide +kernel
theorem dX8_list_86 : decode cX8_list 86 = .ok (.invokevirtual 240, 3) := by decide +kernel
theorem dX8_list_89 : decode cX8_list 89 = .ok (.iload_n 2, 1) := by decide +kernel
theorem dX8_list_90 : decode cX8_list 90 = .ok (.ireturn, 1) := by decide +kernel
def wX8_list_b65 (a0 : Nat) (x1 : Int32) (xn2 : Int32) (xn3 : Int32)  (Sn : kp_S) (post : Int32 → kp_S → Prop) : Prop :=
  ∃ b1001 : Nat, kp_R Sn 1603 a0 = some b1001 ∧
  wX0_add_ b1001 22 0 Sn (fun y1003 T1002 =>
  ∃ b1004 : Nat, kp_R T1002 1603 a0 = some b1004 ∧
  wX0_setChain b1004 xn3 (y1003 + 2) T1002 (fun T1005 =>
  post xn2 T1005))
def wX8_list_L7 (a0 : Nat) (x1 : Int32)  (post : Int32 → kp_S → Prop) : Nat → Int32 → Int32 → Int32 → kp_S → Prop
  | 0, _, _, _, _ => False
  | n + 1, xn2, xn3, xn4, Sn =>
  ((3000 ≤ xn4 →
  wX8_list_b65 a0 x1 xn2 xn3  Sn post) ∧ (¬ 3000 ≤ xn4 →
  ∃ b2001 : Nat, kp_R Sn 1602 a0 = some b2001 ∧
  wX2_whole_t b2001 Sn (fun y2003 T2002 =>
  ∀ y2004 : Int32, y2004 = (xn2 ||| y2003) →
  ∃ b2005 : Nat, kp_R T2002 1603 a0 = some b2005 ∧
  wX0_add_ b2005 x1 xn3 T2002 (fun y2007 T2006 =>
  ∀ y2008 : Int32, y2008 = (y2007 + 1) →
  ∃ b2009 : Nat, kp_R T2006 1600 a0 = some b2009 ∧
  (((kp_I T2006 1805 b2009) = 44 →
  wX9_advance b2009 T2006 (fun T2010 =>
  ∀ y2011 : Int32, y2011 = xn4 + 1 →
  wX8_list_L7 a0 x1  post n y2004 y2008 y2011 T2010)) ∧ (¬ (kp_I T2006 1805 b2009) = 44 →
  wX8_list_b65 a0 x1 y2004 y2008  T2006 post))))))
def wX8_list (a0 : Nat) (x1 : Int32) (S : kp_S) (post : Int32 → kp_S → Prop) : Prop :=
  ∃ n0 : Nat, wX8_list_L7 a0 x1  post n0 0 0 0 S
set_option maxHeartbeats 4000000 in
set_option maxRecDepth 100000 in
theorem c_X8_list (l : Launch) (D : va_G) (cy : Nat → ClassId) (ad : (Nat → Nat) × (Nat → Nat)) (S : kp_S) (a0 : Nat) (x1 : Int32) (post : Int32 → kp_S → Prop) (hS : kp_ok S) (f_a0 : kp_is S a0 8) (hw : wX8_list a0 x1 S post) : kp_M l yX8_list cX8_list 5 (some .int) { frames := 190, cells := 0, slots := 0, locals := 4362 } D cy ad S [.ref a0, .int x1] 0 0 (fun A => kp_Qi D cy A S post) := by
  refine kp_start (own := RX8) (by decide) rfl (Nat.le_of_ble_eq_true rfl) hS ?_
  intro p e s m below meth c A ls X hr hlocks hname h hl
  have hle : kp_le S S := kp_le.rf
  have hl : lv_has ls 5 [(0, .ref a0), (1, .int x1)] := hl
  have j65 : ∀ (xn2 : Int32) (xn3 : Int32) (Sn : kp_S) (H : Heap) (locs : List Loc) (ls : Array Slot), lv_has ls 5 [(0, .ref a0), (2, .int xn2), (3, .int xn3)] → kp_H D cy A Sn s.heap H locs → kp_le S Sn → kp_is Sn a0 8 → wX8_list_b65 a0 x1 xn2 xn3  Sn post → W p l e { frames := 190, cells := 0, slots := 0, locals := 4362 } s m ([.ref a0, .int x1] : List Value).toArray below meth c H locs 0 0 (MQ below (kp_Qi D cy A S post) ([.ref a0, .int x1] : List Value).toArray s 0 0 A) (F0 m 65 ls []) := by
    intro xn2 xn3 Sn H locs ls hl h hle f_a0 hw
    unfold wX8_list_b65 at hw
    refine lv_aload_n X.1 X.2.1 dX8_list_65 rfl (lv_at hl 0 rfl) ?_
    obtain ⟨b1001, e_b1001, hw⟩ := hw
    have f_b1001 := h.2.2.2.rf (c := 8) (k := 3) f_a0 (by decide) (by decide) e_b1001 (t := 0) rfl
    refine kp_get X h f_a0 fp_8_27.l (v := .ref b1001) (congrArg va_rf e_b1001) dX8_list_66 ?_
    refine lv_bipush (v := 22) X.1 X.2.1 dX8_list_69 (by decide) ?_
    refine lv_iconst (v := 0) X.1 X.2.1 dX8_list_71 (by decide) ?_
    refine kp_calli X h (kp_runV (rm := { frames := 1, cells := 0, slots := 0, locals := 22 }) (mc := 0) (ms := 0) (rest := []) (Qc := fun A => kp_Qi D cy A Sn _) X h (c_X0_add_ l D cy ad Sn b1001 22 0 _ h.2.2.2 f_b1001 hw) f_b1001 cv_8_154 ⟨by decide, by decide, rfl, rfl, by decide, by decide⟩ rfl hl.1 rfl (Nat.le_of_ble_eq_true rfl) dX8_list_72) (fun y1003 T1002 hw l_T1002 H locs h => ?_)
    have f_a0 := l_T1002.is f_a0
    have f_b1001 := l_T1002.is f_b1001
    have hle := hle.tr l_T1002
    refine lv_istore (lv' := [(4, .int y1003), (0, .ref a0), (2, .int xn2), (3, .int xn3)]) X.1 X.2.1 dX8_list_75 hl (by decide) rfl (fun ls hl => ?_)
    refine lv_aload_n X.1 X.2.1 dX8_list_77 rfl (lv_at hl 1 rfl) ?_
    obtain ⟨b1004, e_b1004, hw⟩ := hw
    have f_b1004 := h.2.2.2.rf (c := 8) (k := 3) f_a0 (by decide) (by decide) e_b1004 (t := 0) rfl
    refine kp_get X h f_a0 fp_8_27.l (v := .ref b1004) (congrArg va_rf e_b1004) dX8_list_78 ?_
    refine lv_iload_n X.1 X.2.1 dX8_list_81 rfl (lv_at hl 3 rfl) ?_
    refine lv_iload X.1 X.2.1 dX8_list_82 (lv_at hl 0 rfl) ?_
    refine lv_iconst (v := 2) X.1 X.2.1 dX8_list_84 (by decide) ?_
    refine lv_iadd X.1 X.2.1 dX8_list_85 ?_
    refine kp_callv X h (kp_runV (rm := { frames := 0, cells := 0, slots := 0, locals := 0 }) (mc := 0) (ms := 0) (rest := []) (Qc := fun A => kp_Qv D cy A T1002 _) X h (c_X0_setChain l D cy ad T1002 b1004 xn3 (y1003 + 2) _ h.2.2.2 f_b1004 hw) f_b1004 cv_8_240 ⟨by decide, by decide, rfl, rfl, by decide, by decide⟩ rfl hl.1 rfl (Nat.le_of_ble_eq_true rfl) dX8_list_86) (fun T1005 hw l_T1005 H locs h => ?_)
    have f_a0 := l_T1005.is f_a0
    have f_b1001 := l_T1005.is f_b1001
    have f_b1004 := l_T1005.is f_b1004
    have hle := hle.tr l_T1005
    refine lv_iload_n X.1 X.2.1 dX8_list_89 rfl (lv_at hl 2 rfl) ?_
    exact kp_reti X hr hlocks h hle rfl hw dX8_list_90
  have L7 : ∀ n7 : Nat, ∀ (xn2 : Int32) (xn3 : Int32) (xn4 : Int32) (Sn : kp_S) (H : Heap) (locs : List Loc) (ls : Array Slot), lv_has ls 5 [(0, .ref a0), (1, .int x1), (2, .int xn2), (3, .int xn3), (4, .int xn4)] → kp_H D cy A Sn s.heap H locs → kp_le S Sn → kp_is Sn a0 8 → wX8_list_L7 a0 x1  post n7 xn2 xn3 xn4 Sn → W p l e { frames := 190, cells := 0, slots := 0, locals := 4362 } s m ([.ref a0, .int x1] : List Value).toArray below meth c H locs 0 0 (MQ below (kp_Qi D cy A S post) ([.ref a0, .int x1] : List Value).toArray s 0 0 A) (F0 m 7 ls []) := by
    intro n7
    induction n7 with
    | zero => intro xn2 xn3 xn4 Sn H locs ls hl h hle f_a0 hw; exact hw.elim
    | succ n7 ih7 =>
      intro xn2 xn3 xn4 Sn H locs ls hl h hle f_a0 hw
      unfold wX8_list_L7 at hw
      refine lv_iload X.1 X.2.1 dX8_list_7 (lv_at hl 4 rfl) ?_
      refine lv_sipush (v := 3000) X.1 X.2.1 dX8_list_9 (by decide) ?_
      refine lv_icmp_ge (tgt := 65) X.1 X.2.1 dX8_list_12 (by decide) (fun c2013 => ?_) (fun c2013 => ?_)
      · have hw := hw.1 c2013
        exact j65 xn2 xn3 Sn H locs ls (lv_sub hl [0, 2, 3] rfl) h hle f_a0 hw
      · have hw := hw.2 c2013
        refine lv_iload_n X.1 X.2.1 dX8_list_15 rfl (lv_at hl 2 rfl) ?_
        refine lv_aload_n X.1 X.2.1 dX8_list_16 rfl (lv_at hl 0 rfl) ?_
        obtain ⟨b2001, e_b2001, hw⟩ := hw
        have f_b2001 := h.2.2.2.rf (c := 8) (k := 2) f_a0 (by decide) (by decide) e_b2001 (t := 2) rfl
        refine kp_get X h f_a0 ff_8_36.l (v := .ref b2001) (congrArg va_rf e_b2001) dX8_list_17 ?_
        refine kp_calli X h (kp_runV (rm := { frames := 189, cells := 0, slots := 0, locals := 4339 }) (mc := 0) (ms := 0) (rest := [.int xn2]) (Qc := fun A => kp_Qi D cy A Sn _) X h (c_X2_whole_t l D cy ad Sn b2001 _ h.2.2.2 f_b2001 hw) f_b2001 cv_8_210 ⟨by decide, by decide, rfl, rfl, by decide, by decide⟩ rfl hl.1 rfl (Nat.le_of_ble_eq_true rfl) dX8_list_20) (fun y2003 T2002 hw l_T2002 H locs h => ?_)
        have f_a0 := l_T2002.is f_a0
        have f_b2001 := l_T2002.is f_b2001
        have hle := hle.tr l_T2002
        refine lv_ior X.1 X.2.1 dX8_list_23 ?_
        refine lv_topi (fun y2004 e_y2004 => ?_)
        have hw := hw y2004 e_y2004
        refine lv_istore_n (lv' := [(2, .int y2004), (0, .ref a0), (1, .int x1), (3, .int xn3), (4, .int xn4)]) X.1 X.2.1 dX8_list_24 rfl hl (by decide) rfl (fun ls hl => ?_)
        refine lv_aload_n X.1 X.2.1 dX8_list_25 rfl (lv_at hl 1 rfl) ?_
        obtain ⟨b2005, e_b2005, hw⟩ := hw
        have f_b2005 := h.2.2.2.rf (c := 8) (k := 3) f_a0 (by decide) (by decide) e_b2005 (t := 0) rfl
        refine kp_get X h f_a0 fp_8_27.l (v := .ref b2005) (congrArg va_rf e_b2005) dX8_list_26 ?_
        refine lv_iload_n X.1 X.2.1 dX8_list_29 rfl (lv_at hl 2 rfl) ?_
        refine lv_iload_n X.1 X.2.1 dX8_list_30 rfl (lv_at hl 3 rfl) ?_
        refine kp_calli X h (kp_runV (rm := { frames := 1, cells := 0, slots := 0, locals := 22 }) (mc := 0) (ms := 0) (rest := []) (Qc := fun A => kp_Qi D cy A T2002 _) X h (c_X0_add_ l D cy ad T2002 b2005 x1 xn3 _ h.2.2.2 f_b2005 hw) f_b2005 cv_8_154 ⟨by decide, by decide, rfl, rfl, by decide, by decide⟩ rfl hl.1 rfl (Nat.le_of_ble_eq_true rfl) dX8_list_31) (fun y2007 T2006 hw l_T2006 H locs h => ?_)
        have f_a0 := l_T2006.is f_a0
        have f_b2001 := l_T2006.is f_b2001
        have f_b2005 := l_T2006.is f_b2005
        have hle := hle.tr l_T2006
        refine lv_iconst (v := 1) X.1 X.2.1 dX8_list_34 (by decide) ?_
        refine lv_iadd X.1 X.2.1 dX8_list_35 ?_
        refine lv_topi (fun y2008 e_y2008 => ?_)
        have hw := hw y2008 e_y2008
        refine lv_istore_n (lv' := [(3, .int y2008), (2, .int y2004), (0, .ref a0), (1, .int x1), (4, .int xn4)]) X.1 X.2.1 dX8_list_36 rfl hl (by decide) rfl (fun ls hl => ?_)
        refine lv_aload_n X.1 X.2.1 dX8_list_37 rfl (lv_at hl 2 rfl) ?_
        obtain ⟨b2009, e_b2009, hw⟩ := hw
        have f_b2009 := h.2.2.2.rf (c := 8) (k := 0) f_a0 (by decide) (by decide) e_b2009 (t := 9) rfl
        refine kp_get X h f_a0 ff_8_14.l (v := .ref b2009) (congrArg va_rf e_b2009) dX8_list_38 ?_
        refine kp_get X h f_b2009 fp_8_66.l (v := .int (kp_I T2006 1805 b2009)) rfl dX8_list_41 ?_
        refine lv_bipush (v := 44) X.1 X.2.1 dX8_list_44 (by decide) ?_
        refine lv_icmp_eq (tgt := 52) X.1 X.2.1 dX8_list_46 (by decide) (fun c2012 => ?_) (fun c2012 => ?_)
        · have hw := hw.1 c2012
          refine lv_aload_n X.1 X.2.1 dX8_list_52 rfl (lv_at hl 2 rfl) ?_
          refine kp_get X h f_a0 ff_8_14.l (v := .ref b2009) (congrArg va_rf e_b2009) dX8_list_53 ?_
          refine kp_callv X h (kp_runV (rm := { frames := 5, cells := 0, slots := 0, locals := 113 }) (mc := 0) (ms := 0) (rest := []) (Qc := fun A => kp_Qv D cy A T2006 _) X h (c_X9_advance l D cy ad T2006 b2009 _ h.2.2.2 f_b2009 hw) f_b2009 cv_8_75 ⟨by decide, by decide, rfl, rfl, by decide, by decide⟩ rfl hl.1 rfl (Nat.le_of_ble_eq_true rfl) dX8_list_56) (fun T2010 hw l_T2010 H locs h => ?_)
          have f_a0 := l_T2010.is f_a0
          have f_b2001 := l_T2010.is f_b2001
          have f_b2005 := l_T2010.is f_b2005
          have f_b2009 := l_T2010.is f_b2009
          have hle := hle.tr l_T2010
          obtain ⟨y2011, e_y2011⟩ : ∃ y : Int32, y = xn4 + 1 := ⟨_, rfl⟩
          have hw := hw y2011 e_y2011
          refine lv_iinc (v := y2011) (lv' := [(4, .int y2011), (3, .int y2008), (2, .int y2004), (0, .ref a0), (1, .int x1)]) X.1 X.2.1 dX8_list_59 hl (k := 4) rfl (by rw [e_y2011]; rfl) (by decide) rfl (fun ls hl => ?_)
          refine lv_goto (tgt := 7) X.1 X.2.1 dX8_list_62 (by decide) ?_
          exact ih7 y2004 y2008 y2011 T2010 H locs ls (lv_sub hl [3, 4, 2, 1, 0] rfl) h hle f_a0 hw
        · have hw := hw.2 c2012
          refine lv_goto (tgt := 65) X.1 X.2.1 dX8_list_49 (by decide) ?_
          exact j65 y2004 y2008 T2006 H locs ls (lv_sub hl [2, 1, 0] rfl) h hle f_a0 hw
  unfold wX8_list at hw
  have h : kp_H D cy A S s.heap s.heap [] := h
  revert h
  intro h
  refine lv_iconst (v := 0) X.1 X.2.1 dX8_list_0 (by decide) ?_
  refine lv_istore_n (lv' := [(2, .int 0), (0, .ref a0), (1, .int x1)]) X.1 X.2.1 dX8_list_1 rfl hl (by decide) rfl (fun ls hl => ?_)
  refine lv_iconst (v := 0) X.1 X.2.1 dX8_list_2 (by decide) ?_
  refine lv_istore_n (lv' := [(3, .int 0), (2, .int 0), (0, .ref a0), (1, .int x1)]) X.1 X.2.1 dX8_list_3 rfl hl (by decide) rfl (fun ls hl => ?_)
  refine lv_iconst (v := 0) X.1 X.2.1 dX8_list_4 (by decide) ?_
  refine lv_istore (lv' := [(4, .int 0), (3, .int 0), (2, .int 0), (0, .ref a0), (1, .int x1)]) X.1 X.2.1 dX8_list_5 hl (by decide) rfl (fun ls hl => ?_)
  obtain ⟨n0, hw⟩ := hw
  exact L7 n0 0 0 0 S _ _ ls (lv_sub hl [3, 4, 2, 1, 0] rfl) h hle f_a0 hw
theorem dX8_dropForAny_0 : decode cX8_dropForAny 0 = .ok (.aload_n 0, 1) := by decide +kernel
theorem dX8_dropForAny_1 : decode cX8_dropForAny 1 = .ok (.getfield 14, 3) := by decide +kernel
theorem dX8_dropForAny_4 : decode cX8_dropForAny 4 = .ok (.invokevirtual 75, 3) := by decide +kernel
theorem dX8_dropForAny_7 : decode cX8_dropForAny 7 = .ok (.aload_n 0, 1) := by decide +kernel
theorem dX8_dropForAny_8 : decode cX8_dropForAny 8 = .ok (.getfield 27, 3) := by decide +kernel
theorem dX8_dropForAny_11 : decode cX8_dropForAny 11 = .ok (.bipush 26, 2) := by decide +kernel
theorem dX8_dropForAny_13 : decode cX8_dropForAny 13 = .ok (.iconst 1, 1) := by decide +kernel
theorem dX8_dropForAny_14 : decode cX8_dropForAny 14 = .ok (.invokevirtual 154, 3) := by decide +kernel
theorem dX8_dropForAny_17 : decode cX8_dropForAny 17 = .ok (.pop, 1) := by decide +kernel
theorem dX8_dropForAny_18 : decode cX8_dropForAny 18 = .ok (.iconst 0, 1) := by decide +kernel
theorem dX8_dropForAny_19 : decode cX8_dropForAny 19 = .ok (.ireturn, 1) := by decide +kernel
def wX8_dropForAny (a0 : Nat) (S : kp_S) (post : Int32 → kp_S → Prop) : Prop :=
  ∃ b1 : Nat, kp_R S 1600 a0 = some b1 ∧
  wX9_advance b1 S (fun T2 =>
  ∃ b3 : Nat, kp_R T2 1603 a0 = some b3 ∧
  wX0_add_ b3 26 1 T2 (fun y5 T4 =>
  post 0 T4))
set_option maxHeartbeats 4000000 in
set_option maxRecDepth 100000 in
theorem c_X8_dropForAny (l : Launch) (D : va_G) (cy : Nat → ClassId) (ad : (Nat → Nat) × (Nat → Nat)) (S : kp_S) (a0 : Nat) (post : Int32 → kp_S → Prop) (hS : kp_ok S) (f_a0 : kp_is S a0 8) (hw : wX8_dropForAny a0 S post) : kp_M l yX8_dropForAny cX8_dropForAny 1 (some .int) { frames := 6, cells := 0, slots := 0, locals := 134 } D cy ad S [.ref a0] 0 0 (fun A => kp_Qi D cy A S post) := by
  refine kp_start (own := RX8) (by decide) rfl (Nat.le_of_ble_eq_true rfl) hS ?_
  intro p e s m below meth c A ls X hr hlocks hname h hl
  have hle : kp_le S S := kp_le.rf
  have hl : lv_has ls 1 [(0, .ref a0)] := hl
  unfold wX8_dropForAny at hw
  have h : kp_H D cy A S s.heap s.heap [] := h
  revert h
  intro h
  refine lv_aload_n X.1 X.2.1 dX8_dropForAny_0 rfl (lv_at hl 0 rfl) ?_
  obtain ⟨b1, e_b1, hw⟩ := hw
  have f_b1 := h.2.2.2.rf (c := 8) (k := 0) f_a0 (by decide) (by decide) e_b1 (t := 9) rfl
  refine kp_get X h f_a0 ff_8_14.l (v := .ref b1) (congrArg va_rf e_b1) dX8_dropForAny_1 ?_
  refine kp_callv X h (kp_runV (rm := { frames := 5, cells := 0, slots := 0, locals := 113 }) (mc := 0) (ms := 0) (rest := []) (Qc := fun A => kp_Qv D cy A S _) X h (c_X9_advance l D cy ad S b1 _ h.2.2.2 f_b1 hw) f_b1 cv_8_75 ⟨by decide, by decide, rfl, rfl, by decide, by decide⟩ rfl hl.1 rfl (Nat.le_of_ble_eq_true rfl) dX8_dropForAny_4) (fun T2 hw l_T2 H locs h => ?_)
  have f_a0 := l_T2.is f_a0
  have f_b1 := l_T2.is f_b1
  have hle := hle.tr l_T2
  refine lv_aload_n X.1 X.2.1 dX8_dropForAny_7 rfl (lv_at hl 0 rfl) ?_
  obtain ⟨b3, e_b3, hw⟩ := hw
  have f_b3 := h.2.2.2.rf (c := 8) (k := 3) f_a0 (by decide) (by decide) e_b3 (t := 0) rfl
  refine kp_get X h f_a0 fp_8_27.l (v := .ref b3) (congrArg va_rf e_b3) dX8_dropForAny_8 ?_
  refine lv_bipush (v := 26) X.1 X.2.1 dX8_dropForAny_11 (by decide) ?_
  refine lv_iconst (v := 1) X.1 X.2.1 dX8_dropForAny_13 (by decide) ?_
  refine kp_calli X h (kp_runV (rm := { frames := 1, cells := 0, slots := 0, locals := 22 }) (mc := 0) (ms := 0) (rest := []) (Qc := fun A => kp_Qi D cy A T2 _) X h (c_X0_add_ l D cy ad T2 b3 26 1 _ h.2.2.2 f_b3 hw) f_b3 cv_8_154 ⟨by decide, by decide, rfl, rfl, by decide, by decide⟩ rfl hl.1 rfl (Nat.le_of_ble_eq_true rfl) dX8_dropForAny_14) (fun y5 T4 hw l_T4 H locs h => ?_)
  have f_a0 := l_T4.is f_a0
  have f_b1 := l_T4.is f_b1
  have f_b3 := l_T4.is f_b3
  have hle := hle.tr l_T4
  refine lv_pop X.1 X.2.1 dX8_dropForAny_17 rfl ?_
  refine lv_iconst (v := 0) X.1 X.2.1 dX8_dropForAny_18 (by decide) ?_
  exact kp_reti X hr hlocks h hle rfl hw dX8_dropForAny_19
