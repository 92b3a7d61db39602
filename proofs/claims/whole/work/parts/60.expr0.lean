set_option maxRecDepth 100000 in
theorem cl_2 : kp_CL 2 RX2 TX2 3 := ⟨rfl, by decide, rfl, by decide +kernel, tyX2_ok, nmX2⟩
theorem fp_2_19 : kp_FP RX2 19 2 2 := ⟨RX2, TX2, 3, cl_2, by decide, kp_mem 419 (by decide +kernel) (by decide +kernel), rfl⟩
theorem cv_2_49 : kp_CV RX2 49 yX0_add cX0_add 3 (some .int) 1 0 := ⟨⟨kp_mem 869 (by decide +kernel) (by decide +kernel), kp_mem 205 (by decide +kernel) (by decide +kernel), by decide +kernel⟩, kp_mem 920 (by decide +kernel) (by decide +kernel), kp_mem 867 (by decide +kernel) (by decide +kernel), kp_mem 868 (by decide +kernel) (by decide +kernel), by decide, TX0, 4, rfl⟩
theorem cv_2_52 : kp_CV RX2 52 yX0_size cX0_size 1 (some .int) 0 0 := ⟨⟨kp_mem 968 (by decide +kernel) (by decide +kernel), kp_mem 205 (by decide +kernel) (by decide +kernel), by decide +kernel⟩, kp_mem 965 (by decide +kernel) (by decide +kernel), kp_mem 966 (by decide +kernel) (by decide +kernel), kp_mem 967 (by decide +kernel) (by decide +kernel), by decide, TX0, 4, rfl⟩
theorem cv_2_55 : kp_CV RX2 55 yX0_set cX0_set 3 none 2 0 := ⟨⟨kp_mem 972 (by decide +kernel) (by decide +kernel), kp_mem 205 (by decide +kernel) (by decide +kernel), by decide +kernel⟩, kp_mem 969 (by decide +kernel) (by decide +kernel), kp_mem 970 (by decide +kernel) (by decide +kernel), kp_mem 971 (by decide +kernel) (by decide +kernel), by decide, TX0, 4, rfl⟩
theorem ff_2_9 : kp_FF RX2 9 2 0 := ⟨RX2, TX2, 3, cl_2, by decide, kp_mem 417 (by decide +kernel) (by decide +kernel), rfl, rfl⟩
theorem fp_2_114 : kp_FP RX2 114 9 7 := ⟨RX9, TX9, 11, cl_9, by decide, kp_mem 331 (by decide +kernel) (by decide +kernel), rfl⟩
theorem cv_2_33 : kp_CV RX2 33 yX9_advance cX9_advance 2 none 0 9 := ⟨⟨kp_mem 685 (by decide +kernel) (by decide +kernel), kp_mem 207 (by decide +kernel) (by decide +kernel), by decide +kernel⟩, kp_mem 931 (by decide +kernel) (by decide +kernel), kp_mem 683 (by decide +kernel) (by decide +kernel), kp_mem 684 (by decide +kernel) (by decide +kernel), by decide, TX9, 11, rfl⟩
theorem cv_2_38 : kp_CV RX2 38 yX0_add_ cX0_add_ 4 (some .int) 2 0 := ⟨⟨kp_mem 865 (by decide +kernel) (by decide +kernel), kp_mem 205 (by decide +kernel) (by decide +kernel), by decide +kernel⟩, kp_mem 932 (by decide +kernel) (by decide +kernel), kp_mem 863 (by decide +kernel) (by decide +kernel), kp_mem 864 (by decide +kernel) (by decide +kernel), by decide, TX0, 4, rfl⟩
theorem dX2_writeTo_0 : decode cX2_writeTo 0 = .ok (.aload_n 0, 1) := by decide +kernel
theorem dX2_writeTo_1 : decode cX2_writeTo 1 = .ok (.aload_n 1, 1) := by decide +kernel
theorem dX2_writeTo_2 : decode cX2_writeTo 2 = .ok (.putfield 19, 3) := by decide +kernel
theorem dX2_writeTo_5 : decode cX2_writeTo 5 = .ok (.return_, 1) := by decide +kernel
def wX2_writeTo (a0 : Nat) (a1 : Nat) (S : kp_S) (post : kp_S → Prop) : Prop :=
  ∀ T1 : kp_S, T1 = kp_sR S 402 a0 a1 →
  post T1
set_option maxHeartbeats 4000000 in
set_option maxRecDepth 100000 in
theorem c_X2_writeTo (l : Launch) (D : va_G) (cy : Nat → ClassId) (ad : (Nat → Nat) × (Nat → Nat)) (S : kp_S) (a0 : Nat) (a1 : Nat) (post : kp_S → Prop) (hS : kp_ok S) (f_a0 : kp_is S a0 2) (f_a1 : kp_is S a1 0) (hw : wX2_writeTo a0 a1 S post) : kp_M l yX2_writeTo cX2_writeTo 2 none { frames := 0, cells := 0, slots := 0, locals := 0 } D cy ad S [.ref a0, .ref a1] 0 0 (fun A => kp_Qv D cy A S post) := by
  refine kp_start (own := RX2) (by decide) rfl (Nat.le_of_ble_eq_true rfl) hS ?_
  intro p e s m below meth c A ls X hr hlocks hname h hl
  have hle : kp_le S S := kp_le.rf
  have hl : lv_has ls 2 [(0, .ref a0), (1, .ref a1)] := hl
  unfold wX2_writeTo at hw
  have h : kp_H D cy A S s.heap s.heap [] := h
  revert h
  intro h
  refine lv_aload_n X.1 X.2.1 dX2_writeTo_0 rfl (lv_at hl 0 rfl) ?_
  refine lv_aload_n X.1 X.2.1 dX2_writeTo_1 rfl (lv_at hl 1 rfl) ?_
  refine kp_putR X h f_a0 fp_2_19 f_a1 rfl ⟨by decide, by decide⟩ ⟨rfl, rfl⟩ dX2_writeTo_2 (fun T1 e_T1 l_T1 H locs h => ?_)
  have hw := hw T1 e_T1
  have f_a0 := l_T1.is f_a0
  have f_a1 := l_T1.is f_a1
  have hle := hle.tr l_T1
  exact kp_retv X hr hlocks h hle hw dX2_writeTo_5
theorem dX2_endJoined_0 : decode cX2_endJoined 0 = .ok (.aload_n 0, 1) := by decide +kernel
theorem dX2_endJoined_1 : decode cX2_endJoined 1 = .ok (.getfield 19, 3) := by decide +kernel
theorem dX2_endJoined_4 : decode cX2_endJoined 4 = .ok (.bipush 7, 2) := by decide +kernel
theorem dX2_endJoined_6 : decode cX2_endJoined 6 = .ok (.invokevirtual 49, 3) := by decide +kernel
theorem dX2_endJoined_9 : decode cX2_endJoined 9 = .ok (.pop, 1) := by decide +kernel
theorem dX2_endJoined_10 : decode cX2_endJoined 10 = .ok (.aload_n 0, 1) := by decide +kernel
theorem dX2_endJoined_11 : decode cX2_endJoined 11 = .ok (.getfield 19, 3) := by decide +kernel
theorem dX2_endJoined_14 : decode cX2_endJoined 14 = .ok (.iload_n 1, 1) := by decide +kernel
theorem dX2_endJoined_15 : decode cX2_endJoined 15 = .ok (.iconst 1, 1) := by decide +kernel
theorem dX2_endJoined_16 : decode cX2_endJoined 16 = .ok (.iadd, 1) := by decide +kernel
theorem dX2_endJoined_17 : decode cX2_endJoined 17 = .ok (.aload_n 0, 1) := by decide +kernel
theorem dX2_endJoined_18 : decode cX2_endJoined 18 = .ok (.getfield 19, 3) := by decide +kernel
theorem dX2_endJoined_21 : decode cX2_endJoined 21 = .ok (.invokevirtual 52, 3) := by decide +kernel
theorem dX2_endJoined_24 : decode cX2_endJoined 24 = .ok (.invokevirtual 55, 3) := by decide +kernel
theorem dX2_endJoined_27 : decode cX2_endJoined 27 = .ok (.return_, 1) := by decide +kernel
def wX2_endJoined (a0 : Nat) (x1 : Int32) (S : kp_S) (post : kp_S → Prop) : Prop :=
  ∃ b1 : Nat, kp_R S 402 a0 = some b1 ∧
  wX0_add b1 7 S (fun y3 T2 =>
  ∃ b4 : Nat, kp_R T2 402 a0 = some b4 ∧
  wX0_size b4 T2 (fun y6 T5 =>
  wX0_set b4 (x1 + 1) y6 T5 (fun T7 =>
  post T7)))
set_option maxHeartbeats 4000000 in
set_option maxRecDepth 100000 in
theorem c_X2_endJoined (l : Launch) (D : va_G) (cy : Nat → ClassId) (ad : (Nat → Nat) × (Nat → Nat)) (S : kp_S) (a0 : Nat) (x1 : Int32) (post : kp_S → Prop) (hS : kp_ok S) (f_a0 : kp_is S a0 2) (hw : wX2_endJoined a0 x1 S post) : kp_M l yX2_endJoined cX2_endJoined 2 none { frames := 1, cells := 0, slots := 0, locals := 22 } D cy ad S [.ref a0, .int x1] 0 0 (fun A => kp_Qv D cy A S post) := by
  refine kp_start (own := RX2) (by decide) rfl (Nat.le_of_ble_eq_true rfl) hS ?_
  intro p e s m below meth c A ls X hr hlocks hname h hl
  have hle : kp_le S S := kp_le.rf
  have hl : lv_has ls 2 [(0, .ref a0), (1, .int x1)] := hl
  unfold wX2_endJoined at hw
  have h : kp_H D cy A S s.heap s.heap [] := h
  revert h
  intro h
  refine lv_aload_n X.1 X.2.1 dX2_endJoined_0 rfl (lv_at hl 0 rfl) ?_
  obtain ⟨b1, e_b1, hw⟩ := hw
  have f_b1 := h.2.2.2.rf (c := 2) (k := 2) f_a0 (by decide) (by decide) e_b1 (t := 0) rfl
  refine kp_get X h f_a0 fp_2_19.l (v := .ref b1) (congrArg va_rf e_b1) dX2_endJoined_1 ?_
  refine lv_bipush (v := 7) X.1 X.2.1 dX2_endJoined_4 (by decide) ?_
  refine kp_calli X h (kp_runV (rm := { frames := 0, cells := 0, slots := 0, locals := 0 }) (mc := 0) (ms := 0) (rest := []) (Qc := fun A => kp_Qi D cy A S _) X h (c_X0_add l D cy ad S b1 7 _ h.2.2.2 f_b1 hw) f_b1 cv_2_49 ⟨by decide, by decide, rfl, rfl, by decide, by decide⟩ rfl hl.1 rfl (Nat.le_of_ble_eq_true rfl) dX2_endJoined_6) (fun y3 T2 hw l_T2 H locs h => ?_)
  have f_a0 := l_T2.is f_a0
  have f_b1 := l_T2.is f_b1
  have hle := hle.tr l_T2
  refine lv_pop X.1 X.2.1 dX2_endJoined_9 rfl ?_
  refine lv_aload_n X.1 X.2.1 dX2_endJoined_10 rfl (lv_at hl 0 rfl) ?_
  obtain ⟨b4, e_b4, hw⟩ := hw
  have f_b4 := h.2.2.2.rf (c := 2) (k := 2) f_a0 (by decide) (by decide) e_b4 (t := 0) rfl
  refine kp_get X h f_a0 fp_2_19.l (v := .ref b4) (congrArg va_rf e_b4) dX2_endJoined_11 ?_
  refine lv_iload_n X.1 X.2.1 dX2_endJoined_14 rfl (lv_at hl 1 rfl) ?_
  refine lv_iconst (v := 1) X.1 X.2.1 dX2_endJoined_15 (by decide) ?_
  refine lv_iadd X.1 X.2.1 dX2_endJoined_16 ?_
  refine lv_aload_n X.1 X.2.1 dX2_endJoined_17 rfl (lv_at hl 0 rfl) ?_
  refine kp_get X h f_a0 fp_2_19.l (v := .ref b4) (congrArg va_rf e_b4) dX2_endJoined_18 ?_
  refine kp_calli X h (kp_runV (rm := { frames := 0, cells := 0, slots := 0, locals := 0 }) (mc := 0) (ms := 0) (rest := [.int (x1 + 1), .ref b4]) (Qc := fun A => kp_Qi D cy A T2 _) X h (c_X0_size l D cy ad T2 b4 _ h.2.2.2 f_b4 hw) f_b4 cv_2_52 ⟨by decide, by decide, rfl, rfl, by decide, by decide⟩ rfl hl.1 rfl (Nat.le_of_ble_eq_true rfl) dX2_endJoined_21) (fun y6 T5 hw l_T5 H locs h => ?_)
  have f_a0 := l_T5.is f_a0
  have f_b1 := l_T5.is f_b1
  have f_b4 := l_T5.is f_b4
  have hle := hle.tr l_T5
  refine kp_callv X h (kp_runV (rm := { frames := 0, cells := 0, slots := 0, locals := 0 }) (mc := 0) (ms := 0) (rest := []) (Qc := fun A => kp_Qv D cy A T5 _) X h (c_X0_set l D cy ad T5 b4 (x1 + 1) y6 _ h.2.2.2 f_b4 hw) f_b4 cv_2_55 ⟨by decide, by decide, rfl, rfl, by decide, by decide⟩ rfl hl.1 rfl (Nat.le_of_ble_eq_true rfl) dX2_endJoined_24) (fun T7 hw l_T7 H locs h => ?_)
  have f_a0 := l_T7.is f_a0
  have f_b1 := l_T7.is f_b1
  have f_b4 := l_T7.is f_b4
  have hle := hle.tr l_T7
  exact kp_retv X hr hlocks h hle hw dX2_endJoined_27
theorem dX2_comparison_0 : decode cX2_comparison 0 = .ok (.iload_n 0, 1) := by decide +kernel
theorem dX2_comparison_1 : decode cX2_comparison 1 = .ok (.lookupswitch 55 #[(60, 49), (256, 43), (257, 46), (258, 52)], 43) := by decide +kernel
theorem dX2_comparison_44 : decode cX2_comparison 44 = .ok (.bipush 13, 2) := by decide +kernel
theorem dX2_comparison_46 : decode cX2_comparison 46 = .ok (.ireturn, 1) := by decide +kernel
theorem dX2_comparison_47 : decode cX2_comparison 47 = .ok (.bipush 14, 2) := by decide +kernel
theorem dX2_comparison_49 : decode cX2_comparison 49 = .ok (.ireturn, 1) := by decide +kernel
theorem dX2_comparison_50 : decode cX2_comparison 50 = .ok (.bipush 15, 2) := by decide +kernel
theorem dX2_comparison_52 : decode cX2_comparison 52 = .ok (.ireturn, 1) := by decide +kernel
theorem dX2_comparison_53 : decode cX2_comparison 53 = .ok (.bipush 16, 2) := by decide +kernel
theorem dX2_comparison_55 : decode cX2_comparison 55 = .ok (.ireturn, 1) := by decide +kernel
theorem dX2_comparison_56 : decode cX2_comparison 56 = .ok (.iconst (-1), 1) := by decide +kernel
theorem dX2_comparison_57 : decode cX2_comparison 57 = .ok (.ireturn, 1) := by decide +kernel
def wX2_comparison (x0 : Int32) (S : kp_S) (post : Int32 → kp_S → Prop) : Prop :=
  ((x0 = 60 →
  post 15 S) ∧ (¬ x0 = 60 →
  ((x0 = 256 →
  post 13 S) ∧ (¬ x0 = 256 →
  ((x0 = 257 →
  post 14 S) ∧ (¬ x0 = 257 →
  ((x0 = 258 →
  post 16 S) ∧ (¬ x0 = 258 →
  post (-1) S))))))))
set_option maxHeartbeats 4000000 in
set_option maxRecDepth 100000 in
theorem c_X2_comparison (l : Launch) (D : va_G) (cy : Nat → ClassId) (ad : (Nat → Nat) × (Nat → Nat)) (S : kp_S) (x0 : Int32) (post : Int32 → kp_S → Prop) (hS : kp_ok S)  (hw : wX2_comparison x0 S post) : kp_M l yX2_comparison cX2_comparison 1 (some .int) { frames := 0, cells := 0, slots := 0, locals := 0 } D cy ad S [.int x0] 0 0 (fun A => kp_Qi D cy A S post) := by
  refine kp_start (own := RX2) (by decide) rfl (Nat.le_of_ble_eq_true rfl) hS ?_
  intro p e s m below meth c A ls X hr hlocks hname h hl
  have hle : kp_le S S := kp_le.rf
  have hl : lv_has ls 1 [(0, .int x0)] := hl
  unfold wX2_comparison at hw
  have h : kp_H D cy A S s.heap s.heap [] := h
  revert h
  intro h
  refine lv_iload_n X.1 X.2.1 dX2_comparison_0 rfl (lv_at hl 0 rfl) ?_
  by_cases c1 : x0 = 60
  · have hw := hw.1 c1
    refine lv_lookup (off := 49) (tgt := 50) X.1 X.2.1 dX2_comparison_1 (by decide) (by rw [c1]; decide) (by decide) ?_
    refine lv_bipush (v := 15) X.1 X.2.1 dX2_comparison_50 (by decide) ?_
    exact kp_reti X hr hlocks h hle rfl hw dX2_comparison_52
  have hw := hw.2 c1
  by_cases c2 : x0 = 256
  · have hw := hw.1 c2
    refine lv_lookup (off := 43) (tgt := 44) X.1 X.2.1 dX2_comparison_1 (by decide) (by rw [c2]; decide) (by decide) ?_
    refine lv_bipush (v := 13) X.1 X.2.1 dX2_comparison_44 (by decide) ?_
    exact kp_reti X hr hlocks h hle rfl hw dX2_comparison_46
  have hw := hw.2 c2
  by_cases c3 : x0 = 257
  · have hw := hw.1 c3
    refine lv_lookup (off := 46) (tgt := 47) X.1 X.2.1 dX2_comparison_1 (by decide) (by rw [c3]; decide) (by decide) ?_
    refine lv_bipush (v := 14) X.1 X.2.1 dX2_comparison_47 (by decide) ?_
    exact kp_reti X hr hlocks h hle rfl hw dX2_comparison_49
  have hw := hw.2 c3
  by_cases c4 : x0 = 258
  · have hw := hw.1 c4
    refine lv_lookup (off := 52) (tgt := 53) X.1 X.2.1 dX2_comparison_1 (by decide) (by rw [c4]; decide) (by decide) ?_
    refine lv_bipush (v := 16) X.1 X.2.1 dX2_comparison_53 (by decide) ?_
    exact kp_reti X hr hlocks h hle rfl hw dX2_comparison_55
  have hw := hw.2 c4
  refine lv_lookup (off := 55) (tgt := 56) X.1 X.2.1 dX2_comparison_1 (by decide) (by show Op.lookupswitch.offset [(60, 49), (256, 43), (257, 46), (258, 52)] _ _ = _; rw [lv_osw (a := 60) c1 (by decide), lv_osw (a := 256) c2 (by decide), lv_osw (a := 257) c3 (by decide), lv_osw (a := 258) c4 (by decide)]; rfl) (by decide) ?_
  refine lv_iconst (v := (-1)) X.1 X.2.1 dX2_comparison_56 (by decide) ?_
  exact kp_reti X hr hlocks h hle rfl hw dX2_comparison_57
theorem dX2_factor_0 : decode cX2_factor 0 = .ok (.iload_n 0, 1) := by decide +kernel
theorem dX2_factor_1 : decode cX2_factor 1 = .ok (.lookupswitch 44 #[(37, 41), (42, 35), (47, 38)], 35) := by decide +kernel
theorem dX2_factor_36 : decode cX2_factor 36 = .ok (.bipush 10, 2) := by decide +kernel
theorem dX2_factor_38 : decode cX2_factor 38 = .ok (.ireturn, 1) := by decide +kernel
theorem dX2_factor_39 : decode cX2_factor 39 = .ok (.bipush 11, 2) := by decide +kernel
theorem dX2_factor_41 : decode cX2_factor 41 = .ok (.ireturn, 1) := by decide +kernel
theorem dX2_factor_42 : decode cX2_factor 42 = .ok (.bipush 12, 2) := by decide +kernel
theorem dX2_factor_44 : decode cX2_factor 44 = .ok (.ireturn, 1) := by decide +kernel
theorem dX2_factor_45 : decode cX2_factor 45 = .ok (.iconst (-1), 1) := by decide +kernel
theorem dX2_factor_46 : decode cX2_factor 46 = .ok (.ireturn, 1) := by decide +kernel
def wX2_factor (x0 : Int32) (S : kp_S) (post : Int32 → kp_S → Prop) : Prop :=
  ((x0 = 37 →
  post 12 S) ∧ (¬ x0 = 37 →
  ((x0 = 42 →
  post 10 S) ∧ (¬ x0 = 42 →
  ((x0 = 47 →
  post 11 S) ∧ (¬ x0 = 47 →
  post (-1) S))))))
set_option maxHeartbeats 4000000 in
set_option maxRecDepth 100000 in
theorem c_X2_factor (l : Launch) (D : va_G) (cy : Nat → ClassId) (ad : (Nat → Nat) × (Nat → Nat)) (S : kp_S) (x0 : Int32) (post : Int32 → kp_S → Prop) (hS : kp_ok S)  (hw : wX2_factor x0 S post) : kp_M l yX2_factor cX2_factor 1 (some .int) { frames := 0, cells := 0, slots := 0, locals := 0 } D cy ad S [.int x0] 0 0 (fun A => kp_Qi D cy A S post) := by
  refine kp_start (own := RX2) (by decide) rfl (Nat.le_of_ble_eq_true rfl) hS ?_
  intro p e s m below meth c A ls X hr hlocks hname h hl
  have hle : kp_le S S := kp_le.rf
  have hl : lv_has ls 1 [(0, .int x0)] := hl
  unfold wX2_factor at hw
  have h : kp_H D cy A S s.heap s.heap [] := h
  revert h
  intro h
  refine lv_iload_n X.1 X.2.1 dX2_factor_0 rfl (lv_at hl 0 rfl) ?_
  by_cases c1 : x0 = 37
  · have hw := hw.1 c1
    refine lv_lookup (off := 41) (tgt := 42) X.1 X.2.1 dX2_factor_1 (by decide) (by rw [c1]; decide) (by decide) ?_
    refine lv_bipush (v := 12) X.1 X.2.1 dX2_factor_42 (by decide) ?_
    exact kp_reti X hr hlocks h hle rfl hw dX2_factor_44
  have hw := hw.2 c1
  by_cases c2 : x0 = 42
  · have hw := hw.1 c2
    refine lv_lookup (off := 35) (tgt := 36) X.1 X.2.1 dX2_factor_1 (by decide) (by rw [c2]; decide) (by decide) ?_
    refine lv_bipush (v := 10) X.1 X.2.1 dX2_factor_36 (by decide) ?_
    exact kp_reti X hr hlocks h hle rfl hw dX2_factor_38
  have hw := hw.2 c2
  by_cases c3 : x0 = 47
  · have hw := hw.1 c3
    refine lv_lookup (off := 38) (tgt := 39) X.1 X.2.1 dX2_factor_1 (by decide) (by rw [c3]; decide) (by decide) ?_
    refine lv_bipush (v := 11) X.1 X.2.1 dX2_factor_39 (by decide) ?_
    exact kp_reti X hr hlocks h hle rfl hw dX2_factor_41
  have hw := hw.2 c3
  refine lv_lookup (off := 44) (tgt := 45) X.1 X.2.1 dX2_factor_1 (by decide) (by show Op.lookupswitch.offset [(37, 41), (42, 35), (47, 38)] _ _ = _; rw [lv_osw (a := 37) c1 (by decide), lv_osw (a := 42) c2 (by decide), lv_osw (a := 47) c3 (by decide)]; rfl) (by decide) ?_
  refine lv_iconst (v := (-1)) X.1 X.2.1 dX2_factor_45 (by decide) ?_
  exact kp_reti X hr hlocks h hle rfl hw dX2_factor_46
theorem dX2_number_0 : decode cX2_number 0 = .ok (.aload_n 0, 1) := by decide +kernel
theorem dX2_number_1 : decode cX2_number 1 = .ok (.getfield 9, 3) := by decide +kernel
theorem dX2_number_4 : decode cX2_number 4 = .ok (.getfield 114, 3) := by decide +kernel
theorem dX2_number_7 : decode cX2_number 7 = .ok (.istore_n 1, 1) := by decide +kernel
theorem dX2_number_8 : decode cX2_number 8 = .ok (.aload_n 0, 1) := by decide +kernel
theorem dX2_number_9 : decode cX2_number 9 = .ok (.getfield 9, 3) := by decide +kernel
theorem dX2_number_12 : decode cX2_number 12 = .ok (.invokevirtual 33, 3) := by decide +kernel
theorem dX2_number_15 : decode cX2_number 15 = .ok (.aload_n 0, 1) := by decide +kernel
theorem dX2_number_16 : decode cX2_number 16 = .ok (.getfield 19, 3) := by decide +kernel
theorem dX2_number_19 : decode cX2_number 19 = .ok (.iconst 1, 1) := by decide +kernel
theorem dX2_number_20 : decode cX2_number 20 = .ok (.iload_n 1, 1) := by decide +kernel
theorem dX2_number_21 : decode cX2_number 21 = .ok (.invokevirtual 38, 3) := by decide +kernel
theorem dX2_number_24 : decode cX2_number 24 = .ok (.pop, 1) := by decide +kernel
theorem dX2_number_25 : decode cX2_number 25 = .ok (.iload_n 1, 1) := by decide +kernel
theorem dX2_number_26 : decode cX2_number 26 = .ok (.ifCond .le 7, 3) := by decide +kernel
theorem dX2_number_29 : decode cX2_number 29 = .ok (.iconst 2, 1) := by decide +kernel
theorem dX2_number_30 : decode cX2_number 30 = .ok (.goto 4, 3) := by decide +kernel
theorem dX2_number_33 : decode cX2_number 33 = .ok (.iconst 0, 1) := by decide +kernel
theorem dX2_number_34 : decode cX2_number 34 = .ok (.ireturn, 1) := by decide +kernel
def wX2_number_b34 (a0 : Nat) (xt0 : Int32)  (Sn : kp_S) (post : Int32 → kp_S → Prop) : Prop :=
  post xt0 Sn
def wX2_number (a0 : Nat) (S : kp_S) (post : Int32 → kp_S → Prop) : Prop :=
  ∃ b1 : Nat, kp_R S 400 a0 = some b1 ∧
  ∀ y2 : Int32, y2 = (kp_I S 1807 b1) →
  wX9_advance b1 S (fun T3 =>
  ∃ b4 : Nat, kp_R T3 402 a0 = some b4 ∧
  wX0_add_ b4 1 y2 T3 (fun y6 T5 =>
  ((y2 ≤ 0 →
  wX2_number_b34 a0 0  T5 post) ∧ (¬ y2 ≤ 0 →
  wX2_number_b34 a0 2  T5 post))))
set_option maxHeartbeats 4000000 in
set_option maxRecDepth 100000 in
theorem c_X2_number (l : Launch) (D : va_G) (cy : Nat → ClassId) (ad : (Nat → Nat) × (Nat → Nat)) (S : kp_S) (a0 : Nat) (post : Int32 → kp_S → Prop) (hS : kp_ok S) (f_a0 : kp_is S a0 2) (hw : wX2_number a0 S post) : kp_M l yX2_number cX2_number 2 (some .int) { frames := 6, cells := 0, slots := 0, locals := 134 } D cy ad S [.ref a0] 0 0 (fun A => kp_Qi D cy A S post) := by
  refine kp_start (own := RX2) (by decide) rfl (Nat.le_of_ble_eq_true rfl) hS ?_
  intro p e s m below meth c A ls X hr hlocks hname h hl
  have hle : kp_le S S := kp_le.rf
  have hl : lv_has ls 2 [(0, .ref a0)] := hl
  have j34 : ∀ (xt0 : Int32) (Sn : kp_S) (H : Heap) (locs : List Loc) (ls : Array Slot), lv_has ls 2 [] → kp_H D cy A Sn s.heap H locs → kp_le S Sn → kp_is Sn a0 2 → wX2_number_b34 a0 xt0  Sn post → W p l e { frames := 6, cells := 0, slots := 0, locals := 134 } s m ([.ref a0] : List Value).toArray below meth c H locs 0 0 (MQ below (kp_Qi D cy A S post) ([.ref a0] : List Value).toArray s 0 0 A) (F0 m 34 ls [.int xt0]) := by
    intro xt0 Sn H locs ls hl h hle f_a0 hw
    unfold wX2_number_b34 at hw
    exact kp_reti X hr hlocks h hle rfl hw dX2_number_34
  unfold wX2_number at hw
  have h : kp_H D cy A S s.heap s.heap [] := h
  revert h
  intro h
  refine lv_aload_n X.1 X.2.1 dX2_number_0 rfl (lv_at hl 0 rfl) ?_
  obtain ⟨b1, e_b1, hw⟩ := hw
  have f_b1 := h.2.2.2.rf (c := 2) (k := 0) f_a0 (by decide) (by decide) e_b1 (t := 9) rfl
  refine kp_get X h f_a0 ff_2_9.l (v := .ref b1) (congrArg va_rf e_b1) dX2_number_1 ?_
  refine kp_get X h f_b1 fp_2_114.l (v := .int (kp_I S 1807 b1)) rfl dX2_number_4 ?_
  refine lv_topi (fun y2 e_y2 => ?_)
  have hw := hw y2 e_y2
  refine lv_istore_n (lv' := [(1, .int y2), (0, .ref a0)]) X.1 X.2.1 dX2_number_7 rfl hl (by decide) rfl (fun ls hl => ?_)
  refine lv_aload_n X.1 X.2.1 dX2_number_8 rfl (lv_at hl 1 rfl) ?_
  refine kp_get X h f_a0 ff_2_9.l (v := .ref b1) (congrArg va_rf e_b1) dX2_number_9 ?_
  refine kp_callv X h (kp_runV (rm := { frames := 5, cells := 0, slots := 0, locals := 113 }) (mc := 0) (ms := 0) (rest := []) (Qc := fun A => kp_Qv D cy A S _) X h (c_X9_advance l D cy ad S b1 _ h.2.2.2 f_b1 hw) f_b1 cv_2_33 ⟨by decide, by decide, rfl, rfl, by decide, by decide⟩ rfl hl.1 rfl (Nat.le_of_ble_eq_true rfl) dX2_number_12) (fun T3 hw l_T3 H locs h => ?_)
  have f_a0 := l_T3.is f_a0
  have f_b1 := l_T3.is f_b1
  have hle := hle.tr l_T3
  refine lv_aload_n X.1 X.2.1 dX2_number_15 rfl (lv_at hl 1 rfl) ?_
  obtain ⟨b4, e_b4, hw⟩ := hw
  have f_b4 := h.2.2.2.rf (c := 2) (k := 2) f_a0 (by decide) (by decide) e_b4 (t := 0) rfl
  refine kp_get X h f_a0 fp_2_19.l (v := .ref b4) (congrArg va_rf e_b4) dX2_number_16 ?_
  refine lv_iconst (v := 1) X.1 X.2.1 dX2_number_19 (by decide) ?_
  refine lv_iload_n X.1 X.2.1 dX2_number_20 rfl (lv_at hl 0 rfl) ?_
  refine kp_calli X h (kp_runV (rm := { frames := 1, cells := 0, slots := 0, locals := 22 }) (mc := 0) (ms := 0) (rest := []) (Qc := fun A => kp_Qi D cy A T3 _) X h (c_X0_add_ l D cy ad T3 b4 1 y2 _ h.2.2.2 f_b4 hw) f_b4 cv_2_38 ⟨by decide, by decide, rfl, rfl, by decide, by decide⟩ rfl hl.1 rfl (Nat.le_of_ble_eq_true rfl) dX2_number_21) (fun y6 T5 hw l_T5 H locs h => ?_)
  have f_a0 := l_T5.is f_a0
  have f_b1 := l_T5.is f_b1
  have f_b4 := l_T5.is f_b4
  have hle := hle.tr l_T5
  refine lv_pop X.1 X.2.1 dX2_number_24 rfl ?_
  refine lv_iload_n X.1 X.2.1 dX2_number_25 rfl (lv_at hl 0 rfl) ?_
  refine lv_if_le (tgt := 33) X.1 X.2.1 dX2_number_26 (by decide) (fun c7 => ?_) (fun c7 => ?_)
  · have hw := hw.1 c7
    refine lv_iconst (v := 0) X.1 X.2.1 dX2_number_33 (by decide) ?_
    exact j34 0 T5 _ _ ls (lv_sub hl [] rfl) h hle f_a0 hw
  · have hw := hw.2 c7
    refine lv_iconst (v := 2) X.1 X.2.1 dX2_number_29 (by decide) ?_
    refine lv_goto (tgt := 34) X.1 X.2.1 dX2_number_30 (by decide) ?_
    exact j34 2 T5 _ _ ls (lv_sub hl [] rfl) h hle f_a0 hw
theorem dX2_register_0 : decode cX2_register 0 = .ok (.aload_n 0, 1) := by decide +kernel
theorem dX2_register_1 : decode cX2_register 1 = .ok (.getfield 9, 3) := by decide +kernel
theorem dX2_register_4 : decode cX2_register 4 = .ok (.invokevirtual 33, 3) := by decide +kernel
theorem dX2_register_7 : decode cX2_register 7 = .ok (.aload_n 0, 1) := by decide +kernel
theorem dX2_register_8 : decode cX2_register 8 = .ok (.getfield 19, 3) := by decide +kernel
theorem dX2_register_11 : decode cX2_register 11 = .ok (.iload_n 1, 1) := by decide +kernel
theorem dX2_register_12 : decode cX2_register 12 = .ok (.invokevirtual 49, 3) := by decide +kernel
theorem dX2_register_15 : decode cX2_register 15 = .ok (.pop, 1) := by decide +kernel
theorem dX2_register_16 : decode cX2_register 16 = .ok (.iconst 0, 1) := by decide +kernel
theorem dX2_register_17 : decode cX2_register 17 = .ok (.ireturn, 1) := by decide +kernel
def wX2_register (a0 : Nat) (x1 : Int32) (S : kp_S) (post : Int32 → kp_S → Prop) : Prop :=
  ∃ b1 : Nat, kp_R S 400 a0 = some b1 ∧
  wX9_advance b1 S (fun T2 =>
  ∃ b3 : Nat, kp_R T2 402 a0 = some b3 ∧
  wX0_add b3 x1 T2 (fun y5 T4 =>
  post 0 T4))
set_option maxHeartbeats 4000000 in
set_option maxRecDepth 100000 in
theorem c_X2_register (l : Launch) (D : va_G) (cy : Nat → ClassId) (ad : (Nat → Nat) × (Nat → Nat)) (S : kp_S) (a0 : Nat) (x1 : Int32) (post : Int32 → kp_S → Prop) (hS : kp_ok S) (f_a0 : kp_is S a0 2) (hw : wX2_register a0 x1 S post) : kp_M l yX2_register cX2_register 2 (some .int) { frames := 6, cells := 0, slots := 0, locals := 134 } D cy ad S [.ref a0, .int x1] 0 0 (fun A => kp_Qi D cy A S post) := by
  refine kp_start (own := RX2) (by decide) rfl (Nat.le_of_ble_eq_true rfl) hS ?_
  intro p e s m below meth c A ls X hr hlocks hname h hl
  have hle : kp_le S S := kp_le.rf
  have hl : lv_has ls 2 [(0, .ref a0), (1, .int x1)] := hl
  unfold wX2_register at hw
  have h : kp_H D cy A S s.heap s.heap [] := h
  revert h
  intro h
  refine lv_aload_n X.1 X.2.1 dX2_register_0 rfl (lv_at hl 0 rfl) ?_
  obtain ⟨b1, e_b1, hw⟩ := hw
  have f_b1 := h.2.2.2.rf (c := 2) (k := 0) f_a0 (by decide) (by decide) e_b1 (t := 9) rfl
  refine kp_get X h f_a0 ff_2_9.l (v := .ref b1) (congrArg va_rf e_b1) dX2_register_1 ?_
  refine kp_callv X h (kp_runV (rm := { frames := 5, cells := 0, slots := 0, locals := 113 }) (mc := 0) (ms := 0) (rest := []) (Qc := fun A => kp_Qv D cy A S _) X h (c_X9_advance l D cy ad S b1 _ h.2.2.2 f_b1 hw) f_b1 cv_2_33 ⟨by decide, by decide, rfl, rfl, by decide, by decide⟩ rfl hl.1 rfl (Nat.le_of_ble_eq_true rfl) dX2_register_4) (fun T2 hw l_T2 H locs h => ?_)
  have f_a0 := l_T2.is f_a0
  have f_b1 := l_T2.is f_b1
  have hle := hle.tr l_T2
  refine lv_aload_n X.1 X.2.1 dX2_register_7 rfl (lv_at hl 0 rfl) ?_
  obtain ⟨b3, e_b3, hw⟩ := hw
  have f_b3 := h.2.2.2.rf (c := 2) (k := 2) f_a0 (by decide) (by decide) e_b3 (t := 0) rfl
  refine kp_get X h f_a0 fp_2_19.l (v := .ref b3) (congrArg va_rf e_b3) dX2_register_8 ?_
  refine lv_iload_n X.1 X.2.1 dX2_register_11 rfl (lv_at hl 1 rfl) ?_
  refine kp_calli X h (kp_runV (rm := { frames := 0, cells := 0, slots := 0, locals := 0 }) (mc := 0) (ms := 0) (rest := []) (Qc := fun A => kp_Qi D cy A T2 _) X h (c_X0_add l D cy ad T2 b3 x1 _ h.2.2.2 f_b3 hw) f_b3 cv_2_49 ⟨by decide, by decide, rfl, rfl, by decide, by decide⟩ rfl hl.1 rfl (Nat.le_of_ble_eq_true rfl) dX2_register_12) (fun y5 T4 hw l_T4 H locs h => ?_)
  have f_a0 := l_T4.is f_a0
  have f_b1 := l_T4.is f_b1
  have f_b3 := l_T4.is f_b3
  have hle := hle.tr l_T4
  refine lv_pop X.1 X.2.1 dX2_register_15 rfl ?_
  refine lv_iconst (v := 0) X.1 X.2.1 dX2_register_16 (by decide) ?_
  exact kp_reti X hr hlocks h hle rfl hw dX2_register_17
