def wX8_loop (B : Nat → kp_S → (Int32 → kp_S → Prop) → Prop) (a0 : Nat) (w1 : Int64) (x3 : Int32) (S : kp_S) (post : Int32 → kp_S → Prop) : Prop :=
  ∃ b1 : Nat, kp_R S 1600 a0 = some b1 ∧
  ∀ y2 : Int32, y2 = (kp_I S 1805 b1) →
  ((y2 = 305 →
  wX8_whileLoop B a0 w1 x3 S (fun y5 T4 =>
  post y5 T4)) ∧ (¬ y2 = 305 →
  ((y2 = 306 →
  wX8_eachLoop B a0 w1 x3 S (fun y8 T7 =>
  post y8 T7)) ∧ (¬ y2 = 306 →
  ((y2 = 321 →
  wX8_repeatLoop B a0 w1 x3 S (fun y11 T10 =>
  post y11 T10)) ∧ (¬ y2 = 321 →
  wX9_refuse b1 S (fun T12 =>
  post 0 T12)))))))
set_option maxHeartbeats 4000000 in
set_option maxRecDepth 100000 in
theorem c_X8_loop (l : Launch) (D : va_G) (cy : Nat → ClassId) (ad : (Nat → Nat) × (Nat → Nat)) (F L : Nat) (B : Nat → kp_S → (Int32 → kp_S → Prop) → Prop) (hB : ∀ (S : kp_S) (a0 : Nat) (post : Int32 → kp_S → Prop), kp_ok S → kp_is S a0 8 → B a0 S post → kp_M l yX8_block cX8_block 5 (some .int) { frames := F, cells := 0, slots := 0, locals := L } D cy ad S [.ref a0] 0 0 (fun A => kp_Qi D cy A S post)) (hF : 191 ≤ F) (hL : 4387 ≤ L) (S : kp_S) (a0 : Nat) (w1 : Int64) (x3 : Int32) (post : Int32 → kp_S → Prop) (hS : kp_ok S) (f_a0 : kp_is S a0 8) (hw : wX8_loop B a0 w1 x3 S post) : kp_M l yX8_loop cX8_loop 4 (some .int) { frames := F + 4, cells := 0, slots := 0, locals := L + 105 } D cy ad S [.ref a0, .long w1, .int x3] 0 0 (fun A => kp_Qi D cy A S post) := by
  refine kp_start (own := RX8) (by decide) rfl (Nat.le_of_ble_eq_true rfl) hS ?_
  intro p e s m below meth c A ls X hr hlocks hname h hl
  have hle : kp_le S S := kp_le.rf
  have hl : lv_has ls 4 [(0, .ref a0), (1, .long w1), (3, .int x3)] := hl
  unfold wX8_loop at hw
  have h : kp_H D cy A S s.heap s.heap [] := h
  revert h
  intro h
  refine lv_aload_n X.1 X.2.1 dX8_loop_0 rfl (lv_at hl 0 rfl) ?_
  obtain ⟨b1, e_b1, hw⟩ := hw
  have f_b1 := h.2.2.2.rf (c := 8) (k := 0) f_a0 (by decide) (by decide) e_b1 (t := 9) rfl
  refine kp_get X h f_a0 ff_8_14.l (v := .ref b1) (congrArg va_rf e_b1) dX8_loop_1 ?_
  refine kp_get X h f_b1 fp_8_66.l (v := .int (kp_I S 1805 b1)) rfl dX8_loop_4 ?_
  refine lv_topi (fun y2 e_y2 => ?_)
  have hw := hw y2 e_y2
  by_cases c3 : y2 = 305
  · have hw := hw.1 c3
    refine lv_lookup (off := 33) (tgt := 40) X.1 X.2.1 dX8_loop_7 (by decide) (by rw [c3]; decide) (by decide) ?_
    refine lv_aload_n X.1 X.2.1 dX8_loop_40 rfl (lv_at hl 0 rfl) ?_
    refine lv_lload_n X.1 X.2.1 dX8_loop_41 rfl (lv_at hl 1 rfl) ?_
    refine lv_iload_n X.1 X.2.1 dX8_loop_42 rfl (lv_at hl 2 rfl) ?_
    refine kp_calli X h (kp_runV (rm := { frames := F + 3, cells := 0, slots := 0, locals := L + 71 }) (mc := 0) (ms := 0) (rest := []) (Qc := fun A => kp_Qi D cy A S _) X h (c_X8_whileLoop l D cy ad F L B hB hF hL S a0 w1 x3 _ h.2.2.2 f_a0 hw) f_a0 cv_8_249 ⟨by dsimp only; omega, by dsimp only; omega, rfl, rfl, by dsimp only; omega, by dsimp only; omega⟩ rfl hl.1 rfl (Nat.le_of_ble_eq_true rfl) dX8_loop_43) (fun y5 T4 hw l_T4 H locs h => ?_)
    have f_a0 := l_T4.is f_a0
    have f_b1 := l_T4.is f_b1
    have hle := hle.tr l_T4
    exact kp_reti X hr hlocks h hle rfl hw dX8_loop_46
  have hw := hw.2 c3
  by_cases c6 : y2 = 306
  · have hw := hw.1 c6
    refine lv_lookup (off := 40) (tgt := 47) X.1 X.2.1 dX8_loop_7 (by decide) (by rw [c6]; decide) (by decide) ?_
    refine lv_aload_n X.1 X.2.1 dX8_loop_47 rfl (lv_at hl 0 rfl) ?_
    refine lv_lload_n X.1 X.2.1 dX8_loop_48 rfl (lv_at hl 1 rfl) ?_
    refine lv_iload_n X.1 X.2.1 dX8_loop_49 rfl (lv_at hl 2 rfl) ?_
    refine kp_calli X h (kp_runV (rm := { frames := F + 3, cells := 0, slots := 0, locals := L + 71 }) (mc := 0) (ms := 0) (rest := []) (Qc := fun A => kp_Qi D cy A S _) X h (c_X8_eachLoop l D cy ad F L B hB hF hL S a0 w1 x3 _ h.2.2.2 f_a0 hw) f_a0 cv_8_252 ⟨by dsimp only; omega, by dsimp only; omega, rfl, rfl, by dsimp only; omega, by dsimp only; omega⟩ rfl hl.1 rfl (Nat.le_of_ble_eq_true rfl) dX8_loop_50) (fun y8 T7 hw l_T7 H locs h => ?_)
    have f_a0 := l_T7.is f_a0
    have f_b1 := l_T7.is f_b1
    have hle := hle.tr l_T7
    exact kp_reti X hr hlocks h hle rfl hw dX8_loop_53
  have hw := hw.2 c6
  by_cases c9 : y2 = 321
  · have hw := hw.1 c9
    refine lv_lookup (off := 47) (tgt := 54) X.1 X.2.1 dX8_loop_7 (by decide) (by rw [c9]; decide) (by decide) ?_
    refine lv_aload_n X.1 X.2.1 dX8_loop_54 rfl (lv_at hl 0 rfl) ?_
    refine lv_lload_n X.1 X.2.1 dX8_loop_55 rfl (lv_at hl 1 rfl) ?_
    refine lv_iload_n X.1 X.2.1 dX8_loop_56 rfl (lv_at hl 2 rfl) ?_
    refine kp_calli X h (kp_runV (rm := { frames := F + 3, cells := 0, slots := 0, locals := L + 71 }) (mc := 0) (ms := 0) (rest := []) (Qc := fun A => kp_Qi D cy A S _) X h (c_X8_repeatLoop l D cy ad F L B hB hF hL S a0 w1 x3 _ h.2.2.2 f_a0 hw) f_a0 cv_8_255 ⟨by dsimp only; omega, by dsimp only; omega, rfl, rfl, by dsimp only; omega, by dsimp only; omega⟩ rfl hl.1 rfl (Nat.le_of_ble_eq_true rfl) dX8_loop_57) (fun y11 T10 hw l_T10 H locs h => ?_)
    have f_a0 := l_T10.is f_a0
    have f_b1 := l_T10.is f_b1
    have hle := hle.tr l_T10
    exact kp_reti X hr hlocks h hle rfl hw dX8_loop_60
  have hw := hw.2 c9
  refine lv_lookup (off := 54) (tgt := 61) X.1 X.2.1 dX8_loop_7 (by decide) (by show Op.lookupswitch.offset [(305, 33), (306, 40), (321, 47)] _ _ = _; rw [lv_osw (a := 305) c3 (by decide), lv_osw (a := 306) c6 (by decide), lv_osw (a := 321) c9 (by decide)]; rfl) (by decide) ?_
  refine lv_aload_n X.1 X.2.1 dX8_loop_61 rfl (lv_at hl 0 rfl) ?_
  refine kp_get X h f_a0 ff_8_14.l (v := .ref b1) (congrArg va_rf e_b1) dX8_loop_62 ?_
  refine kp_callv X h (kp_runV (rm := { frames := 1, cells := 0, slots := 0, locals := 21 }) (mc := 0) (ms := 0) (rest := []) (Qc := fun A => kp_Qv D cy A S _) X h (c_X9_refuse l D cy ad S b1 _ h.2.2.2 f_b1 hw) f_b1 cv_8_69 ⟨by dsimp only; omega, by dsimp only; omega, rfl, rfl, by dsimp only; omega, by dsimp only; omega⟩ rfl hl.1 rfl (Nat.le_of_ble_eq_true rfl) dX8_loop_65) (fun T12 hw l_T12 H locs h => ?_)
  have f_a0 := l_T12.is f_a0
  have f_b1 := l_T12.is f_b1
  have hle := hle.tr l_T12
  refine lv_iconst (v := 0) X.1 X.2.1 dX8_loop_68 (by decide) ?_
  exact kp_reti X hr hlocks h hle rfl hw dX8_loop_69
theorem dX8_named_0 : decode cX8_named 0 = .ok (.aload_n 0, 1) := by decide +kernel
theorem dX8_named_1 : decode cX8_named 1 = .ok (.getfield 14, 3) := by decide +kernel
theorem dX8_named_4 : decode cX8_named 4 = .ok (.getfield 78, 3) := by decide +kernel
theorem dX8_named_7 : decode cX8_named 7 = .ok (.lstore_n 2, 1) := by decide +kernel
theorem dX8_named_8 : decode cX8_named 8 = .ok (.aload_n 0, 1) := by decide +kernel
theorem dX8_named_9 : decode cX8_named 9 = .ok (.getfield 14, 3) := by decide +kernel
theorem dX8_named_12 : decode cX8_named 12 = .ok (.invokevirtual 75, 3) := by decide +kernel
theorem dX8_named_15 : decode cX8_named 15 = .ok (.aload_n 0, 1) := by decide +kernel
theorem dX8_named_16 : decode cX8_named 16 = .ok (.getfield 14, 3) := by decide +kernel
theorem dX8_named_19 : decode cX8_named 19 = .ok (.getfield 66, 3) := by decide +kernel
theorem dX8_named_22 : decode cX8_named 22 = .ok (.lookupswitch 102 #[(40, 48), (58, 79), (61, 34)], 34) := by decide +kernel
theorem dX8_named_56 : decode cX8_named 56 = .ok (.aload_n 0, 1) := by decide +kernel
theorem dX8_named_57 : decode cX8_named 57 = .ok (.aload_n 0, 1) := by decide +kernel
theorem dX8_named_58 : decode cX8_named 58 = .ok (.getfield 23, 3) := by decide +kernel
theorem dX8_named_61 : decode cX8_named 61 = .ok (.lload_n 2, 1) := by decide +kernel
theorem dX8_named_62 : decode cX8_named 62 = .ok (.iload_n 1, 1) := by decide +kernel
theorem dX8_named_63 : decode cX8_named 63 = .ok (.invokevirtual 198, 3) := by decide +kernel
theorem dX8_named_66 : decode cX8_named 66 = .ok (.invokevirtual 201, 3) := by decide +kernel
theorem dX8_named_69 : decode cX8_named 69 = .ok (.ireturn, 1) := by decide +kernel
theorem dX8_named_70 : decode cX8_named 70 = .ok (.aload_n 0, 1) := by decide +kernel
theorem dX8_named_71 : decode cX8_named 71 = .ok (.getfield 36, 3) := by decide +kernel
theorem dX8_named_74 : decode cX8_named 74 = .ok (.lload_n 2, 1) := by decide +kernel
theorem dX8_named_75 : decode cX8_named 75 = .ok (.iload_n 1, 1) := by decide +kernel
theorem dX8_named_76 : decode cX8_named 76 = .ok (.invokevirtual 204, 3) := by decide +kernel
theorem dX8_named_79 : decode cX8_named 79 = .ok (.aload_n 0, 1) := by decide +kernel
theorem dX8_named_80 : decode cX8_named 80 = .ok (.getfield 27, 3) := by decide +kernel
theorem dX8_named_83 : decode cX8_named 83 = .ok (.bipush 26, 2) := by decide +kernel
theorem dX8_named_85 : decode cX8_named 85 = .ok (.iconst 1, 1) := by decide +kernel
theorem dX8_named_86 : decode cX8_named 86 = .ok (.invokevirtual 154, 3) := by decide +kernel
theorem dX8_named_89 : decode cX8_named 89 = .ok (.pop, 1) := by decide +kernel
theorem dX8_named_90 : decode cX8_named 90 = .ok (.aload_n 0, 1) := by decide +kernel
theorem dX8_named_91 : decode cX8_named 91 = .ok (.getfield 14, 3) := by decide +kernel
theorem dX8_named_94 : decode cX8_named 94 = .ok (.bipush 59, 2) := by decide +kernel
theorem dX8_named_96 : decode cX8_named 96 = .ok (.invokevirtual 90, 3) := by decide +kernel
theorem dX8_named_99 : decode cX8_named 99 = .ok (.iconst 5, 1) := by decide +kernel
theorem dX8_named_100 : decode cX8_named 100 = .ok (.ireturn, 1) := by decide +kernel
theorem dX8_named_101 : decode cX8_named 101 = .ok (.aload_n 0, 1) := by decide +kernel
theorem dX8_named_102 : decode cX8_named 102 = .ok (.getfield 23, 3) := by decide +kernel
theorem dX8_named_105 : decode cX8_named 105 = .ok (.lload_n 2, 1) := by decide +kernel
theorem dX8_named_106 : decode cX8_named 106 = .ok (.iload_n 1, 1) := by decide +kernel
theorem dX8_named_107 : decode cX8_named 107 = .ok (.invokevirtual 207, 3) := by decide +kernel
theorem dX8_named_110 : decode cX8_named 110 = .ok (.aload_n 0, 1) := by decide +kernel
theorem dX8_named_111 : decode cX8_named 111 = .ok (.getfield 14, 3) := by decide +kernel
theorem dX8_named_114 : decode cX8_named 114 = .ok (.invokevirtual 75, 3) := by decide +kernel
theorem dX8_named_117 : decode cX8_named 117 = .ok (.aload_n 0, 1) := by decide +kernel
theorem dX8_named_118 : decode cX8_named 118 = .ok (.lload_n 2, 1) := by decide +kernel
theorem dX8_named_119 : decode cX8_named 119 = .ok (.iload_n 1, 1) := by decide +kernel
theorem dX8_named_120 : decode cX8_named 120 = .ok (.invokevirtual 182, 3) := by decide +kernel
theorem dX8_named_123 : decode cX8_named 123 = .ok (.ireturn, 1) := by decide +kernel
theorem dX8_named_124 : decode cX8_named 124 = .ok (.aload_n 0, 1) := by decide +kernel
theorem dX8_named_125 : decode cX8_named 125 = .ok (.getfield 14, 3) := by decide +kernel
theorem dX8_named_128 : decode cX8_named 128 = .ok (.invokevirtual 69, 3) := by decide +kernel
theorem dX8_named_131 : decode cX8_named 131 = .ok (.iconst 0, 1) := by decide +kernel
theorem dX8_named_132 : decode cX8_named 132 = .ok (.ireturn, 1) := by decide +kernel
def wX8_named (B : Nat → kp_S → (Int32 → kp_S → Prop) → Prop) (a0 : Nat) (x1 : Int32) (S : kp_S) (post : Int32 → kp_S → Prop) : Prop :=
  ∃ b1 : Nat, kp_R S 1600 a0 = some b1 ∧
  ∀ z2 : Int64, z2 = (kp_J S 1808 b1) →
  wX9_advance b1 S (fun T3 =>
  ∃ b4 : Nat, kp_R T3 1600 a0 = some b4 ∧
  ∀ y5 : Int32, y5 = (kp_I T3 1805 b4) →
  ((y5 = 40 →
  ∃ b7 : Nat, kp_R T3 1602 a0 = some b7 ∧
  wX2_callOf_t b7 z2 x1 T3 (fun T8 =>
  ∃ b9 : Nat, kp_R T8 1603 a0 = some b9 ∧
  wX0_add_ b9 26 1 T8 (fun y11 T10 =>
  ∃ b12 : Nat, kp_R T10 1600 a0 = some b12 ∧
  wX9_expect b12 59 T10 (fun T13 =>
  post 5 T13)))) ∧ (¬ y5 = 40 →
  ((y5 = 58 →
  ∃ b15 : Nat, kp_R T3 1601 a0 = some b15 ∧
  wX5_tellLabel b15 z2 x1 T3 (fun T16 =>
  ∃ b17 : Nat, kp_R T16 1600 a0 = some b17 ∧
  wX9_advance b17 T16 (fun T18 =>
  wX8_loop B a0 z2 x1 T18 (fun y20 T19 =>
  post y20 T19)))) ∧ (¬ y5 = 58 →
  ((y5 = 61 →
  ∃ b22 : Nat, kp_R T3 1601 a0 = some b22 ∧
  wX5_slotOf b22 z2 x1 T3 (fun y24 T23 =>
  wX8_assign a0 y24 T23 (fun y26 T25 =>
  post y26 T25))) ∧ (¬ y5 = 61 →
  wX9_refuse b4 T3 (fun T27 =>
  post 0 T27))))))))
set_option maxHeartbeats 4000000 in
set_option maxRecDepth 100000 in
theorem c_X8_named (l : Launch) (D : va_G) (cy : Nat → ClassId) (ad : (Nat → Nat) × (Nat → Nat)) (F L : Nat) (B : Nat → kp_S → (Int32 → kp_S → Prop) → Prop) (hB : ∀ (S : kp_S) (a0 : Nat) (post : Int32 → kp_S → Prop), kp_ok S → kp_is S a0 8 → B a0 S post → kp_M l yX8_block cX8_block 5 (some .int) { frames := F, cells := 0, slots := 0, locals := L } D cy ad S [.ref a0] 0 0 (fun A => kp_Qi D cy A S post)) (hF : 191 ≤ F) (hL : 4387 ≤ L) (S : kp_S) (a0 : Nat) (x1 : Int32) (post : Int32 → kp_S → Prop) (hS : kp_ok S) (f_a0 : kp_is S a0 8) (hw : wX8_named B a0 x1 S post) : kp_M l yX8_named cX8_named 4 (some .int) { frames := F + 5, cells := 0, slots := 0, locals := L + 128 } D cy ad S [.ref a0, .int x1] 0 0 (fun A => kp_Qi D cy A S post) := by
  refine kp_start (own := RX8) (by decide) rfl (Nat.le_of_ble_eq_true rfl) hS ?_
  intro p e s m below meth c A ls X hr hlocks hname h hl
  have hle : kp_le S S := kp_le.rf
  have hl : lv_has ls 4 [(0, .ref a0), (1, .int x1)] := hl
  unfold wX8_named at hw
  have h : kp_H D cy A S s.heap s.heap [] := h
  revert h
  intro h
  refine lv_aload_n X.1 X.2.1 dX8_named_0 rfl (lv_at hl 0 rfl) ?_
  obtain ⟨b1, e_b1, hw⟩ := hw
  have f_b1 := h.2.2.2.rf (c := 8) (k := 0) f_a0 (by decide) (by decide) e_b1 (t := 9) rfl
  refine kp_get X h f_a0 ff_8_14.l (v := .ref b1) (congrArg va_rf e_b1) dX8_named_1 ?_
  refine kp_get X h f_b1 fp_8_78.l (v := .long (kp_J S 1808 b1)) rfl dX8_named_4 ?_
  refine lv_topl (fun z2 e_z2 => ?_)
  have hw := hw z2 e_z2
  refine lv_lstore_n (lv' := [(2, .long z2), (0, .ref a0), (1, .int x1)]) X.1 X.2.1 dX8_named_7 rfl hl (by decide) rfl (fun ls hl => ?_)
  refine lv_aload_n X.1 X.2.1 dX8_named_8 rfl (lv_at hl 1 rfl) ?_
  refine kp_get X h f_a0 ff_8_14.l (v := .ref b1) (congrArg va_rf e_b1) dX8_named_9 ?_
  refine kp_callv X h (kp_runV (rm := { frames := 5, cells := 0, slots := 0, locals := 113 }) (mc := 0) (ms := 0) (rest := []) (Qc := fun A => kp_Qv D cy A S _) X h (c_X9_advance l D cy ad S b1 _ h.2.2.2 f_b1 hw) f_b1 cv_8_75 ⟨by dsimp only; omega, by dsimp only; omega, rfl, rfl, by dsimp only; omega, by dsimp only; omega⟩ rfl hl.1 rfl (Nat.le_of_ble_eq_true rfl) dX8_named_12) (fun T3 hw l_T3 H locs h => ?_)
  have f_a0 := l_T3.is f_a0
  have f_b1 := l_T3.is f_b1
  have hle := hle.tr l_T3
  refine lv_aload_n X.1 X.2.1 dX8_named_15 rfl (lv_at hl 1 rfl) ?_
  obtain ⟨b4, e_b4, hw⟩ := hw
  have f_b4 := h.2.2.2.rf (c := 8) (k := 0) f_a0 (by decide) (by decide) e_b4 (t := 9) rfl
  refine kp_get X h f_a0 ff_8_14.l (v := .ref b4) (congrArg va_rf e_b4) dX8_named_16 ?_
  refine kp_get X h f_b4 fp_8_66.l (v := .int (kp_I T3 1805 b4)) rfl dX8_named_19 ?_
  refine lv_topi (fun y5 e_y5 => ?_)
  have hw := hw y5 e_y5
  by_cases c6 : y5 = 40
  · have hw := hw.1 c6
    refine lv_lookup (off := 48) (tgt := 70) X.1 X.2.1 dX8_named_22 (by decide) (by rw [c6]; decide) (by decide) ?_
    refine lv_aload_n X.1 X.2.1 dX8_named_70 rfl (lv_at hl 1 rfl) ?_
    obtain ⟨b7, e_b7, hw⟩ := hw
    have f_b7 := h.2.2.2.rf (c := 8) (k := 2) f_a0 (by decide) (by decide) e_b7 (t := 2) rfl
    refine kp_get X h f_a0 ff_8_36.l (v := .ref b7) (congrArg va_rf e_b7) dX8_named_71 ?_
    refine lv_lload_n X.1 X.2.1 dX8_named_74 rfl (lv_at hl 0 rfl) ?_
    refine lv_iload_n X.1 X.2.1 dX8_named_75 rfl (lv_at hl 2 rfl) ?_
    refine kp_callv X h (kp_runV (rm := { frames := 190, cells := 0, slots := 0, locals := 4362 }) (mc := 0) (ms := 0) (rest := []) (Qc := fun A => kp_Qv D cy A T3 _) X h (c_X2_callOf_t l D cy ad T3 b7 z2 x1 _ h.2.2.2 f_b7 hw) f_b7 cv_8_204 ⟨by dsimp only; omega, by dsimp only; omega, rfl, rfl, by dsimp only; omega, by dsimp only; omega⟩ rfl hl.1 rfl (Nat.le_of_ble_eq_true rfl) dX8_named_76) (fun T8 hw l_T8 H locs h => ?_)
    have f_a0 := l_T8.is f_a0
    have f_b1 := l_T8.is f_b1
    have f_b4 := l_T8.is f_b4
    have f_b7 := l_T8.is f_b7
    have hle := hle.tr l_T8
    refine lv_aload_n X.1 X.2.1 dX8_named_79 rfl (lv_at hl 1 rfl) ?_
    obtain ⟨b9, e_b9, hw⟩ := hw
    have f_b9 := h.2.2.2.rf (c := 8) (k := 3) f_a0 (by decide) (by decide) e_b9 (t := 0) rfl
    refine kp_get X h f_a0 fp_8_27.l (v := .ref b9) (congrArg va_rf e_b9) dX8_named_80 ?_
    refine lv_bipush (v := 26) X.1 X.2.1 dX8_named_83 (by decide) ?_
    refine lv_iconst (v := 1) X.1 X.2.1 dX8_named_85 (by decide) ?_
    refine kp_calli X h (kp_runV (rm := { frames := 1, cells := 0, slots := 0, locals := 22 }) (mc := 0) (ms := 0) (rest := []) (Qc := fun A => kp_Qi D cy A T8 _) X h (c_X0_add_ l D cy ad T8 b9 26 1 _ h.2.2.2 f_b9 hw) f_b9 cv_8_154 ⟨by dsimp only; omega, by dsimp only; omega, rfl, rfl, by dsimp only; omega, by dsimp only; omega⟩ rfl hl.1 rfl (Nat.le_of_ble_eq_true rfl) dX8_named_86) (fun y11 T10 hw l_T10 H locs h => ?_)
    have f_a0 := l_T10.is f_a0
    have f_b1 := l_T10.is f_b1
    have f_b4 := l_T10.is f_b4
    have f_b7 := l_T10.is f_b7
    have f_b9 := l_T10.is f_b9
    have hle := hle.tr l_T10
    refine lv_pop X.1 X.2.1 dX8_named_89 rfl ?_
    refine lv_aload_n X.1 X.2.1 dX8_named_90 rfl (lv_at hl 1 rfl) ?_
    obtain ⟨b12, e_b12, hw⟩ := hw
    have f_b12 := h.2.2.2.rf (c := 8) (k := 0) f_a0 (by decide) (by decide) e_b12 (t := 9) rfl
    refine kp_get X h f_a0 ff_8_14.l (v := .ref b12) (congrArg va_rf e_b12) dX8_named_91 ?_
    refine lv_bipush (v := 59) X.1 X.2.1 dX8_named_94 (by decide) ?_
    refine kp_callv X h (kp_runV (rm := { frames := 6, cells := 0, slots := 0, locals := 134 }) (mc := 0) (ms := 0) (rest := []) (Qc := fun A => kp_Qv D cy A T10 _) X h (c_X9_expect l D cy ad T10 b12 59 _ h.2.2.2 f_b12 hw) f_b12 cv_8_90 ⟨by dsimp only; omega, by dsimp only; omega, rfl, rfl, by dsimp only; omega, by dsimp only; omega⟩ rfl hl.1 rfl (Nat.le_of_ble_eq_true rfl) dX8_named_96) (fun T13 hw l_T13 H locs h => ?_)
    have f_a0 := l_T13.is f_a0
    have f_b1 := l_T13.is f_b1
    have f_b4 := l_T13.is f_b4
    have f_b7 := l_T13.is f_b7
    have f_b9 := l_T13.is f_b9
    have f_b12 := l_T13.is f_b12
    have hle := hle.tr l_T13
    refine lv_iconst (v := 5) X.1 X.2.1 dX8_named_99 (by decide) ?_
    exact kp_reti X hr hlocks h hle rfl hw dX8_named_100
  have hw := hw.2 c6
  by_cases c14 : y5 = 58
  · have hw := hw.1 c14
    refine lv_lookup (off := 79) (tgt := 101) X.1 X.2.1 dX8_named_22 (by decide) (by rw [c14]; decide) (by decide) ?_
    refine lv_aload_n X.1 X.2.1 dX8_named_101 rfl (lv_at hl 1 rfl) ?_
    obtain ⟨b15, e_b15, hw⟩ := hw
    have f_b15 := h.2.2.2.rf (c := 8) (k := 1) f_a0 (by decide) (by decide) e_b15 (t := 5) rfl
    refine kp_get X h f_a0 ff_8_23.l (v := .ref b15) (congrArg va_rf e_b15) dX8_named_102 ?_
    refine lv_lload_n X.1 X.2.1 dX8_named_105 rfl (lv_at hl 0 rfl) ?_
    refine lv_iload_n X.1 X.2.1 dX8_named_106 rfl (lv_at hl 2 rfl) ?_
    refine kp_callv X h (kp_runV (rm := { frames := 2, cells := 0, slots := 0, locals := 44 }) (mc := 0) (ms := 0) (rest := []) (Qc := fun A => kp_Qv D cy A T3 _) X h (c_X5_tellLabel l D cy ad T3 b15 z2 x1 _ h.2.2.2 f_b15 hw) f_b15 cv_8_207 ⟨by dsimp only; omega, by dsimp only; omega, rfl, rfl, by dsimp only; omega, by dsimp only; omega⟩ rfl hl.1 rfl (Nat.le_of_ble_eq_true rfl) dX8_named_107) (fun T16 hw l_T16 H locs h => ?_)
    have f_a0 := l_T16.is f_a0
    have f_b1 := l_T16.is f_b1
    have f_b4 := l_T16.is f_b4
    have f_b15 := l_T16.is f_b15
    have hle := hle.tr l_T16
    refine lv_aload_n X.1 X.2.1 dX8_named_110 rfl (lv_at hl 1 rfl) ?_
    obtain ⟨b17, e_b17, hw⟩ := hw
    have f_b17 := h.2.2.2.rf (c := 8) (k := 0) f_a0 (by decide) (by decide) e_b17 (t := 9) rfl
    refine kp_get X h f_a0 ff_8_14.l (v := .ref b17) (congrArg va_rf e_b17) dX8_named_111 ?_
    refine kp_callv X h (kp_runV (rm := { frames := 5, cells := 0, slots := 0, locals := 113 }) (mc := 0) (ms := 0) (rest := []) (Qc := fun A => kp_Qv D cy A T16 _) X h (c_X9_advance l D cy ad T16 b17 _ h.2.2.2 f_b17 hw) f_b17 cv_8_75 ⟨by dsimp only; omega, by dsimp only; omega, rfl, rfl, by dsimp only; omega, by dsimp only; omega⟩ rfl hl.1 rfl (Nat.le_of_ble_eq_true rfl) dX8_named_114) (fun T18 hw l_T18 H locs h => ?_)
    have f_a0 := l_T18.is f_a0
    have f_b1 := l_T18.is f_b1
    have f_b4 := l_T18.is f_b4
    have f_b15 := l_T18.is f_b15
    have f_b17 := l_T18.is f_b17
    have hle := hle.tr l_T18
    refine lv_aload_n X.1 X.2.1 dX8_named_117 rfl (lv_at hl 1 rfl) ?_
    refine lv_lload_n X.1 X.2.1 dX8_named_118 rfl (lv_at hl 0 rfl) ?_
    refine lv_iload_n X.1 X.2.1 dX8_named_119 rfl (lv_at hl 2 rfl) ?_
    refine kp_calli X h (kp_runV (rm := { frames := F + 4, cells := 0, slots := 0, locals := L + 105 }) (mc := 0) (ms := 0) (rest := []) (Qc := fun A => kp_Qi D cy A T18 _) X h (c_X8_loop l D cy ad F L B hB hF hL T18 a0 z2 x1 _ h.2.2.2 f_a0 hw) f_a0 cv_8_182 ⟨by dsimp only; omega, by dsimp only; omega, rfl, rfl, by dsimp only; omega, by dsimp only; omega⟩ rfl hl.1 rfl (Nat.le_of_ble_eq_true rfl) dX8_named_120) (fun y20 T19 hw l_T19 H locs h => ?_)
    have f_a0 := l_T19.is f_a0
    have f_b1 := l_T19.is f_b1
    have f_b4 := l_T19.is f_b4
    have f_b15 := l_T19.is f_b15
    have f_b17 := l_T19.is f_b17
    have hle := hle.tr l_T19
    exact kp_reti X hr hlocks h hle rfl hw dX8_named_123
  have hw := hw.2 c14
  by_cases c21 : y5 = 61
  · have hw := hw.1 c21
    refine lv_lookup (off := 34) (tgt := 56) X.1 X.2.1 dX8_named_22 (by decide) (by rw [c21]; decide) (by decide) ?_
    refine lv_aload_n X.1 X.2.1 dX8_named_56 rfl (lv_at hl 1 rfl) ?_
    refine lv_aload_n X.1 X.2.1 dX8_named_57 rfl (lv_at hl 1 rfl) ?_
    obtain ⟨b22, e_b22, hw⟩ := hw
    have f_b22 := h.2.2.2.rf (c := 8) (k := 1) f_a0 (by decide) (by decide) e_b22 (t := 5) rfl
    refine kp_get X h f_a0 ff_8_23.l (v := .ref b22) (congrArg va_rf e_b22) dX8_named_58 ?_
    refine lv_lload_n X.1 X.2.1 dX8_named_61 rfl (lv_at hl 0 rfl) ?_
    refine lv_iload_n X.1 X.2.1 dX8_named_62 rfl (lv_at hl 2 rfl) ?_
    refine kp_calli X h (kp_runV (rm := { frames := 1, cells := 0, slots := 0, locals := 23 }) (mc := 0) (ms := 0) (rest := [.ref a0]) (Qc := fun A => kp_Qi D cy A T3 _) X h (c_X5_slotOf l D cy ad T3 b22 z2 x1 _ h.2.2.2 f_b22 hw) f_b22 cv_8_198 ⟨by dsimp only; omega, by dsimp only; omega, rfl, rfl, by dsimp only; omega, by dsimp only; omega⟩ rfl hl.1 rfl (Nat.le_of_ble_eq_true rfl) dX8_named_63) (fun y24 T23 hw l_T23 H locs h => ?_)
    have f_a0 := l_T23.is f_a0
    have f_b1 := l_T23.is f_b1
    have f_b4 := l_T23.is f_b4
    have f_b22 := l_T23.is f_b22
    have hle := hle.tr l_T23
    refine kp_calli X h (kp_runV (rm := { frames := 190, cells := 0, slots := 0, locals := 4362 }) (mc := 0) (ms := 0) (rest := []) (Qc := fun A => kp_Qi D cy A T23 _) X h (c_X8_assign l D cy ad T23 a0 y24 _ h.2.2.2 f_a0 hw) f_a0 cv_8_201 ⟨by dsimp only; omega, by dsimp only; omega, rfl, rfl, by dsimp only; omega, by dsimp only; omega⟩ rfl hl.1 rfl (Nat.le_of_ble_eq_true rfl) dX8_named_66) (fun y26 T25 hw l_T25 H locs h => ?_)
    have f_a0 := l_T25.is f_a0
    have f_b1 := l_T25.is f_b1
    have f_b4 := l_T25.is f_b4
    have f_b22 := l_T25.is f_b22
    have hle := hle.tr l_T25
    exact kp_reti X hr hlocks h hle rfl hw dX8_named_69
  have hw := hw.2 c21
  refine lv_lookup (off := 102) (tgt := 124) X.1 X.2.1 dX8_named_22 (by decide) (by show Op.lookupswitch.offset [(40, 48), (58, 79), (61, 34)] _ _ = _; rw [lv_osw (a := 40) c6 (by decide), lv_osw (a := 58) c14 (by decide), lv_osw (a := 61) c21 (by decide)]; rfl) (by decide) ?_
  refine lv_aload_n X.1 X.2.1 dX8_named_124 rfl (lv_at hl 1 rfl) ?_
  refine kp_get X h f_a0 ff_8_14.l (v := .ref b4) (congrArg va_rf e_b4) dX8_named_125 ?_
  refine kp_callv X h (kp_runV (rm := { frames := 1, cells := 0, slots := 0, locals := 21 }) (mc := 0) (ms := 0) (rest := []) (Qc := fun A => kp_Qv D cy A T3 _) X h (c_X9_refuse l D cy ad T3 b4 _ h.2.2.2 f_b4 hw) f_b4 cv_8_69 ⟨by dsimp only; omega, by dsimp only; omega, rfl, rfl, by dsimp only; omega, by dsimp only; omega⟩ rfl hl.1 rfl (Nat.le_of_ble_eq_true rfl) dX8_named_128) (fun T27 hw l_T27 H locs h => ?_)
  have f_a0 := l_T27.is f_a0
  have f_b1 := l_T27.is f_b1
  have f_b4 := l_T27.is f_b4
  have hle := hle.tr l_T27
  refine lv_iconst (v := 0) X.1 X.2.1 dX8_named_131 (by decide) ?_
  exact kp_reti X hr hlocks h hle rfl hw dX8_named_132
theorem dX8_ifElse_0 : decode cX8_ifElse 0 = .ok (.aload_n 0, 1) := by decide +kernel
theorem dX8_ifElse_1 : decode cX8_ifElse 1 = .ok (.getfield 14, 3) := by decide +kernel
theorem dX8_ifElse_4 : decode cX8_ifElse 4 = .ok (.invokevirtual 75, 3) := by decide +kernel
theorem dX8_ifElse_7 : decode cX8_ifElse 7 = .ok (.aload_n 0, 1) := by decide +kernel
theorem dX8_ifElse_8 : decode cX8_ifElse 8 = .ok (.getfield 36, 3) := by decide +kernel
theorem dX8_ifElse_11 : decode cX8_ifElse 11 = .ok (.invokevirtual 210, 3) := by decide +kernel
theorem dX8_ifElse_14 : decode cX8_ifElse 14 = .ok (.invokestatic 213, 3) := by decide +kernel
theorem dX8_ifElse_17 : decode cX8_ifElse 17 = .ok (.istore_n 1, 1) := by decide +kernel
theorem dX8_ifElse_18 : decode cX8_ifElse 18 = .ok (.aload_n 0, 1) := by decide +kernel
theorem dX8_ifElse_19 : decode cX8_ifElse 19 = .ok (.getfield 27, 3) := by decide +kernel
theorem dX8_ifElse_22 : decode cX8_ifElse 22 = .ok (.bipush 23, 2) := by decide +kernel
theorem dX8_ifElse_24 : decode cX8_ifElse 24 = .ok (.iconst 0, 1) := by decide +kernel
theorem dX8_ifElse_25 : decode cX8_ifElse 25 = .ok (.invokevirtual 154, 3) := by decide +kernel
theorem dX8_ifElse_28 : decode cX8_ifElse 28 = .ok (.istore_n 2, 1) := by decide +kernel
theorem dX8_ifElse_29 : decode cX8_ifElse 29 = .ok (.aload_n 0, 1) := by decide +kernel
theorem dX8_ifElse_30 : decode cX8_ifElse 30 = .ok (.invokevirtual 120, 3) := by decide +kernel
theorem dX8_ifElse_33 : decode cX8_ifElse 33 = .ok (.istore_n 3, 1) := by decide +kernel
theorem dX8_ifElse_34 : decode cX8_ifElse 34 = .ok (.aload_n 0, 1) := by decide +kernel
theorem dX8_ifElse_35 : decode cX8_ifElse 35 = .ok (.getfield 14, 3) := by decide +kernel
theorem dX8_ifElse_38 : decode cX8_ifElse 38 = .ok (.getfield 66, 3) := by decide +kernel
theorem dX8_ifElse_41 : decode cX8_ifElse 41 = .ok (.sipush 304, 3) := by decide +kernel
theorem dX8_ifElse_44 : decode cX8_ifElse 44 = .ok (.if_icmp .eq 26, 3) := by decide +kernel
theorem dX8_ifElse_47 : decode cX8_ifElse 47 = .ok (.aload_n 0, 1) := by decide +kernel
theorem dX8_ifElse_48 : decode cX8_ifElse 48 = .ok (.getfield 27, 3) := by decide +kernel
theorem dX8_ifElse_51 : decode cX8_ifElse 51 = .ok (.iload_n 2, 1) := by decide +kernel
theorem dX8_ifElse_52 : decode cX8_ifElse 52 = .ok (.iconst 1, 1) := by decide +kernel
theorem dX8_ifElse_53 : decode cX8_ifElse 53 = .ok (.iadd, 1) := by decide +kernel
theorem dX8_ifElse_54 : decode cX8_ifElse 54 = .ok (.aload_n 0, 1) := by decide +kernel
theorem dX8_ifElse_55 : decode cX8_ifElse 55 = .ok (.getfield 27, 3) := by decide +kernel
theorem dX8_ifElse_58 : decode cX8_ifElse 58 = .ok (.invokevirtual 234, 3) := by decide +kernel
theorem dX8_ifElse_61 : decode cX8_ifElse 61 = .ok (.invokevirtual 237, 3) := by decide +kernel
theorem dX8_ifElse_64 : decode cX8_ifElse 64 = .ok (.iload_n 3, 1) := by decide +kernel
theorem dX8_ifElse_65 : decode cX8_ifElse 65 = .ok (.iconst 1, 1) := by decide +kernel
theorem dX8_ifElse_66 : decode cX8_ifElse 66 = .ok (.ior, 1) := by decide +kernel
theorem dX8_ifElse_67 : decode cX8_ifElse 67 = .ok (.iload_n 1, 1) := by decide +kernel
theorem dX8_ifElse_68 : decode cX8_ifElse 68 = .ok (.ior, 1) := by decide +kernel
theorem dX8_ifElse_69 : decode cX8_ifElse 69 = .ok (.ireturn, 1) := by decide +kernel
theorem dX8_ifElse_70 : decode cX8_ifElse 70 = .ok (.aload_n 0, 1) := by decide +kernel
theorem dX8_ifElse_71 : decode cX8_ifElse 71 = .ok (.getfield 14, 3) := by decide +kernel
theorem dX8_ifElse_74 : decode cX8_ifElse 74 = .ok (.invokevirtual 75, 3) := by decide +kernel
theorem dX8_ifElse_77 : decode cX8_ifElse 77 = .ok (.aload_n 0, 1) := by decide +kernel
theorem dX8_ifElse_78 : decode cX8_ifElse 78 = .ok (.getfield 27, 3) := by decide +kernel
theorem dX8_ifElse_81 : decode cX8_ifElse 81 = .ok (.bipush 22, 2) := by decide +kernel
theorem dX8_ifElse_83 : decode cX8_ifElse 83 = .ok (.iconst 0, 1) := by decide +kernel
theorem dX8_ifElse_84 : decode cX8_ifElse 84 = .ok (.invokevirtual 154, 3) := by decide +kernel
theorem dX8_ifElse_87 : decode cX8_ifElse 87 = .ok (.istore 4, 2) := by decide +kernel
theorem dX8_ifElse_89 : decode cX8_ifElse 89 = .ok (.aload_n 0, 1) := by decide +kernel
theorem dX8_ifElse_90 : decode cX8_ifElse 90 = .ok (.getfield 27, 3) := by decide +kernel
theorem dX8_ifElse_93 : decode cX8_ifElse 93 = .ok (.iload_n 2, 1) := by decide +kernel
theorem dX8_ifElse_94 : decode cX8_ifElse 94 = .ok (.iconst 1, 1) := by decide +kernel
theorem dX8_ifElse_95 : decode cX8_ifElse 95 = .ok (.iadd, 1) := by decide +kernel
theorem dX8_ifElse_96 : decode cX8_ifElse 96 = .ok (.aload_n 0, 1) := by decide +kernel
theorem dX8_ifElse_97 : decode cX8_ifElse 97 = .ok (.getfield 27, 3) := by decide +kernel
theorem dX8_ifElse_100 : decode cX8_ifElse 100 = .ok (.invokevirtual 234, 3) := by decide +kernel
theorem dX8_ifElse_103 : decode cX8_ifElse 103 = .ok (.invokevirtual 237, 3) := by decide +kernel
theorem dX8_ifElse_106 : decode cX8_ifElse 106 = .ok (.iload_n 3, 1) := by decide +kernel
theorem dX8_ifElse_107 : decode cX8_ifElse 107 = .ok (.aload_n 0, 1) := by decide +kernel
theorem dX8_ifElse_108 : decode cX8_ifElse 108 = .ok (.invokevirtual 120, 3) := by decide +kernel
theorem dX8_ifElse_111 : decode cX8_ifElse 111 = .ok (.ior, 1) := by decide +kernel
theorem dX8_ifElse_112 : decode cX8_ifElse 112 = .ok (.istore_n 3, 1) := by decide +kernel
theorem dX8_ifElse_113 : decode cX8_ifElse 113 = .ok (.aload_n 0, 1) := by decide +kernel
theorem dX8_ifElse_114 : decode cX8_ifElse 114 = .ok (.getfield 27, 3) := by decide +kernel
theorem dX8_ifElse_117 : decode cX8_ifElse 117 = .ok (.iload 4, 2) := by decide +kernel
theorem dX8_ifElse_119 : decode cX8_ifElse 119 = .ok (.iconst 1, 1) := by decide +kernel
theorem dX8_ifElse_120 : decode cX8_ifElse 120 = .ok (.iadd, 1) := by decide +kernel
theorem dX8_ifElse_121 : decode cX8_ifElse 121 = .ok (.aload_n 0, 1) := by decide +kernel
theorem dX8_ifElse_122 : decode cX8_ifElse 122 = .ok (.getfield 27, 3) := by decide +kernel
theorem dX8_ifElse_125 : decode cX8_ifElse 125 = .ok (.invokevirtual 234, 3) := by decide +kernel
theorem dX8_ifElse_128 : decode cX8_ifElse 128 = .ok (.invokevirtual 237, 3) := by decide +kernel
theorem dX8_ifElse_131 : decode cX8_ifElse 131 = .ok (.iload_n 3, 1) := by decide +kernel
theorem dX8_ifElse_132 : decode cX8_ifElse 132 = .ok (.iload_n 1, 1) := by decide +kernel
theorem dX8_ifElse_133 : decode cX8_ifElse 133 = .ok (.ior, 1) := by decide +kernel
theorem dX8_ifElse_134 : decode cX8_ifElse 134 = .ok (.ireturn, 1) := by decide +kernel
def wX8_ifElse (B : Nat → kp_S → (Int32 → kp_S → Prop) → Prop) (a0 : Nat) (S : kp_S) (post : Int32 → kp_S → Prop) : Prop :=
  ∃ b1 : Nat, kp_R S 1600 a0 = some b1 ∧
  wX9_advance b1 S (fun T2 =>
  ∃ b3 : Nat, kp_R T2 1602 a0 = some b3 ∧
  wX2_whole_t b3 T2 (fun y5 T4 =>
  wX8_troubleOf y5 T4 (fun y7 T6 =>
  ∃ b8 : Nat, kp_R T6 1603 a0 = some b8 ∧
  wX0_add_ b8 23 0 T6 (fun y10 T9 =>
  B a0 T9 (fun y12 T11 =>
  ∃ b13 : Nat, kp_R T11 1600 a0 = some b13 ∧
  (((kp_I T11 1805 b13) = 304 →
  wX9_advance b13 T11 (fun T14 =>
  ∃ b15 : Nat, kp_R T14 1603 a0 = some b15 ∧
  wX0_add_ b15 22 0 T14 (fun y17 T16 =>
  ∃ b18 : Nat, kp_R T16 1603 a0 = some b18 ∧
  wX0_size b18 T16 (fun y20 T19 =>
  wX0_set b18 (y10 + 1) y20 T19 (fun T21 =>
  B a0 T21 (fun y23 T22 =>
  ∀ y24 : Int32, y24 = (y12 ||| y23) →
  ∃ b25 : Nat, kp_R T22 1603 a0 = some b25 ∧
  wX0_size b25 T22 (fun y27 T26 =>
  wX0_set b25 (y17 + 1) y27 T26 (fun T28 =>
  post (y24 ||| y7) T28)))))))) ∧ (¬ (kp_I T11 1805 b13) = 304 →
  ∃ b29 : Nat, kp_R T11 1603 a0 = some b29 ∧
  wX0_size b29 T11 (fun y31 T30 =>
  wX0_set b29 (y10 + 1) y31 T30 (fun T32 =>
  post ((y12 ||| 1) ||| y7) T32)))))))))
set_option maxHeartbeats 4000000 in
set_option maxRecDepth 100000 in
theorem c_X8_ifElse (l : Launch) (D : va_G) (cy : Nat → ClassId) (ad : (Nat → Nat) × (Nat → Nat)) (F L : Nat) (B : Nat → kp_S → (Int32 → kp_S → Prop) → Prop) (hB : ∀ (S : kp_S) (a0 : Nat) (post : Int32 → kp_S → Prop), kp_ok S → kp_is S a0 8 → B a0 S post → kp_M l yX8_block cX8_block 5 (some .int) { frames := F, cells := 0, slots := 0, locals := L } D cy ad S [.ref a0] 0 0 (fun A => kp_Qi D cy A S post)) (hF : 191 ≤ F) (hL : 4387 ≤ L) (S : kp_S) (a0 : Nat) (post : Int32 → kp_S → Prop) (hS : kp_ok S) (f_a0 : kp_is S a0 8) (hw : wX8_ifElse B a0 S post) : kp_M l yX8_ifElse cX8_ifElse 5 (some .int) { frames := F + 1, cells := 0, slots := 0, locals := L + 24 } D cy ad S [.ref a0] 0 0 (fun A => kp_Qi D cy A S post) := by
  refine kp_start (own := RX8) (by decide) rfl (Nat.le_of_ble_eq_true rfl) hS ?_
  intro p e s m below meth c A ls X hr hlocks hname h hl
  have hle : kp_le S S := kp_le.rf
  have hl : lv_has ls 5 [(0, .ref a0)] := hl
  unfold wX8_ifElse at hw
  have h : kp_H D cy A S s.heap s.heap [] := h
  revert h
  intro h
  refine lv_aload_n X.1 X.2.1 dX8_ifElse_0 rfl (lv_at hl 0 rfl) ?_
  obtain ⟨b1, e_b1, hw⟩ := hw
  have f_b1 := h.2.2.2.rf (c := 8) (k := 0) f_a0 (by decide) (by decide) e_b1 (t := 9) rfl
  refine kp_get X h f_a0 ff_8_14.l (v := .ref b1) (congrArg va_rf e_b1) dX8_ifElse_1 ?_
  refine kp_callv X h (kp_runV (rm := { frames := 5, cells := 0, slots := 0, locals := 113 }) (mc := 0) (ms := 0) (rest := []) (Qc := fun A => kp_Qv D cy A S _) X h (c_X9_advance l D cy ad S b1 _ h.2.2.2 f_b1 hw) f_b1 cv_8_75 ⟨by dsimp only; omega, by dsimp only; omega, rfl, rfl, by dsimp only; omega, by dsimp only; omega⟩ rfl hl.1 rfl (Nat.le_of_ble_eq_true rfl) dX8_ifElse_4) (fun T2 hw l_T2 H locs h => ?_)
  have f_a0 := l_T2.is f_a0
  have f_b1 := l_T2.is f_b1
  have hle := hle.tr l_T2
  refine lv_aload_n X.1 X.2.1 dX8_ifElse_7 rfl (lv_at hl 0 rfl) ?_
  obtain ⟨b3, e_b3, hw⟩ := hw
  have f_b3 := h.2.2.2.rf (c := 8) (k := 2) f_a0 (by decide) (by decide) e_b3 (t := 2) rfl
  refine kp_get X h f_a0 ff_8_36.l (v := .ref b3) (congrArg va_rf e_b3) dX8_ifElse_8 ?_
  refine kp_calli X h (kp_runV (rm := { frames := 189, cells := 0, slots := 0, locals := 4339 }) (mc := 0) (ms := 0) (rest := []) (Qc := fun A => kp_Qi D cy A T2 _) X h (c_X2_whole_t l D cy ad T2 b3 _ h.2.2.2 f_b3 hw) f_b3 cv_8_210 ⟨by dsimp only; omega, by dsimp only; omega, rfl, rfl, by dsimp only; omega, by dsimp only; omega⟩ rfl hl.1 rfl (Nat.le_of_ble_eq_true rfl) dX8_ifElse_11) (fun y5 T4 hw l_T4 H locs h => ?_)
  have f_a0 := l_T4.is f_a0
  have f_b1 := l_T4.is f_b1
  have f_b3 := l_T4.is f_b3
  have hle := hle.tr l_T4
  refine kp_calli X h (kp_runS (rm := { frames := 0, cells := 0, slots := 0, locals := 0 }) (mc := 0) (ms := 0) (rest := []) (Qc := fun A => kp_Qi D cy A T4 _) X h (c_X8_troubleOf l D cy ad T4 y5 _ h.2.2.2  hw) cs_8_213 ⟨by dsimp only; omega, by dsimp only; omega, rfl, rfl, by dsimp only; omega, by dsimp only; omega⟩ rfl hl.1 rfl (Nat.le_of_ble_eq_true rfl) dX8_ifElse_14) (fun y7 T6 hw l_T6 H locs h => ?_)
  have f_a0 := l_T6.is f_a0
  have f_b1 := l_T6.is f_b1
  have f_b3 := l_T6.is f_b3
  have hle := hle.tr l_T6
  refine lv_istore_n (lv' := [(1, .int y7), (0, .ref a0)]) X.1 X.2.1 dX8_ifElse_17 rfl hl (by decide) rfl (fun ls hl => ?_)
  refine lv_aload_n X.1 X.2.1 dX8_ifElse_18 rfl (lv_at hl 1 rfl) ?_
  obtain ⟨b8, e_b8, hw⟩ := hw
  have f_b8 := h.2.2.2.rf (c := 8) (k := 3) f_a0 (by decide) (by decide) e_b8 (t := 0) rfl
  refine kp_get X h f_a0 fp_8_27.l (v := .ref b8) (congrArg va_rf e_b8) dX8_ifElse_19 ?_
  refine lv_bipush (v := 23) X.1 X.2.1 dX8_ifElse_22 (by decide) ?_
  refine lv_iconst (v := 0) X.1 X.2.1 dX8_ifElse_24 (by decide) ?_
  refine kp_calli X h (kp_runV (rm := { frames := 1, cells := 0, slots := 0, locals := 22 }) (mc := 0) (ms := 0) (rest := []) (Qc := fun A => kp_Qi D cy A T6 _) X h (c_X0_add_ l D cy ad T6 b8 23 0 _ h.2.2.2 f_b8 hw) f_b8 cv_8_154 ⟨by dsimp only; omega, by dsimp only; omega, rfl, rfl, by dsimp only; omega, by dsimp only; omega⟩ rfl hl.1 rfl (Nat.le_of_ble_eq_true rfl) dX8_ifElse_25) (fun y10 T9 hw l_T9 H locs h => ?_)
  have f_a0 := l_T9.is f_a0
  have f_b1 := l_T9.is f_b1
  have f_b3 := l_T9.is f_b3
  have f_b8 := l_T9.is f_b8
  have hle := hle.tr l_T9
  refine lv_istore_n (lv' := [(2, .int y10), (1, .int y7), (0, .ref a0)]) X.1 X.2.1 dX8_ifElse_28 rfl hl (by decide) rfl (fun ls hl => ?_)
  refine lv_aload_n X.1 X.2.1 dX8_ifElse_29 rfl (lv_at hl 2 rfl) ?_
  refine kp_calli X h (kp_runV (rm := { frames := F, cells := 0, slots := 0, locals := L }) (mc := 0) (ms := 0) (rest := []) (Qc := fun A => kp_Qi D cy A T9 _) X h (hB T9 a0 _ h.2.2.2 f_a0 hw) f_a0 cv_8_120 ⟨by dsimp only; omega, by dsimp only; omega, rfl, rfl, by dsimp only; omega, by dsimp only; omega⟩ rfl hl.1 rfl (Nat.le_of_ble_eq_true rfl) dX8_ifElse_30) (fun y12 T11 hw l_T11 H locs h => ?_)
  have f_a0 := l_T11.is f_a0
  have f_b1 := l_T11.is f_b1
  have f_b3 := l_T11.is f_b3
  have f_b8 := l_T11.is f_b8
  have hle := hle.tr l_T11
  refine lv_istore_n (lv' := [(3, .int y12), (2, .int y10), (1, .int y7), (0, .ref a0)]) X.1 X.2.1 dX8_ifElse_33 rfl hl (by decide) rfl (fun ls hl => ?_)
  refine lv_aload_n X.1 X.2.1 dX8_ifElse_34 rfl (lv_at hl 3 rfl) ?_
  obtain ⟨b13, e_b13, hw⟩ := hw
  have f_b13 := h.2.2.2.rf (c := 8) (k := 0) f_a0 (by decide) (by decide) e_b13 (t := 9) rfl
  refine kp_get X h f_a0 ff_8_14.l (v := .ref b13) (congrArg va_rf e_b13) dX8_ifElse_35 ?_
  refine kp_get X h f_b13 fp_8_66.l (v := .int (kp_I T11 1805 b13)) rfl dX8_ifElse_38 ?_
  refine lv_sipush (v := 304) X.1 X.2.1 dX8_ifElse_41 (by decide) ?_
  refine lv_icmp_eq (tgt := 70) X.1 X.2.1 dX8_ifElse_44 (by decide) (fun c33 => ?_) (fun c33 => ?_)
  · have hw := hw.1 c33
    refine lv_aload_n X.1 X.2.1 dX8_ifElse_70 rfl (lv_at hl 3 rfl) ?_
    refine kp_get X h f_a0 ff_8_14.l (v := .ref b13) (congrArg va_rf e_b13) dX8_ifElse_71 ?_
    refine kp_callv X h (kp_runV (rm := { frames := 5, cells := 0, slots := 0, locals := 113 }) (mc := 0) (ms := 0) (rest := []) (Qc := fun A => kp_Qv D cy A T11 _) X h (c_X9_advance l D cy ad T11 b13 _ h.2.2.2 f_b13 hw) f_b13 cv_8_75 ⟨by dsimp only; omega, by dsimp only; omega, rfl, rfl, by dsimp only; omega, by dsimp only; omega⟩ rfl hl.1 rfl (Nat.le_of_ble_eq_true rfl) dX8_ifElse_74) (fun T14 hw l_T14 H locs h => ?_)
    have f_a0 := l_T14.is f_a0
    have f_b1 := l_T14.is f_b1
    have f_b3 := l_T14.is f_b3
    have f_b8 := l_T14.is f_b8
    have f_b13 := l_T14.is f_b13
    have hle := hle.tr l_T14
    refine lv_aload_n X.1 X.2.1 dX8_ifElse_77 rfl (lv_at hl 3 rfl) ?_
    obtain ⟨b15, e_b15, hw⟩ := hw
    have f_b15 := h.2.2.2.rf (c := 8) (k := 3) f_a0 (by decide) (by decide) e_b15 (t := 0) rfl
    refine kp_get X h f_a0 fp_8_27.l (v := .ref b15) (congrArg va_rf e_b15) dX8_ifElse_78 ?_
    refine lv_bipush (v := 22) X.1 X.2.1 dX8_ifElse_81 (by decide) ?_
    refine lv_iconst (v := 0) X.1 X.2.1 dX8_ifElse_83 (by decide) ?_
    refine kp_calli X h (kp_runV (rm := { frames := 1, cells := 0, slots := 0, locals := 22 }) (mc := 0) (ms := 0) (rest := []) (Qc := fun A => kp_Qi D cy A T14 _) X h (c_X0_add_ l D cy ad T14 b15 22 0 _ h.2.2.2 f_b15 hw) f_b15 cv_8_154 ⟨by dsimp only; omega, by dsimp only; omega, rfl, rfl, by dsimp only; omega, by dsimp only; omega⟩ rfl hl.1 rfl (Nat.le_of_ble_eq_true rfl) dX8_ifElse_84) (fun y17 T16 hw l_T16 H locs h => ?_)
    have f_a0 := l_T16.is f_a0
    have f_b1 := l_T16.is f_b1
    have f_b3 := l_T16.is f_b3
    have f_b8 := l_T16.is f_b8
    have f_b13 := l_T16.is f_b13
    have f_b15 := l_T16.is f_b15
    have hle := hle.tr l_T16
    refine lv_istore (lv' := [(4, .int y17), (3, .int y12), (2, .int y10), (1, .int y7), (0, .ref a0)]) X.1 X.2.1 dX8_ifElse_87 hl (by decide) rfl (fun ls hl => ?_)
    refine lv_aload_n X.1 X.2.1 dX8_ifElse_89 rfl (lv_at hl 4 rfl) ?_
    obtain ⟨b18, e_b18, hw⟩ := hw
    have f_b18 := h.2.2.2.rf (c := 8) (k := 3) f_a0 (by decide) (by decide) e_b18 (t := 0) rfl
    refine kp_get X h f_a0 fp_8_27.l (v := .ref b18) (congrArg va_rf e_b18) dX8_ifElse_90 ?_
    refine lv_iload_n X.1 X.2.1 dX8_ifElse_93 rfl (lv_at hl 2 rfl) ?_
    refine lv_iconst (v := 1) X.1 X.2.1 dX8_ifElse_94 (by decide) ?_
    refine lv_iadd X.1 X.2.1 dX8_ifElse_95 ?_
    refine lv_aload_n X.1 X.2.1 dX8_ifElse_96 rfl (lv_at hl 4 rfl) ?_
    refine kp_get X h f_a0 fp_8_27.l (v := .ref b18) (congrArg va_rf e_b18) dX8_ifElse_97 ?_
    refine kp_calli X h (kp_runV (rm := { frames := 0, cells := 0, slots := 0, locals := 0 }) (mc := 0) (ms := 0) (rest := [.int (y10 + 1), .ref b18]) (Qc := fun A => kp_Qi D cy A T16 _) X h (c_X0_size l D cy ad T16 b18 _ h.2.2.2 f_b18 hw) f_b18 cv_8_234 ⟨by dsimp only; omega, by dsimp only; omega, rfl, rfl, by dsimp only; omega, by dsimp only; omega⟩ rfl hl.1 rfl (Nat.le_of_ble_eq_true rfl) dX8_ifElse_100) (fun y20 T19 hw l_T19 H locs h => ?_)
    have f_a0 := l_T19.is f_a0
    have f_b1 := l_T19.is f_b1
    have f_b3 := l_T19.is f_b3
    have f_b8 := l_T19.is f_b8
    have f_b13 := l_T19.is f_b13
    have f_b15 := l_T19.is f_b15
    have f_b18 := l_T19.is f_b18
    have hle := hle.tr l_T19
    refine kp_callv X h (kp_runV (rm := { frames := 0, cells := 0, slots := 0, locals := 0 }) (mc := 0) (ms := 0) (rest := []) (Qc := fun A => kp_Qv D cy A T19 _) X h (c_X0_set l D cy ad T19 b18 (y10 + 1) y20 _ h.2.2.2 f_b18 hw) f_b18 cv_8_237 ⟨by dsimp only; omega, by dsimp only; omega, rfl, rfl, by dsimp only; omega, by dsimp only; omega⟩ rfl hl.1 rfl (Nat.le_of_ble_eq_true rfl) dX8_ifElse_103) (fun T21 hw l_T21 H locs h => ?_)
    have f_a0 := l_T21.is f_a0
    have f_b1 := l_T21.is f_b1
    have f_b3 := l_T21.is f_b3
    have f_b8 := l_T21.is f_b8
    have f_b13 := l_T21.is f_b13
    have f_b15 := l_T21.is f_b15
    have f_b18 := l_T21.is f_b18
    have hle := hle.tr l_T21
    refine lv_iload_n X.1 X.2.1 dX8_ifElse_106 rfl (lv_at hl 1 rfl) ?_
    refine lv_aload_n X.1 X.2.1 dX8_ifElse_107 rfl (lv_at hl 4 rfl) ?_
    refine kp_calli X h (kp_runV (rm := { frames := F, cells := 0, slots := 0, locals := L }) (mc := 0) (ms := 0) (rest := [.int y12]) (Qc := fun A => kp_Qi D cy A T21 _) X h (hB T21 a0 _ h.2.2.2 f_a0 hw) f_a0 cv_8_120 ⟨by dsimp only; omega, by dsimp only; omega, rfl, rfl, by dsimp only; omega, by dsimp only; omega⟩ rfl hl.1 rfl (Nat.le_of_ble_eq_true rfl) dX8_ifElse_108) (fun y23 T22 hw l_T22 H locs h => ?_)
    have f_a0 := l_T22.is f_a0
    have f_b1 := l_T22.is f_b1
    have f_b3 := l_T22.is f_b3
    have f_b8 := l_T22.is f_b8
    have f_b13 := l_T22.is f_b13
    have f_b15 := l_T22.is f_b15
    have f_b18 := l_T22.is f_b18
    have hle := hle.tr l_T22
    refine lv_ior X.1 X.2.1 dX8_ifElse_111 ?_
    refine lv_topi (fun y24 e_y24 => ?_)
    have hw := hw y24 e_y24
    refine lv_istore_n (lv' := [(3, .int y24), (4, .int y17), (2, .int y10), (1, .int y7), (0, .ref a0)]) X.1 X.2.1 dX8_ifElse_112 rfl hl (by decide) rfl (fun ls hl => ?_)
    refine lv_aload_n X.1 X.2.1 dX8_ifElse_113 rfl (lv_at hl 4 rfl) ?_
    obtain ⟨b25, e_b25, hw⟩ := hw
    have f_b25 := h.2.2.2.rf (c := 8) (k := 3) f_a0 (by decide) (by decide) e_b25 (t := 0) rfl
    refine kp_get X h f_a0 fp_8_27.l (v := .ref b25) (congrArg va_rf e_b25) dX8_ifElse_114 ?_
    refine lv_iload X.1 X.2.1 dX8_ifElse_117 (lv_at hl 1 rfl) ?_
    refine lv_iconst (v := 1) X.1 X.2.1 dX8_ifElse_119 (by decide) ?_
    refine lv_iadd X.1 X.2.1 dX8_ifElse_120 ?_
    refine lv_aload_n X.1 X.2.1 dX8_ifElse_121 rfl (lv_at hl 4 rfl) ?_
    refine kp_get X h f_a0 fp_8_27.l (v := .ref b25) (congrArg va_rf e_b25) dX8_ifElse_122 ?_
    refine kp_calli X h (kp_runV (rm := { frames := 0, cells := 0, slots := 0, locals := 0 }) (mc := 0) (ms := 0) (rest := [.int (y17 + 1), .ref b25]) (Qc := fun A => kp_Qi D cy A T22 _) X h (c_X0_size l D cy ad T22 b25 _ h.2.2.2 f_b25 hw) f_b25 cv_8_234 ⟨by dsimp only; omega, by dsimp only; omega, rfl, rfl, by dsimp only; omega, by dsimp only; omega⟩ rfl hl.1 rfl (Nat.le_of_ble_eq_true rfl) dX8_ifElse_125) (fun y27 T26 hw l_T26 H locs h => ?_)
    have f_a0 := l_T26.is f_a0
    have f_b1 := l_T26.is f_b1
    have f_b3 := l_T26.is f_b3
    have f_b8 := l_T26.is f_b8
    have f_b13 := l_T26.is f_b13
    have f_b15 := l_T26.is f_b15
    have f_b18 := l_T26.is f_b18
    have f_b25 := l_T26.is f_b25
    have hle := hle.tr l_T26
    refine kp_callv X h (kp_runV (rm := { frames := 0, cells := 0, slots := 0, locals := 0 }) (mc := 0) (ms := 0) (rest := []) (Qc := fun A => kp_Qv D cy A T26 _) X h (c_X0_set l D cy ad T26 b25 (y17 + 1) y27 _ h.2.2.2 f_b25 hw) f_b25 cv_8_237 ⟨by dsimp only; omega, by dsimp only; omega, rfl, rfl, by dsimp only; omega, by dsimp only; omega⟩ rfl hl.1 rfl (Nat.le_of_ble_eq_true rfl) dX8_ifElse_128) (fun T28 hw l_T28 H locs h => ?_)
    have f_a0 := l_T28.is f_a0
    have f_b1 := l_T28.is f_b1
    have f_b3 := l_T28.is f_b3
    have f_b8 := l_T28.is f_b8
    have f_b13 := l_T28.is f_b13
    have f_b15 := l_T28.is f_b15
    have f_b18 := l_T28.is f_b18
    have f_b25 := l_T28.is f_b25
    have hle := hle.tr l_T28
    refine lv_iload_n X.1 X.2.1 dX8_ifElse_131 rfl (lv_at hl 0 rfl) ?_
    refine lv_iload_n X.1 X.2.1 dX8_ifElse_132 rfl (lv_at hl 3 rfl) ?_
    refine lv_ior X.1 X.2.1 dX8_ifElse_133 ?_
    exact kp_reti X hr hlocks h hle rfl hw dX8_ifElse_134
  · have hw := hw.2 c33
    refine lv_aload_n X.1 X.2.1 dX8_ifElse_47 rfl (lv_at hl 3 rfl) ?_
    obtain ⟨b29, e_b29, hw⟩ := hw
    have f_b29 := h.2.2.2.rf (c := 8) (k := 3) f_a0 (by decide) (by decide) e_b29 (t := 0) rfl
    refine kp_get X h f_a0 fp_8_27.l (v := .ref b29) (congrArg va_rf e_b29) dX8_ifElse_48 ?_
    refine lv_iload_n X.1 X.2.1 dX8_ifElse_51 rfl (lv_at hl 1 rfl) ?_
    refine lv_iconst (v := 1) X.1 X.2.1 dX8_ifElse_52 (by decide) ?_
    refine lv_iadd X.1 X.2.1 dX8_ifElse_53 ?_
    refine lv_aload_n X.1 X.2.1 dX8_ifElse_54 rfl (lv_at hl 3 rfl) ?_
    refine kp_get X h f_a0 fp_8_27.l (v := .ref b29) (congrArg va_rf e_b29) dX8_ifElse_55 ?_
    refine kp_calli X h (kp_runV (rm := { frames := 0, cells := 0, slots := 0, locals := 0 }) (mc := 0) (ms := 0) (rest := [.int (y10 + 1), .ref b29]) (Qc := fun A => kp_Qi D cy A T11 _) X h (c_X0_size l D cy ad T11 b29 _ h.2.2.2 f_b29 hw) f_b29 cv_8_234 ⟨by dsimp only; omega, by dsimp only; omega, rfl, rfl, by dsimp only; omega, by dsimp only; omega⟩ rfl hl.1 rfl (Nat.le_of_ble_eq_true rfl) dX8_ifElse_58) (fun y31 T30 hw l_T30 H locs h => ?_)
    have f_a0 := l_T30.is f_a0
    have f_b1 := l_T30.is f_b1
    have f_b3 := l_T30.is f_b3
    have f_b8 := l_T30.is f_b8
    have f_b13 := l_T30.is f_b13
    have f_b29 := l_T30.is f_b29
    have hle := hle.tr l_T30
    refine kp_callv X h (kp_runV (rm := { frames := 0, cells := 0, slots := 0, locals := 0 }) (mc := 0) (ms := 0) (rest := []) (Qc := fun A => kp_Qv D cy A T30 _) X h (c_X0_set l D cy ad T30 b29 (y10 + 1) y31 _ h.2.2.2 f_b29 hw) f_b29 cv_8_237 ⟨by dsimp only; omega, by dsimp only; omega, rfl, rfl, by dsimp only; omega, by dsimp only; omega⟩ rfl hl.1 rfl (Nat.le_of_ble_eq_true rfl) dX8_ifElse_61) (fun T32 hw l_T32 H locs h => ?_)
    have f_a0 := l_T32.is f_a0
    have f_b1 := l_T32.is f_b1
    have f_b3 := l_T32.is f_b3
    have f_b8 := l_T32.is f_b8
    have f_b13 := l_T32.is f_b13
    have f_b29 := l_T32.is f_b29
    have hle := hle.tr l_T32
    refine lv_iload_n X.1 X.2.1 dX8_ifElse_64 rfl (lv_at hl 0 rfl) ?_
    refine lv_iconst (v := 1) X.1 X.2.1 dX8_ifElse_65 (by decide) ?_
    refine lv_ior X.1 X.2.1 dX8_ifElse_66 ?_
    refine lv_iload_n X.1 X.2.1 dX8_ifElse_67 rfl (lv_at hl 2 rfl) ?_
    refine lv_ior X.1 X.2.1 dX8_ifElse_68 ?_
    exact kp_reti X hr hlocks h hle rfl hw dX8_ifElse_69
theorem dX8_choose_0 : decode cX8_choose 0 = .ok (.aload_n 0, 1) := by decide +kernel
theorem dX8_choose_1 : decode cX8_choose 1 = .ok (.getfield 14, 3) := by decide +kernel
theorem dX8_choose_4 : decode cX8_choose 4 = .ok (.invokevirtual 75, 3) := by decide +kernel
theorem dX8_choose_7 : decode cX8_choose 7 = .ok (.aload_n 0, 1) := by decide +kernel
theorem dX8_choose_8 : decode cX8_choose 8 = .ok (.getfield 36, 3) := by decide +kernel
theorem dX8_choose_11 : decode cX8_choose 11 = .ok (.invokevirtual 210, 3) := by decide +kernel
theorem dX8_choose_14 : decode cX8_choose 14 = .ok (.invokestatic 213, 3) := by decide +kernel
theorem dX8_choose_17 : decode cX8_choose 17 = .ok (.istore_n 1, 1) := by decide +kernel
theorem dX8_choose_18 : decode cX8_choose 18 = .ok (.aload_n 0, 1) := by decide +kernel
theorem dX8_choose_19 : decode cX8_choose 19 = .ok (.getfield 14, 3) := by decide +kernel
theorem dX8_choose_22 : decode cX8_choose 22 = .ok (.bipush 123, 2) := by decide +kernel
theorem dX8_choose_24 : decode cX8_choose 24 = .ok (.invokevirtual 137, 3) := by decide +kernel
theorem dX8_choose_27 : decode cX8_choose 27 = .ok (.iconst 0, 1) := by decide +kernel
theorem dX8_choose_28 : decode cX8_choose 28 = .ok (.istore_n 2, 1) := by decide +kernel
theorem dX8_choose_29 : decode cX8_choose 29 = .ok (.iconst 0, 1) := by decide +kernel
theorem dX8_choose_30 : decode cX8_choose 30 = .ok (.istore_n 3, 1) := by decide +kernel
theorem dX8_choose_31 : decode cX8_choose 31 = .ok (.iconst 0, 1) := by decide +kernel
theorem dX8_choose_32 : decode cX8_choose 32 = .ok (.istore 4, 2) := by decide +kernel
theorem dX8_choose_34 : decode cX8_choose 34 = .ok (.iconst 0, 1) := by decide +kernel
theorem dX8_choose_35 : decode cX8_choose 35 = .ok (.istore 5, 2) := by decide +kernel
theorem dX8_choose_37 : decode cX8_choose 37 = .ok (.iload 5, 2) := by decide +kernel
theorem dX8_choose_39 : decode cX8_choose 39 = .ok (.sipush 3000, 3) := by decide +kernel
theorem dX8_choose_42 : decode cX8_choose 42 = .ok (.if_icmp .ge 151, 3) := by decide +kernel
theorem dX8_choose_45 : decode cX8_choose 45 = .ok (.aload_n 0, 1) := by decide +kernel
theorem dX8_choose_46 : decode cX8_choose 46 = .ok (.getfield 14, 3) := by decide +kernel
theorem dX8_choose_49 : decode cX8_choose 49 = .ok (.getfield 66, 3) := by decide +kernel
theorem dX8_choose_52 : decode cX8_choose 52 = .ok (.sipush 324, 3) := by decide +kernel
theorem dX8_choose_55 : decode cX8_choose 55 = .ok (.if_icmp .ne 138, 3) := by decide +kernel
theorem dX8_choose_58 : decode cX8_choose 58 = .ok (.aload_n 0, 1) := by decide +kernel
theorem dX8_choose_59 : decode cX8_choose 59 = .ok (.getfield 14, 3) := by decide +kernel
theorem dX8_choose_62 : decode cX8_choose 62 = .ok (.invokevirtual 75, 3) := by decide +kernel
theorem dX8_choose_65 : decode cX8_choose 65 = .ok (.aload_n 0, 1) := by decide +kernel
theorem dX8_choose_66 : decode cX8_choose 66 = .ok (.getfield 14, 3) := by decide +kernel
theorem dX8_choose_69 : decode cX8_choose 69 = .ok (.getfield 66, 3) := by decide +kernel
theorem dX8_choose_72 : decode cX8_choose 72 = .ok (.sipush 316, 3) := by decide +kernel
theorem dX8_choose_75 : decode cX8_choose 75 = .ok (.if_icmp .ne 7, 3) := by decide +kernel
theorem dX8_choose_78 : decode cX8_choose 78 = .ok (.iconst 1, 1) := by decide +kernel
theorem dX8_choose_79 : decode cX8_choose 79 = .ok (.goto 4, 3) := by decide +kernel
theorem dX8_choose_82 : decode cX8_choose 82 = .ok (.iconst 0, 1) := by decide +kernel
theorem dX8_choose_83 : decode cX8_choose 83 = .ok (.istore 6, 2) := by decide +kernel
theorem dX8_choose_85 : decode cX8_choose 85 = .ok (.iload 6, 2) := by decide +kernel
theorem dX8_choose_87 : decode cX8_choose 87 = .ok (.ifCond .eq 10, 3) := by decide +kernel
theorem dX8_choose_90 : decode cX8_choose 90 = .ok (.aload_n 0, 1) := by decide +kernel
theorem dX8_choose_91 : decode cX8_choose 91 = .ok (.invokevirtual 243, 3) := by decide +kernel
theorem dX8_choose_94 : decode cX8_choose 94 = .ok (.goto 9, 3) := by decide +kernel
theorem dX8_choose_97 : decode cX8_choose 97 = .ok (.aload_n 0, 1) := by decide +kernel
theorem dX8_choose_98 : decode cX8_choose 98 = .ok (.bipush 28, 2) := by decide +kernel
theorem dX8_choose_100 : decode cX8_choose 100 = .ok (.invokevirtual 246, 3) := by decide +kernel
theorem dX8_choose_103 : decode cX8_choose 103 = .ok (.istore 7, 2) := by decide +kernel
theorem dX8_choose_105 : decode cX8_choose 105 = .ok (.iload 6, 2) := by decide +kernel
theorem dX8_choose_107 : decode cX8_choose 107 = .ok (.ifCond .eq 7, 3) := by decide +kernel
theorem dX8_choose_110 : decode cX8_choose 110 = .ok (.iconst (-1), 1) := by decide +kernel
theorem dX8_choose_111 : decode cX8_choose 111 = .ok (.goto 12, 3) := by decide +kernel
theorem dX8_choose_114 : decode cX8_choose 114 = .ok (.aload_n 0, 1) := by decide +kernel
theorem dX8_choose_115 : decode cX8_choose 115 = .ok (.getfield 27, 3) := by decide +kernel
theorem dX8_choose_118 : decode cX8_choose 118 = .ok (.invokevirtual 234, 3) := by decide +kernel
theorem dX8_choose_121 : decode cX8_choose 121 = .ok (.iconst 1, 1) := by decide +kernel
theorem dX8_choose_122 : decode cX8_choose 122 = .ok (.isub, 1) := by decide +kernel
theorem dX8_choose_123 : decode cX8_choose 123 = .ok (.istore 8, 2) := by decide +kernel
theorem dX8_choose_125 : decode cX8_choose 125 = .ok (.aload_n 0, 1) := by decide +kernel
theorem dX8_choose_126 : decode cX8_choose 126 = .ok (.invokevirtual 120, 3) := by decide +kernel
theorem dX8_choose_129 : decode cX8_choose 129 = .ok (.istore 9, 2) := by decide +kernel
theorem dX8_choose_131 : decode cX8_choose 131 = .ok (.aload_n 0, 1) := by decide +kernel
theorem dX8_choose_132 : decode cX8_choose 132 = .ok (.getfield 27, 3) := by decide +kernel
theorem dX8_choose_135 : decode cX8_choose 135 = .ok (.bipush 22, 2) := by decide +kernel
theorem dX8_choose_137 : decode cX8_choose 137 = .ok (.iload_n 3, 1) := by decide +kernel
theorem dX8_choose_138 : decode cX8_choose 138 = .ok (.invokevirtual 154, 3) := by decide +kernel
theorem dX8_choose_141 : decode cX8_choose 141 = .ok (.iconst 1, 1) := by decide +kernel
theorem dX8_choose_142 : decode cX8_choose 142 = .ok (.iadd, 1) := by decide +kernel
theorem dX8_choose_143 : decode cX8_choose 143 = .ok (.istore_n 3, 1) := by decide +kernel
theorem dX8_choose_144 : decode cX8_choose 144 = .ok (.aload_n 0, 1) := by decide +kernel
theorem dX8_choose_145 : decode cX8_choose 145 = .ok (.getfield 27, 3) := by decide +kernel
theorem dX8_choose_148 : decode cX8_choose 148 = .ok (.iload 8, 2) := by decide +kernel
theorem dX8_choose_150 : decode cX8_choose 150 = .ok (.aload_n 0, 1) := by decide +kernel
theorem dX8_choose_151 : decode cX8_choose 151 = .ok (.getfield 27, 3) := by decide +kernel
theorem dX8_choose_154 : decode cX8_choose 154 = .ok (.invokevirtual 234, 3) := by decide +kernel
theorem dX8_choose_157 : decode cX8_choose 157 = .ok (.invokevirtual 237, 3) := by decide +kernel
theorem dX8_choose_160 : decode cX8_choose 160 = .ok (.iload_n 2, 1) := by decide +kernel
theorem dX8_choose_161 : decode cX8_choose 161 = .ok (.iload 4, 2) := by decide +kernel
theorem dX8_choose_163 : decode cX8_choose 163 = .ok (.ifCond .eq 7, 3) := by decide +kernel
theorem dX8_choose_166 : decode cX8_choose 166 = .ok (.iconst 0, 1) := by decide +kernel
theorem dX8_choose_167 : decode cX8_choose 167 = .ok (.goto 11, 3) := by decide +kernel
theorem dX8_choose_170 : decode cX8_choose 170 = .ok (.iload 9, 2) := by decide +kernel
theorem dX8_choose_172 : decode cX8_choose 172 = .ok (.iload 7, 2) := by decide +kernel
theorem dX8_choose_174 : decode cX8_choose 174 = .ok (.invokestatic 213, 3) := by decide +kernel
theorem dX8_choose_177 : decode cX8_choose 177 = .ok (.ior, 1) := by decide +kernel
theorem dX8_choose_178 : decode cX8_choose 178 = .ok (.ior, 1) := by decide +kernel
theorem dX8_choose_179 : decode cX8_choose 179 = .ok (.istore_n 2, 1) := by decide +kernel
theorem dX8_choose_180 : decode cX8_choose 180 = .ok (.iload 4, 2) := by decide +kernel
theorem dX8_choose_182 : decode cX8_choose 182 = .ok (.iload 6, 2) := by decide +kernel
theorem dX8_choose_184 : decode cX8_choose 184 = .ok (.ior, 1) := by decide +kernel
theorem dX8_choose_185 : decode cX8_choose 185 = .ok (.istore 4, 2) := by decide +kernel
theorem dX8_choose_187 : decode cX8_choose 187 = .ok (.iinc 5 1, 3) := by decide +kernel
theorem dX8_choose_190 : decode cX8_choose 190 = .ok (.goto (-153), 3) := by decide +kernel
theorem dX8_choose_193 : decode cX8_choose 193 = .ok (.aload_n 0, 1) := by decide +kernel
theorem dX8_choose_194 : decode cX8_choose 194 = .ok (.getfield 27, 3) := by decide +kernel
theorem dX8_choose_197 : decode cX8_choose 197 = .ok (.bipush 26, 2) := by decide +kernel
theorem dX8_choose_199 : decode cX8_choose 199 = .ok (.iconst 1, 1) := by decide +kernel
theorem dX8_choose_200 : decode cX8_choose 200 = .ok (.invokevirtual 154, 3) := by decide +kernel
theorem dX8_choose_203 : decode cX8_choose 203 = .ok (.pop, 1) := by decide +kernel
theorem dX8_choose_204 : decode cX8_choose 204 = .ok (.aload_n 0, 1) := by decide +kernel
theorem dX8_choose_205 : decode cX8_choose 205 = .ok (.getfield 14, 3) := by decide +kernel
theorem dX8_choose_208 : decode cX8_choose 208 = .ok (.getfield 66, 3) := by decide +kernel
theorem dX8_choose_211 : decode cX8_choose 211 = .ok (.sipush 325, 3) := by decide +kernel
theorem dX8_choose_214 : decode cX8_choose 214 = .ok (.if_icmp .ne 33, 3) := by decide +kernel
theorem dX8_choose_217 : decode cX8_choose 217 = .ok (.aload_n 0, 1) := by decide +kernel
theorem dX8_choose_218 : decode cX8_choose 218 = .ok (.getfield 14, 3) := by decide +kernel
theorem dX8_choose_221 : decode cX8_choose 221 = .ok (.invokevirtual 75, 3) := by decide +kernel
theorem dX8_choose_224 : decode cX8_choose 224 = .ok (.aload_n 0, 1) := by decide +kernel
theorem dX8_choose_225 : decode cX8_choose 225 = .ok (.invokevirtual 120, 3) := by decide +kernel
theorem dX8_choose_228 : decode cX8_choose 228 = .ok (.istore 5, 2) := by decide +kernel
theorem dX8_choose_230 : decode cX8_choose 230 = .ok (.iload_n 2, 1) := by decide +kernel
theorem dX8_choose_231 : decode cX8_choose 231 = .ok (.iload 4, 2) := by decide +kernel
theorem dX8_choose_233 : decode cX8_choose 233 = .ok (.ifCond .eq 7, 3) := by decide +kernel
theorem dX8_choose_236 : decode cX8_choose 236 = .ok (.iconst 0, 1) := by decide +kernel
theorem dX8_choose_237 : decode cX8_choose 237 = .ok (.goto 5, 3) := by decide +kernel
theorem dX8_choose_240 : decode cX8_choose 240 = .ok (.iload 5, 2) := by decide +kernel
theorem dX8_choose_242 : decode cX8_choose 242 = .ok (.ior, 1) := by decide +kernel
theorem dX8_choose_243 : decode cX8_choose 243 = .ok (.istore_n 2, 1) := by decide +kernel
theorem dX8_choose_244 : decode cX8_choose 244 = .ok (.iconst 1, 1) := by decide +kernel
theorem dX8_choose_245 : decode cX8_choose 245 = .ok (.istore 4, 2) := by decide +kernel
theorem dX8_choose_247 : decode cX8_choose 247 = .ok (.aload_n 0, 1) := by decide +kernel
theorem dX8_choose_248 : decode cX8_choose 248 = .ok (.getfield 27, 3) := by decide +kernel
theorem dX8_choose_251 : decode cX8_choose 251 = .ok (.iload_n 3, 1) := by decide +kernel
theorem dX8_choose_252 : decode cX8_choose 252 = .ok (.aload_n 0, 1) := by decide +kernel
theorem dX8_choose_253 : decode cX8_choose 253 = .ok (.getfield 27, 3) := by decide +kernel
theorem dX8_choose_256 : decode cX8_choose 256 = .ok (.invokevirtual 234, 3) := by decide +kernel
theorem dX8_choose_259 : decode cX8_choose 259 = .ok (.invokevirtual 240, 3) := by decide +kernel
theorem dX8_choose_262 : decode cX8_choose 262 = .ok (.aload_n 0, 1) := by decide +kernel
theorem dX8_choose_263 : decode cX8_choose 263 = .ok (.getfield 14, 3) := by decide +kernel
theorem dX8_choose_266 : decode cX8_choose 266 = .ok (.invokevirtual 151, 3) := by decide +kernel
theorem dX8_choose_269 : decode cX8_choose 269 = .ok (.aload_n 0, 1) := by decide +kernel
theorem dX8_choose_270 : decode cX8_choose 270 = .ok (.getfield 14, 3) := by decide +kernel
theorem dX8_choose_273 : decode cX8_choose 273 = .ok (.bipush 125, 2) := by decide +kernel
theorem dX8_choose_275 : decode cX8_choose 275 = .ok (.invokevirtual 90, 3) := by decide +kernel
theorem dX8_choose_278 : decode cX8_choose 278 = .ok (.iload_n 2, 1) := by decide +kernel
theorem dX8_choose_279 : decode cX8_choose 279 = .ok (.iload_n 1, 1) := by decide +kernel
theorem dX8_choose_280 : decode cX8_choose 280 = .ok (.ior, 1) := by decide +kernel
theorem dX8_choose_281 : decode cX8_choose 281 = .ok (.iload 4, 2) := by decide +kernel
theorem dX8_choose_283 : decode cX8_choose 283 = .ok (.ifCond .eq 7, 3) := by decide +kernel
theorem dX8_choose_286 : decode cX8_choose 286 = .ok (.iconst 0, 1) := by decide +kernel
theorem dX8_choose_287 : decode cX8_choose 287 = .ok (.goto 4, 3) := by decide +kernel
theorem dX8_choose_290 : decode cX8_choose 290 = .ok (.iconst 1, 1) := by decide +kernel
theorem dX8_choose_291 : decode cX8_choose 291 = .ok (.ior, 1) := by decide +kernel
theorem dX8_choose_292 : decode cX8_choose 292 = .ok (.ireturn, 1) := by decide +kernel
def wX8_choose_b291 (B : Nat → kp_S → (Int32 → kp_S → Prop) → Prop) (a0 : Nat) (xt0 : Int32) (xt1 : Int32)  (Sn : kp_S) (post : Int32 → kp_S → Prop) : Prop :=
  post (xt1 ||| xt0) Sn
def wX8_choose_b247 (B : Nat → kp_S → (Int32 → kp_S → Prop) → Prop) (a0 : Nat) (xn1 : Int32) (xn2 : Int32) (xn3 : Int32) (xn4 : Int32)  (Sn : kp_S) (post : Int32 → kp_S → Prop) : Prop :=
  ∃ b2001 : Nat, kp_R Sn 1603 a0 = some b2001 ∧
  wX0_size b2001 Sn (fun y2003 T2002 =>
  wX0_setChain b2001 xn3 y2003 T2002 (fun T2004 =>
  ∃ b2005 : Nat, kp_R T2004 1600 a0 = some b2005 ∧
  wX9_endNest b2005 T2004 (fun T2006 =>
  ∃ b2007 : Nat, kp_R T2006 1600 a0 = some b2007 ∧
  wX9_expect b2007 125 T2006 (fun T2008 =>
  ((xn4 = 0 →
  wX8_choose_b291 B a0 1 (xn2 ||| xn1)  T2008 post) ∧ (¬ xn4 = 0 →
  wX8_choose_b291 B a0 0 (xn2 ||| xn1)  T2008 post))))))
def wX8_choose_b242 (B : Nat → kp_S → (Int32 → kp_S → Prop) → Prop) (a0 : Nat) (xn1 : Int32) (xn3 : Int32) (xt0 : Int32) (xt1 : Int32)  (Sn : kp_S) (post : Int32 → kp_S → Prop) : Prop :=
  ∀ y3001 : Int32, y3001 = (xt1 ||| xt0) →
  wX8_choose_b247 B a0 xn1 y3001 xn3 1  Sn post
def wX8_choose_b193 (B : Nat → kp_S → (Int32 → kp_S → Prop) → Prop) (a0 : Nat) (xn1 : Int32) (xn2 : Int32) (xn3 : Int32) (xn4 : Int32)  (Sn : kp_S) (post : Int32 → kp_S → Prop) : Prop :=
  ∃ b4001 : Nat, kp_R Sn 1603 a0 = some b4001 ∧
  wX0_add_ b4001 26 1 Sn (fun y4003 T4002 =>
  ∃ b4004 : Nat, kp_R T4002 1600 a0 = some b4004 ∧
  ((¬ (kp_I T4002 1805 b4004) = 325 →
  wX8_choose_b247 B a0 xn1 xn2 xn3 xn4  T4002 post) ∧ ((kp_I T4002 1805 b4004) = 325 →
  wX9_advance b4004 T4002 (fun T4005 =>
  B a0 T4005 (fun y4007 T4006 =>
  ((xn4 = 0 →
  wX8_choose_b242 B a0 xn1 xn3 y4007 xn2  T4006 post) ∧ (¬ xn4 = 0 →
  wX8_choose_b242 B a0 xn1 xn3 0 xn2  T4006 post)))))))
def wX8_choose_b178 (B : Nat → kp_S → (Int32 → kp_S → Prop) → Prop) (a0 : Nat) (xn1 : Int32) (xn3 : Int32) (xn4 : Int32) (xn5 : Int32) (xn6 : Int32) (xt0 : Int32) (xt1 : Int32) (K37 : Int32 → Int32 → Int32 → Int32 → Int32 → kp_S → Prop) (Sn : kp_S) (post : Int32 → kp_S → Prop) : Prop :=
  ∀ y5001 : Int32, y5001 = (xt1 ||| xt0) →
  ∀ y5002 : Int32, y5002 = (xn4 ||| xn6) →
  ∀ y5003 : Int32, y5003 = xn5 + 1 →
  K37 xn1 y5001 xn3 y5002 y5003 Sn
def wX8_choose_b123 (B : Nat → kp_S → (Int32 → kp_S → Prop) → Prop) (a0 : Nat) (xn1 : Int32) (xn2 : Int32) (xn3 : Int32) (xn4 : Int32) (xn5 : Int32) (xn6 : Int32) (xn7 : Int32) (xt0 : Int32) (K37 : Int32 → Int32 → Int32 → Int32 → Int32 → kp_S → Prop) (Sn : kp_S) (post : Int32 → kp_S → Prop) : Prop :=
  B a0 Sn (fun y6002 T6001 =>
  ∃ b6003 : Nat, kp_R T6001 1603 a0 = some b6003 ∧
  wX0_add_ b6003 22 xn3 T6001 (fun y6005 T6004 =>
  ∀ y6006 : Int32, y6006 = (y6005 + 1) →
  ∃ b6007 : Nat, kp_R T6004 1603 a0 = some b6007 ∧
  wX0_size b6007 T6004 (fun y6009 T6008 =>
  wX0_set b6007 xt0 y6009 T6008 (fun T6010 =>
  ((xn4 = 0 →
  wX8_troubleOf xn7 T6010 (fun y6012 T6011 =>
  wX8_choose_b178 B a0 xn1 y6006 xn4 xn5 xn6 (y6002 ||| y6012) xn2 K37 T6011 post)) ∧ (¬ xn4 = 0 →
  wX8_choose_b178 B a0 xn1 y6006 xn4 xn5 xn6 0 xn2 K37 T6010 post))))))
def wX8_choose_b103 (B : Nat → kp_S → (Int32 → kp_S → Prop) → Prop) (a0 : Nat) (xn1 : Int32) (xn2 : Int32) (xn3 : Int32) (xn4 : Int32) (xn5 : Int32) (xn6 : Int32) (xt0 : Int32) (K37 : Int32 → Int32 → Int32 → Int32 → Int32 → kp_S → Prop) (Sn : kp_S) (post : Int32 → kp_S → Prop) : Prop :=
  ((xn6 = 0 →
  ∃ b7001 : Nat, kp_R Sn 1603 a0 = some b7001 ∧
  wX0_size b7001 Sn (fun y7003 T7002 =>
  wX8_choose_b123 B a0 xn1 xn2 xn3 xn4 xn5 xn6 xt0 (y7003 - 1) K37 T7002 post)) ∧ (¬ xn6 = 0 →
  wX8_choose_b123 B a0 xn1 xn2 xn3 xn4 xn5 xn6 xt0 (-1) K37 Sn post))
def wX8_choose_b83 (B : Nat → kp_S → (Int32 → kp_S → Prop) → Prop) (a0 : Nat) (xn1 : Int32) (xn2 : Int32) (xn3 : Int32) (xn4 : Int32) (xn5 : Int32) (xt0 : Int32) (K37 : Int32 → Int32 → Int32 → Int32 → Int32 → kp_S → Prop) (Sn : kp_S) (post : Int32 → kp_S → Prop) : Prop :=
  ((xt0 = 0 →
  wX8_list a0 28 Sn (fun y8002 T8001 =>
  wX8_choose_b103 B a0 xn1 xn2 xn3 xn4 xn5 xt0 y8002 K37 T8001 post)) ∧ (¬ xt0 = 0 →
  wX8_dropForAny a0 Sn (fun y8004 T8003 =>
  wX8_choose_b103 B a0 xn1 xn2 xn3 xn4 xn5 xt0 y8004 K37 T8003 post)))
def wX8_choose_L37 (B : Nat → kp_S → (Int32 → kp_S → Prop) → Prop) (a0 : Nat)  (post : Int32 → kp_S → Prop) : Nat → Int32 → Int32 → Int32 → Int32 → Int32 → kp_S → Prop
  | 0, _, _, _, _, _, _ => False
  | n + 1, xn1, xn2, xn3, xn4, xn5, Sn =>
  ((3000 ≤ xn5 →
  wX8_choose_b193 B a0 xn1 xn2 xn3 xn4  Sn post) ∧ (¬ 3000 ≤ xn5 →
  ∃ b9001 : Nat, kp_R Sn 1600 a0 = some b9001 ∧
  ((¬ (kp_I Sn 1805 b9001) = 324 →
  wX8_choose_b193 B a0 xn1 xn2 xn3 xn4  Sn post) ∧ ((kp_I Sn 1805 b9001) = 324 →
  wX9_advance b9001 Sn (fun T9002 =>
  ∃ b9003 : Nat, kp_R T9002 1600 a0 = some b9003 ∧
  ((¬ (kp_I T9002 1805 b9003) = 316 →
  wX8_choose_b83 B a0 xn1 xn2 xn3 xn4 xn5 0 (fun xn1_ xn2_ xn3_ xn4_ xn5_ S_ => wX8_choose_L37 B a0  post n xn1_ xn2_ xn3_ xn4_ xn5_ S_) T9002 post) ∧ ((kp_I T9002 1805 b9003) = 316 →
  wX8_choose_b83 B a0 xn1 xn2 xn3 xn4 xn5 1 (fun xn1_ xn2_ xn3_ xn4_ xn5_ S_ => wX8_choose_L37 B a0  post n xn1_ xn2_ xn3_ xn4_ xn5_ S_) T9002 post)))))))
def wX8_choose (B : Nat → kp_S → (Int32 → kp_S → Prop) → Prop) (a0 : Nat) (S : kp_S) (post : Int32 → kp_S → Prop) : Prop :=
  ∃ b1 : Nat, kp_R S 1600 a0 = some b1 ∧
  wX9_advance b1 S (fun T2 =>
  ∃ b3 : Nat, kp_R T2 1602 a0 = some b3 ∧
  wX2_whole_t b3 T2 (fun y5 T4 =>
  wX8_troubleOf y5 T4 (fun y7 T6 =>
  ∃ b8 : Nat, kp_R T6 1600 a0 = some b8 ∧
  wX9_expectNest b8 123 T6 (fun T9 =>
  ∃ n0 : Nat, wX8_choose_L37 B a0  post n0 y7 0 0 0 0 T9))))
set_option maxHeartbeats 4000000 in
set_option maxRecDepth 100000 in
theorem c_X8_choose (l : Launch) (D : va_G) (cy : Nat → ClassId) (ad : (Nat → Nat) × (Nat → Nat)) (F L : Nat) (B : Nat → kp_S → (Int32 → kp_S → Prop) → Prop) (hB : ∀ (S : kp_S) (a0 : Nat) (post : Int32 → kp_S → Prop), kp_ok S → kp_is S a0 8 → B a0 S post → kp_M l yX8_block cX8_block 5 (some .int) { frames := F, cells := 0, slots := 0, locals := L } D cy ad S [.ref a0] 0 0 (fun A => kp_Qi D cy A S post)) (hF : 191 ≤ F) (hL : 4387 ≤ L) (S : kp_S) (a0 : Nat) (post : Int32 → kp_S → Prop) (hS : kp_ok S) (f_a0 : kp_is S a0 8) (hw : wX8_choose B a0 S post) : kp_M l yX8_choose cX8_choose 10 (some .int) { frames := F + 1, cells := 0, slots := 0, locals := L + 24 } D cy ad S [.ref a0] 0 0 (fun A => kp_Qi D cy A S post) := by
  refine kp_start (own := RX8) (by decide) rfl (Nat.le_of_ble_eq_true rfl) hS ?_
  intro p e s m below meth c A ls X hr hlocks hname h hl
  have hle : kp_le S S := kp_le.rf
  have hl : lv_has ls 10 [(0, .ref a0)] := hl
  have j291 : ∀ (xt0 : Int32) (xt1 : Int32) (Sn : kp_S) (H : Heap) (locs : List Loc) (ls : Array Slot), lv_has ls 10 [] → kp_H D cy A Sn s.heap H locs → kp_le S Sn → kp_is Sn a0 8 → wX8_choose_b291 B a0 xt0 xt1  Sn post → W p l e { frames := F + 1, cells := 0, slots := 0, locals := L + 24 } s m ([.ref a0] : List Value).toArray below meth c H locs 0 0 (MQ below (kp_Qi D cy A S post) ([.ref a0] : List Value).toArray s 0 0 A) (F0 m 291 ls [.int xt0, .int xt1]) := by
    intro xt0 xt1 Sn H locs ls hl h hle f_a0 hw
    unfold wX8_choose_b291 at hw
    refine lv_ior X.1 X.2.1 dX8_choose_291 ?_
    exact kp_reti X hr hlocks h hle rfl hw dX8_choose_292
  have j247 : ∀ (xn1 : Int32) (xn2 : Int32) (xn3 : Int32) (xn4 : Int32) (Sn : kp_S) (H : Heap) (locs : List Loc) (ls : Array Slot), lv_has ls 10 [(0, .ref a0), (1, .int xn1), (2, .int xn2), (3, .int xn3), (4, .int xn4)] → kp_H D cy A Sn s.heap H locs → kp_le S Sn → kp_is Sn a0 8 → wX8_choose_b247 B a0 xn1 xn2 xn3 xn4  Sn post → W p l e { frames := F + 1, cells := 0, slots := 0, locals := L + 24 } s m ([.ref a0] : List Value).toArray below meth c H locs 0 0 (MQ below (kp_Qi D cy A S post) ([.ref a0] : List Value).toArray s 0 0 A) (F0 m 247 ls []) := by
    intro xn1 xn2 xn3 xn4 Sn H locs ls hl h hle f_a0 hw
    unfold wX8_choose_b247 at hw
    refine lv_aload_n X.1 X.2.1 dX8_choose_247 rfl (lv_at hl 0 rfl) ?_
    obtain ⟨b2001, e_b2001, hw⟩ := hw
    have f_b2001 := h.2.2.2.rf (c := 8) (k := 3) f_a0 (by decide) (by decide) e_b2001 (t := 0) rfl
    refine kp_get X h f_a0 fp_8_27.l (v := .ref b2001) (congrArg va_rf e_b2001) dX8_choose_248 ?_
    refine lv_iload_n X.1 X.2.1 dX8_choose_251 rfl (lv_at hl 3 rfl) ?_
    refine lv_aload_n X.1 X.2.1 dX8_choose_252 rfl (lv_at hl 0 rfl) ?_
    refine kp_get X h f_a0 fp_8_27.l (v := .ref b2001) (congrArg va_rf e_b2001) dX8_choose_253 ?_
    refine kp_calli X h (kp_runV (rm := { frames := 0, cells := 0, slots := 0, locals := 0 }) (mc := 0) (ms := 0) (rest := [.int xn3, .ref b2001]) (Qc := fun A => kp_Qi D cy A Sn _) X h (c_X0_size l D cy ad Sn b2001 _ h.2.2.2 f_b2001 hw) f_b2001 cv_8_234 ⟨by dsimp only; omega, by dsimp only; omega, rfl, rfl, by dsimp only; omega, by dsimp only; omega⟩ rfl hl.1 rfl (Nat.le_of_ble_eq_true rfl) dX8_choose_256) (fun y2003 T2002 hw l_T2002 H locs h => ?_)
    have f_a0 := l_T2002.is f_a0
    have f_b2001 := l_T2002.is f_b2001
    have hle := hle.tr l_T2002
    refine kp_callv X h (kp_runV (rm := { frames := 0, cells := 0, slots := 0, locals := 0 }) (mc := 0) (ms := 0) (rest := []) (Qc := fun A => kp_Qv D cy A T2002 _) X h (c_X0_setChain l D cy ad T2002 b2001 xn3 y2003 _ h.2.2.2 f_b2001 hw) f_b2001 cv_8_240 ⟨by dsimp only; omega, by dsimp only; omega, rfl, rfl, by dsimp only; omega, by dsimp only; omega⟩ rfl hl.1 rfl (Nat.le_of_ble_eq_true rfl) dX8_choose_259) (fun T2004 hw l_T2004 H locs h => ?_)
    have f_a0 := l_T2004.is f_a0
    have f_b2001 := l_T2004.is f_b2001
    have hle := hle.tr l_T2004
    refine lv_aload_n X.1 X.2.1 dX8_choose_262 rfl (lv_at hl 0 rfl) ?_
    obtain ⟨b2005, e_b2005, hw⟩ := hw
    have f_b2005 := h.2.2.2.rf (c := 8) (k := 0) f_a0 (by decide) (by decide) e_b2005 (t := 9) rfl
    refine kp_get X h f_a0 ff_8_14.l (v := .ref b2005) (congrArg va_rf e_b2005) dX8_choose_263 ?_
    refine kp_callv X h (kp_runV (rm := { frames := 0, cells := 0, slots := 0, locals := 0 }) (mc := 0) (ms := 0) (rest := []) (Qc := fun A => kp_Qv D cy A T2004 _) X h (c_X9_endNest l D cy ad T2004 b2005 _ h.2.2.2 f_b2005 hw) f_b2005 cv_8_151 ⟨by dsimp only; omega, by dsimp only; omega, rfl, rfl, by dsimp only; omega, by dsimp only; omega⟩ rfl hl.1 rfl (Nat.le_of_ble_eq_true rfl) dX8_choose_266) (fun T2006 hw l_T2006 H locs h => ?_)
    have f_a0 := l_T2006.is f_a0
    have f_b2001 := l_T2006.is f_b2001
    have f_b2005 := l_T2006.is f_b2005
    have hle := hle.tr l_T2006
    refine lv_aload_n X.1 X.2.1 dX8_choose_269 rfl (lv_at hl 0 rfl) ?_
    obtain ⟨b2007, e_b2007, hw⟩ := hw
    have f_b2007 := h.2.2.2.rf (c := 8) (k := 0) f_a0 (by decide) (by decide) e_b2007 (t := 9) rfl
    refine kp_get X h f_a0 ff_8_14.l (v := .ref b2007) (congrArg va_rf e_b2007) dX8_choose_270 ?_
    refine lv_bipush (v := 125) X.1 X.2.1 dX8_choose_273 (by decide) ?_
    refine kp_callv X h (kp_runV (rm := { frames := 6, cells := 0, slots := 0, locals := 134 }) (mc := 0) (ms := 0) (rest := []) (Qc := fun A => kp_Qv D cy A T2006 _) X h (c_X9_expect l D cy ad T2006 b2007 125 _ h.2.2.2 f_b2007 hw) f_b2007 cv_8_90 ⟨by dsimp only; omega, by dsimp only; omega, rfl, rfl, by dsimp only; omega, by dsimp only; omega⟩ rfl hl.1 rfl (Nat.le_of_ble_eq_true rfl) dX8_choose_275) (fun T2008 hw l_T2008 H locs h => ?_)
    have f_a0 := l_T2008.is f_a0
    have f_b2001 := l_T2008.is f_b2001
    have f_b2005 := l_T2008.is f_b2005
    have f_b2007 := l_T2008.is f_b2007
    have hle := hle.tr l_T2008
    refine lv_iload_n X.1 X.2.1 dX8_choose_278 rfl (lv_at hl 2 rfl) ?_
    refine lv_iload_n X.1 X.2.1 dX8_choose_279 rfl (lv_at hl 1 rfl) ?_
    refine lv_ior X.1 X.2.1 dX8_choose_280 ?_
    refine lv_iload X.1 X.2.1 dX8_choose_281 (lv_at hl 4 rfl) ?_
    refine lv_if_eq (tgt := 290) X.1 X.2.1 dX8_choose_283 (by decide) (fun c2009 => ?_) (fun c2009 => ?_)
    · have hw := hw.1 c2009
      refine lv_iconst (v := 1) X.1 X.2.1 dX8_choose_290 (by decide) ?_
      exact j291 1 (xn2 ||| xn1) T2008 H locs ls (lv_sub hl [] rfl) h hle f_a0 hw
    · have hw := hw.2 c2009
      refine lv_iconst (v := 0) X.1 X.2.1 dX8_choose_286 (by decide) ?_
      refine lv_goto (tgt := 291) X.1 X.2.1 dX8_choose_287 (by decide) ?_
      exact j291 0 (xn2 ||| xn1) T2008 H locs ls (lv_sub hl [] rfl) h hle f_a0 hw
  have j242 : ∀ (xn1 : Int32) (xn3 : Int32) (xt0 : Int32) (xt1 : Int32) (Sn : kp_S) (H : Heap) (locs : List Loc) (ls : Array Slot), lv_has ls 10 [(0, .ref a0), (1, .int xn1), (3, .int xn3)] → kp_H D cy A Sn s.heap H locs → kp_le S Sn → kp_is Sn a0 8 → wX8_choose_b242 B a0 xn1 xn3 xt0 xt1  Sn post → W p l e { frames := F + 1, cells := 0, slots := 0, locals := L + 24 } s m ([.ref a0] : List Value).toArray below meth c H locs 0 0 (MQ below (kp_Qi D cy A S post) ([.ref a0] : List Value).toArray s 0 0 A) (F0 m 242 ls [.int xt0, .int xt1]) := by
    intro xn1 xn3 xt0 xt1 Sn H locs ls hl h hle f_a0 hw
    unfold wX8_choose_b242 at hw
    refine lv_ior X.1 X.2.1 dX8_choose_242 ?_
    refine lv_topi (fun y3001 e_y3001 => ?_)
    have hw := hw y3001 e_y3001
    refine lv_istore_n (lv' := [(2, .int y3001), (0, .ref a0), (1, .int xn1), (3, .int xn3)]) X.1 X.2.1 dX8_choose_243 rfl hl (by decide) rfl (fun ls hl => ?_)
    refine lv_iconst (v := 1) X.1 X.2.1 dX8_choose_244 (by decide) ?_
    refine lv_istore (lv' := [(4, .int 1), (2, .int y3001), (0, .ref a0), (1, .int xn1), (3, .int xn3)]) X.1 X.2.1 dX8_choose_245 hl (by decide) rfl (fun ls hl => ?_)
    exact j247 xn1 y3001 xn3 1 Sn H locs ls (lv_sub hl [2, 3, 1, 4, 0] rfl) h hle f_a0 hw
  have j193 : ∀ (xn1 : Int32) (xn2 : Int32) (xn3 : Int32) (xn4 : Int32) (Sn : kp_S) (H : Heap) (locs : List Loc) (ls : Array Slot), lv_has ls 10 [(0, .ref a0), (1, .int xn1), (2, .int xn2), (3, .int xn3), (4, .int xn4)] → kp_H D cy A Sn s.heap H locs → kp_le S Sn → kp_is Sn a0 8 → wX8_choose_b193 B a0 xn1 xn2 xn3 xn4  Sn post → W p l e { frames := F + 1, cells := 0, slots := 0, locals := L + 24 } s m ([.ref a0] : List Value).toArray below meth c H locs 0 0 (MQ below (kp_Qi D cy A S post) ([.ref a0] : List Value).toArray s 0 0 A) (F0 m 193 ls []) := by
    intro xn1 xn2 xn3 xn4 Sn H locs ls hl h hle f_a0 hw
    unfold wX8_choose_b193 at hw
    refine lv_aload_n X.1 X.2.1 dX8_choose_193 rfl (lv_at hl 0 rfl) ?_
    obtain ⟨b4001, e_b4001, hw⟩ := hw
    have f_b4001 := h.2.2.2.rf (c := 8) (k := 3) f_a0 (by decide) (by decide) e_b4001 (t := 0) rfl
    refine kp_get X h f_a0 fp_8_27.l (v := .ref b4001) (congrArg va_rf e_b4001) dX8_choose_194 ?_
    refine lv_bipush (v := 26) X.1 X.2.1 dX8_choose_197 (by decide) ?_
    refine lv_iconst (v := 1) X.1 X.2.1 dX8_choose_199 (by decide) ?_
    refine kp_calli X h (kp_runV (rm := { frames := 1, cells := 0, slots := 0, locals := 22 }) (mc := 0) (ms := 0) (rest := []) (Qc := fun A => kp_Qi D cy A Sn _) X h (c_X0_add_ l D cy ad Sn b4001 26 1 _ h.2.2.2 f_b4001 hw) f_b4001 cv_8_154 ⟨by dsimp only; omega, by dsimp only; omega, rfl, rfl, by dsimp only; omega, by dsimp only; omega⟩ rfl hl.1 rfl (Nat.le_of_ble_eq_true rfl) dX8_choose_200) (fun y4003 T4002 hw l_T4002 H locs h => ?_)
    have f_a0 := l_T4002.is f_a0
    have f_b4001 := l_T4002.is f_b4001
    have hle := hle.tr l_T4002
    refine lv_pop X.1 X.2.1 dX8_choose_203 rfl ?_
    refine lv_aload_n X.1 X.2.1 dX8_choose_204 rfl (lv_at hl 0 rfl) ?_
    obtain ⟨b4004, e_b4004, hw⟩ := hw
    have f_b4004 := h.2.2.2.rf (c := 8) (k := 0) f_a0 (by decide) (by decide) e_b4004 (t := 9) rfl
    refine kp_get X h f_a0 ff_8_14.l (v := .ref b4004) (congrArg va_rf e_b4004) dX8_choose_205 ?_
    refine kp_get X h f_b4004 fp_8_66.l (v := .int (kp_I T4002 1805 b4004)) rfl dX8_choose_208 ?_
    refine lv_sipush (v := 325) X.1 X.2.1 dX8_choose_211 (by decide) ?_
    refine lv_icmp_ne (tgt := 247) X.1 X.2.1 dX8_choose_214 (by decide) (fun c4009 => ?_) (fun c4009 => ?_)
    · have hw := hw.1 c4009
      exact j247 xn1 xn2 xn3 xn4 T4002 H locs ls (lv_sub hl [0, 1, 2, 3, 4] rfl) h hle f_a0 hw
    · have hw := hw.2 c4009
      refine lv_aload_n X.1 X.2.1 dX8_choose_217 rfl (lv_at hl 0 rfl) ?_
      refine kp_get X h f_a0 ff_8_14.l (v := .ref b4004) (congrArg va_rf e_b4004) dX8_choose_218 ?_
      refine kp_callv X h (kp_runV (rm := { frames := 5, cells := 0, slots := 0, locals := 113 }) (mc := 0) (ms := 0) (rest := []) (Qc := fun A => kp_Qv D cy A T4002 _) X h (c_X9_advance l D cy ad T4002 b4004 _ h.2.2.2 f_b4004 hw) f_b4004 cv_8_75 ⟨by dsimp only; omega, by dsimp only; omega, rfl, rfl, by dsimp only; omega, by dsimp only; omega⟩ rfl hl.1 rfl (Nat.le_of_ble_eq_true rfl) dX8_choose_221) (fun T4005 hw l_T4005 H locs h => ?_)
      have f_a0 := l_T4005.is f_a0
      have f_b4001 := l_T4005.is f_b4001
      have f_b4004 := l_T4005.is f_b4004
      have hle := hle.tr l_T4005
      refine lv_aload_n X.1 X.2.1 dX8_choose_224 rfl (lv_at hl 0 rfl) ?_
      refine kp_calli X h (kp_runV (rm := { frames := F, cells := 0, slots := 0, locals := L }) (mc := 0) (ms := 0) (rest := []) (Qc := fun A => kp_Qi D cy A T4005 _) X h (hB T4005 a0 _ h.2.2.2 f_a0 hw) f_a0 cv_8_120 ⟨by dsimp only; omega, by dsimp only; omega, rfl, rfl, by dsimp only; omega, by dsimp only; omega⟩ rfl hl.1 rfl (Nat.le_of_ble_eq_true rfl) dX8_choose_225) (fun y4007 T4006 hw l_T4006 H locs h => ?_)
      have f_a0 := l_T4006.is f_a0
      have f_b4001 := l_T4006.is f_b4001
      have f_b4004 := l_T4006.is f_b4004
      have hle := hle.tr l_T4006
      refine lv_istore (lv' := [(5, .int y4007), (0, .ref a0), (1, .int xn1), (2, .int xn2), (3, .int xn3), (4, .int xn4)]) X.1 X.2.1 dX8_choose_228 hl (by decide) rfl (fun ls hl => ?_)
      refine lv_iload_n X.1 X.2.1 dX8_choose_230 rfl (lv_at hl 3 rfl) ?_
      refine lv_iload X.1 X.2.1 dX8_choose_231 (lv_at hl 5 rfl) ?_
      refine lv_if_eq (tgt := 240) X.1 X.2.1 dX8_choose_233 (by decide) (fun c4008 => ?_) (fun c4008 => ?_)
      · have hw := hw.1 c4008
        refine lv_iload X.1 X.2.1 dX8_choose_240 (lv_at hl 0 rfl) ?_
        exact j242 xn1 xn3 y4007 xn2 T4006 H locs ls (lv_sub hl [1, 2, 4] rfl) h hle f_a0 hw
      · have hw := hw.2 c4008
        refine lv_iconst (v := 0) X.1 X.2.1 dX8_choose_236 (by decide) ?_
        refine lv_goto (tgt := 242) X.1 X.2.1 dX8_choose_237 (by decide) ?_
        exact j242 xn1 xn3 0 xn2 T4006 H locs ls (lv_sub hl [1, 2, 4] rfl) h hle f_a0 hw
  have L37 : ∀ n37 : Nat, ∀ (xn1 : Int32) (xn2 : Int32) (xn3 : Int32) (xn4 : Int32) (xn5 : Int32) (Sn : kp_S) (H : Heap) (locs : List Loc) (ls : Array Slot), lv_has ls 10 [(0, .ref a0), (1, .int xn1), (2, .int xn2), (3, .int xn3), (4, .int xn4), (5, .int xn5)] → kp_H D cy A Sn s.heap H locs → kp_le S Sn → kp_is Sn a0 8 → wX8_choose_L37 B a0  post n37 xn1 xn2 xn3 xn4 xn5 Sn → W p l e { frames := F + 1, cells := 0, slots := 0, locals := L + 24 } s m ([.ref a0] : List Value).toArray below meth c H locs 0 0 (MQ below (kp_Qi D cy A S post) ([.ref a0] : List Value).toArray s 0 0 A) (F0 m 37 ls []) := by
    intro n37
    induction n37 with
    | zero => intro xn1 xn2 xn3 xn4 xn5 Sn H locs ls hl h hle f_a0 hw; exact hw.elim
    | succ n37 ih37 =>
      have j178 : ∀ (xn1 : Int32) (xn3 : Int32) (xn4 : Int32) (xn5 : Int32) (xn6 : Int32) (xt0 : Int32) (xt1 : Int32) (Sn : kp_S) (H : Heap) (locs : List Loc) (ls : Array Slot), lv_has ls 10 [(0, .ref a0), (1, .int xn1), (3, .int xn3), (4, .int xn4), (5, .int xn5), (6, .int xn6)] → kp_H D cy A Sn s.heap H locs → kp_le S Sn → kp_is Sn a0 8 → wX8_choose_b178 B a0 xn1 xn3 xn4 xn5 xn6 xt0 xt1 (fun xn1_ xn2_ xn3_ xn4_ xn5_ S_ => wX8_choose_L37 B a0  post n37 xn1_ xn2_ xn3_ xn4_ xn5_ S_) Sn post → W p l e { frames := F + 1, cells := 0, slots := 0, locals := L + 24 } s m ([.ref a0] : List Value).toArray below meth c H locs 0 0 (MQ below (kp_Qi D cy A S post) ([.ref a0] : List Value).toArray s 0 0 A) (F0 m 178 ls [.int xt0, .int xt1]) := by
        intro xn1 xn3 xn4 xn5 xn6 xt0 xt1 Sn H locs ls hl h hle f_a0 hw
        unfold wX8_choose_b178 at hw
        refine lv_ior X.1 X.2.1 dX8_choose_178 ?_
        refine lv_topi (fun y5001 e_y5001 => ?_)
        have hw := hw y5001 e_y5001
        refine lv_istore_n (lv' := [(2, .int y5001), (0, .ref a0), (1, .int xn1), (3, .int xn3), (4, .int xn4), (5, .int xn5), (6, .int xn6)]) X.1 X.2.1 dX8_choose_179 rfl hl (by decide) rfl (fun ls hl => ?_)
        refine lv_iload X.1 X.2.1 dX8_choose_180 (lv_at hl 4 rfl) ?_
        refine lv_iload X.1 X.2.1 dX8_choose_182 (lv_at hl 6 rfl) ?_
        refine lv_ior X.1 X.2.1 dX8_choose_184 ?_
        refine lv_topi (fun y5002 e_y5002 => ?_)
        have hw := hw y5002 e_y5002
        refine lv_istore (lv' := [(4, .int y5002), (2, .int y5001), (0, .ref a0), (1, .int xn1), (3, .int xn3), (5, .int xn5), (6, .int xn6)]) X.1 X.2.1 dX8_choose_185 hl (by decide) rfl (fun ls hl => ?_)
        obtain ⟨y5003, e_y5003⟩ : ∃ y : Int32, y = xn5 + 1 := ⟨_, rfl⟩
        have hw := hw y5003 e_y5003
        refine lv_iinc (v := y5003) (lv' := [(5, .int y5003), (4, .int y5002), (2, .int y5001), (0, .ref a0), (1, .int xn1), (3, .int xn3), (6, .int xn6)]) X.1 X.2.1 dX8_choose_187 hl (k := 5) rfl (by rw [e_y5003]; rfl) (by decide) rfl (fun ls hl => ?_)
        refine lv_goto (tgt := 37) X.1 X.2.1 dX8_choose_190 (by decide) ?_
        exact ih37 xn1 y5001 xn3 y5002 y5003 Sn H locs ls (lv_sub hl [3, 4, 2, 5, 1, 0] rfl) h hle f_a0 hw
      have j123 : ∀ (xn1 : Int32) (xn2 : Int32) (xn3 : Int32) (xn4 : Int32) (xn5 : Int32) (xn6 : Int32) (xn7 : Int32) (xt0 : Int32) (Sn : kp_S) (H : Heap) (locs : List Loc) (ls : Array Slot), lv_has ls 10 [(0, .ref a0), (1, .int xn1), (2, .int xn2), (3, .int xn3), (4, .int xn4), (5, .int xn5), (6, .int xn6), (7, .int xn7)] → kp_H D cy A Sn s.heap H locs → kp_le S Sn → kp_is Sn a0 8 → wX8_choose_b123 B a0 xn1 xn2 xn3 xn4 xn5 xn6 xn7 xt0 (fun xn1_ xn2_ xn3_ xn4_ xn5_ S_ => wX8_choose_L37 B a0  post n37 xn1_ xn2_ xn3_ xn4_ xn5_ S_) Sn post → W p l e { frames := F + 1, cells := 0, slots := 0, locals := L + 24 } s m ([.ref a0] : List Value).toArray below meth c H locs 0 0 (MQ below (kp_Qi D cy A S post) ([.ref a0] : List Value).toArray s 0 0 A) (F0 m 123 ls [.int xt0]) := by
        intro xn1 xn2 xn3 xn4 xn5 xn6 xn7 xt0 Sn H locs ls hl h hle f_a0 hw
        unfold wX8_choose_b123 at hw
        refine lv_istore (lv' := [(8, .int xt0), (0, .ref a0), (1, .int xn1), (2, .int xn2), (3, .int xn3), (4, .int xn4), (5, .int xn5), (6, .int xn6), (7, .int xn7)]) X.1 X.2.1 dX8_choose_123 hl (by decide) rfl (fun ls hl => ?_)
        refine lv_aload_n X.1 X.2.1 dX8_choose_125 rfl (lv_at hl 1 rfl) ?_
        refine kp_calli X h (kp_runV (rm := { frames := F, cells := 0, slots := 0, locals := L }) (mc := 0) (ms := 0) (rest := []) (Qc := fun A => kp_Qi D cy A Sn _) X h (hB Sn a0 _ h.2.2.2 f_a0 hw) f_a0 cv_8_120 ⟨by dsimp only; omega, by dsimp only; omega, rfl, rfl, by dsimp only; omega, by dsimp only; omega⟩ rfl hl.1 rfl (Nat.le_of_ble_eq_true rfl) dX8_choose_126) (fun y6002 T6001 hw l_T6001 H locs h => ?_)
        have f_a0 := l_T6001.is f_a0
        have hle := hle.tr l_T6001
        refine lv_istore (lv' := [(9, .int y6002), (8, .int xt0), (0, .ref a0), (1, .int xn1), (2, .int xn2), (3, .int xn3), (4, .int xn4), (5, .int xn5), (6, .int xn6), (7, .int xn7)]) X.1 X.2.1 dX8_choose_129 hl (by decide) rfl (fun ls hl => ?_)
        refine lv_aload_n X.1 X.2.1 dX8_choose_131 rfl (lv_at hl 2 rfl) ?_
        obtain ⟨b6003, e_b6003, hw⟩ := hw
        have f_b6003 := h.2.2.2.rf (c := 8) (k := 3) f_a0 (by decide) (by decide) e_b6003 (t := 0) rfl
        refine kp_get X h f_a0 fp_8_27.l (v := .ref b6003) (congrArg va_rf e_b6003) dX8_choose_132 ?_
        refine lv_bipush (v := 22) X.1 X.2.1 dX8_choose_135 (by decide) ?_
        refine lv_iload_n X.1 X.2.1 dX8_choose_137 rfl (lv_at hl 5 rfl) ?_
        refine kp_calli X h (kp_runV (rm := { frames := 1, cells := 0, slots := 0, locals := 22 }) (mc := 0) (ms := 0) (rest := []) (Qc := fun A => kp_Qi D cy A T6001 _) X h (c_X0_add_ l D cy ad T6001 b6003 22 xn3 _ h.2.2.2 f_b6003 hw) f_b6003 cv_8_154 ⟨by dsimp only; omega, by dsimp only; omega, rfl, rfl, by dsimp only; omega, by dsimp only; omega⟩ rfl hl.1 rfl (Nat.le_of_ble_eq_true rfl) dX8_choose_138) (fun y6005 T6004 hw l_T6004 H locs h => ?_)
        have f_a0 := l_T6004.is f_a0
        have f_b6003 := l_T6004.is f_b6003
        have hle := hle.tr l_T6004
        refine lv_iconst (v := 1) X.1 X.2.1 dX8_choose_141 (by decide) ?_
        refine lv_iadd X.1 X.2.1 dX8_choose_142 ?_
        refine lv_topi (fun y6006 e_y6006 => ?_)
        have hw := hw y6006 e_y6006
        refine lv_istore_n (lv' := [(3, .int y6006), (9, .int y6002), (8, .int xt0), (0, .ref a0), (1, .int xn1), (2, .int xn2), (4, .int xn4), (5, .int xn5), (6, .int xn6), (7, .int xn7)]) X.1 X.2.1 dX8_choose_143 rfl hl (by decide) rfl (fun ls hl => ?_)
        refine lv_aload_n X.1 X.2.1 dX8_choose_144 rfl (lv_at hl 3 rfl) ?_
        obtain ⟨b6007, e_b6007, hw⟩ := hw
        have f_b6007 := h.2.2.2.rf (c := 8) (k := 3) f_a0 (by decide) (by decide) e_b6007 (t := 0) rfl
        refine kp_get X h f_a0 fp_8_27.l (v := .ref b6007) (congrArg va_rf e_b6007) dX8_choose_145 ?_
        refine lv_iload X.1 X.2.1 dX8_choose_148 (lv_at hl 2 rfl) ?_
        refine lv_aload_n X.1 X.2.1 dX8_choose_150 rfl (lv_at hl 3 rfl) ?_
        refine kp_get X h f_a0 fp_8_27.l (v := .ref b6007) (congrArg va_rf e_b6007) dX8_choose_151 ?_
        refine kp_calli X h (kp_runV (rm := { frames := 0, cells := 0, slots := 0, locals := 0 }) (mc := 0) (ms := 0) (rest := [.int xt0, .ref b6007]) (Qc := fun A => kp_Qi D cy A T6004 _) X h (c_X0_size l D cy ad T6004 b6007 _ h.2.2.2 f_b6007 hw) f_b6007 cv_8_234 ⟨by dsimp only; omega, by dsimp only; omega, rfl, rfl, by dsimp only; omega, by dsimp only; omega⟩ rfl hl.1 rfl (Nat.le_of_ble_eq_true rfl) dX8_choose_154) (fun y6009 T6008 hw l_T6008 H locs h => ?_)
        have f_a0 := l_T6008.is f_a0
        have f_b6003 := l_T6008.is f_b6003
        have f_b6007 := l_T6008.is f_b6007
        have hle := hle.tr l_T6008
        refine kp_callv X h (kp_runV (rm := { frames := 0, cells := 0, slots := 0, locals := 0 }) (mc := 0) (ms := 0) (rest := []) (Qc := fun A => kp_Qv D cy A T6008 _) X h (c_X0_set l D cy ad T6008 b6007 xt0 y6009 _ h.2.2.2 f_b6007 hw) f_b6007 cv_8_237 ⟨by dsimp only; omega, by dsimp only; omega, rfl, rfl, by dsimp only; omega, by dsimp only; omega⟩ rfl hl.1 rfl (Nat.le_of_ble_eq_true rfl) dX8_choose_157) (fun T6010 hw l_T6010 H locs h => ?_)
        have f_a0 := l_T6010.is f_a0
        have f_b6003 := l_T6010.is f_b6003
        have f_b6007 := l_T6010.is f_b6007
        have hle := hle.tr l_T6010
        refine lv_iload_n X.1 X.2.1 dX8_choose_160 rfl (lv_at hl 5 rfl) ?_
        refine lv_iload X.1 X.2.1 dX8_choose_161 (lv_at hl 6 rfl) ?_
        refine lv_if_eq (tgt := 170) X.1 X.2.1 dX8_choose_163 (by decide) (fun c6013 => ?_) (fun c6013 => ?_)
        · have hw := hw.1 c6013
          refine lv_iload X.1 X.2.1 dX8_choose_170 (lv_at hl 1 rfl) ?_
          refine lv_iload X.1 X.2.1 dX8_choose_172 (lv_at hl 9 rfl) ?_
          refine kp_calli X h (kp_runS (rm := { frames := 0, cells := 0, slots := 0, locals := 0 }) (mc := 0) (ms := 0) (rest := [.int y6002, .int xn2]) (Qc := fun A => kp_Qi D cy A T6010 _) X h (c_X8_troubleOf l D cy ad T6010 xn7 _ h.2.2.2  hw) cs_8_213 ⟨by dsimp only; omega, by dsimp only; omega, rfl, rfl, by dsimp only; omega, by dsimp only; omega⟩ rfl hl.1 rfl (Nat.le_of_ble_eq_true rfl) dX8_choose_174) (fun y6012 T6011 hw l_T6011 H locs h => ?_)
          have f_a0 := l_T6011.is f_a0
          have f_b6003 := l_T6011.is f_b6003
          have f_b6007 := l_T6011.is f_b6007
          have hle := hle.tr l_T6011
          refine lv_ior X.1 X.2.1 dX8_choose_177 ?_
          exact j178 xn1 y6006 xn4 xn5 xn6 (y6002 ||| y6012) xn2 T6011 H locs ls (lv_sub hl [3, 4, 0, 6, 7, 8] rfl) h hle f_a0 hw
        · have hw := hw.2 c6013
          refine lv_iconst (v := 0) X.1 X.2.1 dX8_choose_166 (by decide) ?_
          refine lv_goto (tgt := 178) X.1 X.2.1 dX8_choose_167 (by decide) ?_
          exact j178 xn1 y6006 xn4 xn5 xn6 0 xn2 T6010 H locs ls (lv_sub hl [3, 4, 0, 6, 7, 8] rfl) h hle f_a0 hw
      have j103 : ∀ (xn1 : Int32) (xn2 : Int32) (xn3 : Int32) (xn4 : Int32) (xn5 : Int32) (xn6 : Int32) (xt0 : Int32) (Sn : kp_S) (H : Heap) (locs : List Loc) (ls : Array Slot), lv_has ls 10 [(0, .ref a0), (1, .int xn1), (2, .int xn2), (3, .int xn3), (4, .int xn4), (5, .int xn5), (6, .int xn6)] → kp_H D cy A Sn s.heap H locs → kp_le S Sn → kp_is Sn a0 8 → wX8_choose_b103 B a0 xn1 xn2 xn3 xn4 xn5 xn6 xt0 (fun xn1_ xn2_ xn3_ xn4_ xn5_ S_ => wX8_choose_L37 B a0  post n37 xn1_ xn2_ xn3_ xn4_ xn5_ S_) Sn post → W p l e { frames := F + 1, cells := 0, slots := 0, locals := L + 24 } s m ([.ref a0] : List Value).toArray below meth c H locs 0 0 (MQ below (kp_Qi D cy A S post) ([.ref a0] : List Value).toArray s 0 0 A) (F0 m 103 ls [.int xt0]) := by
        intro xn1 xn2 xn3 xn4 xn5 xn6 xt0 Sn H locs ls hl h hle f_a0 hw
        unfold wX8_choose_b103 at hw
        refine lv_istore (lv' := [(7, .int xt0), (0, .ref a0), (1, .int xn1), (2, .int xn2), (3, .int xn3), (4, .int xn4), (5, .int xn5), (6, .int xn6)]) X.1 X.2.1 dX8_choose_103 hl (by decide) rfl (fun ls hl => ?_)
        refine lv_iload X.1 X.2.1 dX8_choose_105 (lv_at hl 7 rfl) ?_
        refine lv_if_eq (tgt := 114) X.1 X.2.1 dX8_choose_107 (by decide) (fun c7004 => ?_) (fun c7004 => ?_)
        · have hw := hw.1 c7004
          refine lv_aload_n X.1 X.2.1 dX8_choose_114 rfl (lv_at hl 1 rfl) ?_
          obtain ⟨b7001, e_b7001, hw⟩ := hw
          have f_b7001 := h.2.2.2.rf (c := 8) (k := 3) f_a0 (by decide) (by decide) e_b7001 (t := 0) rfl
          refine kp_get X h f_a0 fp_8_27.l (v := .ref b7001) (congrArg va_rf e_b7001) dX8_choose_115 ?_
          refine kp_calli X h (kp_runV (rm := { frames := 0, cells := 0, slots := 0, locals := 0 }) (mc := 0) (ms := 0) (rest := []) (Qc := fun A => kp_Qi D cy A Sn _) X h (c_X0_size l D cy ad Sn b7001 _ h.2.2.2 f_b7001 hw) f_b7001 cv_8_234 ⟨by dsimp only; omega, by dsimp only; omega, rfl, rfl, by dsimp only; omega, by dsimp only; omega⟩ rfl hl.1 rfl (Nat.le_of_ble_eq_true rfl) dX8_choose_118) (fun y7003 T7002 hw l_T7002 H locs h => ?_)
          have f_a0 := l_T7002.is f_a0
          have f_b7001 := l_T7002.is f_b7001
          have hle := hle.tr l_T7002
          refine lv_iconst (v := 1) X.1 X.2.1 dX8_choose_121 (by decide) ?_
          refine lv_isub X.1 X.2.1 dX8_choose_122 ?_
          exact j123 xn1 xn2 xn3 xn4 xn5 xn6 xt0 (y7003 - 1) T7002 H locs ls (lv_sub hl [1, 2, 3, 4, 5, 6, 7, 0] rfl) h hle f_a0 hw
        · have hw := hw.2 c7004
          refine lv_iconst (v := (-1)) X.1 X.2.1 dX8_choose_110 (by decide) ?_
          refine lv_goto (tgt := 123) X.1 X.2.1 dX8_choose_111 (by decide) ?_
          exact j123 xn1 xn2 xn3 xn4 xn5 xn6 xt0 (-1) Sn H locs ls (lv_sub hl [1, 2, 3, 4, 5, 6, 7, 0] rfl) h hle f_a0 hw
      have j83 : ∀ (xn1 : Int32) (xn2 : Int32) (xn3 : Int32) (xn4 : Int32) (xn5 : Int32) (xt0 : Int32) (Sn : kp_S) (H : Heap) (locs : List Loc) (ls : Array Slot), lv_has ls 10 [(0, .ref a0), (1, .int xn1), (2, .int xn2), (3, .int xn3), (4, .int xn4), (5, .int xn5)] → kp_H D cy A Sn s.heap H locs → kp_le S Sn → kp_is Sn a0 8 → wX8_choose_b83 B a0 xn1 xn2 xn3 xn4 xn5 xt0 (fun xn1_ xn2_ xn3_ xn4_ xn5_ S_ => wX8_choose_L37 B a0  post n37 xn1_ xn2_ xn3_ xn4_ xn5_ S_) Sn post → W p l e { frames := F + 1, cells := 0, slots := 0, locals := L + 24 } s m ([.ref a0] : List Value).toArray below meth c H locs 0 0 (MQ below (kp_Qi D cy A S post) ([.ref a0] : List Value).toArray s 0 0 A) (F0 m 83 ls [.int xt0]) := by
        intro xn1 xn2 xn3 xn4 xn5 xt0 Sn H locs ls hl h hle f_a0 hw
        unfold wX8_choose_b83 at hw
        refine lv_istore (lv' := [(6, .int xt0), (0, .ref a0), (1, .int xn1), (2, .int xn2), (3, .int xn3), (4, .int xn4), (5, .int xn5)]) X.1 X.2.1 dX8_choose_83 hl (by decide) rfl (fun ls hl => ?_)
        refine lv_iload X.1 X.2.1 dX8_choose_85 (lv_at hl 0 rfl) ?_
        refine lv_if_eq (tgt := 97) X.1 X.2.1 dX8_choose_87 (by decide) (fun c8005 => ?_) (fun c8005 => ?_)
        · have hw := hw.1 c8005
          refine lv_aload_n X.1 X.2.1 dX8_choose_97 rfl (lv_at hl 1 rfl) ?_
          refine lv_bipush (v := 28) X.1 X.2.1 dX8_choose_98 (by decide) ?_
          refine kp_calli X h (kp_runV (rm := { frames := 190, cells := 0, slots := 0, locals := 4362 }) (mc := 0) (ms := 0) (rest := []) (Qc := fun A => kp_Qi D cy A Sn _) X h (c_X8_list l D cy ad Sn a0 28 _ h.2.2.2 f_a0 hw) f_a0 cv_8_246 ⟨by dsimp only; omega, by dsimp only; omega, rfl, rfl, by dsimp only; omega, by dsimp only; omega⟩ rfl hl.1 rfl (Nat.le_of_ble_eq_true rfl) dX8_choose_100) (fun y8002 T8001 hw l_T8001 H locs h => ?_)
          have f_a0 := l_T8001.is f_a0
          have hle := hle.tr l_T8001
          exact j103 xn1 xn2 xn3 xn4 xn5 xt0 y8002 T8001 H locs ls (lv_sub hl [1, 2, 3, 4, 5, 6, 0] rfl) h hle f_a0 hw
        · have hw := hw.2 c8005
          refine lv_aload_n X.1 X.2.1 dX8_choose_90 rfl (lv_at hl 1 rfl) ?_
          refine kp_calli X h (kp_runV (rm := { frames := 6, cells := 0, slots := 0, locals := 134 }) (mc := 0) (ms := 0) (rest := []) (Qc := fun A => kp_Qi D cy A Sn _) X h (c_X8_dropForAny l D cy ad Sn a0 _ h.2.2.2 f_a0 hw) f_a0 cv_8_243 ⟨by dsimp only; omega, by dsimp only; omega, rfl, rfl, by dsimp only; omega, by dsimp only; omega⟩ rfl hl.1 rfl (Nat.le_of_ble_eq_true rfl) dX8_choose_91) (fun y8004 T8003 hw l_T8003 H locs h => ?_)
          have f_a0 := l_T8003.is f_a0
          have hle := hle.tr l_T8003
          refine lv_goto (tgt := 103) X.1 X.2.1 dX8_choose_94 (by decide) ?_
          exact j103 xn1 xn2 xn3 xn4 xn5 xt0 y8004 T8003 H locs ls (lv_sub hl [1, 2, 3, 4, 5, 6, 0] rfl) h hle f_a0 hw
      intro xn1 xn2 xn3 xn4 xn5 Sn H locs ls hl h hle f_a0 hw
      unfold wX8_choose_L37 at hw
      refine lv_iload X.1 X.2.1 dX8_choose_37 (lv_at hl 5 rfl) ?_
      refine lv_sipush (v := 3000) X.1 X.2.1 dX8_choose_39 (by decide) ?_
      refine lv_icmp_ge (tgt := 193) X.1 X.2.1 dX8_choose_42 (by decide) (fun c9006 => ?_) (fun c9006 => ?_)
      · have hw := hw.1 c9006
        exact j193 xn1 xn2 xn3 xn4 Sn H locs ls (lv_sub hl [0, 1, 2, 3, 4] rfl) h hle f_a0 hw
      · have hw := hw.2 c9006
        refine lv_aload_n X.1 X.2.1 dX8_choose_45 rfl (lv_at hl 0 rfl) ?_
        obtain ⟨b9001, e_b9001, hw⟩ := hw
        have f_b9001 := h.2.2.2.rf (c := 8) (k := 0) f_a0 (by decide) (by decide) e_b9001 (t := 9) rfl
        refine kp_get X h f_a0 ff_8_14.l (v := .ref b9001) (congrArg va_rf e_b9001) dX8_choose_46 ?_
        refine kp_get X h f_b9001 fp_8_66.l (v := .int (kp_I Sn 1805 b9001)) rfl dX8_choose_49 ?_
        refine lv_sipush (v := 324) X.1 X.2.1 dX8_choose_52 (by decide) ?_
        refine lv_icmp_ne (tgt := 193) X.1 X.2.1 dX8_choose_55 (by decide) (fun c9005 => ?_) (fun c9005 => ?_)
        · have hw := hw.1 c9005
          exact j193 xn1 xn2 xn3 xn4 Sn H locs ls (lv_sub hl [0, 1, 2, 3, 4] rfl) h hle f_a0 hw
        · have hw := hw.2 c9005
          refine lv_aload_n X.1 X.2.1 dX8_choose_58 rfl (lv_at hl 0 rfl) ?_
          refine kp_get X h f_a0 ff_8_14.l (v := .ref b9001) (congrArg va_rf e_b9001) dX8_choose_59 ?_
          refine kp_callv X h (kp_runV (rm := { frames := 5, cells := 0, slots := 0, locals := 113 }) (mc := 0) (ms := 0) (rest := []) (Qc := fun A => kp_Qv D cy A Sn _) X h (c_X9_advance l D cy ad Sn b9001 _ h.2.2.2 f_b9001 hw) f_b9001 cv_8_75 ⟨by dsimp only; omega, by dsimp only; omega, rfl, rfl, by dsimp only; omega, by dsimp only; omega⟩ rfl hl.1 rfl (Nat.le_of_ble_eq_true rfl) dX8_choose_62) (fun T9002 hw l_T9002 H locs h => ?_)
          have f_a0 := l_T9002.is f_a0
          have f_b9001 := l_T9002.is f_b9001
          have hle := hle.tr l_T9002
          refine lv_aload_n X.1 X.2.1 dX8_choose_65 rfl (lv_at hl 0 rfl) ?_
          obtain ⟨b9003, e_b9003, hw⟩ := hw
          have f_b9003 := h.2.2.2.rf (c := 8) (k := 0) f_a0 (by decide) (by decide) e_b9003 (t := 9) rfl
          refine kp_get X h f_a0 ff_8_14.l (v := .ref b9003) (congrArg va_rf e_b9003) dX8_choose_66 ?_
          refine kp_get X h f_b9003 fp_8_66.l (v := .int (kp_I T9002 1805 b9003)) rfl dX8_choose_69 ?_
          refine lv_sipush (v := 316) X.1 X.2.1 dX8_choose_72 (by decide) ?_
          refine lv_icmp_ne (tgt := 82) X.1 X.2.1 dX8_choose_75 (by decide) (fun c9004 => ?_) (fun c9004 => ?_)
          · have hw := hw.1 c9004
            refine lv_iconst (v := 0) X.1 X.2.1 dX8_choose_82 (by decide) ?_
            exact j83 xn1 xn2 xn3 xn4 xn5 0 T9002 H locs ls (lv_sub hl [0, 1, 2, 3, 4, 5] rfl) h hle f_a0 hw
          · have hw := hw.2 c9004
            refine lv_iconst (v := 1) X.1 X.2.1 dX8_choose_78 (by decide) ?_
            refine lv_goto (tgt := 83) X.1 X.2.1 dX8_choose_79 (by decide) ?_
            exact j83 xn1 xn2 xn3 xn4 xn5 1 T9002 H locs ls (lv_sub hl [0, 1, 2, 3, 4, 5] rfl) h hle f_a0 hw
  unfold wX8_choose at hw
  have h : kp_H D cy A S s.heap s.heap [] := h
  revert h
  intro h
  refine lv_aload_n X.1 X.2.1 dX8_choose_0 rfl (lv_at hl 0 rfl) ?_
  obtain ⟨b1, e_b1, hw⟩ := hw
  have f_b1 := h.2.2.2.rf (c := 8) (k := 0) f_a0 (by decide) (by decide) e_b1 (t := 9) rfl
  refine kp_get X h f_a0 ff_8_14.l (v := .ref b1) (congrArg va_rf e_b1) dX8_choose_1 ?_
  refine kp_callv X h (kp_runV (rm := { frames := 5, cells := 0, slots := 0, locals := 113 }) (mc := 0) (ms := 0) (rest := []) (Qc := fun A => kp_Qv D cy A S _) X h (c_X9_advance l D cy ad S b1 _ h.2.2.2 f_b1 hw) f_b1 cv_8_75 ⟨by dsimp only; omega, by dsimp only; omega, rfl, rfl, by dsimp only; omega, by dsimp only; omega⟩ rfl hl.1 rfl (Nat.le_of_ble_eq_true rfl) dX8_choose_4) (fun T2 hw l_T2 H locs h => ?_)
  have f_a0 := l_T2.is f_a0
  have f_b1 := l_T2.is f_b1
  have hle := hle.tr l_T2
  refine lv_aload_n X.1 X.2.1 dX8_choose_7 rfl (lv_at hl 0 rfl) ?_
  obtain ⟨b3, e_b3, hw⟩ := hw
  have f_b3 := h.2.2.2.rf (c := 8) (k := 2) f_a0 (by decide) (by decide) e_b3 (t := 2) rfl
  refine kp_get X h f_a0 ff_8_36.l (v := .ref b3) (congrArg va_rf e_b3) dX8_choose_8 ?_
  refine kp_calli X h (kp_runV (rm := { frames := 189, cells := 0, slots := 0, locals := 4339 }) (mc := 0) (ms := 0) (rest := []) (Qc := fun A => kp_Qi D cy A T2 _) X h (c_X2_whole_t l D cy ad T2 b3 _ h.2.2.2 f_b3 hw) f_b3 cv_8_210 ⟨by dsimp only; omega, by dsimp only; omega, rfl, rfl, by dsimp only; omega, by dsimp only; omega⟩ rfl hl.1 rfl (Nat.le_of_ble_eq_true rfl) dX8_choose_11) (fun y5 T4 hw l_T4 H locs h => ?_)
  have f_a0 := l_T4.is f_a0
  have f_b1 := l_T4.is f_b1
  have f_b3 := l_T4.is f_b3
  have hle := hle.tr l_T4
  refine kp_calli X h (kp_runS (rm := { frames := 0, cells := 0, slots := 0, locals := 0 }) (mc := 0) (ms := 0) (rest := []) (Qc := fun A => kp_Qi D cy A T4 _) X h (c_X8_troubleOf l D cy ad T4 y5 _ h.2.2.2  hw) cs_8_213 ⟨by dsimp only; omega, by dsimp only; omega, rfl, rfl, by dsimp only; omega, by dsimp only; omega⟩ rfl hl.1 rfl (Nat.le_of_ble_eq_true rfl) dX8_choose_14) (fun y7 T6 hw l_T6 H locs h => ?_)
  have f_a0 := l_T6.is f_a0
  have f_b1 := l_T6.is f_b1
  have f_b3 := l_T6.is f_b3
  have hle := hle.tr l_T6
  refine lv_istore_n (lv' := [(1, .int y7), (0, .ref a0)]) X.1 X.2.1 dX8_choose_17 rfl hl (by decide) rfl (fun ls hl => ?_)
  refine lv_aload_n X.1 X.2.1 dX8_choose_18 rfl (lv_at hl 1 rfl) ?_
  obtain ⟨b8, e_b8, hw⟩ := hw
  have f_b8 := h.2.2.2.rf (c := 8) (k := 0) f_a0 (by decide) (by decide) e_b8 (t := 9) rfl
  refine kp_get X h f_a0 ff_8_14.l (v := .ref b8) (congrArg va_rf e_b8) dX8_choose_19 ?_
  refine lv_bipush (v := 123) X.1 X.2.1 dX8_choose_22 (by decide) ?_
  refine kp_callv X h (kp_runV (rm := { frames := 6, cells := 0, slots := 0, locals := 134 }) (mc := 0) (ms := 0) (rest := []) (Qc := fun A => kp_Qv D cy A T6 _) X h (c_X9_expectNest l D cy ad T6 b8 123 _ h.2.2.2 f_b8 hw) f_b8 cv_8_137 ⟨by dsimp only; omega, by dsimp only; omega, rfl, rfl, by dsimp only; omega, by dsimp only; omega⟩ rfl hl.1 rfl (Nat.le_of_ble_eq_true rfl) dX8_choose_24) (fun T9 hw l_T9 H locs h => ?_)
  have f_a0 := l_T9.is f_a0
  have f_b1 := l_T9.is f_b1
  have f_b3 := l_T9.is f_b3
  have f_b8 := l_T9.is f_b8
  have hle := hle.tr l_T9
  refine lv_iconst (v := 0) X.1 X.2.1 dX8_choose_27 (by decide) ?_
  refine lv_istore_n (lv' := [(2, .int 0), (1, .int y7), (0, .ref a0)]) X.1 X.2.1 dX8_choose_28 rfl hl (by decide) rfl (fun ls hl => ?_)
  refine lv_iconst (v := 0) X.1 X.2.1 dX8_choose_29 (by decide) ?_
  refine lv_istore_n (lv' := [(3, .int 0), (2, .int 0), (1, .int y7), (0, .ref a0)]) X.1 X.2.1 dX8_choose_30 rfl hl (by decide) rfl (fun ls hl => ?_)
  refine lv_iconst (v := 0) X.1 X.2.1 dX8_choose_31 (by decide) ?_
  refine lv_istore (lv' := [(4, .int 0), (3, .int 0), (2, .int 0), (1, .int y7), (0, .ref a0)]) X.1 X.2.1 dX8_choose_32 hl (by decide) rfl (fun ls hl => ?_)
  refine lv_iconst (v := 0) X.1 X.2.1 dX8_choose_34 (by decide) ?_
  refine lv_istore (lv' := [(5, .int 0), (4, .int 0), (3, .int 0), (2, .int 0), (1, .int y7), (0, .ref a0)]) X.1 X.2.1 dX8_choose_35 hl (by decide) rfl (fun ls hl => ?_)
  obtain ⟨n0, hw⟩ := hw
  exact L37 n0 y7 0 0 0 0 T9 _ _ ls (lv_sub hl [5, 4, 3, 2, 1, 0] rfl) h hle f_a0 hw
theorem dX8_hold_0 : decode cX8_hold 0 = .ok (.aload_n 0, 1) := by decide +kernel
theorem dX8_hold_1 : decode cX8_hold 1 = .ok (.getfield 14, 3) := by decide +kernel
theorem dX8_hold_4 : decode cX8_hold 4 = .ok (.invokevirtual 75, 3) := by decide +kernel
theorem dX8_hold_7 : decode cX8_hold 7 = .ok (.aload_n 0, 1) := by decide +kernel
theorem dX8_hold_8 : decode cX8_hold 8 = .ok (.getfield 36, 3) := by decide +kernel
theorem dX8_hold_11 : decode cX8_hold 11 = .ok (.invokevirtual 210, 3) := by decide +kernel
theorem dX8_hold_14 : decode cX8_hold 14 = .ok (.pop, 1) := by decide +kernel
theorem dX8_hold_15 : decode cX8_hold 15 = .ok (.aload_n 0, 1) := by decide +kernel
theorem dX8_hold_16 : decode cX8_hold 16 = .ok (.getfield 27, 3) := by decide +kernel
theorem dX8_hold_19 : decode cX8_hold 19 = .ok (.bipush 45, 2) := by decide +kernel
theorem dX8_hold_21 : decode cX8_hold 21 = .ok (.invokevirtual 123, 3) := by decide +kernel
theorem dX8_hold_24 : decode cX8_hold 24 = .ok (.pop, 1) := by decide +kernel
theorem dX8_hold_25 : decode cX8_hold 25 = .ok (.aload_n 0, 1) := by decide +kernel
theorem dX8_hold_26 : decode cX8_hold 26 = .ok (.invokevirtual 120, 3) := by decide +kernel
theorem dX8_hold_29 : decode cX8_hold 29 = .ok (.istore_n 1, 1) := by decide +kernel
theorem dX8_hold_30 : decode cX8_hold 30 = .ok (.aload_n 0, 1) := by decide +kernel
theorem dX8_hold_31 : decode cX8_hold 31 = .ok (.getfield 27, 3) := by decide +kernel
theorem dX8_hold_34 : decode cX8_hold 34 = .ok (.bipush 54, 2) := by decide +kernel
theorem dX8_hold_36 : decode cX8_hold 36 = .ok (.invokevirtual 123, 3) := by decide +kernel
theorem dX8_hold_39 : decode cX8_hold 39 = .ok (.pop, 1) := by decide +kernel
theorem dX8_hold_40 : decode cX8_hold 40 = .ok (.iload_n 1, 1) := by decide +kernel
theorem dX8_hold_41 : decode cX8_hold 41 = .ok (.iconst 4, 1) := by decide +kernel
theorem dX8_hold_42 : decode cX8_hold 42 = .ok (.ior, 1) := by decide +kernel
theorem dX8_hold_43 : decode cX8_hold 43 = .ok (.ireturn, 1) := by decide +kernel
def wX8_hold (B : Nat → kp_S → (Int32 → kp_S → Prop) → Prop) (a0 : Nat) (S : kp_S) (post : Int32 → kp_S → Prop) : Prop :=
  ∃ b1 : Nat, kp_R S 1600 a0 = some b1 ∧
  wX9_advance b1 S (fun T2 =>
  ∃ b3 : Nat, kp_R T2 1602 a0 = some b3 ∧
  wX2_whole_t b3 T2 (fun y5 T4 =>
  ∃ b6 : Nat, kp_R T4 1603 a0 = some b6 ∧
  wX0_add b6 45 T4 (fun y8 T7 =>
  B a0 T7 (fun y10 T9 =>
  ∃ b11 : Nat, kp_R T9 1603 a0 = some b11 ∧
  wX0_add b11 54 T9 (fun y13 T12 =>
  post (y10 ||| 4) T12)))))
set_option maxHeartbeats 4000000 in
set_option maxRecDepth 100000 in
theorem c_X8_hold (l : Launch) (D : va_G) (cy : Nat → ClassId) (ad : (Nat → Nat) × (Nat → Nat)) (F L : Nat) (B : Nat → kp_S → (Int32 → kp_S → Prop) → Prop) (hB : ∀ (S : kp_S) (a0 : Nat) (post : Int32 → kp_S → Prop), kp_ok S → kp_is S a0 8 → B a0 S post → kp_M l yX8_block cX8_block 5 (some .int) { frames := F, cells := 0, slots := 0, locals := L } D cy ad S [.ref a0] 0 0 (fun A => kp_Qi D cy A S post)) (hF : 191 ≤ F) (hL : 4387 ≤ L) (S : kp_S) (a0 : Nat) (post : Int32 → kp_S → Prop) (hS : kp_ok S) (f_a0 : kp_is S a0 8) (hw : wX8_hold B a0 S post) : kp_M l yX8_hold cX8_hold 2 (some .int) { frames := F + 1, cells := 0, slots := 0, locals := L + 24 } D cy ad S [.ref a0] 0 0 (fun A => kp_Qi D cy A S post) := by
  refine kp_start (own := RX8) (by decide) rfl (Nat.le_of_ble_eq_true rfl) hS ?_
  intro p e s m below meth c A ls X hr hlocks hname h hl
  have hle : kp_le S S := kp_le.rf
  have hl : lv_has ls 2 [(0, .ref a0)] := hl
  unfold wX8_hold at hw
  have h : kp_H D cy A S s.heap s.heap [] := h
  revert h
  intro h
  refine lv_aload_n X.1 X.2.1 dX8_hold_0 rfl (lv_at hl 0 rfl) ?_
  obtain ⟨b1, e_b1, hw⟩ := hw
  have f_b1 := h.2.2.2.rf (c := 8) (k := 0) f_a0 (by decide) (by decide) e_b1 (t := 9) rfl
  refine kp_get X h f_a0 ff_8_14.l (v := .ref b1) (congrArg va_rf e_b1) dX8_hold_1 ?_
  refine kp_callv X h (kp_runV (rm := { frames := 5, cells := 0, slots := 0, locals := 113 }) (mc := 0) (ms := 0) (rest := []) (Qc := fun A => kp_Qv D cy A S _) X h (c_X9_advance l D cy ad S b1 _ h.2.2.2 f_b1 hw) f_b1 cv_8_75 ⟨by dsimp only; omega, by dsimp only; omega, rfl, rfl, by dsimp only; omega, by dsimp only; omega⟩ rfl hl.1 rfl (Nat.le_of_ble_eq_true rfl) dX8_hold_4) (fun T2 hw l_T2 H locs h => ?_)
  have f_a0 := l_T2.is f_a0
  have f_b1 := l_T2.is f_b1
  have hle := hle.tr l_T2
  refine lv_aload_n X.1 X.2.1 dX8_hold_7 rfl (lv_at hl 0 rfl) ?_
  obtain ⟨b3, e_b3, hw⟩ := hw
  have f_b3 := h.2.2.2.rf (c := 8) (k := 2) f_a0 (by decide) (by decide) e_b3 (t := 2) rfl
  refine kp_get X h f_a0 ff_8_36.l (v := .ref b3) (congrArg va_rf e_b3) dX8_hold_8 ?_
  refine kp_calli X h (kp_runV (rm := { frames := 189, cells := 0, slots := 0, locals := 4339 }) (mc := 0) (ms := 0) (rest := []) (Qc := fun A => kp_Qi D cy A T2 _) X h (c_X2_whole_t l D cy ad T2 b3 _ h.2.2.2 f_b3 hw) f_b3 cv_8_210 ⟨by dsimp only; omega, by dsimp only; omega, rfl, rfl, by dsimp only; omega, by dsimp only; omega⟩ rfl hl.1 rfl (Nat.le_of_ble_eq_true rfl) dX8_hold_11) (fun y5 T4 hw l_T4 H locs h => ?_)
  have f_a0 := l_T4.is f_a0
  have f_b1 := l_T4.is f_b1
  have f_b3 := l_T4.is f_b3
  have hle := hle.tr l_T4
  refine lv_pop X.1 X.2.1 dX8_hold_14 rfl ?_
  refine lv_aload_n X.1 X.2.1 dX8_hold_15 rfl (lv_at hl 0 rfl) ?_
  obtain ⟨b6, e_b6, hw⟩ := hw
  have f_b6 := h.2.2.2.rf (c := 8) (k := 3) f_a0 (by decide) (by decide) e_b6 (t := 0) rfl
  refine kp_get X h f_a0 fp_8_27.l (v := .ref b6) (congrArg va_rf e_b6) dX8_hold_16 ?_
  refine lv_bipush (v := 45) X.1 X.2.1 dX8_hold_19 (by decide) ?_
  refine kp_calli X h (kp_runV (rm := { frames := 0, cells := 0, slots := 0, locals := 0 }) (mc := 0) (ms := 0) (rest := []) (Qc := fun A => kp_Qi D cy A T4 _) X h (c_X0_add l D cy ad T4 b6 45 _ h.2.2.2 f_b6 hw) f_b6 cv_8_123 ⟨by dsimp only; omega, by dsimp only; omega, rfl, rfl, by dsimp only; omega, by dsimp only; omega⟩ rfl hl.1 rfl (Nat.le_of_ble_eq_true rfl) dX8_hold_21) (fun y8 T7 hw l_T7 H locs h => ?_)
  have f_a0 := l_T7.is f_a0
  have f_b1 := l_T7.is f_b1
  have f_b3 := l_T7.is f_b3
  have f_b6 := l_T7.is f_b6
  have hle := hle.tr l_T7
  refine lv_pop X.1 X.2.1 dX8_hold_24 rfl ?_
  refine lv_aload_n X.1 X.2.1 dX8_hold_25 rfl (lv_at hl 0 rfl) ?_
  refine kp_calli X h (kp_runV (rm := { frames := F, cells := 0, slots := 0, locals := L }) (mc := 0) (ms := 0) (rest := []) (Qc := fun A => kp_Qi D cy A T7 _) X h (hB T7 a0 _ h.2.2.2 f_a0 hw) f_a0 cv_8_120 ⟨by dsimp only; omega, by dsimp only; omega, rfl, rfl, by dsimp only; omega, by dsimp only; omega⟩ rfl hl.1 rfl (Nat.le_of_ble_eq_true rfl) dX8_hold_26) (fun y10 T9 hw l_T9 H locs h => ?_)
  have f_a0 := l_T9.is f_a0
  have f_b1 := l_T9.is f_b1
  have f_b3 := l_T9.is f_b3
  have f_b6 := l_T9.is f_b6
  have hle := hle.tr l_T9
  refine lv_istore_n (lv' := [(1, .int y10), (0, .ref a0)]) X.1 X.2.1 dX8_hold_29 rfl hl (by decide) rfl (fun ls hl => ?_)
  refine lv_aload_n X.1 X.2.1 dX8_hold_30 rfl (lv_at hl 1 rfl) ?_
  obtain ⟨b11, e_b11, hw⟩ := hw
  have f_b11 := h.2.2.2.rf (c := 8) (k := 3) f_a0 (by decide) (by decide) e_b11 (t := 0) rfl
  refine kp_get X h f_a0 fp_8_27.l (v := .ref b11) (congrArg va_rf e_b11) dX8_hold_31 ?_
  refine lv_bipush (v := 54) X.1 X.2.1 dX8_hold_34 (by decide) ?_
  refine kp_calli X h (kp_runV (rm := { frames := 0, cells := 0, slots := 0, locals := 0 }) (mc := 0) (ms := 0) (rest := []) (Qc := fun A => kp_Qi D cy A T9 _) X h (c_X0_add l D cy ad T9 b11 54 _ h.2.2.2 f_b11 hw) f_b11 cv_8_123 ⟨by dsimp only; omega, by dsimp only; omega, rfl, rfl, by dsimp only; omega, by dsimp only; omega⟩ rfl hl.1 rfl (Nat.le_of_ble_eq_true rfl) dX8_hold_36) (fun y13 T12 hw l_T12 H locs h => ?_)
  have f_a0 := l_T12.is f_a0
  have f_b1 := l_T12.is f_b1
  have f_b3 := l_T12.is f_b3
  have f_b6 := l_T12.is f_b6
  have f_b11 := l_T12.is f_b11
  have hle := hle.tr l_T12
  refine lv_pop X.1 X.2.1 dX8_hold_39 rfl ?_
  refine lv_iload_n X.1 X.2.1 dX8_hold_40 rfl (lv_at hl 0 rfl) ?_
  refine lv_iconst (v := 4) X.1 X.2.1 dX8_hold_41 (by decide) ?_
  refine lv_ior X.1 X.2.1 dX8_hold_42 ?_
  exact kp_reti X hr hlocks h hle rfl hw dX8_hold_43
theorem dX8_ensure_0 : decode cX8_ensure 0 = .ok (.aload_n 0, 1) := by decide +kernel
theorem dX8_ensure_1 : decode cX8_ensure 1 = .ok (.getfield 14, 3) := by decide +kernel
theorem dX8_ensure_4 : decode cX8_ensure 4 = .ok (.invokevirtual 75, 3) := by decide +kernel
theorem dX8_ensure_7 : decode cX8_ensure 7 = .ok (.aload_n 0, 1) := by decide +kernel
theorem dX8_ensure_8 : decode cX8_ensure 8 = .ok (.getfield 27, 3) := by decide +kernel
theorem dX8_ensure_11 : decode cX8_ensure 11 = .ok (.bipush 50, 2) := by decide +kernel
theorem dX8_ensure_13 : decode cX8_ensure 13 = .ok (.iload_n 1, 1) := by decide +kernel
theorem dX8_ensure_14 : decode cX8_ensure 14 = .ok (.invokevirtual 258, 3) := by decide +kernel
theorem dX8_ensure_17 : decode cX8_ensure 17 = .ok (.istore_n 2, 1) := by decide +kernel
theorem dX8_ensure_18 : decode cX8_ensure 18 = .ok (.aload_n 0, 1) := by decide +kernel
theorem dX8_ensure_19 : decode cX8_ensure 19 = .ok (.getfield 36, 3) := by decide +kernel
theorem dX8_ensure_22 : decode cX8_ensure 22 = .ok (.invokevirtual 210, 3) := by decide +kernel
theorem dX8_ensure_25 : decode cX8_ensure 25 = .ok (.pop, 1) := by decide +kernel
theorem dX8_ensure_26 : decode cX8_ensure 26 = .ok (.aload_n 0, 1) := by decide +kernel
theorem dX8_ensure_27 : decode cX8_ensure 27 = .ok (.getfield 27, 3) := by decide +kernel
theorem dX8_ensure_30 : decode cX8_ensure 30 = .ok (.bipush 51, 2) := by decide +kernel
theorem dX8_ensure_32 : decode cX8_ensure 32 = .ok (.invokevirtual 123, 3) := by decide +kernel
theorem dX8_ensure_35 : decode cX8_ensure 35 = .ok (.pop, 1) := by decide +kernel
theorem dX8_ensure_36 : decode cX8_ensure 36 = .ok (.aload_n 0, 1) := by decide +kernel
theorem dX8_ensure_37 : decode cX8_ensure 37 = .ok (.getfield 27, 3) := by decide +kernel
theorem dX8_ensure_40 : decode cX8_ensure 40 = .ok (.iload_n 2, 1) := by decide +kernel
theorem dX8_ensure_41 : decode cX8_ensure 41 = .ok (.iconst 2, 1) := by decide +kernel
theorem dX8_ensure_42 : decode cX8_ensure 42 = .ok (.iadd, 1) := by decide +kernel
theorem dX8_ensure_43 : decode cX8_ensure 43 = .ok (.aload_n 0, 1) := by decide +kernel
theorem dX8_ensure_44 : decode cX8_ensure 44 = .ok (.getfield 27, 3) := by decide +kernel
theorem dX8_ensure_47 : decode cX8_ensure 47 = .ok (.invokevirtual 234, 3) := by decide +kernel
theorem dX8_ensure_50 : decode cX8_ensure 50 = .ok (.invokevirtual 237, 3) := by decide +kernel
theorem dX8_ensure_53 : decode cX8_ensure 53 = .ok (.aload_n 0, 1) := by decide +kernel
theorem dX8_ensure_54 : decode cX8_ensure 54 = .ok (.invokevirtual 120, 3) := by decide +kernel
theorem dX8_ensure_57 : decode cX8_ensure 57 = .ok (.istore_n 3, 1) := by decide +kernel
theorem dX8_ensure_58 : decode cX8_ensure 58 = .ok (.aload_n 0, 1) := by decide +kernel
theorem dX8_ensure_59 : decode cX8_ensure 59 = .ok (.getfield 27, 3) := by decide +kernel
theorem dX8_ensure_62 : decode cX8_ensure 62 = .ok (.bipush 54, 2) := by decide +kernel
theorem dX8_ensure_64 : decode cX8_ensure 64 = .ok (.invokevirtual 123, 3) := by decide +kernel
theorem dX8_ensure_67 : decode cX8_ensure 67 = .ok (.pop, 1) := by decide +kernel
theorem dX8_ensure_68 : decode cX8_ensure 68 = .ok (.aload_n 0, 1) := by decide +kernel
theorem dX8_ensure_69 : decode cX8_ensure 69 = .ok (.getfield 27, 3) := by decide +kernel
theorem dX8_ensure_72 : decode cX8_ensure 72 = .ok (.iload_n 2, 1) := by decide +kernel
theorem dX8_ensure_73 : decode cX8_ensure 73 = .ok (.iconst 3, 1) := by decide +kernel
theorem dX8_ensure_74 : decode cX8_ensure 74 = .ok (.iadd, 1) := by decide +kernel
theorem dX8_ensure_75 : decode cX8_ensure 75 = .ok (.aload_n 0, 1) := by decide +kernel
theorem dX8_ensure_76 : decode cX8_ensure 76 = .ok (.getfield 27, 3) := by decide +kernel
theorem dX8_ensure_79 : decode cX8_ensure 79 = .ok (.invokevirtual 234, 3) := by decide +kernel
theorem dX8_ensure_82 : decode cX8_ensure 82 = .ok (.invokevirtual 237, 3) := by decide +kernel
theorem dX8_ensure_85 : decode cX8_ensure 85 = .ok (.iload_n 3, 1) := by decide +kernel
theorem dX8_ensure_86 : decode cX8_ensure 86 = .ok (.ifCond .ne 7, 3) := by decide +kernel
theorem dX8_ensure_89 : decode cX8_ensure 89 = .ok (.iconst 0, 1) := by decide +kernel
theorem dX8_ensure_90 : decode cX8_ensure 90 = .ok (.goto 6, 3) := by decide +kernel
theorem dX8_ensure_93 : decode cX8_ensure 93 = .ok (.iload_n 3, 1) := by decide +kernel
theorem dX8_ensure_94 : decode cX8_ensure 94 = .ok (.iconst 4, 1) := by decide +kernel
theorem dX8_ensure_95 : decode cX8_ensure 95 = .ok (.ior, 1) := by decide +kernel
theorem dX8_ensure_96 : decode cX8_ensure 96 = .ok (.ireturn, 1) := by decide +kernel
def wX8_ensure_b96 (B : Nat → kp_S → (Int32 → kp_S → Prop) → Prop) (a0 : Nat) (x1 : Int32) (xt0 : Int32)  (Sn : kp_S) (post : Int32 → kp_S → Prop) : Prop :=
  post xt0 Sn
def wX8_ensure (B : Nat → kp_S → (Int32 → kp_S → Prop) → Prop) (a0 : Nat) (x1 : Int32) (S : kp_S) (post : Int32 → kp_S → Prop) : Prop :=
  ∃ b1 : Nat, kp_R S 1600 a0 = some b1 ∧
  wX9_advance b1 S (fun T2 =>
  ∃ b3 : Nat, kp_R T2 1603 a0 = some b3 ∧
  wX0_addPart b3 50 x1 T2 (fun y5 T4 =>
  ∃ b6 : Nat, kp_R T4 1602 a0 = some b6 ∧
  wX2_whole_t b6 T4 (fun y8 T7 =>
  ∃ b9 : Nat, kp_R T7 1603 a0 = some b9 ∧
  wX0_add b9 51 T7 (fun y11 T10 =>
  ∃ b12 : Nat, kp_R T10 1603 a0 = some b12 ∧
  wX0_size b12 T10 (fun y14 T13 =>
  wX0_set b12 (y5 + 2) y14 T13 (fun T15 =>
  B a0 T15 (fun y17 T16 =>
  ∃ b18 : Nat, kp_R T16 1603 a0 = some b18 ∧
  wX0_add b18 54 T16 (fun y20 T19 =>
  ∃ b21 : Nat, kp_R T19 1603 a0 = some b21 ∧
  wX0_size b21 T19 (fun y23 T22 =>
  wX0_set b21 (y5 + 3) y23 T22 (fun T24 =>
  ((¬ y17 = 0 →
  wX8_ensure_b96 B a0 x1 (y17 ||| 4)  T24 post) ∧ (y17 = 0 →
  wX8_ensure_b96 B a0 x1 0  T24 post))))))))))))
