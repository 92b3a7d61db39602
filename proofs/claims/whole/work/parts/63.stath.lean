set_option maxHeartbeats 4000000 in
set_option maxRecDepth 100000 in
theorem c_X8_ensure (l : Launch) (D : va_G) (cy : Nat → ClassId) (ad : (Nat → Nat) × (Nat → Nat)) (F L : Nat) (B : Nat → kp_S → (Int32 → kp_S → Prop) → Prop) (hB : ∀ (S : kp_S) (a0 : Nat) (post : Int32 → kp_S → Prop), kp_ok S → kp_is S a0 8 → B a0 S post → kp_M l yX8_block cX8_block 5 (some .int) { frames := F, cells := 0, slots := 0, locals := L } D cy ad S [.ref a0] 0 0 (fun A => kp_Qi D cy A S post)) (hF : 191 ≤ F) (hL : 4387 ≤ L) (S : kp_S) (a0 : Nat) (x1 : Int32) (post : Int32 → kp_S → Prop) (hS : kp_ok S) (f_a0 : kp_is S a0 8) (hw : wX8_ensure B a0 x1 S post) : kp_M l yX8_ensure cX8_ensure 4 (some .int) { frames := F + 1, cells := 0, slots := 0, locals := L + 24 } D cy ad S [.ref a0, .int x1] 0 0 (fun A => kp_Qi D cy A S post) := by
  refine kp_start (own := RX8) (by decide) rfl (Nat.le_of_ble_eq_true rfl) hS ?_
  intro p e s m below meth c A ls X hr hlocks hname h hl
  have hle : kp_le S S := kp_le.rf
  have hl : lv_has ls 4 [(0, .ref a0), (1, .int x1)] := hl
  have j96 : ∀ (xt0 : Int32) (Sn : kp_S) (H : Heap) (locs : List Loc) (ls : Array Slot), lv_has ls 4 [] → kp_H D cy A Sn s.heap H locs → kp_le S Sn → kp_is Sn a0 8 → wX8_ensure_b96 B a0 x1 xt0  Sn post → W p l e { frames := F + 1, cells := 0, slots := 0, locals := L + 24 } s m ([.ref a0, .int x1] : List Value).toArray below meth c H locs 0 0 (MQ below (kp_Qi D cy A S post) ([.ref a0, .int x1] : List Value).toArray s 0 0 A) (F0 m 96 ls [.int xt0]) := by
    intro xt0 Sn H locs ls hl h hle f_a0 hw
    unfold wX8_ensure_b96 at hw
    exact kp_reti X hr hlocks h hle rfl hw dX8_ensure_96
  unfold wX8_ensure at hw
  have h : kp_H D cy A S s.heap s.heap [] := h
  revert h
  intro h
  refine lv_aload_n X.1 X.2.1 dX8_ensure_0 rfl (lv_at hl 0 rfl) ?_
  obtain ⟨b1, e_b1, hw⟩ := hw
  have f_b1 := h.2.2.2.rf (c := 8) (k := 0) f_a0 (by decide) (by decide) e_b1 (t := 9) rfl
  refine kp_get X h f_a0 ff_8_14.l (v := .ref b1) (congrArg va_rf e_b1) dX8_ensure_1 ?_
  refine kp_callv X h (kp_runV (rm := { frames := 5, cells := 0, slots := 0, locals := 113 }) (mc := 0) (ms := 0) (rest := []) (Qc := fun A => kp_Qv D cy A S _) X h (c_X9_advance l D cy ad S b1 _ h.2.2.2 f_b1 hw) f_b1 cv_8_75 ⟨by dsimp only; omega, by dsimp only; omega, rfl, rfl, by dsimp only; omega, by dsimp only; omega⟩ rfl hl.1 rfl (Nat.le_of_ble_eq_true rfl) dX8_ensure_4) (fun T2 hw l_T2 H locs h => ?_)
  have f_a0 := l_T2.is f_a0
  have f_b1 := l_T2.is f_b1
  have hle := hle.tr l_T2
  refine lv_aload_n X.1 X.2.1 dX8_ensure_7 rfl (lv_at hl 0 rfl) ?_
  obtain ⟨b3, e_b3, hw⟩ := hw
  have f_b3 := h.2.2.2.rf (c := 8) (k := 3) f_a0 (by decide) (by decide) e_b3 (t := 0) rfl
  refine kp_get X h f_a0 fp_8_27.l (v := .ref b3) (congrArg va_rf e_b3) dX8_ensure_8 ?_
  refine lv_bipush (v := 50) X.1 X.2.1 dX8_ensure_11 (by decide) ?_
  refine lv_iload_n X.1 X.2.1 dX8_ensure_13 rfl (lv_at hl 1 rfl) ?_
  refine kp_calli X h (kp_runV (rm := { frames := 2, cells := 0, slots := 0, locals := 45 }) (mc := 0) (ms := 0) (rest := []) (Qc := fun A => kp_Qi D cy A T2 _) X h (c_X0_addPart l D cy ad T2 b3 50 x1 _ h.2.2.2 f_b3 hw) f_b3 cv_8_258 ⟨by dsimp only; omega, by dsimp only; omega, rfl, rfl, by dsimp only; omega, by dsimp only; omega⟩ rfl hl.1 rfl (Nat.le_of_ble_eq_true rfl) dX8_ensure_14) (fun y5 T4 hw l_T4 H locs h => ?_)
  have f_a0 := l_T4.is f_a0
  have f_b1 := l_T4.is f_b1
  have f_b3 := l_T4.is f_b3
  have hle := hle.tr l_T4
  refine lv_istore_n (lv' := [(2, .int y5), (0, .ref a0), (1, .int x1)]) X.1 X.2.1 dX8_ensure_17 rfl hl (by decide) rfl (fun ls hl => ?_)
  refine lv_aload_n X.1 X.2.1 dX8_ensure_18 rfl (lv_at hl 1 rfl) ?_
  obtain ⟨b6, e_b6, hw⟩ := hw
  have f_b6 := h.2.2.2.rf (c := 8) (k := 2) f_a0 (by decide) (by decide) e_b6 (t := 2) rfl
  refine kp_get X h f_a0 ff_8_36.l (v := .ref b6) (congrArg va_rf e_b6) dX8_ensure_19 ?_
  refine kp_calli X h (kp_runV (rm := { frames := 189, cells := 0, slots := 0, locals := 4339 }) (mc := 0) (ms := 0) (rest := []) (Qc := fun A => kp_Qi D cy A T4 _) X h (c_X2_whole_t l D cy ad T4 b6 _ h.2.2.2 f_b6 hw) f_b6 cv_8_210 ⟨by dsimp only; omega, by dsimp only; omega, rfl, rfl, by dsimp only; omega, by dsimp only; omega⟩ rfl hl.1 rfl (Nat.le_of_ble_eq_true rfl) dX8_ensure_22) (fun y8 T7 hw l_T7 H locs h => ?_)
  have f_a0 := l_T7.is f_a0
  have f_b1 := l_T7.is f_b1
  have f_b3 := l_T7.is f_b3
  have f_b6 := l_T7.is f_b6
  have hle := hle.tr l_T7
  refine lv_pop X.1 X.2.1 dX8_ensure_25 rfl ?_
  refine lv_aload_n X.1 X.2.1 dX8_ensure_26 rfl (lv_at hl 1 rfl) ?_
  obtain ⟨b9, e_b9, hw⟩ := hw
  have f_b9 := h.2.2.2.rf (c := 8) (k := 3) f_a0 (by decide) (by decide) e_b9 (t := 0) rfl
  refine kp_get X h f_a0 fp_8_27.l (v := .ref b9) (congrArg va_rf e_b9) dX8_ensure_27 ?_
  refine lv_bipush (v := 51) X.1 X.2.1 dX8_ensure_30 (by decide) ?_
  refine kp_calli X h (kp_runV (rm := { frames := 0, cells := 0, slots := 0, locals := 0 }) (mc := 0) (ms := 0) (rest := []) (Qc := fun A => kp_Qi D cy A T7 _) X h (c_X0_add l D cy ad T7 b9 51 _ h.2.2.2 f_b9 hw) f_b9 cv_8_123 ⟨by dsimp only; omega, by dsimp only; omega, rfl, rfl, by dsimp only; omega, by dsimp only; omega⟩ rfl hl.1 rfl (Nat.le_of_ble_eq_true rfl) dX8_ensure_32) (fun y11 T10 hw l_T10 H locs h => ?_)
  have f_a0 := l_T10.is f_a0
  have f_b1 := l_T10.is f_b1
  have f_b3 := l_T10.is f_b3
  have f_b6 := l_T10.is f_b6
  have f_b9 := l_T10.is f_b9
  have hle := hle.tr l_T10
  refine lv_pop X.1 X.2.1 dX8_ensure_35 rfl ?_
  refine lv_aload_n X.1 X.2.1 dX8_ensure_36 rfl (lv_at hl 1 rfl) ?_
  obtain ⟨b12, e_b12, hw⟩ := hw
  have f_b12 := h.2.2.2.rf (c := 8) (k := 3) f_a0 (by decide) (by decide) e_b12 (t := 0) rfl
  refine kp_get X h f_a0 fp_8_27.l (v := .ref b12) (congrArg va_rf e_b12) dX8_ensure_37 ?_
  refine lv_iload_n X.1 X.2.1 dX8_ensure_40 rfl (lv_at hl 0 rfl) ?_
  refine lv_iconst (v := 2) X.1 X.2.1 dX8_ensure_41 (by decide) ?_
  refine lv_iadd X.1 X.2.1 dX8_ensure_42 ?_
  refine lv_aload_n X.1 X.2.1 dX8_ensure_43 rfl (lv_at hl 1 rfl) ?_
  refine kp_get X h f_a0 fp_8_27.l (v := .ref b12) (congrArg va_rf e_b12) dX8_ensure_44 ?_
  refine kp_calli X h (kp_runV (rm := { frames := 0, cells := 0, slots := 0, locals := 0 }) (mc := 0) (ms := 0) (rest := [.int (y5 + 2), .ref b12]) (Qc := fun A => kp_Qi D cy A T10 _) X h (c_X0_size l D cy ad T10 b12 _ h.2.2.2 f_b12 hw) f_b12 cv_8_234 ⟨by dsimp only; omega, by dsimp only; omega, rfl, rfl, by dsimp only; omega, by dsimp only; omega⟩ rfl hl.1 rfl (Nat.le_of_ble_eq_true rfl) dX8_ensure_47) (fun y14 T13 hw l_T13 H locs h => ?_)
  have f_a0 := l_T13.is f_a0
  have f_b1 := l_T13.is f_b1
  have f_b3 := l_T13.is f_b3
  have f_b6 := l_T13.is f_b6
  have f_b9 := l_T13.is f_b9
  have f_b12 := l_T13.is f_b12
  have hle := hle.tr l_T13
  refine kp_callv X h (kp_runV (rm := { frames := 0, cells := 0, slots := 0, locals := 0 }) (mc := 0) (ms := 0) (rest := []) (Qc := fun A => kp_Qv D cy A T13 _) X h (c_X0_set l D cy ad T13 b12 (y5 + 2) y14 _ h.2.2.2 f_b12 hw) f_b12 cv_8_237 ⟨by dsimp only; omega, by dsimp only; omega, rfl, rfl, by dsimp only; omega, by dsimp only; omega⟩ rfl hl.1 rfl (Nat.le_of_ble_eq_true rfl) dX8_ensure_50) (fun T15 hw l_T15 H locs h => ?_)
  have f_a0 := l_T15.is f_a0
  have f_b1 := l_T15.is f_b1
  have f_b3 := l_T15.is f_b3
  have f_b6 := l_T15.is f_b6
  have f_b9 := l_T15.is f_b9
  have f_b12 := l_T15.is f_b12
  have hle := hle.tr l_T15
  refine lv_aload_n X.1 X.2.1 dX8_ensure_53 rfl (lv_at hl 1 rfl) ?_
  refine kp_calli X h (kp_runV (rm := { frames := F, cells := 0, slots := 0, locals := L }) (mc := 0) (ms := 0) (rest := []) (Qc := fun A => kp_Qi D cy A T15 _) X h (hB T15 a0 _ h.2.2.2 f_a0 hw) f_a0 cv_8_120 ⟨by dsimp only; omega, by dsimp only; omega, rfl, rfl, by dsimp only; omega, by dsimp only; omega⟩ rfl hl.1 rfl (Nat.le_of_ble_eq_true rfl) dX8_ensure_54) (fun y17 T16 hw l_T16 H locs h => ?_)
  have f_a0 := l_T16.is f_a0
  have f_b1 := l_T16.is f_b1
  have f_b3 := l_T16.is f_b3
  have f_b6 := l_T16.is f_b6
  have f_b9 := l_T16.is f_b9
  have f_b12 := l_T16.is f_b12
  have hle := hle.tr l_T16
  refine lv_istore_n (lv' := [(3, .int y17), (2, .int y5), (0, .ref a0), (1, .int x1)]) X.1 X.2.1 dX8_ensure_57 rfl hl (by decide) rfl (fun ls hl => ?_)
  refine lv_aload_n X.1 X.2.1 dX8_ensure_58 rfl (lv_at hl 2 rfl) ?_
  obtain ⟨b18, e_b18, hw⟩ := hw
  have f_b18 := h.2.2.2.rf (c := 8) (k := 3) f_a0 (by decide) (by decide) e_b18 (t := 0) rfl
  refine kp_get X h f_a0 fp_8_27.l (v := .ref b18) (congrArg va_rf e_b18) dX8_ensure_59 ?_
  refine lv_bipush (v := 54) X.1 X.2.1 dX8_ensure_62 (by decide) ?_
  refine kp_calli X h (kp_runV (rm := { frames := 0, cells := 0, slots := 0, locals := 0 }) (mc := 0) (ms := 0) (rest := []) (Qc := fun A => kp_Qi D cy A T16 _) X h (c_X0_add l D cy ad T16 b18 54 _ h.2.2.2 f_b18 hw) f_b18 cv_8_123 ⟨by dsimp only; omega, by dsimp only; omega, rfl, rfl, by dsimp only; omega, by dsimp only; omega⟩ rfl hl.1 rfl (Nat.le_of_ble_eq_true rfl) dX8_ensure_64) (fun y20 T19 hw l_T19 H locs h => ?_)
  have f_a0 := l_T19.is f_a0
  have f_b1 := l_T19.is f_b1
  have f_b3 := l_T19.is f_b3
  have f_b6 := l_T19.is f_b6
  have f_b9 := l_T19.is f_b9
  have f_b12 := l_T19.is f_b12
  have f_b18 := l_T19.is f_b18
  have hle := hle.tr l_T19
  refine lv_pop X.1 X.2.1 dX8_ensure_67 rfl ?_
  refine lv_aload_n X.1 X.2.1 dX8_ensure_68 rfl (lv_at hl 2 rfl) ?_
  obtain ⟨b21, e_b21, hw⟩ := hw
  have f_b21 := h.2.2.2.rf (c := 8) (k := 3) f_a0 (by decide) (by decide) e_b21 (t := 0) rfl
  refine kp_get X h f_a0 fp_8_27.l (v := .ref b21) (congrArg va_rf e_b21) dX8_ensure_69 ?_
  refine lv_iload_n X.1 X.2.1 dX8_ensure_72 rfl (lv_at hl 1 rfl) ?_
  refine lv_iconst (v := 3) X.1 X.2.1 dX8_ensure_73 (by decide) ?_
  refine lv_iadd X.1 X.2.1 dX8_ensure_74 ?_
  refine lv_aload_n X.1 X.2.1 dX8_ensure_75 rfl (lv_at hl 2 rfl) ?_
  refine kp_get X h f_a0 fp_8_27.l (v := .ref b21) (congrArg va_rf e_b21) dX8_ensure_76 ?_
  refine kp_calli X h (kp_runV (rm := { frames := 0, cells := 0, slots := 0, locals := 0 }) (mc := 0) (ms := 0) (rest := [.int (y5 + 3), .ref b21]) (Qc := fun A => kp_Qi D cy A T19 _) X h (c_X0_size l D cy ad T19 b21 _ h.2.2.2 f_b21 hw) f_b21 cv_8_234 ⟨by dsimp only; omega, by dsimp only; omega, rfl, rfl, by dsimp only; omega, by dsimp only; omega⟩ rfl hl.1 rfl (Nat.le_of_ble_eq_true rfl) dX8_ensure_79) (fun y23 T22 hw l_T22 H locs h => ?_)
  have f_a0 := l_T22.is f_a0
  have f_b1 := l_T22.is f_b1
  have f_b3 := l_T22.is f_b3
  have f_b6 := l_T22.is f_b6
  have f_b9 := l_T22.is f_b9
  have f_b12 := l_T22.is f_b12
  have f_b18 := l_T22.is f_b18
  have f_b21 := l_T22.is f_b21
  have hle := hle.tr l_T22
  refine kp_callv X h (kp_runV (rm := { frames := 0, cells := 0, slots := 0, locals := 0 }) (mc := 0) (ms := 0) (rest := []) (Qc := fun A => kp_Qv D cy A T22 _) X h (c_X0_set l D cy ad T22 b21 (y5 + 3) y23 _ h.2.2.2 f_b21 hw) f_b21 cv_8_237 ⟨by dsimp only; omega, by dsimp only; omega, rfl, rfl, by dsimp only; omega, by dsimp only; omega⟩ rfl hl.1 rfl (Nat.le_of_ble_eq_true rfl) dX8_ensure_82) (fun T24 hw l_T24 H locs h => ?_)
  have f_a0 := l_T24.is f_a0
  have f_b1 := l_T24.is f_b1
  have f_b3 := l_T24.is f_b3
  have f_b6 := l_T24.is f_b6
  have f_b9 := l_T24.is f_b9
  have f_b12 := l_T24.is f_b12
  have f_b18 := l_T24.is f_b18
  have f_b21 := l_T24.is f_b21
  have hle := hle.tr l_T24
  refine lv_iload_n X.1 X.2.1 dX8_ensure_85 rfl (lv_at hl 0 rfl) ?_
  refine lv_if_ne (tgt := 93) X.1 X.2.1 dX8_ensure_86 (by decide) (fun c25 => ?_) (fun c25 => ?_)
  · have hw := hw.1 c25
    refine lv_iload_n X.1 X.2.1 dX8_ensure_93 rfl (lv_at hl 0 rfl) ?_
    refine lv_iconst (v := 4) X.1 X.2.1 dX8_ensure_94 (by decide) ?_
    refine lv_ior X.1 X.2.1 dX8_ensure_95 ?_
    exact j96 (y17 ||| 4) T24 _ _ ls (lv_sub hl [] rfl) h hle f_a0 hw
  · have hw := hw.2 c25
    refine lv_iconst (v := 0) X.1 X.2.1 dX8_ensure_89 (by decide) ?_
    refine lv_goto (tgt := 96) X.1 X.2.1 dX8_ensure_90 (by decide) ?_
    exact j96 0 T24 _ _ ls (lv_sub hl [] rfl) h hle f_a0 hw
theorem dX8_mends_0 : decode cX8_mends 0 = .ok (.aload_n 0, 1) := by decide +kernel
theorem dX8_mends_1 : decode cX8_mends 1 = .ok (.getfield 27, 3) := by decide +kernel
theorem dX8_mends_4 : decode cX8_mends 4 = .ok (.iload_n 1, 1) := by decide +kernel
theorem dX8_mends_5 : decode cX8_mends 5 = .ok (.iconst 2, 1) := by decide +kernel
theorem dX8_mends_6 : decode cX8_mends 6 = .ok (.iadd, 1) := by decide +kernel
theorem dX8_mends_7 : decode cX8_mends 7 = .ok (.aload_n 0, 1) := by decide +kernel
theorem dX8_mends_8 : decode cX8_mends 8 = .ok (.getfield 27, 3) := by decide +kernel
theorem dX8_mends_11 : decode cX8_mends 11 = .ok (.invokevirtual 234, 3) := by decide +kernel
theorem dX8_mends_14 : decode cX8_mends 14 = .ok (.invokevirtual 237, 3) := by decide +kernel
theorem dX8_mends_17 : decode cX8_mends 17 = .ok (.iconst 0, 1) := by decide +kernel
theorem dX8_mends_18 : decode cX8_mends 18 = .ok (.istore_n 3, 1) := by decide +kernel
theorem dX8_mends_19 : decode cX8_mends 19 = .ok (.iconst 0, 1) := by decide +kernel
theorem dX8_mends_20 : decode cX8_mends 20 = .ok (.istore 4, 2) := by decide +kernel
theorem dX8_mends_22 : decode cX8_mends 22 = .ok (.iconst 0, 1) := by decide +kernel
theorem dX8_mends_23 : decode cX8_mends 23 = .ok (.istore 5, 2) := by decide +kernel
theorem dX8_mends_25 : decode cX8_mends 25 = .ok (.iconst 0, 1) := by decide +kernel
theorem dX8_mends_26 : decode cX8_mends 26 = .ok (.istore 6, 2) := by decide +kernel
theorem dX8_mends_28 : decode cX8_mends 28 = .ok (.iload 6, 2) := by decide +kernel
theorem dX8_mends_30 : decode cX8_mends 30 = .ok (.sipush 3000, 3) := by decide +kernel
theorem dX8_mends_33 : decode cX8_mends 33 = .ok (.if_icmp .ge 180, 3) := by decide +kernel
theorem dX8_mends_36 : decode cX8_mends 36 = .ok (.aload_n 0, 1) := by decide +kernel
theorem dX8_mends_37 : decode cX8_mends 37 = .ok (.getfield 14, 3) := by decide +kernel
theorem dX8_mends_40 : decode cX8_mends 40 = .ok (.getfield 66, 3) := by decide +kernel
theorem dX8_mends_43 : decode cX8_mends 43 = .ok (.sipush 315, 3) := by decide +kernel
theorem dX8_mends_46 : decode cX8_mends 46 = .ok (.if_icmp .ne 167, 3) := by decide +kernel
theorem dX8_mends_49 : decode cX8_mends 49 = .ok (.aload_n 0, 1) := by decide +kernel
theorem dX8_mends_50 : decode cX8_mends 50 = .ok (.getfield 14, 3) := by decide +kernel
theorem dX8_mends_53 : decode cX8_mends 53 = .ok (.invokevirtual 75, 3) := by decide +kernel
theorem dX8_mends_56 : decode cX8_mends 56 = .ok (.aload_n 0, 1) := by decide +kernel
theorem dX8_mends_57 : decode cX8_mends 57 = .ok (.getfield 14, 3) := by decide +kernel
theorem dX8_mends_60 : decode cX8_mends 60 = .ok (.getfield 66, 3) := by decide +kernel
theorem dX8_mends_63 : decode cX8_mends 63 = .ok (.sipush 316, 3) := by decide +kernel
theorem dX8_mends_66 : decode cX8_mends 66 = .ok (.if_icmp .ne 7, 3) := by decide +kernel
theorem dX8_mends_69 : decode cX8_mends 69 = .ok (.iconst 1, 1) := by decide +kernel
theorem dX8_mends_70 : decode cX8_mends 70 = .ok (.goto 4, 3) := by decide +kernel
theorem dX8_mends_73 : decode cX8_mends 73 = .ok (.iconst 0, 1) := by decide +kernel
theorem dX8_mends_74 : decode cX8_mends 74 = .ok (.istore 7, 2) := by decide +kernel
theorem dX8_mends_76 : decode cX8_mends 76 = .ok (.iload 7, 2) := by decide +kernel
theorem dX8_mends_78 : decode cX8_mends 78 = .ok (.ifCond .eq 10, 3) := by decide +kernel
theorem dX8_mends_81 : decode cX8_mends 81 = .ok (.aload_n 0, 1) := by decide +kernel
theorem dX8_mends_82 : decode cX8_mends 82 = .ok (.getfield 14, 3) := by decide +kernel
theorem dX8_mends_85 : decode cX8_mends 85 = .ok (.invokevirtual 75, 3) := by decide +kernel
theorem dX8_mends_88 : decode cX8_mends 88 = .ok (.iload 7, 2) := by decide +kernel
theorem dX8_mends_90 : decode cX8_mends 90 = .ok (.ifCond .eq 7, 3) := by decide +kernel
theorem dX8_mends_93 : decode cX8_mends 93 = .ok (.iconst 0, 1) := by decide +kernel
theorem dX8_mends_94 : decode cX8_mends 94 = .ok (.goto 9, 3) := by decide +kernel
theorem dX8_mends_97 : decode cX8_mends 97 = .ok (.aload_n 0, 1) := by decide +kernel
theorem dX8_mends_98 : decode cX8_mends 98 = .ok (.bipush 29, 2) := by decide +kernel
theorem dX8_mends_100 : decode cX8_mends 100 = .ok (.invokevirtual 246, 3) := by decide +kernel
theorem dX8_mends_103 : decode cX8_mends 103 = .ok (.istore 8, 2) := by decide +kernel
theorem dX8_mends_105 : decode cX8_mends 105 = .ok (.iload 7, 2) := by decide +kernel
theorem dX8_mends_107 : decode cX8_mends 107 = .ok (.ifCond .eq 7, 3) := by decide +kernel
theorem dX8_mends_110 : decode cX8_mends 110 = .ok (.iconst (-1), 1) := by decide +kernel
theorem dX8_mends_111 : decode cX8_mends 111 = .ok (.goto 12, 3) := by decide +kernel
theorem dX8_mends_114 : decode cX8_mends 114 = .ok (.aload_n 0, 1) := by decide +kernel
theorem dX8_mends_115 : decode cX8_mends 115 = .ok (.getfield 27, 3) := by decide +kernel
theorem dX8_mends_118 : decode cX8_mends 118 = .ok (.invokevirtual 234, 3) := by decide +kernel
theorem dX8_mends_121 : decode cX8_mends 121 = .ok (.iconst 1, 1) := by decide +kernel
theorem dX8_mends_122 : decode cX8_mends 122 = .ok (.isub, 1) := by decide +kernel
theorem dX8_mends_123 : decode cX8_mends 123 = .ok (.istore 9, 2) := by decide +kernel
theorem dX8_mends_125 : decode cX8_mends 125 = .ok (.aload_n 0, 1) := by decide +kernel
theorem dX8_mends_126 : decode cX8_mends 126 = .ok (.getfield 27, 3) := by decide +kernel
theorem dX8_mends_129 : decode cX8_mends 129 = .ok (.bipush 48, 2) := by decide +kernel
theorem dX8_mends_131 : decode cX8_mends 131 = .ok (.invokevirtual 123, 3) := by decide +kernel
theorem dX8_mends_134 : decode cX8_mends 134 = .ok (.pop, 1) := by decide +kernel
theorem dX8_mends_135 : decode cX8_mends 135 = .ok (.aload_n 0, 1) := by decide +kernel
theorem dX8_mends_136 : decode cX8_mends 136 = .ok (.invokevirtual 120, 3) := by decide +kernel
theorem dX8_mends_139 : decode cX8_mends 139 = .ok (.istore 10, 2) := by decide +kernel
theorem dX8_mends_141 : decode cX8_mends 141 = .ok (.aload_n 0, 1) := by decide +kernel
theorem dX8_mends_142 : decode cX8_mends 142 = .ok (.getfield 27, 3) := by decide +kernel
theorem dX8_mends_145 : decode cX8_mends 145 = .ok (.bipush 54, 2) := by decide +kernel
theorem dX8_mends_147 : decode cX8_mends 147 = .ok (.invokevirtual 123, 3) := by decide +kernel
theorem dX8_mends_150 : decode cX8_mends 150 = .ok (.pop, 1) := by decide +kernel
theorem dX8_mends_151 : decode cX8_mends 151 = .ok (.aload_n 0, 1) := by decide +kernel
theorem dX8_mends_152 : decode cX8_mends 152 = .ok (.getfield 27, 3) := by decide +kernel
theorem dX8_mends_155 : decode cX8_mends 155 = .ok (.iload 9, 2) := by decide +kernel
theorem dX8_mends_157 : decode cX8_mends 157 = .ok (.aload_n 0, 1) := by decide +kernel
theorem dX8_mends_158 : decode cX8_mends 158 = .ok (.getfield 27, 3) := by decide +kernel
theorem dX8_mends_161 : decode cX8_mends 161 = .ok (.invokevirtual 234, 3) := by decide +kernel
theorem dX8_mends_164 : decode cX8_mends 164 = .ok (.invokevirtual 237, 3) := by decide +kernel
theorem dX8_mends_167 : decode cX8_mends 167 = .ok (.iload 4, 2) := by decide +kernel
theorem dX8_mends_169 : decode cX8_mends 169 = .ok (.iload 5, 2) := by decide +kernel
theorem dX8_mends_171 : decode cX8_mends 171 = .ok (.ifCond .eq 7, 3) := by decide +kernel
theorem dX8_mends_174 : decode cX8_mends 174 = .ok (.iconst 0, 1) := by decide +kernel
theorem dX8_mends_175 : decode cX8_mends 175 = .ok (.goto 5, 3) := by decide +kernel
theorem dX8_mends_178 : decode cX8_mends 178 = .ok (.iload 10, 2) := by decide +kernel
theorem dX8_mends_180 : decode cX8_mends 180 = .ok (.ior, 1) := by decide +kernel
theorem dX8_mends_181 : decode cX8_mends 181 = .ok (.istore 4, 2) := by decide +kernel
theorem dX8_mends_183 : decode cX8_mends 183 = .ok (.iload_n 3, 1) := by decide +kernel
theorem dX8_mends_184 : decode cX8_mends 184 = .ok (.iload 5, 2) := by decide +kernel
theorem dX8_mends_186 : decode cX8_mends 186 = .ok (.ifCond .eq 7, 3) := by decide +kernel
theorem dX8_mends_189 : decode cX8_mends 189 = .ok (.iconst 0, 1) := by decide +kernel
theorem dX8_mends_190 : decode cX8_mends 190 = .ok (.goto 8, 3) := by decide +kernel
theorem dX8_mends_193 : decode cX8_mends 193 = .ok (.iload 8, 2) := by decide +kernel
theorem dX8_mends_195 : decode cX8_mends 195 = .ok (.invokestatic 213, 3) := by decide +kernel
theorem dX8_mends_198 : decode cX8_mends 198 = .ok (.ior, 1) := by decide +kernel
theorem dX8_mends_199 : decode cX8_mends 199 = .ok (.istore_n 3, 1) := by decide +kernel
theorem dX8_mends_200 : decode cX8_mends 200 = .ok (.iload 5, 2) := by decide +kernel
theorem dX8_mends_202 : decode cX8_mends 202 = .ok (.iload 7, 2) := by decide +kernel
theorem dX8_mends_204 : decode cX8_mends 204 = .ok (.ior, 1) := by decide +kernel
theorem dX8_mends_205 : decode cX8_mends 205 = .ok (.istore 5, 2) := by decide +kernel
theorem dX8_mends_207 : decode cX8_mends 207 = .ok (.iinc 6 1, 3) := by decide +kernel
theorem dX8_mends_210 : decode cX8_mends 210 = .ok (.goto (-182), 3) := by decide +kernel
theorem dX8_mends_213 : decode cX8_mends 213 = .ok (.aload_n 0, 1) := by decide +kernel
theorem dX8_mends_214 : decode cX8_mends 214 = .ok (.getfield 27, 3) := by decide +kernel
theorem dX8_mends_217 : decode cX8_mends 217 = .ok (.bipush 49, 2) := by decide +kernel
theorem dX8_mends_219 : decode cX8_mends 219 = .ok (.invokevirtual 123, 3) := by decide +kernel
theorem dX8_mends_222 : decode cX8_mends 222 = .ok (.pop, 1) := by decide +kernel
theorem dX8_mends_223 : decode cX8_mends 223 = .ok (.iload_n 2, 1) := by decide +kernel
theorem dX8_mends_224 : decode cX8_mends 224 = .ok (.iconst 4, 1) := by decide +kernel
theorem dX8_mends_225 : decode cX8_mends 225 = .ok (.iand, 1) := by decide +kernel
theorem dX8_mends_226 : decode cX8_mends 226 = .ok (.ifCond .ne 5, 3) := by decide +kernel
theorem dX8_mends_229 : decode cX8_mends 229 = .ok (.iload_n 2, 1) := by decide +kernel
theorem dX8_mends_230 : decode cX8_mends 230 = .ok (.ireturn, 1) := by decide +kernel
theorem dX8_mends_231 : decode cX8_mends 231 = .ok (.iload_n 2, 1) := by decide +kernel
theorem dX8_mends_232 : decode cX8_mends 232 = .ok (.bipush (-5), 2) := by decide +kernel
theorem dX8_mends_234 : decode cX8_mends 234 = .ok (.iand, 1) := by decide +kernel
theorem dX8_mends_235 : decode cX8_mends 235 = .ok (.iload 4, 2) := by decide +kernel
theorem dX8_mends_237 : decode cX8_mends 237 = .ok (.ior, 1) := by decide +kernel
theorem dX8_mends_238 : decode cX8_mends 238 = .ok (.iload_n 3, 1) := by decide +kernel
theorem dX8_mends_239 : decode cX8_mends 239 = .ok (.ior, 1) := by decide +kernel
theorem dX8_mends_240 : decode cX8_mends 240 = .ok (.iload 5, 2) := by decide +kernel
theorem dX8_mends_242 : decode cX8_mends 242 = .ok (.ifCond .eq 7, 3) := by decide +kernel
theorem dX8_mends_245 : decode cX8_mends 245 = .ok (.iconst 0, 1) := by decide +kernel
theorem dX8_mends_246 : decode cX8_mends 246 = .ok (.goto 4, 3) := by decide +kernel
theorem dX8_mends_249 : decode cX8_mends 249 = .ok (.iconst 4, 1) := by decide +kernel
theorem dX8_mends_250 : decode cX8_mends 250 = .ok (.ior, 1) := by decide +kernel
theorem dX8_mends_251 : decode cX8_mends 251 = .ok (.ireturn, 1) := by decide +kernel
def wX8_mends_b250 (B : Nat → kp_S → (Int32 → kp_S → Prop) → Prop) (a0 : Nat) (x1 : Int32) (x2 : Int32) (xt0 : Int32) (xt1 : Int32)  (Sn : kp_S) (post : Int32 → kp_S → Prop) : Prop :=
  post (xt1 ||| xt0) Sn
def wX8_mends_b213 (B : Nat → kp_S → (Int32 → kp_S → Prop) → Prop) (a0 : Nat) (x1 : Int32) (x2 : Int32) (xn3 : Int32) (xn4 : Int32) (xn5 : Int32)  (Sn : kp_S) (post : Int32 → kp_S → Prop) : Prop :=
  ∃ b2001 : Nat, kp_R Sn 1603 a0 = some b2001 ∧
  wX0_add b2001 49 Sn (fun y2003 T2002 =>
  ((¬ (x2 &&& 4) = 0 →
  ((xn5 = 0 →
  wX8_mends_b250 B a0 x1 x2 4 (((x2 &&& (-5)) ||| xn4) ||| xn3)  T2002 post) ∧ (¬ xn5 = 0 →
  wX8_mends_b250 B a0 x1 x2 0 (((x2 &&& (-5)) ||| xn4) ||| xn3)  T2002 post))) ∧ ((x2 &&& 4) = 0 →
  post x2 T2002)))
def wX8_mends_b198 (B : Nat → kp_S → (Int32 → kp_S → Prop) → Prop) (a0 : Nat) (x1 : Int32) (x2 : Int32) (xn4 : Int32) (xn5 : Int32) (xn6 : Int32) (xn7 : Int32) (xt0 : Int32) (xt1 : Int32) (K28 : Int32 → Int32 → Int32 → Int32 → kp_S → Prop) (Sn : kp_S) (post : Int32 → kp_S → Prop) : Prop :=
  ∀ y3001 : Int32, y3001 = (xt1 ||| xt0) →
  ∀ y3002 : Int32, y3002 = (xn5 ||| xn7) →
  ∀ y3003 : Int32, y3003 = xn6 + 1 →
  K28 y3001 xn4 y3002 y3003 Sn
def wX8_mends_b180 (B : Nat → kp_S → (Int32 → kp_S → Prop) → Prop) (a0 : Nat) (x1 : Int32) (x2 : Int32) (xn3 : Int32) (xn5 : Int32) (xn6 : Int32) (xn7 : Int32) (xn8 : Int32) (xt0 : Int32) (xt1 : Int32) (K28 : Int32 → Int32 → Int32 → Int32 → kp_S → Prop) (Sn : kp_S) (post : Int32 → kp_S → Prop) : Prop :=
  ∀ y4001 : Int32, y4001 = (xt1 ||| xt0) →
  ((xn5 = 0 →
  wX8_troubleOf xn8 Sn (fun y4003 T4002 =>
  wX8_mends_b198 B a0 x1 x2 y4001 xn5 xn6 xn7 y4003 xn3 K28 T4002 post)) ∧ (¬ xn5 = 0 →
  wX8_mends_b198 B a0 x1 x2 y4001 xn5 xn6 xn7 0 xn3 K28 Sn post))
def wX8_mends_b123 (B : Nat → kp_S → (Int32 → kp_S → Prop) → Prop) (a0 : Nat) (x1 : Int32) (x2 : Int32) (xn3 : Int32) (xn4 : Int32) (xn5 : Int32) (xn6 : Int32) (xn7 : Int32) (xn8 : Int32) (xt0 : Int32) (K28 : Int32 → Int32 → Int32 → Int32 → kp_S → Prop) (Sn : kp_S) (post : Int32 → kp_S → Prop) : Prop :=
  ∃ b5001 : Nat, kp_R Sn 1603 a0 = some b5001 ∧
  wX0_add b5001 48 Sn (fun y5003 T5002 =>
  B a0 T5002 (fun y5005 T5004 =>
  ∃ b5006 : Nat, kp_R T5004 1603 a0 = some b5006 ∧
  wX0_add b5006 54 T5004 (fun y5008 T5007 =>
  ∃ b5009 : Nat, kp_R T5007 1603 a0 = some b5009 ∧
  wX0_size b5009 T5007 (fun y5011 T5010 =>
  wX0_set b5009 xt0 y5011 T5010 (fun T5012 =>
  ((xn5 = 0 →
  wX8_mends_b180 B a0 x1 x2 xn3 xn5 xn6 xn7 xn8 y5005 xn4 K28 T5012 post) ∧ (¬ xn5 = 0 →
  wX8_mends_b180 B a0 x1 x2 xn3 xn5 xn6 xn7 xn8 0 xn4 K28 T5012 post)))))))
def wX8_mends_b103 (B : Nat → kp_S → (Int32 → kp_S → Prop) → Prop) (a0 : Nat) (x1 : Int32) (x2 : Int32) (xn3 : Int32) (xn4 : Int32) (xn5 : Int32) (xn6 : Int32) (xn7 : Int32) (xt0 : Int32) (K28 : Int32 → Int32 → Int32 → Int32 → kp_S → Prop) (Sn : kp_S) (post : Int32 → kp_S → Prop) : Prop :=
  ((xn7 = 0 →
  ∃ b6001 : Nat, kp_R Sn 1603 a0 = some b6001 ∧
  wX0_size b6001 Sn (fun y6003 T6002 =>
  wX8_mends_b123 B a0 x1 x2 xn3 xn4 xn5 xn6 xn7 xt0 (y6003 - 1) K28 T6002 post)) ∧ (¬ xn7 = 0 →
  wX8_mends_b123 B a0 x1 x2 xn3 xn4 xn5 xn6 xn7 xt0 (-1) K28 Sn post))
def wX8_mends_b88 (B : Nat → kp_S → (Int32 → kp_S → Prop) → Prop) (a0 : Nat) (x1 : Int32) (x2 : Int32) (xn3 : Int32) (xn4 : Int32) (xn5 : Int32) (xn6 : Int32) (xn7 : Int32) (K28 : Int32 → Int32 → Int32 → Int32 → kp_S → Prop) (Sn : kp_S) (post : Int32 → kp_S → Prop) : Prop :=
  ((xn7 = 0 →
  wX8_list a0 29 Sn (fun y7002 T7001 =>
  wX8_mends_b103 B a0 x1 x2 xn3 xn4 xn5 xn6 xn7 y7002 K28 T7001 post)) ∧ (¬ xn7 = 0 →
  wX8_mends_b103 B a0 x1 x2 xn3 xn4 xn5 xn6 xn7 0 K28 Sn post))
def wX8_mends_b74 (B : Nat → kp_S → (Int32 → kp_S → Prop) → Prop) (a0 : Nat) (x1 : Int32) (x2 : Int32) (xn3 : Int32) (xn4 : Int32) (xn5 : Int32) (xn6 : Int32) (xt0 : Int32) (K28 : Int32 → Int32 → Int32 → Int32 → kp_S → Prop) (Sn : kp_S) (post : Int32 → kp_S → Prop) : Prop :=
  ((xt0 = 0 →
  wX8_mends_b88 B a0 x1 x2 xn3 xn4 xn5 xn6 xt0 K28 Sn post) ∧ (¬ xt0 = 0 →
  ∃ b8001 : Nat, kp_R Sn 1600 a0 = some b8001 ∧
  wX9_advance b8001 Sn (fun T8002 =>
  wX8_mends_b88 B a0 x1 x2 xn3 xn4 xn5 xn6 xt0 K28 T8002 post)))
def wX8_mends_L28 (B : Nat → kp_S → (Int32 → kp_S → Prop) → Prop) (a0 : Nat) (x1 : Int32) (x2 : Int32)  (post : Int32 → kp_S → Prop) : Nat → Int32 → Int32 → Int32 → Int32 → kp_S → Prop
  | 0, _, _, _, _, _ => False
  | n + 1, xn3, xn4, xn5, xn6, Sn =>
  ((3000 ≤ xn6 →
  wX8_mends_b213 B a0 x1 x2 xn3 xn4 xn5  Sn post) ∧ (¬ 3000 ≤ xn6 →
  ∃ b9001 : Nat, kp_R Sn 1600 a0 = some b9001 ∧
  ((¬ (kp_I Sn 1805 b9001) = 315 →
  wX8_mends_b213 B a0 x1 x2 xn3 xn4 xn5  Sn post) ∧ ((kp_I Sn 1805 b9001) = 315 →
  wX9_advance b9001 Sn (fun T9002 =>
  ∃ b9003 : Nat, kp_R T9002 1600 a0 = some b9003 ∧
  ((¬ (kp_I T9002 1805 b9003) = 316 →
  wX8_mends_b74 B a0 x1 x2 xn3 xn4 xn5 xn6 0 (fun xn3_ xn4_ xn5_ xn6_ S_ => wX8_mends_L28 B a0 x1 x2  post n xn3_ xn4_ xn5_ xn6_ S_) T9002 post) ∧ ((kp_I T9002 1805 b9003) = 316 →
  wX8_mends_b74 B a0 x1 x2 xn3 xn4 xn5 xn6 1 (fun xn3_ xn4_ xn5_ xn6_ S_ => wX8_mends_L28 B a0 x1 x2  post n xn3_ xn4_ xn5_ xn6_ S_) T9002 post)))))))
def wX8_mends (B : Nat → kp_S → (Int32 → kp_S → Prop) → Prop) (a0 : Nat) (x1 : Int32) (x2 : Int32) (S : kp_S) (post : Int32 → kp_S → Prop) : Prop :=
  ∃ b1 : Nat, kp_R S 1603 a0 = some b1 ∧
  wX0_size b1 S (fun y3 T2 =>
  wX0_set b1 (x1 + 2) y3 T2 (fun T4 =>
  ∃ n0 : Nat, wX8_mends_L28 B a0 x1 x2  post n0 0 0 0 0 T4))
set_option maxHeartbeats 4000000 in
set_option maxRecDepth 100000 in
theorem c_X8_mends (l : Launch) (D : va_G) (cy : Nat → ClassId) (ad : (Nat → Nat) × (Nat → Nat)) (F L : Nat) (B : Nat → kp_S → (Int32 → kp_S → Prop) → Prop) (hB : ∀ (S : kp_S) (a0 : Nat) (post : Int32 → kp_S → Prop), kp_ok S → kp_is S a0 8 → B a0 S post → kp_M l yX8_block cX8_block 5 (some .int) { frames := F, cells := 0, slots := 0, locals := L } D cy ad S [.ref a0] 0 0 (fun A => kp_Qi D cy A S post)) (hF : 191 ≤ F) (hL : 4387 ≤ L) (S : kp_S) (a0 : Nat) (x1 : Int32) (x2 : Int32) (post : Int32 → kp_S → Prop) (hS : kp_ok S) (f_a0 : kp_is S a0 8) (hw : wX8_mends B a0 x1 x2 S post) : kp_M l yX8_mends cX8_mends 11 (some .int) { frames := F + 1, cells := 0, slots := 0, locals := L + 24 } D cy ad S [.ref a0, .int x1, .int x2] 0 0 (fun A => kp_Qi D cy A S post) := by
  refine kp_start (own := RX8) (by decide) rfl (Nat.le_of_ble_eq_true rfl) hS ?_
  intro p e s m below meth c A ls X hr hlocks hname h hl
  have hle : kp_le S S := kp_le.rf
  have hl : lv_has ls 11 [(0, .ref a0), (1, .int x1), (2, .int x2)] := hl
  have j250 : ∀ (xt0 : Int32) (xt1 : Int32) (Sn : kp_S) (H : Heap) (locs : List Loc) (ls : Array Slot), lv_has ls 11 [] → kp_H D cy A Sn s.heap H locs → kp_le S Sn → kp_is Sn a0 8 → wX8_mends_b250 B a0 x1 x2 xt0 xt1  Sn post → W p l e { frames := F + 1, cells := 0, slots := 0, locals := L + 24 } s m ([.ref a0, .int x1, .int x2] : List Value).toArray below meth c H locs 0 0 (MQ below (kp_Qi D cy A S post) ([.ref a0, .int x1, .int x2] : List Value).toArray s 0 0 A) (F0 m 250 ls [.int xt0, .int xt1]) := by
    intro xt0 xt1 Sn H locs ls hl h hle f_a0 hw
    unfold wX8_mends_b250 at hw
    refine lv_ior X.1 X.2.1 dX8_mends_250 ?_
    exact kp_reti X hr hlocks h hle rfl hw dX8_mends_251
  have j213 : ∀ (xn3 : Int32) (xn4 : Int32) (xn5 : Int32) (Sn : kp_S) (H : Heap) (locs : List Loc) (ls : Array Slot), lv_has ls 11 [(0, .ref a0), (2, .int x2), (3, .int xn3), (4, .int xn4), (5, .int xn5)] → kp_H D cy A Sn s.heap H locs → kp_le S Sn → kp_is Sn a0 8 → wX8_mends_b213 B a0 x1 x2 xn3 xn4 xn5  Sn post → W p l e { frames := F + 1, cells := 0, slots := 0, locals := L + 24 } s m ([.ref a0, .int x1, .int x2] : List Value).toArray below meth c H locs 0 0 (MQ below (kp_Qi D cy A S post) ([.ref a0, .int x1, .int x2] : List Value).toArray s 0 0 A) (F0 m 213 ls []) := by
    intro xn3 xn4 xn5 Sn H locs ls hl h hle f_a0 hw
    unfold wX8_mends_b213 at hw
    refine lv_aload_n X.1 X.2.1 dX8_mends_213 rfl (lv_at hl 0 rfl) ?_
    obtain ⟨b2001, e_b2001, hw⟩ := hw
    have f_b2001 := h.2.2.2.rf (c := 8) (k := 3) f_a0 (by decide) (by decide) e_b2001 (t := 0) rfl
    refine kp_get X h f_a0 fp_8_27.l (v := .ref b2001) (congrArg va_rf e_b2001) dX8_mends_214 ?_
    refine lv_bipush (v := 49) X.1 X.2.1 dX8_mends_217 (by decide) ?_
    refine kp_calli X h (kp_runV (rm := { frames := 0, cells := 0, slots := 0, locals := 0 }) (mc := 0) (ms := 0) (rest := []) (Qc := fun A => kp_Qi D cy A Sn _) X h (c_X0_add l D cy ad Sn b2001 49 _ h.2.2.2 f_b2001 hw) f_b2001 cv_8_123 ⟨by dsimp only; omega, by dsimp only; omega, rfl, rfl, by dsimp only; omega, by dsimp only; omega⟩ rfl hl.1 rfl (Nat.le_of_ble_eq_true rfl) dX8_mends_219) (fun y2003 T2002 hw l_T2002 H locs h => ?_)
    have f_a0 := l_T2002.is f_a0
    have f_b2001 := l_T2002.is f_b2001
    have hle := hle.tr l_T2002
    refine lv_pop X.1 X.2.1 dX8_mends_222 rfl ?_
    refine lv_iload_n X.1 X.2.1 dX8_mends_223 rfl (lv_at hl 1 rfl) ?_
    refine lv_iconst (v := 4) X.1 X.2.1 dX8_mends_224 (by decide) ?_
    refine lv_iand X.1 X.2.1 dX8_mends_225 ?_
    refine lv_if_ne (tgt := 231) X.1 X.2.1 dX8_mends_226 (by decide) (fun c2005 => ?_) (fun c2005 => ?_)
    · have hw := hw.1 c2005
      refine lv_iload_n X.1 X.2.1 dX8_mends_231 rfl (lv_at hl 1 rfl) ?_
      refine lv_bipush (v := (-5)) X.1 X.2.1 dX8_mends_232 (by decide) ?_
      refine lv_iand X.1 X.2.1 dX8_mends_234 ?_
      refine lv_iload X.1 X.2.1 dX8_mends_235 (lv_at hl 3 rfl) ?_
      refine lv_ior X.1 X.2.1 dX8_mends_237 ?_
      refine lv_iload_n X.1 X.2.1 dX8_mends_238 rfl (lv_at hl 2 rfl) ?_
      refine lv_ior X.1 X.2.1 dX8_mends_239 ?_
      refine lv_iload X.1 X.2.1 dX8_mends_240 (lv_at hl 4 rfl) ?_
      refine lv_if_eq (tgt := 249) X.1 X.2.1 dX8_mends_242 (by decide) (fun c2004 => ?_) (fun c2004 => ?_)
      · have hw := hw.1 c2004
        refine lv_iconst (v := 4) X.1 X.2.1 dX8_mends_249 (by decide) ?_
        exact j250 4 (((x2 &&& (-5)) ||| xn4) ||| xn3) T2002 H locs ls (lv_sub hl [] rfl) h hle f_a0 hw
      · have hw := hw.2 c2004
        refine lv_iconst (v := 0) X.1 X.2.1 dX8_mends_245 (by decide) ?_
        refine lv_goto (tgt := 250) X.1 X.2.1 dX8_mends_246 (by decide) ?_
        exact j250 0 (((x2 &&& (-5)) ||| xn4) ||| xn3) T2002 H locs ls (lv_sub hl [] rfl) h hle f_a0 hw
    · have hw := hw.2 c2005
      refine lv_iload_n X.1 X.2.1 dX8_mends_229 rfl (lv_at hl 1 rfl) ?_
      exact kp_reti X hr hlocks h hle rfl hw dX8_mends_230
  have L28 : ∀ n28 : Nat, ∀ (xn3 : Int32) (xn4 : Int32) (xn5 : Int32) (xn6 : Int32) (Sn : kp_S) (H : Heap) (locs : List Loc) (ls : Array Slot), lv_has ls 11 [(0, .ref a0), (2, .int x2), (3, .int xn3), (4, .int xn4), (5, .int xn5), (6, .int xn6)] → kp_H D cy A Sn s.heap H locs → kp_le S Sn → kp_is Sn a0 8 → wX8_mends_L28 B a0 x1 x2  post n28 xn3 xn4 xn5 xn6 Sn → W p l e { frames := F + 1, cells := 0, slots := 0, locals := L + 24 } s m ([.ref a0, .int x1, .int x2] : List Value).toArray below meth c H locs 0 0 (MQ below (kp_Qi D cy A S post) ([.ref a0, .int x1, .int x2] : List Value).toArray s 0 0 A) (F0 m 28 ls []) := by
    intro n28
    induction n28 with
    | zero => intro xn3 xn4 xn5 xn6 Sn H locs ls hl h hle f_a0 hw; exact hw.elim
    | succ n28 ih28 =>
      have j198 : ∀ (xn4 : Int32) (xn5 : Int32) (xn6 : Int32) (xn7 : Int32) (xt0 : Int32) (xt1 : Int32) (Sn : kp_S) (H : Heap) (locs : List Loc) (ls : Array Slot), lv_has ls 11 [(0, .ref a0), (2, .int x2), (4, .int xn4), (5, .int xn5), (6, .int xn6), (7, .int xn7)] → kp_H D cy A Sn s.heap H locs → kp_le S Sn → kp_is Sn a0 8 → wX8_mends_b198 B a0 x1 x2 xn4 xn5 xn6 xn7 xt0 xt1 (fun xn3_ xn4_ xn5_ xn6_ S_ => wX8_mends_L28 B a0 x1 x2  post n28 xn3_ xn4_ xn5_ xn6_ S_) Sn post → W p l e { frames := F + 1, cells := 0, slots := 0, locals := L + 24 } s m ([.ref a0, .int x1, .int x2] : List Value).toArray below meth c H locs 0 0 (MQ below (kp_Qi D cy A S post) ([.ref a0, .int x1, .int x2] : List Value).toArray s 0 0 A) (F0 m 198 ls [.int xt0, .int xt1]) := by
        intro xn4 xn5 xn6 xn7 xt0 xt1 Sn H locs ls hl h hle f_a0 hw
        unfold wX8_mends_b198 at hw
        refine lv_ior X.1 X.2.1 dX8_mends_198 ?_
        refine lv_topi (fun y3001 e_y3001 => ?_)
        have hw := hw y3001 e_y3001
        refine lv_istore_n (lv' := [(3, .int y3001), (0, .ref a0), (2, .int x2), (4, .int xn4), (5, .int xn5), (6, .int xn6), (7, .int xn7)]) X.1 X.2.1 dX8_mends_199 rfl hl (by decide) rfl (fun ls hl => ?_)
        refine lv_iload X.1 X.2.1 dX8_mends_200 (lv_at hl 4 rfl) ?_
        refine lv_iload X.1 X.2.1 dX8_mends_202 (lv_at hl 6 rfl) ?_
        refine lv_ior X.1 X.2.1 dX8_mends_204 ?_
        refine lv_topi (fun y3002 e_y3002 => ?_)
        have hw := hw y3002 e_y3002
        refine lv_istore (lv' := [(5, .int y3002), (3, .int y3001), (0, .ref a0), (2, .int x2), (4, .int xn4), (6, .int xn6), (7, .int xn7)]) X.1 X.2.1 dX8_mends_205 hl (by decide) rfl (fun ls hl => ?_)
        obtain ⟨y3003, e_y3003⟩ : ∃ y : Int32, y = xn6 + 1 := ⟨_, rfl⟩
        have hw := hw y3003 e_y3003
        refine lv_iinc (v := y3003) (lv' := [(6, .int y3003), (5, .int y3002), (3, .int y3001), (0, .ref a0), (2, .int x2), (4, .int xn4), (7, .int xn7)]) X.1 X.2.1 dX8_mends_207 hl (k := 5) rfl (by rw [e_y3003]; rfl) (by decide) rfl (fun ls hl => ?_)
        refine lv_goto (tgt := 28) X.1 X.2.1 dX8_mends_210 (by decide) ?_
        exact ih28 y3001 xn4 y3002 y3003 Sn H locs ls (lv_sub hl [3, 4, 2, 5, 1, 0] rfl) h hle f_a0 hw
      have j180 : ∀ (xn3 : Int32) (xn5 : Int32) (xn6 : Int32) (xn7 : Int32) (xn8 : Int32) (xt0 : Int32) (xt1 : Int32) (Sn : kp_S) (H : Heap) (locs : List Loc) (ls : Array Slot), lv_has ls 11 [(0, .ref a0), (2, .int x2), (3, .int xn3), (5, .int xn5), (6, .int xn6), (7, .int xn7), (8, .int xn8)] → kp_H D cy A Sn s.heap H locs → kp_le S Sn → kp_is Sn a0 8 → wX8_mends_b180 B a0 x1 x2 xn3 xn5 xn6 xn7 xn8 xt0 xt1 (fun xn3_ xn4_ xn5_ xn6_ S_ => wX8_mends_L28 B a0 x1 x2  post n28 xn3_ xn4_ xn5_ xn6_ S_) Sn post → W p l e { frames := F + 1, cells := 0, slots := 0, locals := L + 24 } s m ([.ref a0, .int x1, .int x2] : List Value).toArray below meth c H locs 0 0 (MQ below (kp_Qi D cy A S post) ([.ref a0, .int x1, .int x2] : List Value).toArray s 0 0 A) (F0 m 180 ls [.int xt0, .int xt1]) := by
        intro xn3 xn5 xn6 xn7 xn8 xt0 xt1 Sn H locs ls hl h hle f_a0 hw
        unfold wX8_mends_b180 at hw
        refine lv_ior X.1 X.2.1 dX8_mends_180 ?_
        refine lv_topi (fun y4001 e_y4001 => ?_)
        have hw := hw y4001 e_y4001
        refine lv_istore (lv' := [(4, .int y4001), (0, .ref a0), (2, .int x2), (3, .int xn3), (5, .int xn5), (6, .int xn6), (7, .int xn7), (8, .int xn8)]) X.1 X.2.1 dX8_mends_181 hl (by decide) rfl (fun ls hl => ?_)
        refine lv_iload_n X.1 X.2.1 dX8_mends_183 rfl (lv_at hl 3 rfl) ?_
        refine lv_iload X.1 X.2.1 dX8_mends_184 (lv_at hl 4 rfl) ?_
        refine lv_if_eq (tgt := 193) X.1 X.2.1 dX8_mends_186 (by decide) (fun c4004 => ?_) (fun c4004 => ?_)
        · have hw := hw.1 c4004
          refine lv_iload X.1 X.2.1 dX8_mends_193 (lv_at hl 7 rfl) ?_
          refine kp_calli X h (kp_runS (rm := { frames := 0, cells := 0, slots := 0, locals := 0 }) (mc := 0) (ms := 0) (rest := [.int xn3]) (Qc := fun A => kp_Qi D cy A Sn _) X h (c_X8_troubleOf l D cy ad Sn xn8 _ h.2.2.2  hw) cs_8_213 ⟨by dsimp only; omega, by dsimp only; omega, rfl, rfl, by dsimp only; omega, by dsimp only; omega⟩ rfl hl.1 rfl (Nat.le_of_ble_eq_true rfl) dX8_mends_195) (fun y4003 T4002 hw l_T4002 H locs h => ?_)
          have f_a0 := l_T4002.is f_a0
          have hle := hle.tr l_T4002
          exact j198 y4001 xn5 xn6 xn7 y4003 xn3 T4002 H locs ls (lv_sub hl [1, 2, 0, 4, 5, 6] rfl) h hle f_a0 hw
        · have hw := hw.2 c4004
          refine lv_iconst (v := 0) X.1 X.2.1 dX8_mends_189 (by decide) ?_
          refine lv_goto (tgt := 198) X.1 X.2.1 dX8_mends_190 (by decide) ?_
          exact j198 y4001 xn5 xn6 xn7 0 xn3 Sn H locs ls (lv_sub hl [1, 2, 0, 4, 5, 6] rfl) h hle f_a0 hw
      have j123 : ∀ (xn3 : Int32) (xn4 : Int32) (xn5 : Int32) (xn6 : Int32) (xn7 : Int32) (xn8 : Int32) (xt0 : Int32) (Sn : kp_S) (H : Heap) (locs : List Loc) (ls : Array Slot), lv_has ls 11 [(0, .ref a0), (2, .int x2), (3, .int xn3), (4, .int xn4), (5, .int xn5), (6, .int xn6), (7, .int xn7), (8, .int xn8)] → kp_H D cy A Sn s.heap H locs → kp_le S Sn → kp_is Sn a0 8 → wX8_mends_b123 B a0 x1 x2 xn3 xn4 xn5 xn6 xn7 xn8 xt0 (fun xn3_ xn4_ xn5_ xn6_ S_ => wX8_mends_L28 B a0 x1 x2  post n28 xn3_ xn4_ xn5_ xn6_ S_) Sn post → W p l e { frames := F + 1, cells := 0, slots := 0, locals := L + 24 } s m ([.ref a0, .int x1, .int x2] : List Value).toArray below meth c H locs 0 0 (MQ below (kp_Qi D cy A S post) ([.ref a0, .int x1, .int x2] : List Value).toArray s 0 0 A) (F0 m 123 ls [.int xt0]) := by
        intro xn3 xn4 xn5 xn6 xn7 xn8 xt0 Sn H locs ls hl h hle f_a0 hw
        unfold wX8_mends_b123 at hw
        refine lv_istore (lv' := [(9, .int xt0), (0, .ref a0), (2, .int x2), (3, .int xn3), (4, .int xn4), (5, .int xn5), (6, .int xn6), (7, .int xn7), (8, .int xn8)]) X.1 X.2.1 dX8_mends_123 hl (by decide) rfl (fun ls hl => ?_)
        refine lv_aload_n X.1 X.2.1 dX8_mends_125 rfl (lv_at hl 1 rfl) ?_
        obtain ⟨b5001, e_b5001, hw⟩ := hw
        have f_b5001 := h.2.2.2.rf (c := 8) (k := 3) f_a0 (by decide) (by decide) e_b5001 (t := 0) rfl
        refine kp_get X h f_a0 fp_8_27.l (v := .ref b5001) (congrArg va_rf e_b5001) dX8_mends_126 ?_
        refine lv_bipush (v := 48) X.1 X.2.1 dX8_mends_129 (by decide) ?_
        refine kp_calli X h (kp_runV (rm := { frames := 0, cells := 0, slots := 0, locals := 0 }) (mc := 0) (ms := 0) (rest := []) (Qc := fun A => kp_Qi D cy A Sn _) X h (c_X0_add l D cy ad Sn b5001 48 _ h.2.2.2 f_b5001 hw) f_b5001 cv_8_123 ⟨by dsimp only; omega, by dsimp only; omega, rfl, rfl, by dsimp only; omega, by dsimp only; omega⟩ rfl hl.1 rfl (Nat.le_of_ble_eq_true rfl) dX8_mends_131) (fun y5003 T5002 hw l_T5002 H locs h => ?_)
        have f_a0 := l_T5002.is f_a0
        have f_b5001 := l_T5002.is f_b5001
        have hle := hle.tr l_T5002
        refine lv_pop X.1 X.2.1 dX8_mends_134 rfl ?_
        refine lv_aload_n X.1 X.2.1 dX8_mends_135 rfl (lv_at hl 1 rfl) ?_
        refine kp_calli X h (kp_runV (rm := { frames := F, cells := 0, slots := 0, locals := L }) (mc := 0) (ms := 0) (rest := []) (Qc := fun A => kp_Qi D cy A T5002 _) X h (hB T5002 a0 _ h.2.2.2 f_a0 hw) f_a0 cv_8_120 ⟨by dsimp only; omega, by dsimp only; omega, rfl, rfl, by dsimp only; omega, by dsimp only; omega⟩ rfl hl.1 rfl (Nat.le_of_ble_eq_true rfl) dX8_mends_136) (fun y5005 T5004 hw l_T5004 H locs h => ?_)
        have f_a0 := l_T5004.is f_a0
        have f_b5001 := l_T5004.is f_b5001
        have hle := hle.tr l_T5004
        refine lv_istore (lv' := [(10, .int y5005), (9, .int xt0), (0, .ref a0), (2, .int x2), (3, .int xn3), (4, .int xn4), (5, .int xn5), (6, .int xn6), (7, .int xn7), (8, .int xn8)]) X.1 X.2.1 dX8_mends_139 hl (by decide) rfl (fun ls hl => ?_)
        refine lv_aload_n X.1 X.2.1 dX8_mends_141 rfl (lv_at hl 2 rfl) ?_
        obtain ⟨b5006, e_b5006, hw⟩ := hw
        have f_b5006 := h.2.2.2.rf (c := 8) (k := 3) f_a0 (by decide) (by decide) e_b5006 (t := 0) rfl
        refine kp_get X h f_a0 fp_8_27.l (v := .ref b5006) (congrArg va_rf e_b5006) dX8_mends_142 ?_
        refine lv_bipush (v := 54) X.1 X.2.1 dX8_mends_145 (by decide) ?_
        refine kp_calli X h (kp_runV (rm := { frames := 0, cells := 0, slots := 0, locals := 0 }) (mc := 0) (ms := 0) (rest := []) (Qc := fun A => kp_Qi D cy A T5004 _) X h (c_X0_add l D cy ad T5004 b5006 54 _ h.2.2.2 f_b5006 hw) f_b5006 cv_8_123 ⟨by dsimp only; omega, by dsimp only; omega, rfl, rfl, by dsimp only; omega, by dsimp only; omega⟩ rfl hl.1 rfl (Nat.le_of_ble_eq_true rfl) dX8_mends_147) (fun y5008 T5007 hw l_T5007 H locs h => ?_)
        have f_a0 := l_T5007.is f_a0
        have f_b5001 := l_T5007.is f_b5001
        have f_b5006 := l_T5007.is f_b5006
        have hle := hle.tr l_T5007
        refine lv_pop X.1 X.2.1 dX8_mends_150 rfl ?_
        refine lv_aload_n X.1 X.2.1 dX8_mends_151 rfl (lv_at hl 2 rfl) ?_
        obtain ⟨b5009, e_b5009, hw⟩ := hw
        have f_b5009 := h.2.2.2.rf (c := 8) (k := 3) f_a0 (by decide) (by decide) e_b5009 (t := 0) rfl
        refine kp_get X h f_a0 fp_8_27.l (v := .ref b5009) (congrArg va_rf e_b5009) dX8_mends_152 ?_
        refine lv_iload X.1 X.2.1 dX8_mends_155 (lv_at hl 1 rfl) ?_
        refine lv_aload_n X.1 X.2.1 dX8_mends_157 rfl (lv_at hl 2 rfl) ?_
        refine kp_get X h f_a0 fp_8_27.l (v := .ref b5009) (congrArg va_rf e_b5009) dX8_mends_158 ?_
        refine kp_calli X h (kp_runV (rm := { frames := 0, cells := 0, slots := 0, locals := 0 }) (mc := 0) (ms := 0) (rest := [.int xt0, .ref b5009]) (Qc := fun A => kp_Qi D cy A T5007 _) X h (c_X0_size l D cy ad T5007 b5009 _ h.2.2.2 f_b5009 hw) f_b5009 cv_8_234 ⟨by dsimp only; omega, by dsimp only; omega, rfl, rfl, by dsimp only; omega, by dsimp only; omega⟩ rfl hl.1 rfl (Nat.le_of_ble_eq_true rfl) dX8_mends_161) (fun y5011 T5010 hw l_T5010 H locs h => ?_)
        have f_a0 := l_T5010.is f_a0
        have f_b5001 := l_T5010.is f_b5001
        have f_b5006 := l_T5010.is f_b5006
        have f_b5009 := l_T5010.is f_b5009
        have hle := hle.tr l_T5010
        refine kp_callv X h (kp_runV (rm := { frames := 0, cells := 0, slots := 0, locals := 0 }) (mc := 0) (ms := 0) (rest := []) (Qc := fun A => kp_Qv D cy A T5010 _) X h (c_X0_set l D cy ad T5010 b5009 xt0 y5011 _ h.2.2.2 f_b5009 hw) f_b5009 cv_8_237 ⟨by dsimp only; omega, by dsimp only; omega, rfl, rfl, by dsimp only; omega, by dsimp only; omega⟩ rfl hl.1 rfl (Nat.le_of_ble_eq_true rfl) dX8_mends_164) (fun T5012 hw l_T5012 H locs h => ?_)
        have f_a0 := l_T5012.is f_a0
        have f_b5001 := l_T5012.is f_b5001
        have f_b5006 := l_T5012.is f_b5006
        have f_b5009 := l_T5012.is f_b5009
        have hle := hle.tr l_T5012
        refine lv_iload X.1 X.2.1 dX8_mends_167 (lv_at hl 5 rfl) ?_
        refine lv_iload X.1 X.2.1 dX8_mends_169 (lv_at hl 6 rfl) ?_
        refine lv_if_eq (tgt := 178) X.1 X.2.1 dX8_mends_171 (by decide) (fun c5013 => ?_) (fun c5013 => ?_)
        · have hw := hw.1 c5013
          refine lv_iload X.1 X.2.1 dX8_mends_178 (lv_at hl 0 rfl) ?_
          exact j180 xn3 xn5 xn6 xn7 xn8 y5005 xn4 T5012 H locs ls (lv_sub hl [2, 3, 4, 6, 7, 8, 9] rfl) h hle f_a0 hw
        · have hw := hw.2 c5013
          refine lv_iconst (v := 0) X.1 X.2.1 dX8_mends_174 (by decide) ?_
          refine lv_goto (tgt := 180) X.1 X.2.1 dX8_mends_175 (by decide) ?_
          exact j180 xn3 xn5 xn6 xn7 xn8 0 xn4 T5012 H locs ls (lv_sub hl [2, 3, 4, 6, 7, 8, 9] rfl) h hle f_a0 hw
      have j103 : ∀ (xn3 : Int32) (xn4 : Int32) (xn5 : Int32) (xn6 : Int32) (xn7 : Int32) (xt0 : Int32) (Sn : kp_S) (H : Heap) (locs : List Loc) (ls : Array Slot), lv_has ls 11 [(0, .ref a0), (2, .int x2), (3, .int xn3), (4, .int xn4), (5, .int xn5), (6, .int xn6), (7, .int xn7)] → kp_H D cy A Sn s.heap H locs → kp_le S Sn → kp_is Sn a0 8 → wX8_mends_b103 B a0 x1 x2 xn3 xn4 xn5 xn6 xn7 xt0 (fun xn3_ xn4_ xn5_ xn6_ S_ => wX8_mends_L28 B a0 x1 x2  post n28 xn3_ xn4_ xn5_ xn6_ S_) Sn post → W p l e { frames := F + 1, cells := 0, slots := 0, locals := L + 24 } s m ([.ref a0, .int x1, .int x2] : List Value).toArray below meth c H locs 0 0 (MQ below (kp_Qi D cy A S post) ([.ref a0, .int x1, .int x2] : List Value).toArray s 0 0 A) (F0 m 103 ls [.int xt0]) := by
        intro xn3 xn4 xn5 xn6 xn7 xt0 Sn H locs ls hl h hle f_a0 hw
        unfold wX8_mends_b103 at hw
        refine lv_istore (lv' := [(8, .int xt0), (0, .ref a0), (2, .int x2), (3, .int xn3), (4, .int xn4), (5, .int xn5), (6, .int xn6), (7, .int xn7)]) X.1 X.2.1 dX8_mends_103 hl (by decide) rfl (fun ls hl => ?_)
        refine lv_iload X.1 X.2.1 dX8_mends_105 (lv_at hl 7 rfl) ?_
        refine lv_if_eq (tgt := 114) X.1 X.2.1 dX8_mends_107 (by decide) (fun c6004 => ?_) (fun c6004 => ?_)
        · have hw := hw.1 c6004
          refine lv_aload_n X.1 X.2.1 dX8_mends_114 rfl (lv_at hl 1 rfl) ?_
          obtain ⟨b6001, e_b6001, hw⟩ := hw
          have f_b6001 := h.2.2.2.rf (c := 8) (k := 3) f_a0 (by decide) (by decide) e_b6001 (t := 0) rfl
          refine kp_get X h f_a0 fp_8_27.l (v := .ref b6001) (congrArg va_rf e_b6001) dX8_mends_115 ?_
          refine kp_calli X h (kp_runV (rm := { frames := 0, cells := 0, slots := 0, locals := 0 }) (mc := 0) (ms := 0) (rest := []) (Qc := fun A => kp_Qi D cy A Sn _) X h (c_X0_size l D cy ad Sn b6001 _ h.2.2.2 f_b6001 hw) f_b6001 cv_8_234 ⟨by dsimp only; omega, by dsimp only; omega, rfl, rfl, by dsimp only; omega, by dsimp only; omega⟩ rfl hl.1 rfl (Nat.le_of_ble_eq_true rfl) dX8_mends_118) (fun y6003 T6002 hw l_T6002 H locs h => ?_)
          have f_a0 := l_T6002.is f_a0
          have f_b6001 := l_T6002.is f_b6001
          have hle := hle.tr l_T6002
          refine lv_iconst (v := 1) X.1 X.2.1 dX8_mends_121 (by decide) ?_
          refine lv_isub X.1 X.2.1 dX8_mends_122 ?_
          exact j123 xn3 xn4 xn5 xn6 xn7 xt0 (y6003 - 1) T6002 H locs ls (lv_sub hl [1, 2, 3, 4, 5, 6, 7, 0] rfl) h hle f_a0 hw
        · have hw := hw.2 c6004
          refine lv_iconst (v := (-1)) X.1 X.2.1 dX8_mends_110 (by decide) ?_
          refine lv_goto (tgt := 123) X.1 X.2.1 dX8_mends_111 (by decide) ?_
          exact j123 xn3 xn4 xn5 xn6 xn7 xt0 (-1) Sn H locs ls (lv_sub hl [1, 2, 3, 4, 5, 6, 7, 0] rfl) h hle f_a0 hw
      have j88 : ∀ (xn3 : Int32) (xn4 : Int32) (xn5 : Int32) (xn6 : Int32) (xn7 : Int32) (Sn : kp_S) (H : Heap) (locs : List Loc) (ls : Array Slot), lv_has ls 11 [(0, .ref a0), (2, .int x2), (3, .int xn3), (4, .int xn4), (5, .int xn5), (6, .int xn6), (7, .int xn7)] → kp_H D cy A Sn s.heap H locs → kp_le S Sn → kp_is Sn a0 8 → wX8_mends_b88 B a0 x1 x2 xn3 xn4 xn5 xn6 xn7 (fun xn3_ xn4_ xn5_ xn6_ S_ => wX8_mends_L28 B a0 x1 x2  post n28 xn3_ xn4_ xn5_ xn6_ S_) Sn post → W p l e { frames := F + 1, cells := 0, slots := 0, locals := L + 24 } s m ([.ref a0, .int x1, .int x2] : List Value).toArray below meth c H locs 0 0 (MQ below (kp_Qi D cy A S post) ([.ref a0, .int x1, .int x2] : List Value).toArray s 0 0 A) (F0 m 88 ls []) := by
        intro xn3 xn4 xn5 xn6 xn7 Sn H locs ls hl h hle f_a0 hw
        unfold wX8_mends_b88 at hw
        refine lv_iload X.1 X.2.1 dX8_mends_88 (lv_at hl 6 rfl) ?_
        refine lv_if_eq (tgt := 97) X.1 X.2.1 dX8_mends_90 (by decide) (fun c7003 => ?_) (fun c7003 => ?_)
        · have hw := hw.1 c7003
          refine lv_aload_n X.1 X.2.1 dX8_mends_97 rfl (lv_at hl 0 rfl) ?_
          refine lv_bipush (v := 29) X.1 X.2.1 dX8_mends_98 (by decide) ?_
          refine kp_calli X h (kp_runV (rm := { frames := 190, cells := 0, slots := 0, locals := 4362 }) (mc := 0) (ms := 0) (rest := []) (Qc := fun A => kp_Qi D cy A Sn _) X h (c_X8_list l D cy ad Sn a0 29 _ h.2.2.2 f_a0 hw) f_a0 cv_8_246 ⟨by dsimp only; omega, by dsimp only; omega, rfl, rfl, by dsimp only; omega, by dsimp only; omega⟩ rfl hl.1 rfl (Nat.le_of_ble_eq_true rfl) dX8_mends_100) (fun y7002 T7001 hw l_T7001 H locs h => ?_)
          have f_a0 := l_T7001.is f_a0
          have hle := hle.tr l_T7001
          exact j103 xn3 xn4 xn5 xn6 xn7 y7002 T7001 H locs ls (lv_sub hl [0, 1, 2, 3, 4, 5, 6] rfl) h hle f_a0 hw
        · have hw := hw.2 c7003
          refine lv_iconst (v := 0) X.1 X.2.1 dX8_mends_93 (by decide) ?_
          refine lv_goto (tgt := 103) X.1 X.2.1 dX8_mends_94 (by decide) ?_
          exact j103 xn3 xn4 xn5 xn6 xn7 0 Sn H locs ls (lv_sub hl [0, 1, 2, 3, 4, 5, 6] rfl) h hle f_a0 hw
      have j74 : ∀ (xn3 : Int32) (xn4 : Int32) (xn5 : Int32) (xn6 : Int32) (xt0 : Int32) (Sn : kp_S) (H : Heap) (locs : List Loc) (ls : Array Slot), lv_has ls 11 [(0, .ref a0), (2, .int x2), (3, .int xn3), (4, .int xn4), (5, .int xn5), (6, .int xn6)] → kp_H D cy A Sn s.heap H locs → kp_le S Sn → kp_is Sn a0 8 → wX8_mends_b74 B a0 x1 x2 xn3 xn4 xn5 xn6 xt0 (fun xn3_ xn4_ xn5_ xn6_ S_ => wX8_mends_L28 B a0 x1 x2  post n28 xn3_ xn4_ xn5_ xn6_ S_) Sn post → W p l e { frames := F + 1, cells := 0, slots := 0, locals := L + 24 } s m ([.ref a0, .int x1, .int x2] : List Value).toArray below meth c H locs 0 0 (MQ below (kp_Qi D cy A S post) ([.ref a0, .int x1, .int x2] : List Value).toArray s 0 0 A) (F0 m 74 ls [.int xt0]) := by
        intro xn3 xn4 xn5 xn6 xt0 Sn H locs ls hl h hle f_a0 hw
        unfold wX8_mends_b74 at hw
        refine lv_istore (lv' := [(7, .int xt0), (0, .ref a0), (2, .int x2), (3, .int xn3), (4, .int xn4), (5, .int xn5), (6, .int xn6)]) X.1 X.2.1 dX8_mends_74 hl (by decide) rfl (fun ls hl => ?_)
        refine lv_iload X.1 X.2.1 dX8_mends_76 (lv_at hl 0 rfl) ?_
        refine lv_if_eq (tgt := 88) X.1 X.2.1 dX8_mends_78 (by decide) (fun c8003 => ?_) (fun c8003 => ?_)
        · have hw := hw.1 c8003
          exact j88 xn3 xn4 xn5 xn6 xt0 Sn H locs ls (lv_sub hl [1, 2, 3, 4, 5, 6, 0] rfl) h hle f_a0 hw
        · have hw := hw.2 c8003
          refine lv_aload_n X.1 X.2.1 dX8_mends_81 rfl (lv_at hl 1 rfl) ?_
          obtain ⟨b8001, e_b8001, hw⟩ := hw
          have f_b8001 := h.2.2.2.rf (c := 8) (k := 0) f_a0 (by decide) (by decide) e_b8001 (t := 9) rfl
          refine kp_get X h f_a0 ff_8_14.l (v := .ref b8001) (congrArg va_rf e_b8001) dX8_mends_82 ?_
          refine kp_callv X h (kp_runV (rm := { frames := 5, cells := 0, slots := 0, locals := 113 }) (mc := 0) (ms := 0) (rest := []) (Qc := fun A => kp_Qv D cy A Sn _) X h (c_X9_advance l D cy ad Sn b8001 _ h.2.2.2 f_b8001 hw) f_b8001 cv_8_75 ⟨by dsimp only; omega, by dsimp only; omega, rfl, rfl, by dsimp only; omega, by dsimp only; omega⟩ rfl hl.1 rfl (Nat.le_of_ble_eq_true rfl) dX8_mends_85) (fun T8002 hw l_T8002 H locs h => ?_)
          have f_a0 := l_T8002.is f_a0
          have f_b8001 := l_T8002.is f_b8001
          have hle := hle.tr l_T8002
          exact j88 xn3 xn4 xn5 xn6 xt0 T8002 H locs ls (lv_sub hl [1, 2, 3, 4, 5, 6, 0] rfl) h hle f_a0 hw
      intro xn3 xn4 xn5 xn6 Sn H locs ls hl h hle f_a0 hw
      unfold wX8_mends_L28 at hw
      refine lv_iload X.1 X.2.1 dX8_mends_28 (lv_at hl 5 rfl) ?_
      refine lv_sipush (v := 3000) X.1 X.2.1 dX8_mends_30 (by decide) ?_
      refine lv_icmp_ge (tgt := 213) X.1 X.2.1 dX8_mends_33 (by decide) (fun c9006 => ?_) (fun c9006 => ?_)
      · have hw := hw.1 c9006
        exact j213 xn3 xn4 xn5 Sn H locs ls (lv_sub hl [0, 1, 2, 3, 4] rfl) h hle f_a0 hw
      · have hw := hw.2 c9006
        refine lv_aload_n X.1 X.2.1 dX8_mends_36 rfl (lv_at hl 0 rfl) ?_
        obtain ⟨b9001, e_b9001, hw⟩ := hw
        have f_b9001 := h.2.2.2.rf (c := 8) (k := 0) f_a0 (by decide) (by decide) e_b9001 (t := 9) rfl
        refine kp_get X h f_a0 ff_8_14.l (v := .ref b9001) (congrArg va_rf e_b9001) dX8_mends_37 ?_
        refine kp_get X h f_b9001 fp_8_66.l (v := .int (kp_I Sn 1805 b9001)) rfl dX8_mends_40 ?_
        refine lv_sipush (v := 315) X.1 X.2.1 dX8_mends_43 (by decide) ?_
        refine lv_icmp_ne (tgt := 213) X.1 X.2.1 dX8_mends_46 (by decide) (fun c9005 => ?_) (fun c9005 => ?_)
        · have hw := hw.1 c9005
          exact j213 xn3 xn4 xn5 Sn H locs ls (lv_sub hl [0, 1, 2, 3, 4] rfl) h hle f_a0 hw
        · have hw := hw.2 c9005
          refine lv_aload_n X.1 X.2.1 dX8_mends_49 rfl (lv_at hl 0 rfl) ?_
          refine kp_get X h f_a0 ff_8_14.l (v := .ref b9001) (congrArg va_rf e_b9001) dX8_mends_50 ?_
          refine kp_callv X h (kp_runV (rm := { frames := 5, cells := 0, slots := 0, locals := 113 }) (mc := 0) (ms := 0) (rest := []) (Qc := fun A => kp_Qv D cy A Sn _) X h (c_X9_advance l D cy ad Sn b9001 _ h.2.2.2 f_b9001 hw) f_b9001 cv_8_75 ⟨by dsimp only; omega, by dsimp only; omega, rfl, rfl, by dsimp only; omega, by dsimp only; omega⟩ rfl hl.1 rfl (Nat.le_of_ble_eq_true rfl) dX8_mends_53) (fun T9002 hw l_T9002 H locs h => ?_)
          have f_a0 := l_T9002.is f_a0
          have f_b9001 := l_T9002.is f_b9001
          have hle := hle.tr l_T9002
          refine lv_aload_n X.1 X.2.1 dX8_mends_56 rfl (lv_at hl 0 rfl) ?_
          obtain ⟨b9003, e_b9003, hw⟩ := hw
          have f_b9003 := h.2.2.2.rf (c := 8) (k := 0) f_a0 (by decide) (by decide) e_b9003 (t := 9) rfl
          refine kp_get X h f_a0 ff_8_14.l (v := .ref b9003) (congrArg va_rf e_b9003) dX8_mends_57 ?_
          refine kp_get X h f_b9003 fp_8_66.l (v := .int (kp_I T9002 1805 b9003)) rfl dX8_mends_60 ?_
          refine lv_sipush (v := 316) X.1 X.2.1 dX8_mends_63 (by decide) ?_
          refine lv_icmp_ne (tgt := 73) X.1 X.2.1 dX8_mends_66 (by decide) (fun c9004 => ?_) (fun c9004 => ?_)
          · have hw := hw.1 c9004
            refine lv_iconst (v := 0) X.1 X.2.1 dX8_mends_73 (by decide) ?_
            exact j74 xn3 xn4 xn5 xn6 0 T9002 H locs ls (lv_sub hl [0, 1, 2, 3, 4, 5] rfl) h hle f_a0 hw
          · have hw := hw.2 c9004
            refine lv_iconst (v := 1) X.1 X.2.1 dX8_mends_69 (by decide) ?_
            refine lv_goto (tgt := 74) X.1 X.2.1 dX8_mends_70 (by decide) ?_
            exact j74 xn3 xn4 xn5 xn6 1 T9002 H locs ls (lv_sub hl [0, 1, 2, 3, 4, 5] rfl) h hle f_a0 hw
  unfold wX8_mends at hw
  have h : kp_H D cy A S s.heap s.heap [] := h
  revert h
  intro h
  refine lv_aload_n X.1 X.2.1 dX8_mends_0 rfl (lv_at hl 0 rfl) ?_
  obtain ⟨b1, e_b1, hw⟩ := hw
  have f_b1 := h.2.2.2.rf (c := 8) (k := 3) f_a0 (by decide) (by decide) e_b1 (t := 0) rfl
  refine kp_get X h f_a0 fp_8_27.l (v := .ref b1) (congrArg va_rf e_b1) dX8_mends_1 ?_
  refine lv_iload_n X.1 X.2.1 dX8_mends_4 rfl (lv_at hl 1 rfl) ?_
  refine lv_iconst (v := 2) X.1 X.2.1 dX8_mends_5 (by decide) ?_
  refine lv_iadd X.1 X.2.1 dX8_mends_6 ?_
  refine lv_aload_n X.1 X.2.1 dX8_mends_7 rfl (lv_at hl 0 rfl) ?_
  refine kp_get X h f_a0 fp_8_27.l (v := .ref b1) (congrArg va_rf e_b1) dX8_mends_8 ?_
  refine kp_calli X h (kp_runV (rm := { frames := 0, cells := 0, slots := 0, locals := 0 }) (mc := 0) (ms := 0) (rest := [.int (x1 + 2), .ref b1]) (Qc := fun A => kp_Qi D cy A S _) X h (c_X0_size l D cy ad S b1 _ h.2.2.2 f_b1 hw) f_b1 cv_8_234 ⟨by dsimp only; omega, by dsimp only; omega, rfl, rfl, by dsimp only; omega, by dsimp only; omega⟩ rfl hl.1 rfl (Nat.le_of_ble_eq_true rfl) dX8_mends_11) (fun y3 T2 hw l_T2 H locs h => ?_)
  have f_a0 := l_T2.is f_a0
  have f_b1 := l_T2.is f_b1
  have hle := hle.tr l_T2
  refine kp_callv X h (kp_runV (rm := { frames := 0, cells := 0, slots := 0, locals := 0 }) (mc := 0) (ms := 0) (rest := []) (Qc := fun A => kp_Qv D cy A T2 _) X h (c_X0_set l D cy ad T2 b1 (x1 + 2) y3 _ h.2.2.2 f_b1 hw) f_b1 cv_8_237 ⟨by dsimp only; omega, by dsimp only; omega, rfl, rfl, by dsimp only; omega, by dsimp only; omega⟩ rfl hl.1 rfl (Nat.le_of_ble_eq_true rfl) dX8_mends_14) (fun T4 hw l_T4 H locs h => ?_)
  have f_a0 := l_T4.is f_a0
  have f_b1 := l_T4.is f_b1
  have hle := hle.tr l_T4
  refine lv_iconst (v := 0) X.1 X.2.1 dX8_mends_17 (by decide) ?_
  refine lv_istore_n (lv' := [(3, .int 0), (0, .ref a0), (1, .int x1), (2, .int x2)]) X.1 X.2.1 dX8_mends_18 rfl hl (by decide) rfl (fun ls hl => ?_)
  refine lv_iconst (v := 0) X.1 X.2.1 dX8_mends_19 (by decide) ?_
  refine lv_istore (lv' := [(4, .int 0), (3, .int 0), (0, .ref a0), (1, .int x1), (2, .int x2)]) X.1 X.2.1 dX8_mends_20 hl (by decide) rfl (fun ls hl => ?_)
  refine lv_iconst (v := 0) X.1 X.2.1 dX8_mends_22 (by decide) ?_
  refine lv_istore (lv' := [(5, .int 0), (4, .int 0), (3, .int 0), (0, .ref a0), (1, .int x1), (2, .int x2)]) X.1 X.2.1 dX8_mends_23 hl (by decide) rfl (fun ls hl => ?_)
  refine lv_iconst (v := 0) X.1 X.2.1 dX8_mends_25 (by decide) ?_
  refine lv_istore (lv' := [(6, .int 0), (5, .int 0), (4, .int 0), (3, .int 0), (0, .ref a0), (1, .int x1), (2, .int x2)]) X.1 X.2.1 dX8_mends_26 hl (by decide) rfl (fun ls hl => ?_)
  obtain ⟨n0, hw⟩ := hw
  exact L28 n0 0 0 0 0 T4 _ _ ls (lv_sub hl [4, 6, 3, 2, 1, 0] rfl) h hle f_a0 hw
theorem dX8_trial_0 : decode cX8_trial 0 = .ok (.aload_n 0, 1) := by decide +kernel
theorem dX8_trial_1 : decode cX8_trial 1 = .ok (.getfield 14, 3) := by decide +kernel
theorem dX8_trial_4 : decode cX8_trial 4 = .ok (.invokevirtual 75, 3) := by decide +kernel
theorem dX8_trial_7 : decode cX8_trial 7 = .ok (.aload_n 0, 1) := by decide +kernel
theorem dX8_trial_8 : decode cX8_trial 8 = .ok (.getfield 27, 3) := by decide +kernel
theorem dX8_trial_11 : decode cX8_trial 11 = .ok (.bipush 47, 2) := by decide +kernel
theorem dX8_trial_13 : decode cX8_trial 13 = .ok (.iload_n 1, 1) := by decide +kernel
theorem dX8_trial_14 : decode cX8_trial 14 = .ok (.invokevirtual 258, 3) := by decide +kernel
theorem dX8_trial_17 : decode cX8_trial 17 = .ok (.istore_n 2, 1) := by decide +kernel
theorem dX8_trial_18 : decode cX8_trial 18 = .ok (.aload_n 0, 1) := by decide +kernel
theorem dX8_trial_19 : decode cX8_trial 19 = .ok (.invokevirtual 120, 3) := by decide +kernel
theorem dX8_trial_22 : decode cX8_trial 22 = .ok (.istore_n 3, 1) := by decide +kernel
theorem dX8_trial_23 : decode cX8_trial 23 = .ok (.aload_n 0, 1) := by decide +kernel
theorem dX8_trial_24 : decode cX8_trial 24 = .ok (.getfield 27, 3) := by decide +kernel
theorem dX8_trial_27 : decode cX8_trial 27 = .ok (.bipush 54, 2) := by decide +kernel
theorem dX8_trial_29 : decode cX8_trial 29 = .ok (.invokevirtual 123, 3) := by decide +kernel
theorem dX8_trial_32 : decode cX8_trial 32 = .ok (.pop, 1) := by decide +kernel
theorem dX8_trial_33 : decode cX8_trial 33 = .ok (.aload_n 0, 1) := by decide +kernel
theorem dX8_trial_34 : decode cX8_trial 34 = .ok (.getfield 14, 3) := by decide +kernel
theorem dX8_trial_37 : decode cX8_trial 37 = .ok (.getfield 66, 3) := by decide +kernel
theorem dX8_trial_40 : decode cX8_trial 40 = .ok (.sipush 315, 3) := by decide +kernel
theorem dX8_trial_43 : decode cX8_trial 43 = .ok (.if_icmp .ne 13, 3) := by decide +kernel
theorem dX8_trial_46 : decode cX8_trial 46 = .ok (.aload_n 0, 1) := by decide +kernel
theorem dX8_trial_47 : decode cX8_trial 47 = .ok (.iload_n 2, 1) := by decide +kernel
theorem dX8_trial_48 : decode cX8_trial 48 = .ok (.iload_n 3, 1) := by decide +kernel
theorem dX8_trial_49 : decode cX8_trial 49 = .ok (.invokevirtual 282, 3) := by decide +kernel
theorem dX8_trial_52 : decode cX8_trial 52 = .ok (.istore_n 3, 1) := by decide +kernel
theorem dX8_trial_53 : decode cX8_trial 53 = .ok (.goto 23, 3) := by decide +kernel
theorem dX8_trial_56 : decode cX8_trial 56 = .ok (.aload_n 0, 1) := by decide +kernel
theorem dX8_trial_57 : decode cX8_trial 57 = .ok (.getfield 14, 3) := by decide +kernel
theorem dX8_trial_60 : decode cX8_trial 60 = .ok (.getfield 66, 3) := by decide +kernel
theorem dX8_trial_63 : decode cX8_trial 63 = .ok (.sipush 317, 3) := by decide +kernel
theorem dX8_trial_66 : decode cX8_trial 66 = .ok (.if_icmp .eq 10, 3) := by decide +kernel
theorem dX8_trial_69 : decode cX8_trial 69 = .ok (.aload_n 0, 1) := by decide +kernel
theorem dX8_trial_70 : decode cX8_trial 70 = .ok (.getfield 14, 3) := by decide +kernel
theorem dX8_trial_73 : decode cX8_trial 73 = .ok (.invokevirtual 69, 3) := by decide +kernel
theorem dX8_trial_76 : decode cX8_trial 76 = .ok (.aload_n 0, 1) := by decide +kernel
theorem dX8_trial_77 : decode cX8_trial 77 = .ok (.iload_n 2, 1) := by decide +kernel
theorem dX8_trial_78 : decode cX8_trial 78 = .ok (.iload_n 3, 1) := by decide +kernel
theorem dX8_trial_79 : decode cX8_trial 79 = .ok (.invokevirtual 276, 3) := by decide +kernel
theorem dX8_trial_82 : decode cX8_trial 82 = .ok (.istore_n 3, 1) := by decide +kernel
theorem dX8_trial_83 : decode cX8_trial 83 = .ok (.aload_n 0, 1) := by decide +kernel
theorem dX8_trial_84 : decode cX8_trial 84 = .ok (.getfield 27, 3) := by decide +kernel
theorem dX8_trial_87 : decode cX8_trial 87 = .ok (.iload_n 2, 1) := by decide +kernel
theorem dX8_trial_88 : decode cX8_trial 88 = .ok (.iconst 3, 1) := by decide +kernel
theorem dX8_trial_89 : decode cX8_trial 89 = .ok (.iadd, 1) := by decide +kernel
theorem dX8_trial_90 : decode cX8_trial 90 = .ok (.aload_n 0, 1) := by decide +kernel
theorem dX8_trial_91 : decode cX8_trial 91 = .ok (.getfield 27, 3) := by decide +kernel
theorem dX8_trial_94 : decode cX8_trial 94 = .ok (.invokevirtual 234, 3) := by decide +kernel
theorem dX8_trial_97 : decode cX8_trial 97 = .ok (.invokevirtual 237, 3) := by decide +kernel
theorem dX8_trial_100 : decode cX8_trial 100 = .ok (.iload_n 3, 1) := by decide +kernel
theorem dX8_trial_101 : decode cX8_trial 101 = .ok (.ireturn, 1) := by decide +kernel
def wX8_trial_b76 (B : Nat → kp_S → (Int32 → kp_S → Prop) → Prop) (a0 : Nat) (x1 : Int32) (xn2 : Int32) (xn3 : Int32)  (Sn : kp_S) (post : Int32 → kp_S → Prop) : Prop :=
  wX8_alwaysPart B a0 xn2 xn3 Sn (fun y1002 T1001 =>
  ∃ b1003 : Nat, kp_R T1001 1603 a0 = some b1003 ∧
  wX0_size b1003 T1001 (fun y1005 T1004 =>
  wX0_set b1003 (xn2 + 3) y1005 T1004 (fun T1006 =>
  post y1002 T1006)))
def wX8_trial (B : Nat → kp_S → (Int32 → kp_S → Prop) → Prop) (a0 : Nat) (x1 : Int32) (S : kp_S) (post : Int32 → kp_S → Prop) : Prop :=
  ∃ b1 : Nat, kp_R S 1600 a0 = some b1 ∧
  wX9_advance b1 S (fun T2 =>
  ∃ b3 : Nat, kp_R T2 1603 a0 = some b3 ∧
  wX0_addPart b3 47 x1 T2 (fun y5 T4 =>
  B a0 T4 (fun y7 T6 =>
  ∃ b8 : Nat, kp_R T6 1603 a0 = some b8 ∧
  wX0_add b8 54 T6 (fun y10 T9 =>
  ∃ b11 : Nat, kp_R T9 1600 a0 = some b11 ∧
  ((¬ (kp_I T9 1805 b11) = 315 →
  (((kp_I T9 1805 b11) = 317 →
  wX8_trial_b76 B a0 x1 y5 y7  T9 post) ∧ (¬ (kp_I T9 1805 b11) = 317 →
  wX9_refuse b11 T9 (fun T12 =>
  wX8_trial_b76 B a0 x1 y5 y7  T12 post)))) ∧ ((kp_I T9 1805 b11) = 315 →
  wX8_mends B a0 y5 y7 T9 (fun y15 T14 =>
  wX8_trial_b76 B a0 x1 y5 y15  T14 post)))))))
set_option maxHeartbeats 4000000 in
set_option maxRecDepth 100000 in
theorem c_X8_trial (l : Launch) (D : va_G) (cy : Nat → ClassId) (ad : (Nat → Nat) × (Nat → Nat)) (F L : Nat) (B : Nat → kp_S → (Int32 → kp_S → Prop) → Prop) (hB : ∀ (S : kp_S) (a0 : Nat) (post : Int32 → kp_S → Prop), kp_ok S → kp_is S a0 8 → B a0 S post → kp_M l yX8_block cX8_block 5 (some .int) { frames := F, cells := 0, slots := 0, locals := L } D cy ad S [.ref a0] 0 0 (fun A => kp_Qi D cy A S post)) (hF : 191 ≤ F) (hL : 4387 ≤ L) (S : kp_S) (a0 : Nat) (x1 : Int32) (post : Int32 → kp_S → Prop) (hS : kp_ok S) (f_a0 : kp_is S a0 8) (hw : wX8_trial B a0 x1 S post) : kp_M l yX8_trial cX8_trial 4 (some .int) { frames := F + 2, cells := 0, slots := 0, locals := L + 54 } D cy ad S [.ref a0, .int x1] 0 0 (fun A => kp_Qi D cy A S post) := by
  refine kp_start (own := RX8) (by decide) rfl (Nat.le_of_ble_eq_true rfl) hS ?_
  intro p e s m below meth c A ls X hr hlocks hname h hl
  have hle : kp_le S S := kp_le.rf
  have hl : lv_has ls 4 [(0, .ref a0), (1, .int x1)] := hl
  have j76 : ∀ (xn2 : Int32) (xn3 : Int32) (Sn : kp_S) (H : Heap) (locs : List Loc) (ls : Array Slot), lv_has ls 4 [(0, .ref a0), (2, .int xn2), (3, .int xn3)] → kp_H D cy A Sn s.heap H locs → kp_le S Sn → kp_is Sn a0 8 → wX8_trial_b76 B a0 x1 xn2 xn3  Sn post → W p l e { frames := F + 2, cells := 0, slots := 0, locals := L + 54 } s m ([.ref a0, .int x1] : List Value).toArray below meth c H locs 0 0 (MQ below (kp_Qi D cy A S post) ([.ref a0, .int x1] : List Value).toArray s 0 0 A) (F0 m 76 ls []) := by
    intro xn2 xn3 Sn H locs ls hl h hle f_a0 hw
    unfold wX8_trial_b76 at hw
    refine lv_aload_n X.1 X.2.1 dX8_trial_76 rfl (lv_at hl 0 rfl) ?_
    refine lv_iload_n X.1 X.2.1 dX8_trial_77 rfl (lv_at hl 1 rfl) ?_
    refine lv_iload_n X.1 X.2.1 dX8_trial_78 rfl (lv_at hl 2 rfl) ?_
    refine kp_calli X h (kp_runV (rm := { frames := F + 1, cells := 0, slots := 0, locals := L + 24 }) (mc := 0) (ms := 0) (rest := []) (Qc := fun A => kp_Qi D cy A Sn _) X h (c_X8_alwaysPart l D cy ad F L B hB hF hL Sn a0 xn2 xn3 _ h.2.2.2 f_a0 hw) f_a0 cv_8_276 ⟨by dsimp only; omega, by dsimp only; omega, rfl, rfl, by dsimp only; omega, by dsimp only; omega⟩ rfl hl.1 rfl (Nat.le_of_ble_eq_true rfl) dX8_trial_79) (fun y1002 T1001 hw l_T1001 H locs h => ?_)
    have f_a0 := l_T1001.is f_a0
    have hle := hle.tr l_T1001
    refine lv_istore_n (lv' := [(3, .int y1002), (0, .ref a0), (2, .int xn2)]) X.1 X.2.1 dX8_trial_82 rfl hl (by decide) rfl (fun ls hl => ?_)
    refine lv_aload_n X.1 X.2.1 dX8_trial_83 rfl (lv_at hl 1 rfl) ?_
    obtain ⟨b1003, e_b1003, hw⟩ := hw
    have f_b1003 := h.2.2.2.rf (c := 8) (k := 3) f_a0 (by decide) (by decide) e_b1003 (t := 0) rfl
    refine kp_get X h f_a0 fp_8_27.l (v := .ref b1003) (congrArg va_rf e_b1003) dX8_trial_84 ?_
    refine lv_iload_n X.1 X.2.1 dX8_trial_87 rfl (lv_at hl 2 rfl) ?_
    refine lv_iconst (v := 3) X.1 X.2.1 dX8_trial_88 (by decide) ?_
    refine lv_iadd X.1 X.2.1 dX8_trial_89 ?_
    refine lv_aload_n X.1 X.2.1 dX8_trial_90 rfl (lv_at hl 1 rfl) ?_
    refine kp_get X h f_a0 fp_8_27.l (v := .ref b1003) (congrArg va_rf e_b1003) dX8_trial_91 ?_
    refine kp_calli X h (kp_runV (rm := { frames := 0, cells := 0, slots := 0, locals := 0 }) (mc := 0) (ms := 0) (rest := [.int (xn2 + 3), .ref b1003]) (Qc := fun A => kp_Qi D cy A T1001 _) X h (c_X0_size l D cy ad T1001 b1003 _ h.2.2.2 f_b1003 hw) f_b1003 cv_8_234 ⟨by dsimp only; omega, by dsimp only; omega, rfl, rfl, by dsimp only; omega, by dsimp only; omega⟩ rfl hl.1 rfl (Nat.le_of_ble_eq_true rfl) dX8_trial_94) (fun y1005 T1004 hw l_T1004 H locs h => ?_)
    have f_a0 := l_T1004.is f_a0
    have f_b1003 := l_T1004.is f_b1003
    have hle := hle.tr l_T1004
    refine kp_callv X h (kp_runV (rm := { frames := 0, cells := 0, slots := 0, locals := 0 }) (mc := 0) (ms := 0) (rest := []) (Qc := fun A => kp_Qv D cy A T1004 _) X h (c_X0_set l D cy ad T1004 b1003 (xn2 + 3) y1005 _ h.2.2.2 f_b1003 hw) f_b1003 cv_8_237 ⟨by dsimp only; omega, by dsimp only; omega, rfl, rfl, by dsimp only; omega, by dsimp only; omega⟩ rfl hl.1 rfl (Nat.le_of_ble_eq_true rfl) dX8_trial_97) (fun T1006 hw l_T1006 H locs h => ?_)
    have f_a0 := l_T1006.is f_a0
    have f_b1003 := l_T1006.is f_b1003
    have hle := hle.tr l_T1006
    refine lv_iload_n X.1 X.2.1 dX8_trial_100 rfl (lv_at hl 0 rfl) ?_
    exact kp_reti X hr hlocks h hle rfl hw dX8_trial_101
  unfold wX8_trial at hw
  have h : kp_H D cy A S s.heap s.heap [] := h
  revert h
  intro h
  refine lv_aload_n X.1 X.2.1 dX8_trial_0 rfl (lv_at hl 0 rfl) ?_
  obtain ⟨b1, e_b1, hw⟩ := hw
  have f_b1 := h.2.2.2.rf (c := 8) (k := 0) f_a0 (by decide) (by decide) e_b1 (t := 9) rfl
  refine kp_get X h f_a0 ff_8_14.l (v := .ref b1) (congrArg va_rf e_b1) dX8_trial_1 ?_
  refine kp_callv X h (kp_runV (rm := { frames := 5, cells := 0, slots := 0, locals := 113 }) (mc := 0) (ms := 0) (rest := []) (Qc := fun A => kp_Qv D cy A S _) X h (c_X9_advance l D cy ad S b1 _ h.2.2.2 f_b1 hw) f_b1 cv_8_75 ⟨by dsimp only; omega, by dsimp only; omega, rfl, rfl, by dsimp only; omega, by dsimp only; omega⟩ rfl hl.1 rfl (Nat.le_of_ble_eq_true rfl) dX8_trial_4) (fun T2 hw l_T2 H locs h => ?_)
  have f_a0 := l_T2.is f_a0
  have f_b1 := l_T2.is f_b1
  have hle := hle.tr l_T2
  refine lv_aload_n X.1 X.2.1 dX8_trial_7 rfl (lv_at hl 0 rfl) ?_
  obtain ⟨b3, e_b3, hw⟩ := hw
  have f_b3 := h.2.2.2.rf (c := 8) (k := 3) f_a0 (by decide) (by decide) e_b3 (t := 0) rfl
  refine kp_get X h f_a0 fp_8_27.l (v := .ref b3) (congrArg va_rf e_b3) dX8_trial_8 ?_
  refine lv_bipush (v := 47) X.1 X.2.1 dX8_trial_11 (by decide) ?_
  refine lv_iload_n X.1 X.2.1 dX8_trial_13 rfl (lv_at hl 1 rfl) ?_
  refine kp_calli X h (kp_runV (rm := { frames := 2, cells := 0, slots := 0, locals := 45 }) (mc := 0) (ms := 0) (rest := []) (Qc := fun A => kp_Qi D cy A T2 _) X h (c_X0_addPart l D cy ad T2 b3 47 x1 _ h.2.2.2 f_b3 hw) f_b3 cv_8_258 ⟨by dsimp only; omega, by dsimp only; omega, rfl, rfl, by dsimp only; omega, by dsimp only; omega⟩ rfl hl.1 rfl (Nat.le_of_ble_eq_true rfl) dX8_trial_14) (fun y5 T4 hw l_T4 H locs h => ?_)
  have f_a0 := l_T4.is f_a0
  have f_b1 := l_T4.is f_b1
  have f_b3 := l_T4.is f_b3
  have hle := hle.tr l_T4
  refine lv_istore_n (lv' := [(2, .int y5), (0, .ref a0), (1, .int x1)]) X.1 X.2.1 dX8_trial_17 rfl hl (by decide) rfl (fun ls hl => ?_)
  refine lv_aload_n X.1 X.2.1 dX8_trial_18 rfl (lv_at hl 1 rfl) ?_
  refine kp_calli X h (kp_runV (rm := { frames := F, cells := 0, slots := 0, locals := L }) (mc := 0) (ms := 0) (rest := []) (Qc := fun A => kp_Qi D cy A T4 _) X h (hB T4 a0 _ h.2.2.2 f_a0 hw) f_a0 cv_8_120 ⟨by dsimp only; omega, by dsimp only; omega, rfl, rfl, by dsimp only; omega, by dsimp only; omega⟩ rfl hl.1 rfl (Nat.le_of_ble_eq_true rfl) dX8_trial_19) (fun y7 T6 hw l_T6 H locs h => ?_)
  have f_a0 := l_T6.is f_a0
  have f_b1 := l_T6.is f_b1
  have f_b3 := l_T6.is f_b3
  have hle := hle.tr l_T6
  refine lv_istore_n (lv' := [(3, .int y7), (2, .int y5), (0, .ref a0), (1, .int x1)]) X.1 X.2.1 dX8_trial_22 rfl hl (by decide) rfl (fun ls hl => ?_)
  refine lv_aload_n X.1 X.2.1 dX8_trial_23 rfl (lv_at hl 2 rfl) ?_
  obtain ⟨b8, e_b8, hw⟩ := hw
  have f_b8 := h.2.2.2.rf (c := 8) (k := 3) f_a0 (by decide) (by decide) e_b8 (t := 0) rfl
  refine kp_get X h f_a0 fp_8_27.l (v := .ref b8) (congrArg va_rf e_b8) dX8_trial_24 ?_
  refine lv_bipush (v := 54) X.1 X.2.1 dX8_trial_27 (by decide) ?_
  refine kp_calli X h (kp_runV (rm := { frames := 0, cells := 0, slots := 0, locals := 0 }) (mc := 0) (ms := 0) (rest := []) (Qc := fun A => kp_Qi D cy A T6 _) X h (c_X0_add l D cy ad T6 b8 54 _ h.2.2.2 f_b8 hw) f_b8 cv_8_123 ⟨by dsimp only; omega, by dsimp only; omega, rfl, rfl, by dsimp only; omega, by dsimp only; omega⟩ rfl hl.1 rfl (Nat.le_of_ble_eq_true rfl) dX8_trial_29) (fun y10 T9 hw l_T9 H locs h => ?_)
  have f_a0 := l_T9.is f_a0
  have f_b1 := l_T9.is f_b1
  have f_b3 := l_T9.is f_b3
  have f_b8 := l_T9.is f_b8
  have hle := hle.tr l_T9
  refine lv_pop X.1 X.2.1 dX8_trial_32 rfl ?_
  refine lv_aload_n X.1 X.2.1 dX8_trial_33 rfl (lv_at hl 2 rfl) ?_
  obtain ⟨b11, e_b11, hw⟩ := hw
  have f_b11 := h.2.2.2.rf (c := 8) (k := 0) f_a0 (by decide) (by decide) e_b11 (t := 9) rfl
  refine kp_get X h f_a0 ff_8_14.l (v := .ref b11) (congrArg va_rf e_b11) dX8_trial_34 ?_
  refine kp_get X h f_b11 fp_8_66.l (v := .int (kp_I T9 1805 b11)) rfl dX8_trial_37 ?_
  refine lv_sipush (v := 315) X.1 X.2.1 dX8_trial_40 (by decide) ?_
  refine lv_icmp_ne (tgt := 56) X.1 X.2.1 dX8_trial_43 (by decide) (fun c16 => ?_) (fun c16 => ?_)
  · have hw := hw.1 c16
    refine lv_aload_n X.1 X.2.1 dX8_trial_56 rfl (lv_at hl 2 rfl) ?_
    refine kp_get X h f_a0 ff_8_14.l (v := .ref b11) (congrArg va_rf e_b11) dX8_trial_57 ?_
    refine kp_get X h f_b11 fp_8_66.l (v := .int (kp_I T9 1805 b11)) rfl dX8_trial_60 ?_
    refine lv_sipush (v := 317) X.1 X.2.1 dX8_trial_63 (by decide) ?_
    refine lv_icmp_eq (tgt := 76) X.1 X.2.1 dX8_trial_66 (by decide) (fun c13 => ?_) (fun c13 => ?_)
    · have hw := hw.1 c13
      exact j76 y5 y7 T9 _ _ ls (lv_sub hl [2, 1, 0] rfl) h hle f_a0 hw
    · have hw := hw.2 c13
      refine lv_aload_n X.1 X.2.1 dX8_trial_69 rfl (lv_at hl 2 rfl) ?_
      refine kp_get X h f_a0 ff_8_14.l (v := .ref b11) (congrArg va_rf e_b11) dX8_trial_70 ?_
      refine kp_callv X h (kp_runV (rm := { frames := 1, cells := 0, slots := 0, locals := 21 }) (mc := 0) (ms := 0) (rest := []) (Qc := fun A => kp_Qv D cy A T9 _) X h (c_X9_refuse l D cy ad T9 b11 _ h.2.2.2 f_b11 hw) f_b11 cv_8_69 ⟨by dsimp only; omega, by dsimp only; omega, rfl, rfl, by dsimp only; omega, by dsimp only; omega⟩ rfl hl.1 rfl (Nat.le_of_ble_eq_true rfl) dX8_trial_73) (fun T12 hw l_T12 H locs h => ?_)
      have f_a0 := l_T12.is f_a0
      have f_b1 := l_T12.is f_b1
      have f_b3 := l_T12.is f_b3
      have f_b8 := l_T12.is f_b8
      have f_b11 := l_T12.is f_b11
      have hle := hle.tr l_T12
      exact j76 y5 y7 T12 _ _ ls (lv_sub hl [2, 1, 0] rfl) h hle f_a0 hw
  · have hw := hw.2 c16
    refine lv_aload_n X.1 X.2.1 dX8_trial_46 rfl (lv_at hl 2 rfl) ?_
    refine lv_iload_n X.1 X.2.1 dX8_trial_47 rfl (lv_at hl 1 rfl) ?_
    refine lv_iload_n X.1 X.2.1 dX8_trial_48 rfl (lv_at hl 0 rfl) ?_
    refine kp_calli X h (kp_runV (rm := { frames := F + 1, cells := 0, slots := 0, locals := L + 24 }) (mc := 0) (ms := 0) (rest := []) (Qc := fun A => kp_Qi D cy A T9 _) X h (c_X8_mends l D cy ad F L B hB hF hL T9 a0 y5 y7 _ h.2.2.2 f_a0 hw) f_a0 cv_8_282 ⟨by dsimp only; omega, by dsimp only; omega, rfl, rfl, by dsimp only; omega, by dsimp only; omega⟩ rfl hl.1 rfl (Nat.le_of_ble_eq_true rfl) dX8_trial_49) (fun y15 T14 hw l_T14 H locs h => ?_)
    have f_a0 := l_T14.is f_a0
    have f_b1 := l_T14.is f_b1
    have f_b3 := l_T14.is f_b3
    have f_b8 := l_T14.is f_b8
    have f_b11 := l_T14.is f_b11
    have hle := hle.tr l_T14
    refine lv_istore_n (lv' := [(3, .int y15), (2, .int y5), (0, .ref a0), (1, .int x1)]) X.1 X.2.1 dX8_trial_52 rfl hl (by decide) rfl (fun ls hl => ?_)
    refine lv_goto (tgt := 76) X.1 X.2.1 dX8_trial_53 (by decide) ?_
    exact j76 y5 y15 T14 _ _ ls (lv_sub hl [2, 1, 0] rfl) h hle f_a0 hw
theorem dX8_later_0 : decode cX8_later 0 = .ok (.aload_n 0, 1) := by decide +kernel
theorem dX8_later_1 : decode cX8_later 1 = .ok (.getfield 14, 3) := by decide +kernel
theorem dX8_later_4 : decode cX8_later 4 = .ok (.invokevirtual 75, 3) := by decide +kernel
theorem dX8_later_7 : decode cX8_later 7 = .ok (.aload_n 0, 1) := by decide +kernel
theorem dX8_later_8 : decode cX8_later 8 = .ok (.getfield 27, 3) := by decide +kernel
theorem dX8_later_11 : decode cX8_later 11 = .ok (.bipush 52, 2) := by decide +kernel
theorem dX8_later_13 : decode cX8_later 13 = .ok (.iload_n 1, 1) := by decide +kernel
theorem dX8_later_14 : decode cX8_later 14 = .ok (.invokevirtual 258, 3) := by decide +kernel
theorem dX8_later_17 : decode cX8_later 17 = .ok (.istore_n 2, 1) := by decide +kernel
theorem dX8_later_18 : decode cX8_later 18 = .ok (.aload_n 0, 1) := by decide +kernel
theorem dX8_later_19 : decode cX8_later 19 = .ok (.getfield 23, 3) := by decide +kernel
theorem dX8_later_22 : decode cX8_later 22 = .ok (.invokevirtual 285, 3) := by decide +kernel
theorem dX8_later_25 : decode cX8_later 25 = .ok (.istore_n 3, 1) := by decide +kernel
theorem dX8_later_26 : decode cX8_later 26 = .ok (.aload_n 0, 1) := by decide +kernel
theorem dX8_later_27 : decode cX8_later 27 = .ok (.invokevirtual 120, 3) := by decide +kernel
theorem dX8_later_30 : decode cX8_later 30 = .ok (.istore 4, 2) := by decide +kernel
theorem dX8_later_32 : decode cX8_later 32 = .ok (.aload_n 0, 1) := by decide +kernel
theorem dX8_later_33 : decode cX8_later 33 = .ok (.dup, 1) := by decide +kernel
theorem dX8_later_34 : decode cX8_later 34 = .ok (.getfield 117, 3) := by decide +kernel
theorem dX8_later_37 : decode cX8_later 37 = .ok (.iload 4, 2) := by decide +kernel
theorem dX8_later_39 : decode cX8_later 39 = .ok (.bipush 6, 2) := by decide +kernel
theorem dX8_later_41 : decode cX8_later 41 = .ok (.iand, 1) := by decide +kernel
theorem dX8_later_42 : decode cX8_later 42 = .ok (.ior, 1) := by decide +kernel
theorem dX8_later_43 : decode cX8_later 43 = .ok (.putfield 117, 3) := by decide +kernel
theorem dX8_later_46 : decode cX8_later 46 = .ok (.aload_n 0, 1) := by decide +kernel
theorem dX8_later_47 : decode cX8_later 47 = .ok (.getfield 23, 3) := by decide +kernel
theorem dX8_later_50 : decode cX8_later 50 = .ok (.iload_n 3, 1) := by decide +kernel
theorem dX8_later_51 : decode cX8_later 51 = .ok (.invokevirtual 288, 3) := by decide +kernel
theorem dX8_later_54 : decode cX8_later 54 = .ok (.aload_n 0, 1) := by decide +kernel
theorem dX8_later_55 : decode cX8_later 55 = .ok (.getfield 27, 3) := by decide +kernel
theorem dX8_later_58 : decode cX8_later 58 = .ok (.bipush 54, 2) := by decide +kernel
theorem dX8_later_60 : decode cX8_later 60 = .ok (.invokevirtual 123, 3) := by decide +kernel
theorem dX8_later_63 : decode cX8_later 63 = .ok (.pop, 1) := by decide +kernel
theorem dX8_later_64 : decode cX8_later 64 = .ok (.aload_n 0, 1) := by decide +kernel
theorem dX8_later_65 : decode cX8_later 65 = .ok (.getfield 27, 3) := by decide +kernel
theorem dX8_later_68 : decode cX8_later 68 = .ok (.iload_n 2, 1) := by decide +kernel
theorem dX8_later_69 : decode cX8_later 69 = .ok (.iconst 3, 1) := by decide +kernel
theorem dX8_later_70 : decode cX8_later 70 = .ok (.iadd, 1) := by decide +kernel
theorem dX8_later_71 : decode cX8_later 71 = .ok (.aload_n 0, 1) := by decide +kernel
theorem dX8_later_72 : decode cX8_later 72 = .ok (.getfield 27, 3) := by decide +kernel
theorem dX8_later_75 : decode cX8_later 75 = .ok (.invokevirtual 234, 3) := by decide +kernel
theorem dX8_later_78 : decode cX8_later 78 = .ok (.invokevirtual 237, 3) := by decide +kernel
theorem dX8_later_81 : decode cX8_later 81 = .ok (.iconst 5, 1) := by decide +kernel
theorem dX8_later_82 : decode cX8_later 82 = .ok (.ireturn, 1) := by decide +kernel
def wX8_later (B : Nat → kp_S → (Int32 → kp_S → Prop) → Prop) (a0 : Nat) (x1 : Int32) (S : kp_S) (post : Int32 → kp_S → Prop) : Prop :=
  ∃ b1 : Nat, kp_R S 1600 a0 = some b1 ∧
  wX9_advance b1 S (fun T2 =>
  ∃ b3 : Nat, kp_R T2 1603 a0 = some b3 ∧
  wX0_addPart b3 52 x1 T2 (fun y5 T4 =>
  ∃ b6 : Nat, kp_R T4 1601 a0 = some b6 ∧
  wX5_enterLater b6 T4 (fun y8 T7 =>
  B a0 T7 (fun y10 T9 =>
  ∀ T11 : kp_S, T11 = kp_sI T9 1604 a0 ((kp_I T9 1604 a0) ||| (y10 &&& 6)) →
  ∃ b12 : Nat, kp_R T11 1601 a0 = some b12 ∧
  wX5_leaveLater b12 y8 T11 (fun T13 =>
  ∃ b14 : Nat, kp_R T13 1603 a0 = some b14 ∧
  wX0_add b14 54 T13 (fun y16 T15 =>
  ∃ b17 : Nat, kp_R T15 1603 a0 = some b17 ∧
  wX0_size b17 T15 (fun y19 T18 =>
  wX0_set b17 (y5 + 3) y19 T18 (fun T20 =>
  post 5 T20))))))))
set_option maxHeartbeats 4000000 in
set_option maxRecDepth 100000 in
theorem c_X8_later (l : Launch) (D : va_G) (cy : Nat → ClassId) (ad : (Nat → Nat) × (Nat → Nat)) (F L : Nat) (B : Nat → kp_S → (Int32 → kp_S → Prop) → Prop) (hB : ∀ (S : kp_S) (a0 : Nat) (post : Int32 → kp_S → Prop), kp_ok S → kp_is S a0 8 → B a0 S post → kp_M l yX8_block cX8_block 5 (some .int) { frames := F, cells := 0, slots := 0, locals := L } D cy ad S [.ref a0] 0 0 (fun A => kp_Qi D cy A S post)) (hF : 191 ≤ F) (hL : 4387 ≤ L) (S : kp_S) (a0 : Nat) (x1 : Int32) (post : Int32 → kp_S → Prop) (hS : kp_ok S) (f_a0 : kp_is S a0 8) (hw : wX8_later B a0 x1 S post) : kp_M l yX8_later cX8_later 5 (some .int) { frames := F + 1, cells := 0, slots := 0, locals := L + 24 } D cy ad S [.ref a0, .int x1] 0 0 (fun A => kp_Qi D cy A S post) := by
  refine kp_start (own := RX8) (by decide) rfl (Nat.le_of_ble_eq_true rfl) hS ?_
  intro p e s m below meth c A ls X hr hlocks hname h hl
  have hle : kp_le S S := kp_le.rf
  have hl : lv_has ls 5 [(0, .ref a0), (1, .int x1)] := hl
  unfold wX8_later at hw
  have h : kp_H D cy A S s.heap s.heap [] := h
  revert h
  intro h
  refine lv_aload_n X.1 X.2.1 dX8_later_0 rfl (lv_at hl 0 rfl) ?_
  obtain ⟨b1, e_b1, hw⟩ := hw
  have f_b1 := h.2.2.2.rf (c := 8) (k := 0) f_a0 (by decide) (by decide) e_b1 (t := 9) rfl
  refine kp_get X h f_a0 ff_8_14.l (v := .ref b1) (congrArg va_rf e_b1) dX8_later_1 ?_
  refine kp_callv X h (kp_runV (rm := { frames := 5, cells := 0, slots := 0, locals := 113 }) (mc := 0) (ms := 0) (rest := []) (Qc := fun A => kp_Qv D cy A S _) X h (c_X9_advance l D cy ad S b1 _ h.2.2.2 f_b1 hw) f_b1 cv_8_75 ⟨by dsimp only; omega, by dsimp only; omega, rfl, rfl, by dsimp only; omega, by dsimp only; omega⟩ rfl hl.1 rfl (Nat.le_of_ble_eq_true rfl) dX8_later_4) (fun T2 hw l_T2 H locs h => ?_)
  have f_a0 := l_T2.is f_a0
  have f_b1 := l_T2.is f_b1
  have hle := hle.tr l_T2
  refine lv_aload_n X.1 X.2.1 dX8_later_7 rfl (lv_at hl 0 rfl) ?_
  obtain ⟨b3, e_b3, hw⟩ := hw
  have f_b3 := h.2.2.2.rf (c := 8) (k := 3) f_a0 (by decide) (by decide) e_b3 (t := 0) rfl
  refine kp_get X h f_a0 fp_8_27.l (v := .ref b3) (congrArg va_rf e_b3) dX8_later_8 ?_
  refine lv_bipush (v := 52) X.1 X.2.1 dX8_later_11 (by decide) ?_
  refine lv_iload_n X.1 X.2.1 dX8_later_13 rfl (lv_at hl 1 rfl) ?_
  refine kp_calli X h (kp_runV (rm := { frames := 2, cells := 0, slots := 0, locals := 45 }) (mc := 0) (ms := 0) (rest := []) (Qc := fun A => kp_Qi D cy A T2 _) X h (c_X0_addPart l D cy ad T2 b3 52 x1 _ h.2.2.2 f_b3 hw) f_b3 cv_8_258 ⟨by dsimp only; omega, by dsimp only; omega, rfl, rfl, by dsimp only; omega, by dsimp only; omega⟩ rfl hl.1 rfl (Nat.le_of_ble_eq_true rfl) dX8_later_14) (fun y5 T4 hw l_T4 H locs h => ?_)
  have f_a0 := l_T4.is f_a0
  have f_b1 := l_T4.is f_b1
  have f_b3 := l_T4.is f_b3
  have hle := hle.tr l_T4
  refine lv_istore_n (lv' := [(2, .int y5), (0, .ref a0), (1, .int x1)]) X.1 X.2.1 dX8_later_17 rfl hl (by decide) rfl (fun ls hl => ?_)
  refine lv_aload_n X.1 X.2.1 dX8_later_18 rfl (lv_at hl 1 rfl) ?_
  obtain ⟨b6, e_b6, hw⟩ := hw
  have f_b6 := h.2.2.2.rf (c := 8) (k := 1) f_a0 (by decide) (by decide) e_b6 (t := 5) rfl
  refine kp_get X h f_a0 ff_8_23.l (v := .ref b6) (congrArg va_rf e_b6) dX8_later_19 ?_
  refine kp_calli X h (kp_runV (rm := { frames := 0, cells := 0, slots := 0, locals := 0 }) (mc := 0) (ms := 0) (rest := []) (Qc := fun A => kp_Qi D cy A T4 _) X h (c_X5_enterLater l D cy ad T4 b6 _ h.2.2.2 f_b6 hw) f_b6 cv_8_285 ⟨by dsimp only; omega, by dsimp only; omega, rfl, rfl, by dsimp only; omega, by dsimp only; omega⟩ rfl hl.1 rfl (Nat.le_of_ble_eq_true rfl) dX8_later_22) (fun y8 T7 hw l_T7 H locs h => ?_)
  have f_a0 := l_T7.is f_a0
  have f_b1 := l_T7.is f_b1
  have f_b3 := l_T7.is f_b3
  have f_b6 := l_T7.is f_b6
  have hle := hle.tr l_T7
  refine lv_istore_n (lv' := [(3, .int y8), (2, .int y5), (0, .ref a0), (1, .int x1)]) X.1 X.2.1 dX8_later_25 rfl hl (by decide) rfl (fun ls hl => ?_)
  refine lv_aload_n X.1 X.2.1 dX8_later_26 rfl (lv_at hl 2 rfl) ?_
  refine kp_calli X h (kp_runV (rm := { frames := F, cells := 0, slots := 0, locals := L }) (mc := 0) (ms := 0) (rest := []) (Qc := fun A => kp_Qi D cy A T7 _) X h (hB T7 a0 _ h.2.2.2 f_a0 hw) f_a0 cv_8_120 ⟨by dsimp only; omega, by dsimp only; omega, rfl, rfl, by dsimp only; omega, by dsimp only; omega⟩ rfl hl.1 rfl (Nat.le_of_ble_eq_true rfl) dX8_later_27) (fun y10 T9 hw l_T9 H locs h => ?_)
  have f_a0 := l_T9.is f_a0
  have f_b1 := l_T9.is f_b1
  have f_b3 := l_T9.is f_b3
  have f_b6 := l_T9.is f_b6
  have hle := hle.tr l_T9
  refine lv_istore (lv' := [(4, .int y10), (3, .int y8), (2, .int y5), (0, .ref a0), (1, .int x1)]) X.1 X.2.1 dX8_later_30 hl (by decide) rfl (fun ls hl => ?_)
  refine lv_aload_n X.1 X.2.1 dX8_later_32 rfl (lv_at hl 3 rfl) ?_
  refine lv_dup X.1 X.2.1 dX8_later_33 rfl ?_
  refine kp_get X h f_a0 fp_8_117.l (v := .int (kp_I T9 1604 a0)) rfl dX8_later_34 ?_
  refine lv_iload X.1 X.2.1 dX8_later_37 (lv_at hl 0 rfl) ?_
  refine lv_bipush (v := 6) X.1 X.2.1 dX8_later_39 (by decide) ?_
  refine lv_iand X.1 X.2.1 dX8_later_41 ?_
  refine lv_ior X.1 X.2.1 dX8_later_42 ?_
  refine kp_putI X h f_a0 fp_8_117 rfl ⟨rfl, rfl⟩ dX8_later_43 (fun T11 e_T11 l_T11 H locs h => ?_)
  have hw := hw T11 e_T11
  have f_a0 := l_T11.is f_a0
  have f_b1 := l_T11.is f_b1
  have f_b3 := l_T11.is f_b3
  have f_b6 := l_T11.is f_b6
  have hle := hle.tr l_T11
  refine lv_aload_n X.1 X.2.1 dX8_later_46 rfl (lv_at hl 3 rfl) ?_
  obtain ⟨b12, e_b12, hw⟩ := hw
  have f_b12 := h.2.2.2.rf (c := 8) (k := 1) f_a0 (by decide) (by decide) e_b12 (t := 5) rfl
  refine kp_get X h f_a0 ff_8_23.l (v := .ref b12) (congrArg va_rf e_b12) dX8_later_47 ?_
  refine lv_iload_n X.1 X.2.1 dX8_later_50 rfl (lv_at hl 1 rfl) ?_
  refine kp_callv X h (kp_runV (rm := { frames := 0, cells := 0, slots := 0, locals := 0 }) (mc := 0) (ms := 0) (rest := []) (Qc := fun A => kp_Qv D cy A T11 _) X h (c_X5_leaveLater l D cy ad T11 b12 y8 _ h.2.2.2 f_b12 hw) f_b12 cv_8_288 ⟨by dsimp only; omega, by dsimp only; omega, rfl, rfl, by dsimp only; omega, by dsimp only; omega⟩ rfl hl.1 rfl (Nat.le_of_ble_eq_true rfl) dX8_later_51) (fun T13 hw l_T13 H locs h => ?_)
  have f_a0 := l_T13.is f_a0
  have f_b1 := l_T13.is f_b1
  have f_b3 := l_T13.is f_b3
  have f_b6 := l_T13.is f_b6
  have f_b12 := l_T13.is f_b12
  have hle := hle.tr l_T13
  refine lv_aload_n X.1 X.2.1 dX8_later_54 rfl (lv_at hl 3 rfl) ?_
  obtain ⟨b14, e_b14, hw⟩ := hw
  have f_b14 := h.2.2.2.rf (c := 8) (k := 3) f_a0 (by decide) (by decide) e_b14 (t := 0) rfl
  refine kp_get X h f_a0 fp_8_27.l (v := .ref b14) (congrArg va_rf e_b14) dX8_later_55 ?_
  refine lv_bipush (v := 54) X.1 X.2.1 dX8_later_58 (by decide) ?_
  refine kp_calli X h (kp_runV (rm := { frames := 0, cells := 0, slots := 0, locals := 0 }) (mc := 0) (ms := 0) (rest := []) (Qc := fun A => kp_Qi D cy A T13 _) X h (c_X0_add l D cy ad T13 b14 54 _ h.2.2.2 f_b14 hw) f_b14 cv_8_123 ⟨by dsimp only; omega, by dsimp only; omega, rfl, rfl, by dsimp only; omega, by dsimp only; omega⟩ rfl hl.1 rfl (Nat.le_of_ble_eq_true rfl) dX8_later_60) (fun y16 T15 hw l_T15 H locs h => ?_)
  have f_a0 := l_T15.is f_a0
  have f_b1 := l_T15.is f_b1
  have f_b3 := l_T15.is f_b3
  have f_b6 := l_T15.is f_b6
  have f_b12 := l_T15.is f_b12
  have f_b14 := l_T15.is f_b14
  have hle := hle.tr l_T15
  refine lv_pop X.1 X.2.1 dX8_later_63 rfl ?_
  refine lv_aload_n X.1 X.2.1 dX8_later_64 rfl (lv_at hl 3 rfl) ?_
  obtain ⟨b17, e_b17, hw⟩ := hw
  have f_b17 := h.2.2.2.rf (c := 8) (k := 3) f_a0 (by decide) (by decide) e_b17 (t := 0) rfl
  refine kp_get X h f_a0 fp_8_27.l (v := .ref b17) (congrArg va_rf e_b17) dX8_later_65 ?_
  refine lv_iload_n X.1 X.2.1 dX8_later_68 rfl (lv_at hl 2 rfl) ?_
  refine lv_iconst (v := 3) X.1 X.2.1 dX8_later_69 (by decide) ?_
  refine lv_iadd X.1 X.2.1 dX8_later_70 ?_
  refine lv_aload_n X.1 X.2.1 dX8_later_71 rfl (lv_at hl 3 rfl) ?_
  refine kp_get X h f_a0 fp_8_27.l (v := .ref b17) (congrArg va_rf e_b17) dX8_later_72 ?_
  refine kp_calli X h (kp_runV (rm := { frames := 0, cells := 0, slots := 0, locals := 0 }) (mc := 0) (ms := 0) (rest := [.int (y5 + 3), .ref b17]) (Qc := fun A => kp_Qi D cy A T15 _) X h (c_X0_size l D cy ad T15 b17 _ h.2.2.2 f_b17 hw) f_b17 cv_8_234 ⟨by dsimp only; omega, by dsimp only; omega, rfl, rfl, by dsimp only; omega, by dsimp only; omega⟩ rfl hl.1 rfl (Nat.le_of_ble_eq_true rfl) dX8_later_75) (fun y19 T18 hw l_T18 H locs h => ?_)
  have f_a0 := l_T18.is f_a0
  have f_b1 := l_T18.is f_b1
  have f_b3 := l_T18.is f_b3
  have f_b6 := l_T18.is f_b6
  have f_b12 := l_T18.is f_b12
  have f_b14 := l_T18.is f_b14
  have f_b17 := l_T18.is f_b17
  have hle := hle.tr l_T18
  refine kp_callv X h (kp_runV (rm := { frames := 0, cells := 0, slots := 0, locals := 0 }) (mc := 0) (ms := 0) (rest := []) (Qc := fun A => kp_Qv D cy A T18 _) X h (c_X0_set l D cy ad T18 b17 (y5 + 3) y19 _ h.2.2.2 f_b17 hw) f_b17 cv_8_237 ⟨by dsimp only; omega, by dsimp only; omega, rfl, rfl, by dsimp only; omega, by dsimp only; omega⟩ rfl hl.1 rfl (Nat.le_of_ble_eq_true rfl) dX8_later_78) (fun T20 hw l_T20 H locs h => ?_)
  have f_a0 := l_T20.is f_a0
  have f_b1 := l_T20.is f_b1
  have f_b3 := l_T20.is f_b3
  have f_b6 := l_T20.is f_b6
  have f_b12 := l_T20.is f_b12
  have f_b14 := l_T20.is f_b14
  have f_b17 := l_T20.is f_b17
  have hle := hle.tr l_T20
  refine lv_iconst (v := 5) X.1 X.2.1 dX8_later_81 (by decide) ?_
  exact kp_reti X hr hlocks h hle rfl hw dX8_later_82
theorem dX8_statement_0 : decode cX8_statement 0 = .ok (.aload_n 0, 1) := by decide +kernel
theorem dX8_statement_1 : decode cX8_statement 1 = .ok (.getfield 14, 3) := by decide +kernel
theorem dX8_statement_4 : decode cX8_statement 4 = .ok (.getfield 66, 3) := by decide +kernel
theorem dX8_statement_7 : decode cX8_statement 7 = .ok (.bipush 123, 2) := by decide +kernel
theorem dX8_statement_9 : decode cX8_statement 9 = .ok (.if_icmp .ne 8, 3) := by decide +kernel
theorem dX8_statement_12 : decode cX8_statement 12 = .ok (.aload_n 0, 1) := by decide +kernel
theorem dX8_statement_13 : decode cX8_statement 13 = .ok (.invokevirtual 120, 3) := by decide +kernel
theorem dX8_statement_16 : decode cX8_statement 16 = .ok (.ireturn, 1) := by decide +kernel
theorem dX8_statement_17 : decode cX8_statement 17 = .ok (.aload_n 0, 1) := by decide +kernel
theorem dX8_statement_18 : decode cX8_statement 18 = .ok (.getfield 14, 3) := by decide +kernel
theorem dX8_statement_21 : decode cX8_statement 21 = .ok (.getfield 93, 3) := by decide +kernel
theorem dX8_statement_24 : decode cX8_statement 24 = .ok (.istore_n 1, 1) := by decide +kernel
theorem dX8_statement_25 : decode cX8_statement 25 = .ok (.aload_n 0, 1) := by decide +kernel
theorem dX8_statement_26 : decode cX8_statement 26 = .ok (.getfield 27, 3) := by decide +kernel
theorem dX8_statement_29 : decode cX8_statement 29 = .ok (.bipush 30, 2) := by decide +kernel
theorem dX8_statement_31 : decode cX8_statement 31 = .ok (.iload_n 1, 1) := by decide +kernel
theorem dX8_statement_32 : decode cX8_statement 32 = .ok (.invokevirtual 154, 3) := by decide +kernel
theorem dX8_statement_35 : decode cX8_statement 35 = .ok (.pop, 1) := by decide +kernel
theorem dX8_statement_36 : decode cX8_statement 36 = .ok (.aload_n 0, 1) := by decide +kernel
theorem dX8_statement_37 : decode cX8_statement 37 = .ok (.getfield 14, 3) := by decide +kernel
theorem dX8_statement_40 : decode cX8_statement 40 = .ok (.getfield 66, 3) := by decide +kernel
theorem dX8_statement_43 : decode cX8_statement 43 = .ok (.tableswitch 438 259 332 #[309, 438, 438, 438, 438, 438, 438, 438, 438, 438, 438, 438, 438, 438, 438, 438, 438, 438, 438, 438, 438, 438, 438, 438, 438, 438, 438, 438, 438, 438, 438, 438, 438, 438, 438, 438, 438, 438, 438, 438, 438, 438, 315, 320, 398, 438, 408, 408, 438, 438, 379, 386, 374, 365, 415, 426, 438, 438, 438, 432, 393, 420, 408, 438, 403, 438, 438, 438, 438, 438, 329, 338, 347, 356], 309) := by decide +kernel
theorem dX8_statement_352 : decode cX8_statement 352 = .ok (.aload_n 0, 1) := by decide +kernel
theorem dX8_statement_353 : decode cX8_statement 353 = .ok (.iload_n 1, 1) := by decide +kernel
theorem dX8_statement_354 : decode cX8_statement 354 = .ok (.invokevirtual 157, 3) := by decide +kernel
theorem dX8_statement_357 : decode cX8_statement 357 = .ok (.ireturn, 1) := by decide +kernel
theorem dX8_statement_358 : decode cX8_statement 358 = .ok (.aload_n 0, 1) := by decide +kernel
theorem dX8_statement_359 : decode cX8_statement 359 = .ok (.invokevirtual 160, 3) := by decide +kernel
theorem dX8_statement_362 : decode cX8_statement 362 = .ok (.ireturn, 1) := by decide +kernel
theorem dX8_statement_363 : decode cX8_statement 363 = .ok (.aload_n 0, 1) := by decide +kernel
theorem dX8_statement_364 : decode cX8_statement 364 = .ok (.bipush 35, 2) := by decide +kernel
theorem dX8_statement_366 : decode cX8_statement 366 = .ok (.iconst 1, 1) := by decide +kernel
theorem dX8_statement_367 : decode cX8_statement 367 = .ok (.iconst 1, 1) := by decide +kernel
theorem dX8_statement_368 : decode cX8_statement 368 = .ok (.invokevirtual 163, 3) := by decide +kernel
theorem dX8_statement_371 : decode cX8_statement 371 = .ok (.ireturn, 1) := by decide +kernel
theorem dX8_statement_372 : decode cX8_statement 372 = .ok (.aload_n 0, 1) := by decide +kernel
theorem dX8_statement_373 : decode cX8_statement 373 = .ok (.bipush 36, 2) := by decide +kernel
theorem dX8_statement_375 : decode cX8_statement 375 = .ok (.iconst 2, 1) := by decide +kernel
theorem dX8_statement_376 : decode cX8_statement 376 = .ok (.iconst 5, 1) := by decide +kernel
theorem dX8_statement_377 : decode cX8_statement 377 = .ok (.invokevirtual 163, 3) := by decide +kernel
theorem dX8_statement_380 : decode cX8_statement 380 = .ok (.ireturn, 1) := by decide +kernel
theorem dX8_statement_381 : decode cX8_statement 381 = .ok (.aload_n 0, 1) := by decide +kernel
theorem dX8_statement_382 : decode cX8_statement 382 = .ok (.bipush 37, 2) := by decide +kernel
theorem dX8_statement_384 : decode cX8_statement 384 = .ok (.iconst 2, 1) := by decide +kernel
theorem dX8_statement_385 : decode cX8_statement 385 = .ok (.iconst 5, 1) := by decide +kernel
theorem dX8_statement_386 : decode cX8_statement 386 = .ok (.invokevirtual 163, 3) := by decide +kernel
theorem dX8_statement_389 : decode cX8_statement 389 = .ok (.ireturn, 1) := by decide +kernel
theorem dX8_statement_390 : decode cX8_statement 390 = .ok (.aload_n 0, 1) := by decide +kernel
theorem dX8_statement_391 : decode cX8_statement 391 = .ok (.bipush 38, 2) := by decide +kernel
theorem dX8_statement_393 : decode cX8_statement 393 = .ok (.iconst 3, 1) := by decide +kernel
theorem dX8_statement_394 : decode cX8_statement 394 = .ok (.iconst 5, 1) := by decide +kernel
theorem dX8_statement_395 : decode cX8_statement 395 = .ok (.invokevirtual 163, 3) := by decide +kernel
theorem dX8_statement_398 : decode cX8_statement 398 = .ok (.ireturn, 1) := by decide +kernel
theorem dX8_statement_399 : decode cX8_statement 399 = .ok (.aload_n 0, 1) := by decide +kernel
theorem dX8_statement_400 : decode cX8_statement 400 = .ok (.bipush 39, 2) := by decide +kernel
theorem dX8_statement_402 : decode cX8_statement 402 = .ok (.iconst 2, 1) := by decide +kernel
theorem dX8_statement_403 : decode cX8_statement 403 = .ok (.iconst 5, 1) := by decide +kernel
theorem dX8_statement_404 : decode cX8_statement 404 = .ok (.invokevirtual 163, 3) := by decide +kernel
theorem dX8_statement_407 : decode cX8_statement 407 = .ok (.ireturn, 1) := by decide +kernel
theorem dX8_statement_408 : decode cX8_statement 408 = .ok (.aload_n 0, 1) := by decide +kernel
theorem dX8_statement_409 : decode cX8_statement 409 = .ok (.bipush 43, 2) := by decide +kernel
theorem dX8_statement_411 : decode cX8_statement 411 = .ok (.iconst 1, 1) := by decide +kernel
theorem dX8_statement_412 : decode cX8_statement 412 = .ok (.iconst 4, 1) := by decide +kernel
theorem dX8_statement_413 : decode cX8_statement 413 = .ok (.invokevirtual 163, 3) := by decide +kernel
theorem dX8_statement_416 : decode cX8_statement 416 = .ok (.ireturn, 1) := by decide +kernel
theorem dX8_statement_417 : decode cX8_statement 417 = .ok (.aload_n 0, 1) := by decide +kernel
theorem dX8_statement_418 : decode cX8_statement 418 = .ok (.invokevirtual 167, 3) := by decide +kernel
theorem dX8_statement_421 : decode cX8_statement 421 = .ok (.ireturn, 1) := by decide +kernel
theorem dX8_statement_422 : decode cX8_statement 422 = .ok (.aload_n 0, 1) := by decide +kernel
theorem dX8_statement_423 : decode cX8_statement 423 = .ok (.bipush 40, 2) := by decide +kernel
theorem dX8_statement_425 : decode cX8_statement 425 = .ok (.invokevirtual 170, 3) := by decide +kernel
theorem dX8_statement_428 : decode cX8_statement 428 = .ok (.ireturn, 1) := by decide +kernel
theorem dX8_statement_429 : decode cX8_statement 429 = .ok (.aload_n 0, 1) := by decide +kernel
theorem dX8_statement_430 : decode cX8_statement 430 = .ok (.bipush 41, 2) := by decide +kernel
theorem dX8_statement_432 : decode cX8_statement 432 = .ok (.invokevirtual 170, 3) := by decide +kernel
theorem dX8_statement_435 : decode cX8_statement 435 = .ok (.ireturn, 1) := by decide +kernel
theorem dX8_statement_436 : decode cX8_statement 436 = .ok (.aload_n 0, 1) := by decide +kernel
theorem dX8_statement_437 : decode cX8_statement 437 = .ok (.invokevirtual 173, 3) := by decide +kernel
theorem dX8_statement_440 : decode cX8_statement 440 = .ok (.ireturn, 1) := by decide +kernel
theorem dX8_statement_441 : decode cX8_statement 441 = .ok (.aload_n 0, 1) := by decide +kernel
theorem dX8_statement_442 : decode cX8_statement 442 = .ok (.invokevirtual 176, 3) := by decide +kernel
theorem dX8_statement_445 : decode cX8_statement 445 = .ok (.ireturn, 1) := by decide +kernel
theorem dX8_statement_446 : decode cX8_statement 446 = .ok (.aload_n 0, 1) := by decide +kernel
theorem dX8_statement_447 : decode cX8_statement 447 = .ok (.invokevirtual 179, 3) := by decide +kernel
theorem dX8_statement_450 : decode cX8_statement 450 = .ok (.ireturn, 1) := by decide +kernel
theorem dX8_statement_451 : decode cX8_statement 451 = .ok (.aload_n 0, 1) := by decide +kernel
theorem dX8_statement_452 : decode cX8_statement 452 = .ok (.lconst 0, 1) := by decide +kernel
theorem dX8_statement_453 : decode cX8_statement 453 = .ok (.iload_n 1, 1) := by decide +kernel
theorem dX8_statement_454 : decode cX8_statement 454 = .ok (.invokevirtual 182, 3) := by decide +kernel
theorem dX8_statement_457 : decode cX8_statement 457 = .ok (.ireturn, 1) := by decide +kernel
theorem dX8_statement_458 : decode cX8_statement 458 = .ok (.aload_n 0, 1) := by decide +kernel
theorem dX8_statement_459 : decode cX8_statement 459 = .ok (.invokevirtual 186, 3) := by decide +kernel
theorem dX8_statement_462 : decode cX8_statement 462 = .ok (.ireturn, 1) := by decide +kernel
theorem dX8_statement_463 : decode cX8_statement 463 = .ok (.aload_n 0, 1) := by decide +kernel
theorem dX8_statement_464 : decode cX8_statement 464 = .ok (.iload_n 1, 1) := by decide +kernel
theorem dX8_statement_465 : decode cX8_statement 465 = .ok (.invokevirtual 189, 3) := by decide +kernel
theorem dX8_statement_468 : decode cX8_statement 468 = .ok (.ireturn, 1) := by decide +kernel
theorem dX8_statement_469 : decode cX8_statement 469 = .ok (.aload_n 0, 1) := by decide +kernel
theorem dX8_statement_470 : decode cX8_statement 470 = .ok (.iload_n 1, 1) := by decide +kernel
theorem dX8_statement_471 : decode cX8_statement 471 = .ok (.invokevirtual 192, 3) := by decide +kernel
theorem dX8_statement_474 : decode cX8_statement 474 = .ok (.ireturn, 1) := by decide +kernel
theorem dX8_statement_475 : decode cX8_statement 475 = .ok (.aload_n 0, 1) := by decide +kernel
theorem dX8_statement_476 : decode cX8_statement 476 = .ok (.iload_n 1, 1) := by decide +kernel
theorem dX8_statement_477 : decode cX8_statement 477 = .ok (.invokevirtual 195, 3) := by decide +kernel
theorem dX8_statement_480 : decode cX8_statement 480 = .ok (.ireturn, 1) := by decide +kernel
theorem dX8_statement_481 : decode cX8_statement 481 = .ok (.aload_n 0, 1) := by decide +kernel
theorem dX8_statement_482 : decode cX8_statement 482 = .ok (.getfield 14, 3) := by decide +kernel
theorem dX8_statement_485 : decode cX8_statement 485 = .ok (.invokevirtual 69, 3) := by decide +kernel
theorem dX8_statement_488 : decode cX8_statement 488 = .ok (.iconst 0, 1) := by decide +kernel
theorem dX8_statement_489 : decode cX8_statement 489 = .ok (.ireturn, 1) := by decide +kernel
def wX8_statement_b481 (B : Nat → kp_S → (Int32 → kp_S → Prop) → Prop) (a0 : Nat)  (Sn : kp_S) (post : Int32 → kp_S → Prop) : Prop :=
  ∃ b1001 : Nat, kp_R Sn 1600 a0 = some b1001 ∧
  wX9_refuse b1001 Sn (fun T1002 =>
  post 0 T1002)
def wX8_statement_b451 (B : Nat → kp_S → (Int32 → kp_S → Prop) → Prop) (a0 : Nat) (xn1 : Int32)  (Sn : kp_S) (post : Int32 → kp_S → Prop) : Prop :=
  wX8_loop B a0 0 xn1 Sn (fun y2002 T2001 =>
  post y2002 T2001)
def wX8_statement (B : Nat → kp_S → (Int32 → kp_S → Prop) → Prop) (a0 : Nat) (S : kp_S) (post : Int32 → kp_S → Prop) : Prop :=
  ∃ b1 : Nat, kp_R S 1600 a0 = some b1 ∧
  ((¬ (kp_I S 1805 b1) = 123 →
  ∀ y2 : Int32, y2 = (kp_I S 1806 b1) →
  ∃ b3 : Nat, kp_R S 1603 a0 = some b3 ∧
  wX0_add_ b3 30 y2 S (fun y5 T4 =>
  ∃ b6 : Nat, kp_R T4 1600 a0 = some b6 ∧
  ∀ y7 : Int32, y7 = (kp_I T4 1805 b6) →
  ((y7 = 259 →
  wX8_named B a0 y2 T4 (fun y10 T9 =>
  post y10 T9)) ∧ (¬ y7 = 259 →
  ((y7 = 260 →
  wX8_statement_b481 B a0   T4 post) ∧ (¬ y7 = 260 →
  ((y7 = 261 →
  wX8_statement_b481 B a0   T4 post) ∧ (¬ y7 = 261 →
  ((y7 = 262 →
  wX8_statement_b481 B a0   T4 post) ∧ (¬ y7 = 262 →
  ((y7 = 263 →
  wX8_statement_b481 B a0   T4 post) ∧ (¬ y7 = 263 →
  ((y7 = 264 →
  wX8_statement_b481 B a0   T4 post) ∧ (¬ y7 = 264 →
  ((y7 = 265 →
  wX8_statement_b481 B a0   T4 post) ∧ (¬ y7 = 265 →
  ((y7 = 266 →
  wX8_statement_b481 B a0   T4 post) ∧ (¬ y7 = 266 →
  ((y7 = 267 →
  wX8_statement_b481 B a0   T4 post) ∧ (¬ y7 = 267 →
  ((y7 = 268 →
  wX8_statement_b481 B a0   T4 post) ∧ (¬ y7 = 268 →
  ((y7 = 269 →
  wX8_statement_b481 B a0   T4 post) ∧ (¬ y7 = 269 →
  ((y7 = 270 →
  wX8_statement_b481 B a0   T4 post) ∧ (¬ y7 = 270 →
  ((y7 = 271 →
  wX8_statement_b481 B a0   T4 post) ∧ (¬ y7 = 271 →
  ((y7 = 272 →
  wX8_statement_b481 B a0   T4 post) ∧ (¬ y7 = 272 →
  ((y7 = 273 →
  wX8_statement_b481 B a0   T4 post) ∧ (¬ y7 = 273 →
  ((y7 = 274 →
  wX8_statement_b481 B a0   T4 post) ∧ (¬ y7 = 274 →
  ((y7 = 275 →
  wX8_statement_b481 B a0   T4 post) ∧ (¬ y7 = 275 →
  ((y7 = 276 →
  wX8_statement_b481 B a0   T4 post) ∧ (¬ y7 = 276 →
  ((y7 = 277 →
  wX8_statement_b481 B a0   T4 post) ∧ (¬ y7 = 277 →
  ((y7 = 278 →
  wX8_statement_b481 B a0   T4 post) ∧ (¬ y7 = 278 →
  ((y7 = 279 →
  wX8_statement_b481 B a0   T4 post) ∧ (¬ y7 = 279 →
  ((y7 = 280 →
  wX8_statement_b481 B a0   T4 post) ∧ (¬ y7 = 280 →
  ((y7 = 281 →
  wX8_statement_b481 B a0   T4 post) ∧ (¬ y7 = 281 →
  ((y7 = 282 →
  wX8_statement_b481 B a0   T4 post) ∧ (¬ y7 = 282 →
  ((y7 = 283 →
  wX8_statement_b481 B a0   T4 post) ∧ (¬ y7 = 283 →
  ((y7 = 284 →
  wX8_statement_b481 B a0   T4 post) ∧ (¬ y7 = 284 →
  ((y7 = 285 →
  wX8_statement_b481 B a0   T4 post) ∧ (¬ y7 = 285 →
  ((y7 = 286 →
  wX8_statement_b481 B a0   T4 post) ∧ (¬ y7 = 286 →
  ((y7 = 287 →
  wX8_statement_b481 B a0   T4 post) ∧ (¬ y7 = 287 →
  ((y7 = 288 →
  wX8_statement_b481 B a0   T4 post) ∧ (¬ y7 = 288 →
  ((y7 = 289 →
  wX8_statement_b481 B a0   T4 post) ∧ (¬ y7 = 289 →
  ((y7 = 290 →
  wX8_statement_b481 B a0   T4 post) ∧ (¬ y7 = 290 →
  ((y7 = 291 →
  wX8_statement_b481 B a0   T4 post) ∧ (¬ y7 = 291 →
  ((y7 = 292 →
  wX8_statement_b481 B a0   T4 post) ∧ (¬ y7 = 292 →
  ((y7 = 293 →
  wX8_statement_b481 B a0   T4 post) ∧ (¬ y7 = 293 →
  ((y7 = 294 →
  wX8_statement_b481 B a0   T4 post) ∧ (¬ y7 = 294 →
  ((y7 = 295 →
  wX8_statement_b481 B a0   T4 post) ∧ (¬ y7 = 295 →
  ((y7 = 296 →
  wX8_statement_b481 B a0   T4 post) ∧ (¬ y7 = 296 →
  ((y7 = 297 →
  wX8_statement_b481 B a0   T4 post) ∧ (¬ y7 = 297 →
  ((y7 = 298 →
  wX8_statement_b481 B a0   T4 post) ∧ (¬ y7 = 298 →
  ((y7 = 299 →
  wX8_statement_b481 B a0   T4 post) ∧ (¬ y7 = 299 →
  ((y7 = 300 →
  wX8_statement_b481 B a0   T4 post) ∧ (¬ y7 = 300 →
  ((y7 = 301 →
  wX8_variable a0 T4 (fun y54 T53 =>
  post y54 T53)) ∧ (¬ y7 = 301 →
  ((y7 = 302 →
  wX8_order a0 35 1 1 T4 (fun y57 T56 =>
  post y57 T56)) ∧ (¬ y7 = 302 →
  ((y7 = 303 →
  wX8_ifElse B a0 T4 (fun y60 T59 =>
  post y60 T59)) ∧ (¬ y7 = 303 →
  ((y7 = 304 →
  wX8_statement_b481 B a0   T4 post) ∧ (¬ y7 = 304 →
  ((y7 = 305 →
  wX8_statement_b451 B a0 y2  T4 post) ∧ (¬ y7 = 305 →
  ((y7 = 306 →
  wX8_statement_b451 B a0 y2  T4 post) ∧ (¬ y7 = 306 →
  ((y7 = 307 →
  wX8_statement_b481 B a0   T4 post) ∧ (¬ y7 = 307 →
  ((y7 = 308 →
  wX8_statement_b481 B a0   T4 post) ∧ (¬ y7 = 308 →
  ((y7 = 309 →
  wX8_leaveOrAgain a0 40 T4 (fun y68 T67 =>
  post y68 T67)) ∧ (¬ y7 = 309 →
  ((y7 = 310 →
  wX8_leaveOrAgain a0 41 T4 (fun y71 T70 =>
  post y71 T70)) ∧ (¬ y7 = 310 →
  ((y7 = 311 →
  wX8_answer a0 T4 (fun y74 T73 =>
  post y74 T73)) ∧ (¬ y7 = 311 →
  ((y7 = 312 →
  wX8_order a0 43 1 4 T4 (fun y77 T76 =>
  post y77 T76)) ∧ (¬ y7 = 312 →
  ((y7 = 313 →
  wX8_hold B a0 T4 (fun y80 T79 =>
  post y80 T79)) ∧ (¬ y7 = 313 →
  ((y7 = 314 →
  wX8_trial B a0 y2 T4 (fun y83 T82 =>
  post y83 T82)) ∧ (¬ y7 = 314 →
  ((y7 = 315 →
  wX8_statement_b481 B a0   T4 post) ∧ (¬ y7 = 315 →
  ((y7 = 316 →
  wX8_statement_b481 B a0   T4 post) ∧ (¬ y7 = 316 →
  ((y7 = 317 →
  wX8_statement_b481 B a0   T4 post) ∧ (¬ y7 = 317 →
  ((y7 = 318 →
  wX8_later B a0 y2 T4 (fun y89 T88 =>
  post y89 T88)) ∧ (¬ y7 = 318 →
  ((y7 = 319 →
  wX8_stop a0 T4 (fun y92 T91 =>
  post y92 T91)) ∧ (¬ y7 = 319 →
  ((y7 = 320 →
  wX8_ensure B a0 y2 T4 (fun y95 T94 =>
  post y95 T94)) ∧ (¬ y7 = 320 →
  ((y7 = 321 →
  wX8_statement_b451 B a0 y2  T4 post) ∧ (¬ y7 = 321 →
  ((y7 = 322 →
  wX8_statement_b481 B a0   T4 post) ∧ (¬ y7 = 322 →
  ((y7 = 323 →
  wX8_choose B a0 T4 (fun y100 T99 =>
  post y100 T99)) ∧ (¬ y7 = 323 →
  ((y7 = 324 →
  wX8_statement_b481 B a0   T4 post) ∧ (¬ y7 = 324 →
  ((y7 = 325 →
  wX8_statement_b481 B a0   T4 post) ∧ (¬ y7 = 325 →
  ((y7 = 326 →
  wX8_statement_b481 B a0   T4 post) ∧ (¬ y7 = 326 →
  ((y7 = 327 →
  wX8_statement_b481 B a0   T4 post) ∧ (¬ y7 = 327 →
  ((y7 = 328 →
  wX8_statement_b481 B a0   T4 post) ∧ (¬ y7 = 328 →
  ((y7 = 329 →
  wX8_order a0 36 2 5 T4 (fun y108 T107 =>
  post y108 T107)) ∧ (¬ y7 = 329 →
  ((y7 = 330 →
  wX8_order a0 37 2 5 T4 (fun y111 T110 =>
  post y111 T110)) ∧ (¬ y7 = 330 →
  ((y7 = 331 →
  wX8_order a0 38 3 5 T4 (fun y114 T113 =>
  post y114 T113)) ∧ (¬ y7 = 331 →
  ((y7 = 332 →
  wX8_order a0 39 2 5 T4 (fun y117 T116 =>
  post y117 T116)) ∧ (¬ y7 = 332 →
  wX8_statement_b481 B a0   T4 post)))))))))))))))))))))))))))))))))))))))))))))))))))))))))))))))))))))))))))))))))))))))))))))))))))))))))))))))))))))))))))))))))))))))))))))))))))))) ∧ ((kp_I S 1805 b1) = 123 →
  B a0 S (fun y119 T118 =>
  post y119 T118)))
