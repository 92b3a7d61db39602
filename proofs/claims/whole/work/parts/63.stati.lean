set_option maxHeartbeats 4000000 in
set_option maxRecDepth 100000 in
theorem c_X8_statement (l : Launch) (D : va_G) (cy : Nat → ClassId) (ad : (Nat → Nat) × (Nat → Nat)) (F L : Nat) (B : Nat → kp_S → (Int32 → kp_S → Prop) → Prop) (hB : ∀ (S : kp_S) (a0 : Nat) (post : Int32 → kp_S → Prop), kp_ok S → kp_is S a0 8 → B a0 S post → kp_M l yX8_block cX8_block 5 (some .int) { frames := F, cells := 0, slots := 0, locals := L } D cy ad S [.ref a0] 0 0 (fun A => kp_Qi D cy A S post)) (hF : 191 ≤ F) (hL : 4387 ≤ L) (S : kp_S) (a0 : Nat) (post : Int32 → kp_S → Prop) (hS : kp_ok S) (f_a0 : kp_is S a0 8) (hw : wX8_statement B a0 S post) : kp_M l yX8_statement cX8_statement 2 (some .int) { frames := F + 6, cells := 0, slots := 0, locals := L + 151 } D cy ad S [.ref a0] 0 0 (fun A => kp_Qi D cy A S post) := by
  refine kp_start (own := RX8) (by decide) rfl (Nat.le_of_ble_eq_true rfl) hS ?_
  intro p e s m below meth c A ls X hr hlocks hname h hl
  have hle : kp_le S S := kp_le.rf
  have hl : lv_has ls 2 [(0, .ref a0)] := hl
  have j481 : ∀  (Sn : kp_S) (H : Heap) (locs : List Loc) (ls : Array Slot), lv_has ls 2 [(0, .ref a0)] → kp_H D cy A Sn s.heap H locs → kp_le S Sn → kp_is Sn a0 8 → wX8_statement_b481 B a0   Sn post → W p l e { frames := F + 6, cells := 0, slots := 0, locals := L + 151 } s m ([.ref a0] : List Value).toArray below meth c H locs 0 0 (MQ below (kp_Qi D cy A S post) ([.ref a0] : List Value).toArray s 0 0 A) (F0 m 481 ls []) := by
    intro  Sn H locs ls hl h hle f_a0 hw
    unfold wX8_statement_b481 at hw
    refine lv_aload_n X.1 X.2.1 dX8_statement_481 rfl (lv_at hl 0 rfl) ?_
    obtain ⟨b1001, e_b1001, hw⟩ := hw
    have f_b1001 := h.2.2.2.rf (c := 8) (k := 0) f_a0 (by decide) (by decide) e_b1001 (t := 9) rfl
    refine kp_get X h f_a0 ff_8_14.l (v := .ref b1001) (congrArg va_rf e_b1001) dX8_statement_482 ?_
    refine kp_callv X h (kp_runV (rm := { frames := 1, cells := 0, slots := 0, locals := 21 }) (mc := 0) (ms := 0) (rest := []) (Qc := fun A => kp_Qv D cy A Sn _) X h (c_X9_refuse l D cy ad Sn b1001 _ h.2.2.2 f_b1001 hw) f_b1001 cv_8_69 ⟨by dsimp only; omega, by dsimp only; omega, rfl, rfl, by dsimp only; omega, by dsimp only; omega⟩ rfl hl.1 rfl (Nat.le_of_ble_eq_true rfl) dX8_statement_485) (fun T1002 hw l_T1002 H locs h => ?_)
    have f_a0 := l_T1002.is f_a0
    have f_b1001 := l_T1002.is f_b1001
    have hle := hle.tr l_T1002
    refine lv_iconst (v := 0) X.1 X.2.1 dX8_statement_488 (by decide) ?_
    exact kp_reti X hr hlocks h hle rfl hw dX8_statement_489
  have j451 : ∀ (xn1 : Int32) (Sn : kp_S) (H : Heap) (locs : List Loc) (ls : Array Slot), lv_has ls 2 [(0, .ref a0), (1, .int xn1)] → kp_H D cy A Sn s.heap H locs → kp_le S Sn → kp_is Sn a0 8 → wX8_statement_b451 B a0 xn1  Sn post → W p l e { frames := F + 6, cells := 0, slots := 0, locals := L + 151 } s m ([.ref a0] : List Value).toArray below meth c H locs 0 0 (MQ below (kp_Qi D cy A S post) ([.ref a0] : List Value).toArray s 0 0 A) (F0 m 451 ls []) := by
    intro xn1 Sn H locs ls hl h hle f_a0 hw
    unfold wX8_statement_b451 at hw
    refine lv_aload_n X.1 X.2.1 dX8_statement_451 rfl (lv_at hl 0 rfl) ?_
    refine lv_lconst (v := 0) X.1 X.2.1 dX8_statement_452 (by decide) ?_
    refine lv_iload_n X.1 X.2.1 dX8_statement_453 rfl (lv_at hl 1 rfl) ?_
    refine kp_calli X h (kp_runV (rm := { frames := F + 4, cells := 0, slots := 0, locals := L + 105 }) (mc := 0) (ms := 0) (rest := []) (Qc := fun A => kp_Qi D cy A Sn _) X h (c_X8_loop l D cy ad F L B hB hF hL Sn a0 0 xn1 _ h.2.2.2 f_a0 hw) f_a0 cv_8_182 ⟨by dsimp only; omega, by dsimp only; omega, rfl, rfl, by dsimp only; omega, by dsimp only; omega⟩ rfl hl.1 rfl (Nat.le_of_ble_eq_true rfl) dX8_statement_454) (fun y2002 T2001 hw l_T2001 H locs h => ?_)
    have f_a0 := l_T2001.is f_a0
    have hle := hle.tr l_T2001
    exact kp_reti X hr hlocks h hle rfl hw dX8_statement_457
  unfold wX8_statement at hw
  have h : kp_H D cy A S s.heap s.heap [] := h
  revert h
  intro h
  refine lv_aload_n X.1 X.2.1 dX8_statement_0 rfl (lv_at hl 0 rfl) ?_
  obtain ⟨b1, e_b1, hw⟩ := hw
  have f_b1 := h.2.2.2.rf (c := 8) (k := 0) f_a0 (by decide) (by decide) e_b1 (t := 9) rfl
  refine kp_get X h f_a0 ff_8_14.l (v := .ref b1) (congrArg va_rf e_b1) dX8_statement_1 ?_
  refine kp_get X h f_b1 fp_8_66.l (v := .int (kp_I S 1805 b1)) rfl dX8_statement_4 ?_
  refine lv_bipush (v := 123) X.1 X.2.1 dX8_statement_7 (by decide) ?_
  refine lv_icmp_ne (tgt := 17) X.1 X.2.1 dX8_statement_9 (by decide) (fun c120 => ?_) (fun c120 => ?_)
  · have hw := hw.1 c120
    refine lv_aload_n X.1 X.2.1 dX8_statement_17 rfl (lv_at hl 0 rfl) ?_
    refine kp_get X h f_a0 ff_8_14.l (v := .ref b1) (congrArg va_rf e_b1) dX8_statement_18 ?_
    refine kp_get X h f_b1 fp_8_93.l (v := .int (kp_I S 1806 b1)) rfl dX8_statement_21 ?_
    refine lv_topi (fun y2 e_y2 => ?_)
    have hw := hw y2 e_y2
    refine lv_istore_n (lv' := [(1, .int y2), (0, .ref a0)]) X.1 X.2.1 dX8_statement_24 rfl hl (by decide) rfl (fun ls hl => ?_)
    refine lv_aload_n X.1 X.2.1 dX8_statement_25 rfl (lv_at hl 1 rfl) ?_
    obtain ⟨b3, e_b3, hw⟩ := hw
    have f_b3 := h.2.2.2.rf (c := 8) (k := 3) f_a0 (by decide) (by decide) e_b3 (t := 0) rfl
    refine kp_get X h f_a0 fp_8_27.l (v := .ref b3) (congrArg va_rf e_b3) dX8_statement_26 ?_
    refine lv_bipush (v := 30) X.1 X.2.1 dX8_statement_29 (by decide) ?_
    refine lv_iload_n X.1 X.2.1 dX8_statement_31 rfl (lv_at hl 0 rfl) ?_
    refine kp_calli X h (kp_runV (rm := { frames := 1, cells := 0, slots := 0, locals := 22 }) (mc := 0) (ms := 0) (rest := []) (Qc := fun A => kp_Qi D cy A S _) X h (c_X0_add_ l D cy ad S b3 30 y2 _ h.2.2.2 f_b3 hw) f_b3 cv_8_154 ⟨by dsimp only; omega, by dsimp only; omega, rfl, rfl, by dsimp only; omega, by dsimp only; omega⟩ rfl hl.1 rfl (Nat.le_of_ble_eq_true rfl) dX8_statement_32) (fun y5 T4 hw l_T4 H locs h => ?_)
    have f_a0 := l_T4.is f_a0
    have f_b1 := l_T4.is f_b1
    have f_b3 := l_T4.is f_b3
    have hle := hle.tr l_T4
    refine lv_pop X.1 X.2.1 dX8_statement_35 rfl ?_
    refine lv_aload_n X.1 X.2.1 dX8_statement_36 rfl (lv_at hl 1 rfl) ?_
    obtain ⟨b6, e_b6, hw⟩ := hw
    have f_b6 := h.2.2.2.rf (c := 8) (k := 0) f_a0 (by decide) (by decide) e_b6 (t := 9) rfl
    refine kp_get X h f_a0 ff_8_14.l (v := .ref b6) (congrArg va_rf e_b6) dX8_statement_37 ?_
    refine kp_get X h f_b6 fp_8_66.l (v := .int (kp_I T4 1805 b6)) rfl dX8_statement_40 ?_
    refine lv_topi (fun y7 e_y7 => ?_)
    have hw := hw y7 e_y7
    by_cases c8 : y7 = 259
    · have hw := hw.1 c8
      refine lv_tableIn (off := 309) (tgt := 352) X.1 X.2.1 dX8_statement_43 (by rw [c8]; decide) (by rw [c8]; decide) (by rw [c8]; decide) (by decide) ?_
      refine lv_aload_n X.1 X.2.1 dX8_statement_352 rfl (lv_at hl 1 rfl) ?_
      refine lv_iload_n X.1 X.2.1 dX8_statement_353 rfl (lv_at hl 0 rfl) ?_
      refine kp_calli X h (kp_runV (rm := { frames := F + 5, cells := 0, slots := 0, locals := L + 128 }) (mc := 0) (ms := 0) (rest := []) (Qc := fun A => kp_Qi D cy A T4 _) X h (c_X8_named l D cy ad F L B hB hF hL T4 a0 y2 _ h.2.2.2 f_a0 hw) f_a0 cv_8_157 ⟨by dsimp only; omega, by dsimp only; omega, rfl, rfl, by dsimp only; omega, by dsimp only; omega⟩ rfl hl.1 rfl (Nat.le_of_ble_eq_true rfl) dX8_statement_354) (fun y10 T9 hw l_T9 H locs h => ?_)
      have f_a0 := l_T9.is f_a0
      have f_b1 := l_T9.is f_b1
      have f_b3 := l_T9.is f_b3
      have f_b6 := l_T9.is f_b6
      have hle := hle.tr l_T9
      exact kp_reti X hr hlocks h hle rfl hw dX8_statement_357
    have hw := hw.2 c8
    by_cases c11 : y7 = 260
    · have hw := hw.1 c11
      refine lv_tableIn (off := 438) (tgt := 481) X.1 X.2.1 dX8_statement_43 (by rw [c11]; decide) (by rw [c11]; decide) (by rw [c11]; decide) (by decide) ?_
      exact j481  T4 _ _ ls (lv_sub hl [1] rfl) h hle f_a0 hw
    have hw := hw.2 c11
    by_cases c12 : y7 = 261
    · have hw := hw.1 c12
      refine lv_tableIn (off := 438) (tgt := 481) X.1 X.2.1 dX8_statement_43 (by rw [c12]; decide) (by rw [c12]; decide) (by rw [c12]; decide) (by decide) ?_
      exact j481  T4 _ _ ls (lv_sub hl [1] rfl) h hle f_a0 hw
    have hw := hw.2 c12
    by_cases c13 : y7 = 262
    · have hw := hw.1 c13
      refine lv_tableIn (off := 438) (tgt := 481) X.1 X.2.1 dX8_statement_43 (by rw [c13]; decide) (by rw [c13]; decide) (by rw [c13]; decide) (by decide) ?_
      exact j481  T4 _ _ ls (lv_sub hl [1] rfl) h hle f_a0 hw
    have hw := hw.2 c13
    by_cases c14 : y7 = 263
    · have hw := hw.1 c14
      refine lv_tableIn (off := 438) (tgt := 481) X.1 X.2.1 dX8_statement_43 (by rw [c14]; decide) (by rw [c14]; decide) (by rw [c14]; decide) (by decide) ?_
      exact j481  T4 _ _ ls (lv_sub hl [1] rfl) h hle f_a0 hw
    have hw := hw.2 c14
    by_cases c15 : y7 = 264
    · have hw := hw.1 c15
      refine lv_tableIn (off := 438) (tgt := 481) X.1 X.2.1 dX8_statement_43 (by rw [c15]; decide) (by rw [c15]; decide) (by rw [c15]; decide) (by decide) ?_
      exact j481  T4 _ _ ls (lv_sub hl [1] rfl) h hle f_a0 hw
    have hw := hw.2 c15
    by_cases c16 : y7 = 265
    · have hw := hw.1 c16
      refine lv_tableIn (off := 438) (tgt := 481) X.1 X.2.1 dX8_statement_43 (by rw [c16]; decide) (by rw [c16]; decide) (by rw [c16]; decide) (by decide) ?_
      exact j481  T4 _ _ ls (lv_sub hl [1] rfl) h hle f_a0 hw
    have hw := hw.2 c16
    by_cases c17 : y7 = 266
    · have hw := hw.1 c17
      refine lv_tableIn (off := 438) (tgt := 481) X.1 X.2.1 dX8_statement_43 (by rw [c17]; decide) (by rw [c17]; decide) (by rw [c17]; decide) (by decide) ?_
      exact j481  T4 _ _ ls (lv_sub hl [1] rfl) h hle f_a0 hw
    have hw := hw.2 c17
    by_cases c18 : y7 = 267
    · have hw := hw.1 c18
      refine lv_tableIn (off := 438) (tgt := 481) X.1 X.2.1 dX8_statement_43 (by rw [c18]; decide) (by rw [c18]; decide) (by rw [c18]; decide) (by decide) ?_
      exact j481  T4 _ _ ls (lv_sub hl [1] rfl) h hle f_a0 hw
    have hw := hw.2 c18
    by_cases c19 : y7 = 268
    · have hw := hw.1 c19
      refine lv_tableIn (off := 438) (tgt := 481) X.1 X.2.1 dX8_statement_43 (by rw [c19]; decide) (by rw [c19]; decide) (by rw [c19]; decide) (by decide) ?_
      exact j481  T4 _ _ ls (lv_sub hl [1] rfl) h hle f_a0 hw
    have hw := hw.2 c19
    by_cases c20 : y7 = 269
    · have hw := hw.1 c20
      refine lv_tableIn (off := 438) (tgt := 481) X.1 X.2.1 dX8_statement_43 (by rw [c20]; decide) (by rw [c20]; decide) (by rw [c20]; decide) (by decide) ?_
      exact j481  T4 _ _ ls (lv_sub hl [1] rfl) h hle f_a0 hw
    have hw := hw.2 c20
    by_cases c21 : y7 = 270
    · have hw := hw.1 c21
      refine lv_tableIn (off := 438) (tgt := 481) X.1 X.2.1 dX8_statement_43 (by rw [c21]; decide) (by rw [c21]; decide) (by rw [c21]; decide) (by decide) ?_
      exact j481  T4 _ _ ls (lv_sub hl [1] rfl) h hle f_a0 hw
    have hw := hw.2 c21
    by_cases c22 : y7 = 271
    · have hw := hw.1 c22
      refine lv_tableIn (off := 438) (tgt := 481) X.1 X.2.1 dX8_statement_43 (by rw [c22]; decide) (by rw [c22]; decide) (by rw [c22]; decide) (by decide) ?_
      exact j481  T4 _ _ ls (lv_sub hl [1] rfl) h hle f_a0 hw
    have hw := hw.2 c22
    by_cases c23 : y7 = 272
    · have hw := hw.1 c23
      refine lv_tableIn (off := 438) (tgt := 481) X.1 X.2.1 dX8_statement_43 (by rw [c23]; decide) (by rw [c23]; decide) (by rw [c23]; decide) (by decide) ?_
      exact j481  T4 _ _ ls (lv_sub hl [1] rfl) h hle f_a0 hw
    have hw := hw.2 c23
    by_cases c24 : y7 = 273
    · have hw := hw.1 c24
      refine lv_tableIn (off := 438) (tgt := 481) X.1 X.2.1 dX8_statement_43 (by rw [c24]; decide) (by rw [c24]; decide) (by rw [c24]; decide) (by decide) ?_
      exact j481  T4 _ _ ls (lv_sub hl [1] rfl) h hle f_a0 hw
    have hw := hw.2 c24
    by_cases c25 : y7 = 274
    · have hw := hw.1 c25
      refine lv_tableIn (off := 438) (tgt := 481) X.1 X.2.1 dX8_statement_43 (by rw [c25]; decide) (by rw [c25]; decide) (by rw [c25]; decide) (by decide) ?_
      exact j481  T4 _ _ ls (lv_sub hl [1] rfl) h hle f_a0 hw
    have hw := hw.2 c25
    by_cases c26 : y7 = 275
    · have hw := hw.1 c26
      refine lv_tableIn (off := 438) (tgt := 481) X.1 X.2.1 dX8_statement_43 (by rw [c26]; decide) (by rw [c26]; decide) (by rw [c26]; decide) (by decide) ?_
      exact j481  T4 _ _ ls (lv_sub hl [1] rfl) h hle f_a0 hw
    have hw := hw.2 c26
    by_cases c27 : y7 = 276
    · have hw := hw.1 c27
      refine lv_tableIn (off := 438) (tgt := 481) X.1 X.2.1 dX8_statement_43 (by rw [c27]; decide) (by rw [c27]; decide) (by rw [c27]; decide) (by decide) ?_
      exact j481  T4 _ _ ls (lv_sub hl [1] rfl) h hle f_a0 hw
    have hw := hw.2 c27
    by_cases c28 : y7 = 277
    · have hw := hw.1 c28
      refine lv_tableIn (off := 438) (tgt := 481) X.1 X.2.1 dX8_statement_43 (by rw [c28]; decide) (by rw [c28]; decide) (by rw [c28]; decide) (by decide) ?_
      exact j481  T4 _ _ ls (lv_sub hl [1] rfl) h hle f_a0 hw
    have hw := hw.2 c28
    by_cases c29 : y7 = 278
    · have hw := hw.1 c29
      refine lv_tableIn (off := 438) (tgt := 481) X.1 X.2.1 dX8_statement_43 (by rw [c29]; decide) (by rw [c29]; decide) (by rw [c29]; decide) (by decide) ?_
      exact j481  T4 _ _ ls (lv_sub hl [1] rfl) h hle f_a0 hw
    have hw := hw.2 c29
    by_cases c30 : y7 = 279
    · have hw := hw.1 c30
      refine lv_tableIn (off := 438) (tgt := 481) X.1 X.2.1 dX8_statement_43 (by rw [c30]; decide) (by rw [c30]; decide) (by rw [c30]; decide) (by decide) ?_
      exact j481  T4 _ _ ls (lv_sub hl [1] rfl) h hle f_a0 hw
    have hw := hw.2 c30
    by_cases c31 : y7 = 280
    · have hw := hw.1 c31
      refine lv_tableIn (off := 438) (tgt := 481) X.1 X.2.1 dX8_statement_43 (by rw [c31]; decide) (by rw [c31]; decide) (by rw [c31]; decide) (by decide) ?_
      exact j481  T4 _ _ ls (lv_sub hl [1] rfl) h hle f_a0 hw
    have hw := hw.2 c31
    by_cases c32 : y7 = 281
    · have hw := hw.1 c32
      refine lv_tableIn (off := 438) (tgt := 481) X.1 X.2.1 dX8_statement_43 (by rw [c32]; decide) (by rw [c32]; decide) (by rw [c32]; decide) (by decide) ?_
      exact j481  T4 _ _ ls (lv_sub hl [1] rfl) h hle f_a0 hw
    have hw := hw.2 c32
    by_cases c33 : y7 = 282
    · have hw := hw.1 c33
      refine lv_tableIn (off := 438) (tgt := 481) X.1 X.2.1 dX8_statement_43 (by rw [c33]; decide) (by rw [c33]; decide) (by rw [c33]; decide) (by decide) ?_
      exact j481  T4 _ _ ls (lv_sub hl [1] rfl) h hle f_a0 hw
    have hw := hw.2 c33
    by_cases c34 : y7 = 283
    · have hw := hw.1 c34
      refine lv_tableIn (off := 438) (tgt := 481) X.1 X.2.1 dX8_statement_43 (by rw [c34]; decide) (by rw [c34]; decide) (by rw [c34]; decide) (by decide) ?_
      exact j481  T4 _ _ ls (lv_sub hl [1] rfl) h hle f_a0 hw
    have hw := hw.2 c34
    by_cases c35 : y7 = 284
    · have hw := hw.1 c35
      refine lv_tableIn (off := 438) (tgt := 481) X.1 X.2.1 dX8_statement_43 (by rw [c35]; decide) (by rw [c35]; decide) (by rw [c35]; decide) (by decide) ?_
      exact j481  T4 _ _ ls (lv_sub hl [1] rfl) h hle f_a0 hw
    have hw := hw.2 c35
    by_cases c36 : y7 = 285
    · have hw := hw.1 c36
      refine lv_tableIn (off := 438) (tgt := 481) X.1 X.2.1 dX8_statement_43 (by rw [c36]; decide) (by rw [c36]; decide) (by rw [c36]; decide) (by decide) ?_
      exact j481  T4 _ _ ls (lv_sub hl [1] rfl) h hle f_a0 hw
    have hw := hw.2 c36
    by_cases c37 : y7 = 286
    · have hw := hw.1 c37
      refine lv_tableIn (off := 438) (tgt := 481) X.1 X.2.1 dX8_statement_43 (by rw [c37]; decide) (by rw [c37]; decide) (by rw [c37]; decide) (by decide) ?_
      exact j481  T4 _ _ ls (lv_sub hl [1] rfl) h hle f_a0 hw
    have hw := hw.2 c37
    by_cases c38 : y7 = 287
    · have hw := hw.1 c38
      refine lv_tableIn (off := 438) (tgt := 481) X.1 X.2.1 dX8_statement_43 (by rw [c38]; decide) (by rw [c38]; decide) (by rw [c38]; decide) (by decide) ?_
      exact j481  T4 _ _ ls (lv_sub hl [1] rfl) h hle f_a0 hw
    have hw := hw.2 c38
    by_cases c39 : y7 = 288
    · have hw := hw.1 c39
      refine lv_tableIn (off := 438) (tgt := 481) X.1 X.2.1 dX8_statement_43 (by rw [c39]; decide) (by rw [c39]; decide) (by rw [c39]; decide) (by decide) ?_
      exact j481  T4 _ _ ls (lv_sub hl [1] rfl) h hle f_a0 hw
    have hw := hw.2 c39
    by_cases c40 : y7 = 289
    · have hw := hw.1 c40
      refine lv_tableIn (off := 438) (tgt := 481) X.1 X.2.1 dX8_statement_43 (by rw [c40]; decide) (by rw [c40]; decide) (by rw [c40]; decide) (by decide) ?_
      exact j481  T4 _ _ ls (lv_sub hl [1] rfl) h hle f_a0 hw
    have hw := hw.2 c40
    by_cases c41 : y7 = 290
    · have hw := hw.1 c41
      refine lv_tableIn (off := 438) (tgt := 481) X.1 X.2.1 dX8_statement_43 (by rw [c41]; decide) (by rw [c41]; decide) (by rw [c41]; decide) (by decide) ?_
      exact j481  T4 _ _ ls (lv_sub hl [1] rfl) h hle f_a0 hw
    have hw := hw.2 c41
    by_cases c42 : y7 = 291
    · have hw := hw.1 c42
      refine lv_tableIn (off := 438) (tgt := 481) X.1 X.2.1 dX8_statement_43 (by rw [c42]; decide) (by rw [c42]; decide) (by rw [c42]; decide) (by decide) ?_
      exact j481  T4 _ _ ls (lv_sub hl [1] rfl) h hle f_a0 hw
    have hw := hw.2 c42
    by_cases c43 : y7 = 292
    · have hw := hw.1 c43
      refine lv_tableIn (off := 438) (tgt := 481) X.1 X.2.1 dX8_statement_43 (by rw [c43]; decide) (by rw [c43]; decide) (by rw [c43]; decide) (by decide) ?_
      exact j481  T4 _ _ ls (lv_sub hl [1] rfl) h hle f_a0 hw
    have hw := hw.2 c43
    by_cases c44 : y7 = 293
    · have hw := hw.1 c44
      refine lv_tableIn (off := 438) (tgt := 481) X.1 X.2.1 dX8_statement_43 (by rw [c44]; decide) (by rw [c44]; decide) (by rw [c44]; decide) (by decide) ?_
      exact j481  T4 _ _ ls (lv_sub hl [1] rfl) h hle f_a0 hw
    have hw := hw.2 c44
    by_cases c45 : y7 = 294
    · have hw := hw.1 c45
      refine lv_tableIn (off := 438) (tgt := 481) X.1 X.2.1 dX8_statement_43 (by rw [c45]; decide) (by rw [c45]; decide) (by rw [c45]; decide) (by decide) ?_
      exact j481  T4 _ _ ls (lv_sub hl [1] rfl) h hle f_a0 hw
    have hw := hw.2 c45
    by_cases c46 : y7 = 295
    · have hw := hw.1 c46
      refine lv_tableIn (off := 438) (tgt := 481) X.1 X.2.1 dX8_statement_43 (by rw [c46]; decide) (by rw [c46]; decide) (by rw [c46]; decide) (by decide) ?_
      exact j481  T4 _ _ ls (lv_sub hl [1] rfl) h hle f_a0 hw
    have hw := hw.2 c46
    by_cases c47 : y7 = 296
    · have hw := hw.1 c47
      refine lv_tableIn (off := 438) (tgt := 481) X.1 X.2.1 dX8_statement_43 (by rw [c47]; decide) (by rw [c47]; decide) (by rw [c47]; decide) (by decide) ?_
      exact j481  T4 _ _ ls (lv_sub hl [1] rfl) h hle f_a0 hw
    have hw := hw.2 c47
    by_cases c48 : y7 = 297
    · have hw := hw.1 c48
      refine lv_tableIn (off := 438) (tgt := 481) X.1 X.2.1 dX8_statement_43 (by rw [c48]; decide) (by rw [c48]; decide) (by rw [c48]; decide) (by decide) ?_
      exact j481  T4 _ _ ls (lv_sub hl [1] rfl) h hle f_a0 hw
    have hw := hw.2 c48
    by_cases c49 : y7 = 298
    · have hw := hw.1 c49
      refine lv_tableIn (off := 438) (tgt := 481) X.1 X.2.1 dX8_statement_43 (by rw [c49]; decide) (by rw [c49]; decide) (by rw [c49]; decide) (by decide) ?_
      exact j481  T4 _ _ ls (lv_sub hl [1] rfl) h hle f_a0 hw
    have hw := hw.2 c49
    by_cases c50 : y7 = 299
    · have hw := hw.1 c50
      refine lv_tableIn (off := 438) (tgt := 481) X.1 X.2.1 dX8_statement_43 (by rw [c50]; decide) (by rw [c50]; decide) (by rw [c50]; decide) (by decide) ?_
      exact j481  T4 _ _ ls (lv_sub hl [1] rfl) h hle f_a0 hw
    have hw := hw.2 c50
    by_cases c51 : y7 = 300
    · have hw := hw.1 c51
      refine lv_tableIn (off := 438) (tgt := 481) X.1 X.2.1 dX8_statement_43 (by rw [c51]; decide) (by rw [c51]; decide) (by rw [c51]; decide) (by decide) ?_
      exact j481  T4 _ _ ls (lv_sub hl [1] rfl) h hle f_a0 hw
    have hw := hw.2 c51
    by_cases c52 : y7 = 301
    · have hw := hw.1 c52
      refine lv_tableIn (off := 315) (tgt := 358) X.1 X.2.1 dX8_statement_43 (by rw [c52]; decide) (by rw [c52]; decide) (by rw [c52]; decide) (by decide) ?_
      refine lv_aload_n X.1 X.2.1 dX8_statement_358 rfl (lv_at hl 1 rfl) ?_
      refine kp_calli X h (kp_runV (rm := { frames := 190, cells := 0, slots := 0, locals := 4362 }) (mc := 0) (ms := 0) (rest := []) (Qc := fun A => kp_Qi D cy A T4 _) X h (c_X8_variable l D cy ad T4 a0 _ h.2.2.2 f_a0 hw) f_a0 cv_8_160 ⟨by dsimp only; omega, by dsimp only; omega, rfl, rfl, by dsimp only; omega, by dsimp only; omega⟩ rfl hl.1 rfl (Nat.le_of_ble_eq_true rfl) dX8_statement_359) (fun y54 T53 hw l_T53 H locs h => ?_)
      have f_a0 := l_T53.is f_a0
      have f_b1 := l_T53.is f_b1
      have f_b3 := l_T53.is f_b3
      have f_b6 := l_T53.is f_b6
      have hle := hle.tr l_T53
      exact kp_reti X hr hlocks h hle rfl hw dX8_statement_362
    have hw := hw.2 c52
    by_cases c55 : y7 = 302
    · have hw := hw.1 c55
      refine lv_tableIn (off := 320) (tgt := 363) X.1 X.2.1 dX8_statement_43 (by rw [c55]; decide) (by rw [c55]; decide) (by rw [c55]; decide) (by decide) ?_
      refine lv_aload_n X.1 X.2.1 dX8_statement_363 rfl (lv_at hl 1 rfl) ?_
      refine lv_bipush (v := 35) X.1 X.2.1 dX8_statement_364 (by decide) ?_
      refine lv_iconst (v := 1) X.1 X.2.1 dX8_statement_366 (by decide) ?_
      refine lv_iconst (v := 1) X.1 X.2.1 dX8_statement_367 (by decide) ?_
      refine kp_calli X h (kp_runV (rm := { frames := 190, cells := 0, slots := 0, locals := 4362 }) (mc := 0) (ms := 0) (rest := []) (Qc := fun A => kp_Qi D cy A T4 _) X h (c_X8_order l D cy ad T4 a0 35 1 1 _ h.2.2.2 f_a0 hw) f_a0 cv_8_163 ⟨by dsimp only; omega, by dsimp only; omega, rfl, rfl, by dsimp only; omega, by dsimp only; omega⟩ rfl hl.1 rfl (Nat.le_of_ble_eq_true rfl) dX8_statement_368) (fun y57 T56 hw l_T56 H locs h => ?_)
      have f_a0 := l_T56.is f_a0
      have f_b1 := l_T56.is f_b1
      have f_b3 := l_T56.is f_b3
      have f_b6 := l_T56.is f_b6
      have hle := hle.tr l_T56
      exact kp_reti X hr hlocks h hle rfl hw dX8_statement_371
    have hw := hw.2 c55
    by_cases c58 : y7 = 303
    · have hw := hw.1 c58
      refine lv_tableIn (off := 398) (tgt := 441) X.1 X.2.1 dX8_statement_43 (by rw [c58]; decide) (by rw [c58]; decide) (by rw [c58]; decide) (by decide) ?_
      refine lv_aload_n X.1 X.2.1 dX8_statement_441 rfl (lv_at hl 1 rfl) ?_
      refine kp_calli X h (kp_runV (rm := { frames := F + 1, cells := 0, slots := 0, locals := L + 24 }) (mc := 0) (ms := 0) (rest := []) (Qc := fun A => kp_Qi D cy A T4 _) X h (c_X8_ifElse l D cy ad F L B hB hF hL T4 a0 _ h.2.2.2 f_a0 hw) f_a0 cv_8_176 ⟨by dsimp only; omega, by dsimp only; omega, rfl, rfl, by dsimp only; omega, by dsimp only; omega⟩ rfl hl.1 rfl (Nat.le_of_ble_eq_true rfl) dX8_statement_442) (fun y60 T59 hw l_T59 H locs h => ?_)
      have f_a0 := l_T59.is f_a0
      have f_b1 := l_T59.is f_b1
      have f_b3 := l_T59.is f_b3
      have f_b6 := l_T59.is f_b6
      have hle := hle.tr l_T59
      exact kp_reti X hr hlocks h hle rfl hw dX8_statement_445
    have hw := hw.2 c58
    by_cases c61 : y7 = 304
    · have hw := hw.1 c61
      refine lv_tableIn (off := 438) (tgt := 481) X.1 X.2.1 dX8_statement_43 (by rw [c61]; decide) (by rw [c61]; decide) (by rw [c61]; decide) (by decide) ?_
      exact j481  T4 _ _ ls (lv_sub hl [1] rfl) h hle f_a0 hw
    have hw := hw.2 c61
    by_cases c62 : y7 = 305
    · have hw := hw.1 c62
      refine lv_tableIn (off := 408) (tgt := 451) X.1 X.2.1 dX8_statement_43 (by rw [c62]; decide) (by rw [c62]; decide) (by rw [c62]; decide) (by decide) ?_
      exact j451 y2 T4 _ _ ls (lv_sub hl [1, 0] rfl) h hle f_a0 hw
    have hw := hw.2 c62
    by_cases c63 : y7 = 306
    · have hw := hw.1 c63
      refine lv_tableIn (off := 408) (tgt := 451) X.1 X.2.1 dX8_statement_43 (by rw [c63]; decide) (by rw [c63]; decide) (by rw [c63]; decide) (by decide) ?_
      exact j451 y2 T4 _ _ ls (lv_sub hl [1, 0] rfl) h hle f_a0 hw
    have hw := hw.2 c63
    by_cases c64 : y7 = 307
    · have hw := hw.1 c64
      refine lv_tableIn (off := 438) (tgt := 481) X.1 X.2.1 dX8_statement_43 (by rw [c64]; decide) (by rw [c64]; decide) (by rw [c64]; decide) (by decide) ?_
      exact j481  T4 _ _ ls (lv_sub hl [1] rfl) h hle f_a0 hw
    have hw := hw.2 c64
    by_cases c65 : y7 = 308
    · have hw := hw.1 c65
      refine lv_tableIn (off := 438) (tgt := 481) X.1 X.2.1 dX8_statement_43 (by rw [c65]; decide) (by rw [c65]; decide) (by rw [c65]; decide) (by decide) ?_
      exact j481  T4 _ _ ls (lv_sub hl [1] rfl) h hle f_a0 hw
    have hw := hw.2 c65
    by_cases c66 : y7 = 309
    · have hw := hw.1 c66
      refine lv_tableIn (off := 379) (tgt := 422) X.1 X.2.1 dX8_statement_43 (by rw [c66]; decide) (by rw [c66]; decide) (by rw [c66]; decide) (by decide) ?_
      refine lv_aload_n X.1 X.2.1 dX8_statement_422 rfl (lv_at hl 1 rfl) ?_
      refine lv_bipush (v := 40) X.1 X.2.1 dX8_statement_423 (by decide) ?_
      refine kp_calli X h (kp_runV (rm := { frames := 7, cells := 0, slots := 0, locals := 155 }) (mc := 0) (ms := 0) (rest := []) (Qc := fun A => kp_Qi D cy A T4 _) X h (c_X8_leaveOrAgain l D cy ad T4 a0 40 _ h.2.2.2 f_a0 hw) f_a0 cv_8_170 ⟨by dsimp only; omega, by dsimp only; omega, rfl, rfl, by dsimp only; omega, by dsimp only; omega⟩ rfl hl.1 rfl (Nat.le_of_ble_eq_true rfl) dX8_statement_425) (fun y68 T67 hw l_T67 H locs h => ?_)
      have f_a0 := l_T67.is f_a0
      have f_b1 := l_T67.is f_b1
      have f_b3 := l_T67.is f_b3
      have f_b6 := l_T67.is f_b6
      have hle := hle.tr l_T67
      exact kp_reti X hr hlocks h hle rfl hw dX8_statement_428
    have hw := hw.2 c66
    by_cases c69 : y7 = 310
    · have hw := hw.1 c69
      refine lv_tableIn (off := 386) (tgt := 429) X.1 X.2.1 dX8_statement_43 (by rw [c69]; decide) (by rw [c69]; decide) (by rw [c69]; decide) (by decide) ?_
      refine lv_aload_n X.1 X.2.1 dX8_statement_429 rfl (lv_at hl 1 rfl) ?_
      refine lv_bipush (v := 41) X.1 X.2.1 dX8_statement_430 (by decide) ?_
      refine kp_calli X h (kp_runV (rm := { frames := 7, cells := 0, slots := 0, locals := 155 }) (mc := 0) (ms := 0) (rest := []) (Qc := fun A => kp_Qi D cy A T4 _) X h (c_X8_leaveOrAgain l D cy ad T4 a0 41 _ h.2.2.2 f_a0 hw) f_a0 cv_8_170 ⟨by dsimp only; omega, by dsimp only; omega, rfl, rfl, by dsimp only; omega, by dsimp only; omega⟩ rfl hl.1 rfl (Nat.le_of_ble_eq_true rfl) dX8_statement_432) (fun y71 T70 hw l_T70 H locs h => ?_)
      have f_a0 := l_T70.is f_a0
      have f_b1 := l_T70.is f_b1
      have f_b3 := l_T70.is f_b3
      have f_b6 := l_T70.is f_b6
      have hle := hle.tr l_T70
      exact kp_reti X hr hlocks h hle rfl hw dX8_statement_435
    have hw := hw.2 c69
    by_cases c72 : y7 = 311
    · have hw := hw.1 c72
      refine lv_tableIn (off := 374) (tgt := 417) X.1 X.2.1 dX8_statement_43 (by rw [c72]; decide) (by rw [c72]; decide) (by rw [c72]; decide) (by decide) ?_
      refine lv_aload_n X.1 X.2.1 dX8_statement_417 rfl (lv_at hl 1 rfl) ?_
      refine kp_calli X h (kp_runV (rm := { frames := 190, cells := 0, slots := 0, locals := 4362 }) (mc := 0) (ms := 0) (rest := []) (Qc := fun A => kp_Qi D cy A T4 _) X h (c_X8_answer l D cy ad T4 a0 _ h.2.2.2 f_a0 hw) f_a0 cv_8_167 ⟨by dsimp only; omega, by dsimp only; omega, rfl, rfl, by dsimp only; omega, by dsimp only; omega⟩ rfl hl.1 rfl (Nat.le_of_ble_eq_true rfl) dX8_statement_418) (fun y74 T73 hw l_T73 H locs h => ?_)
      have f_a0 := l_T73.is f_a0
      have f_b1 := l_T73.is f_b1
      have f_b3 := l_T73.is f_b3
      have f_b6 := l_T73.is f_b6
      have hle := hle.tr l_T73
      exact kp_reti X hr hlocks h hle rfl hw dX8_statement_421
    have hw := hw.2 c72
    by_cases c75 : y7 = 312
    · have hw := hw.1 c75
      refine lv_tableIn (off := 365) (tgt := 408) X.1 X.2.1 dX8_statement_43 (by rw [c75]; decide) (by rw [c75]; decide) (by rw [c75]; decide) (by decide) ?_
      refine lv_aload_n X.1 X.2.1 dX8_statement_408 rfl (lv_at hl 1 rfl) ?_
      refine lv_bipush (v := 43) X.1 X.2.1 dX8_statement_409 (by decide) ?_
      refine lv_iconst (v := 1) X.1 X.2.1 dX8_statement_411 (by decide) ?_
      refine lv_iconst (v := 4) X.1 X.2.1 dX8_statement_412 (by decide) ?_
      refine kp_calli X h (kp_runV (rm := { frames := 190, cells := 0, slots := 0, locals := 4362 }) (mc := 0) (ms := 0) (rest := []) (Qc := fun A => kp_Qi D cy A T4 _) X h (c_X8_order l D cy ad T4 a0 43 1 4 _ h.2.2.2 f_a0 hw) f_a0 cv_8_163 ⟨by dsimp only; omega, by dsimp only; omega, rfl, rfl, by dsimp only; omega, by dsimp only; omega⟩ rfl hl.1 rfl (Nat.le_of_ble_eq_true rfl) dX8_statement_413) (fun y77 T76 hw l_T76 H locs h => ?_)
      have f_a0 := l_T76.is f_a0
      have f_b1 := l_T76.is f_b1
      have f_b3 := l_T76.is f_b3
      have f_b6 := l_T76.is f_b6
      have hle := hle.tr l_T76
      exact kp_reti X hr hlocks h hle rfl hw dX8_statement_416
    have hw := hw.2 c75
    by_cases c78 : y7 = 313
    · have hw := hw.1 c78
      refine lv_tableIn (off := 415) (tgt := 458) X.1 X.2.1 dX8_statement_43 (by rw [c78]; decide) (by rw [c78]; decide) (by rw [c78]; decide) (by decide) ?_
      refine lv_aload_n X.1 X.2.1 dX8_statement_458 rfl (lv_at hl 1 rfl) ?_
      refine kp_calli X h (kp_runV (rm := { frames := F + 1, cells := 0, slots := 0, locals := L + 24 }) (mc := 0) (ms := 0) (rest := []) (Qc := fun A => kp_Qi D cy A T4 _) X h (c_X8_hold l D cy ad F L B hB hF hL T4 a0 _ h.2.2.2 f_a0 hw) f_a0 cv_8_186 ⟨by dsimp only; omega, by dsimp only; omega, rfl, rfl, by dsimp only; omega, by dsimp only; omega⟩ rfl hl.1 rfl (Nat.le_of_ble_eq_true rfl) dX8_statement_459) (fun y80 T79 hw l_T79 H locs h => ?_)
      have f_a0 := l_T79.is f_a0
      have f_b1 := l_T79.is f_b1
      have f_b3 := l_T79.is f_b3
      have f_b6 := l_T79.is f_b6
      have hle := hle.tr l_T79
      exact kp_reti X hr hlocks h hle rfl hw dX8_statement_462
    have hw := hw.2 c78
    by_cases c81 : y7 = 314
    · have hw := hw.1 c81
      refine lv_tableIn (off := 426) (tgt := 469) X.1 X.2.1 dX8_statement_43 (by rw [c81]; decide) (by rw [c81]; decide) (by rw [c81]; decide) (by decide) ?_
      refine lv_aload_n X.1 X.2.1 dX8_statement_469 rfl (lv_at hl 1 rfl) ?_
      refine lv_iload_n X.1 X.2.1 dX8_statement_470 rfl (lv_at hl 0 rfl) ?_
      refine kp_calli X h (kp_runV (rm := { frames := F + 2, cells := 0, slots := 0, locals := L + 54 }) (mc := 0) (ms := 0) (rest := []) (Qc := fun A => kp_Qi D cy A T4 _) X h (c_X8_trial l D cy ad F L B hB hF hL T4 a0 y2 _ h.2.2.2 f_a0 hw) f_a0 cv_8_192 ⟨by dsimp only; omega, by dsimp only; omega, rfl, rfl, by dsimp only; omega, by dsimp only; omega⟩ rfl hl.1 rfl (Nat.le_of_ble_eq_true rfl) dX8_statement_471) (fun y83 T82 hw l_T82 H locs h => ?_)
      have f_a0 := l_T82.is f_a0
      have f_b1 := l_T82.is f_b1
      have f_b3 := l_T82.is f_b3
      have f_b6 := l_T82.is f_b6
      have hle := hle.tr l_T82
      exact kp_reti X hr hlocks h hle rfl hw dX8_statement_474
    have hw := hw.2 c81
    by_cases c84 : y7 = 315
    · have hw := hw.1 c84
      refine lv_tableIn (off := 438) (tgt := 481) X.1 X.2.1 dX8_statement_43 (by rw [c84]; decide) (by rw [c84]; decide) (by rw [c84]; decide) (by decide) ?_
      exact j481  T4 _ _ ls (lv_sub hl [1] rfl) h hle f_a0 hw
    have hw := hw.2 c84
    by_cases c85 : y7 = 316
    · have hw := hw.1 c85
      refine lv_tableIn (off := 438) (tgt := 481) X.1 X.2.1 dX8_statement_43 (by rw [c85]; decide) (by rw [c85]; decide) (by rw [c85]; decide) (by decide) ?_
      exact j481  T4 _ _ ls (lv_sub hl [1] rfl) h hle f_a0 hw
    have hw := hw.2 c85
    by_cases c86 : y7 = 317
    · have hw := hw.1 c86
      refine lv_tableIn (off := 438) (tgt := 481) X.1 X.2.1 dX8_statement_43 (by rw [c86]; decide) (by rw [c86]; decide) (by rw [c86]; decide) (by decide) ?_
      exact j481  T4 _ _ ls (lv_sub hl [1] rfl) h hle f_a0 hw
    have hw := hw.2 c86
    by_cases c87 : y7 = 318
    · have hw := hw.1 c87
      refine lv_tableIn (off := 432) (tgt := 475) X.1 X.2.1 dX8_statement_43 (by rw [c87]; decide) (by rw [c87]; decide) (by rw [c87]; decide) (by decide) ?_
      refine lv_aload_n X.1 X.2.1 dX8_statement_475 rfl (lv_at hl 1 rfl) ?_
      refine lv_iload_n X.1 X.2.1 dX8_statement_476 rfl (lv_at hl 0 rfl) ?_
      refine kp_calli X h (kp_runV (rm := { frames := F + 1, cells := 0, slots := 0, locals := L + 24 }) (mc := 0) (ms := 0) (rest := []) (Qc := fun A => kp_Qi D cy A T4 _) X h (c_X8_later l D cy ad F L B hB hF hL T4 a0 y2 _ h.2.2.2 f_a0 hw) f_a0 cv_8_195 ⟨by dsimp only; omega, by dsimp only; omega, rfl, rfl, by dsimp only; omega, by dsimp only; omega⟩ rfl hl.1 rfl (Nat.le_of_ble_eq_true rfl) dX8_statement_477) (fun y89 T88 hw l_T88 H locs h => ?_)
      have f_a0 := l_T88.is f_a0
      have f_b1 := l_T88.is f_b1
      have f_b3 := l_T88.is f_b3
      have f_b6 := l_T88.is f_b6
      have hle := hle.tr l_T88
      exact kp_reti X hr hlocks h hle rfl hw dX8_statement_480
    have hw := hw.2 c87
    by_cases c90 : y7 = 319
    · have hw := hw.1 c90
      refine lv_tableIn (off := 393) (tgt := 436) X.1 X.2.1 dX8_statement_43 (by rw [c90]; decide) (by rw [c90]; decide) (by rw [c90]; decide) (by decide) ?_
      refine lv_aload_n X.1 X.2.1 dX8_statement_436 rfl (lv_at hl 1 rfl) ?_
      refine kp_calli X h (kp_runV (rm := { frames := 7, cells := 0, slots := 0, locals := 155 }) (mc := 0) (ms := 0) (rest := []) (Qc := fun A => kp_Qi D cy A T4 _) X h (c_X8_stop l D cy ad T4 a0 _ h.2.2.2 f_a0 hw) f_a0 cv_8_173 ⟨by dsimp only; omega, by dsimp only; omega, rfl, rfl, by dsimp only; omega, by dsimp only; omega⟩ rfl hl.1 rfl (Nat.le_of_ble_eq_true rfl) dX8_statement_437) (fun y92 T91 hw l_T91 H locs h => ?_)
      have f_a0 := l_T91.is f_a0
      have f_b1 := l_T91.is f_b1
      have f_b3 := l_T91.is f_b3
      have f_b6 := l_T91.is f_b6
      have hle := hle.tr l_T91
      exact kp_reti X hr hlocks h hle rfl hw dX8_statement_440
    have hw := hw.2 c90
    by_cases c93 : y7 = 320
    · have hw := hw.1 c93
      refine lv_tableIn (off := 420) (tgt := 463) X.1 X.2.1 dX8_statement_43 (by rw [c93]; decide) (by rw [c93]; decide) (by rw [c93]; decide) (by decide) ?_
      refine lv_aload_n X.1 X.2.1 dX8_statement_463 rfl (lv_at hl 1 rfl) ?_
      refine lv_iload_n X.1 X.2.1 dX8_statement_464 rfl (lv_at hl 0 rfl) ?_
      refine kp_calli X h (kp_runV (rm := { frames := F + 1, cells := 0, slots := 0, locals := L + 24 }) (mc := 0) (ms := 0) (rest := []) (Qc := fun A => kp_Qi D cy A T4 _) X h (c_X8_ensure l D cy ad F L B hB hF hL T4 a0 y2 _ h.2.2.2 f_a0 hw) f_a0 cv_8_189 ⟨by dsimp only; omega, by dsimp only; omega, rfl, rfl, by dsimp only; omega, by dsimp only; omega⟩ rfl hl.1 rfl (Nat.le_of_ble_eq_true rfl) dX8_statement_465) (fun y95 T94 hw l_T94 H locs h => ?_)
      have f_a0 := l_T94.is f_a0
      have f_b1 := l_T94.is f_b1
      have f_b3 := l_T94.is f_b3
      have f_b6 := l_T94.is f_b6
      have hle := hle.tr l_T94
      exact kp_reti X hr hlocks h hle rfl hw dX8_statement_468
    have hw := hw.2 c93
    by_cases c96 : y7 = 321
    · have hw := hw.1 c96
      refine lv_tableIn (off := 408) (tgt := 451) X.1 X.2.1 dX8_statement_43 (by rw [c96]; decide) (by rw [c96]; decide) (by rw [c96]; decide) (by decide) ?_
      exact j451 y2 T4 _ _ ls (lv_sub hl [1, 0] rfl) h hle f_a0 hw
    have hw := hw.2 c96
    by_cases c97 : y7 = 322
    · have hw := hw.1 c97
      refine lv_tableIn (off := 438) (tgt := 481) X.1 X.2.1 dX8_statement_43 (by rw [c97]; decide) (by rw [c97]; decide) (by rw [c97]; decide) (by decide) ?_
      exact j481  T4 _ _ ls (lv_sub hl [1] rfl) h hle f_a0 hw
    have hw := hw.2 c97
    by_cases c98 : y7 = 323
    · have hw := hw.1 c98
      refine lv_tableIn (off := 403) (tgt := 446) X.1 X.2.1 dX8_statement_43 (by rw [c98]; decide) (by rw [c98]; decide) (by rw [c98]; decide) (by decide) ?_
      refine lv_aload_n X.1 X.2.1 dX8_statement_446 rfl (lv_at hl 1 rfl) ?_
      refine kp_calli X h (kp_runV (rm := { frames := F + 1, cells := 0, slots := 0, locals := L + 24 }) (mc := 0) (ms := 0) (rest := []) (Qc := fun A => kp_Qi D cy A T4 _) X h (c_X8_choose l D cy ad F L B hB hF hL T4 a0 _ h.2.2.2 f_a0 hw) f_a0 cv_8_179 ⟨by dsimp only; omega, by dsimp only; omega, rfl, rfl, by dsimp only; omega, by dsimp only; omega⟩ rfl hl.1 rfl (Nat.le_of_ble_eq_true rfl) dX8_statement_447) (fun y100 T99 hw l_T99 H locs h => ?_)
      have f_a0 := l_T99.is f_a0
      have f_b1 := l_T99.is f_b1
      have f_b3 := l_T99.is f_b3
      have f_b6 := l_T99.is f_b6
      have hle := hle.tr l_T99
      exact kp_reti X hr hlocks h hle rfl hw dX8_statement_450
    have hw := hw.2 c98
    by_cases c101 : y7 = 324
    · have hw := hw.1 c101
      refine lv_tableIn (off := 438) (tgt := 481) X.1 X.2.1 dX8_statement_43 (by rw [c101]; decide) (by rw [c101]; decide) (by rw [c101]; decide) (by decide) ?_
      exact j481  T4 _ _ ls (lv_sub hl [1] rfl) h hle f_a0 hw
    have hw := hw.2 c101
    by_cases c102 : y7 = 325
    · have hw := hw.1 c102
      refine lv_tableIn (off := 438) (tgt := 481) X.1 X.2.1 dX8_statement_43 (by rw [c102]; decide) (by rw [c102]; decide) (by rw [c102]; decide) (by decide) ?_
      exact j481  T4 _ _ ls (lv_sub hl [1] rfl) h hle f_a0 hw
    have hw := hw.2 c102
    by_cases c103 : y7 = 326
    · have hw := hw.1 c103
      refine lv_tableIn (off := 438) (tgt := 481) X.1 X.2.1 dX8_statement_43 (by rw [c103]; decide) (by rw [c103]; decide) (by rw [c103]; decide) (by decide) ?_
      exact j481  T4 _ _ ls (lv_sub hl [1] rfl) h hle f_a0 hw
    have hw := hw.2 c103
    by_cases c104 : y7 = 327
    · have hw := hw.1 c104
      refine lv_tableIn (off := 438) (tgt := 481) X.1 X.2.1 dX8_statement_43 (by rw [c104]; decide) (by rw [c104]; decide) (by rw [c104]; decide) (by decide) ?_
      exact j481  T4 _ _ ls (lv_sub hl [1] rfl) h hle f_a0 hw
    have hw := hw.2 c104
    by_cases c105 : y7 = 328
    · have hw := hw.1 c105
      refine lv_tableIn (off := 438) (tgt := 481) X.1 X.2.1 dX8_statement_43 (by rw [c105]; decide) (by rw [c105]; decide) (by rw [c105]; decide) (by decide) ?_
      exact j481  T4 _ _ ls (lv_sub hl [1] rfl) h hle f_a0 hw
    have hw := hw.2 c105
    by_cases c106 : y7 = 329
    · have hw := hw.1 c106
      refine lv_tableIn (off := 329) (tgt := 372) X.1 X.2.1 dX8_statement_43 (by rw [c106]; decide) (by rw [c106]; decide) (by rw [c106]; decide) (by decide) ?_
      refine lv_aload_n X.1 X.2.1 dX8_statement_372 rfl (lv_at hl 1 rfl) ?_
      refine lv_bipush (v := 36) X.1 X.2.1 dX8_statement_373 (by decide) ?_
      refine lv_iconst (v := 2) X.1 X.2.1 dX8_statement_375 (by decide) ?_
      refine lv_iconst (v := 5) X.1 X.2.1 dX8_statement_376 (by decide) ?_
      refine kp_calli X h (kp_runV (rm := { frames := 190, cells := 0, slots := 0, locals := 4362 }) (mc := 0) (ms := 0) (rest := []) (Qc := fun A => kp_Qi D cy A T4 _) X h (c_X8_order l D cy ad T4 a0 36 2 5 _ h.2.2.2 f_a0 hw) f_a0 cv_8_163 ⟨by dsimp only; omega, by dsimp only; omega, rfl, rfl, by dsimp only; omega, by dsimp only; omega⟩ rfl hl.1 rfl (Nat.le_of_ble_eq_true rfl) dX8_statement_377) (fun y108 T107 hw l_T107 H locs h => ?_)
      have f_a0 := l_T107.is f_a0
      have f_b1 := l_T107.is f_b1
      have f_b3 := l_T107.is f_b3
      have f_b6 := l_T107.is f_b6
      have hle := hle.tr l_T107
      exact kp_reti X hr hlocks h hle rfl hw dX8_statement_380
    have hw := hw.2 c106
    by_cases c109 : y7 = 330
    · have hw := hw.1 c109
      refine lv_tableIn (off := 338) (tgt := 381) X.1 X.2.1 dX8_statement_43 (by rw [c109]; decide) (by rw [c109]; decide) (by rw [c109]; decide) (by decide) ?_
      refine lv_aload_n X.1 X.2.1 dX8_statement_381 rfl (lv_at hl 1 rfl) ?_
      refine lv_bipush (v := 37) X.1 X.2.1 dX8_statement_382 (by decide) ?_
      refine lv_iconst (v := 2) X.1 X.2.1 dX8_statement_384 (by decide) ?_
      refine lv_iconst (v := 5) X.1 X.2.1 dX8_statement_385 (by decide) ?_
      refine kp_calli X h (kp_runV (rm := { frames := 190, cells := 0, slots := 0, locals := 4362 }) (mc := 0) (ms := 0) (rest := []) (Qc := fun A => kp_Qi D cy A T4 _) X h (c_X8_order l D cy ad T4 a0 37 2 5 _ h.2.2.2 f_a0 hw) f_a0 cv_8_163 ⟨by dsimp only; omega, by dsimp only; omega, rfl, rfl, by dsimp only; omega, by dsimp only; omega⟩ rfl hl.1 rfl (Nat.le_of_ble_eq_true rfl) dX8_statement_386) (fun y111 T110 hw l_T110 H locs h => ?_)
      have f_a0 := l_T110.is f_a0
      have f_b1 := l_T110.is f_b1
      have f_b3 := l_T110.is f_b3
      have f_b6 := l_T110.is f_b6
      have hle := hle.tr l_T110
      exact kp_reti X hr hlocks h hle rfl hw dX8_statement_389
    have hw := hw.2 c109
    by_cases c112 : y7 = 331
    · have hw := hw.1 c112
      refine lv_tableIn (off := 347) (tgt := 390) X.1 X.2.1 dX8_statement_43 (by rw [c112]; decide) (by rw [c112]; decide) (by rw [c112]; decide) (by decide) ?_
      refine lv_aload_n X.1 X.2.1 dX8_statement_390 rfl (lv_at hl 1 rfl) ?_
      refine lv_bipush (v := 38) X.1 X.2.1 dX8_statement_391 (by decide) ?_
      refine lv_iconst (v := 3) X.1 X.2.1 dX8_statement_393 (by decide) ?_
      refine lv_iconst (v := 5) X.1 X.2.1 dX8_statement_394 (by decide) ?_
      refine kp_calli X h (kp_runV (rm := { frames := 190, cells := 0, slots := 0, locals := 4362 }) (mc := 0) (ms := 0) (rest := []) (Qc := fun A => kp_Qi D cy A T4 _) X h (c_X8_order l D cy ad T4 a0 38 3 5 _ h.2.2.2 f_a0 hw) f_a0 cv_8_163 ⟨by dsimp only; omega, by dsimp only; omega, rfl, rfl, by dsimp only; omega, by dsimp only; omega⟩ rfl hl.1 rfl (Nat.le_of_ble_eq_true rfl) dX8_statement_395) (fun y114 T113 hw l_T113 H locs h => ?_)
      have f_a0 := l_T113.is f_a0
      have f_b1 := l_T113.is f_b1
      have f_b3 := l_T113.is f_b3
      have f_b6 := l_T113.is f_b6
      have hle := hle.tr l_T113
      exact kp_reti X hr hlocks h hle rfl hw dX8_statement_398
    have hw := hw.2 c112
    by_cases c115 : y7 = 332
    · have hw := hw.1 c115
      refine lv_tableIn (off := 356) (tgt := 399) X.1 X.2.1 dX8_statement_43 (by rw [c115]; decide) (by rw [c115]; decide) (by rw [c115]; decide) (by decide) ?_
      refine lv_aload_n X.1 X.2.1 dX8_statement_399 rfl (lv_at hl 1 rfl) ?_
      refine lv_bipush (v := 39) X.1 X.2.1 dX8_statement_400 (by decide) ?_
      refine lv_iconst (v := 2) X.1 X.2.1 dX8_statement_402 (by decide) ?_
      refine lv_iconst (v := 5) X.1 X.2.1 dX8_statement_403 (by decide) ?_
      refine kp_calli X h (kp_runV (rm := { frames := 190, cells := 0, slots := 0, locals := 4362 }) (mc := 0) (ms := 0) (rest := []) (Qc := fun A => kp_Qi D cy A T4 _) X h (c_X8_order l D cy ad T4 a0 39 2 5 _ h.2.2.2 f_a0 hw) f_a0 cv_8_163 ⟨by dsimp only; omega, by dsimp only; omega, rfl, rfl, by dsimp only; omega, by dsimp only; omega⟩ rfl hl.1 rfl (Nat.le_of_ble_eq_true rfl) dX8_statement_404) (fun y117 T116 hw l_T116 H locs h => ?_)
      have f_a0 := l_T116.is f_a0
      have f_b1 := l_T116.is f_b1
      have f_b3 := l_T116.is f_b3
      have f_b6 := l_T116.is f_b6
      have hle := hle.tr l_T116
      exact kp_reti X hr hlocks h hle rfl hw dX8_statement_407
    have hw := hw.2 c115
    have t_c8 := lv_neT (a := 259) c8 (by decide)
    have t_c11 := lv_neT (a := 260) c11 (by decide)
    have t_c12 := lv_neT (a := 261) c12 (by decide)
    have t_c13 := lv_neT (a := 262) c13 (by decide)
    have t_c14 := lv_neT (a := 263) c14 (by decide)
    have t_c15 := lv_neT (a := 264) c15 (by decide)
    have t_c16 := lv_neT (a := 265) c16 (by decide)
    have t_c17 := lv_neT (a := 266) c17 (by decide)
    have t_c18 := lv_neT (a := 267) c18 (by decide)
    have t_c19 := lv_neT (a := 268) c19 (by decide)
    have t_c20 := lv_neT (a := 269) c20 (by decide)
    have t_c21 := lv_neT (a := 270) c21 (by decide)
    have t_c22 := lv_neT (a := 271) c22 (by decide)
    have t_c23 := lv_neT (a := 272) c23 (by decide)
    have t_c24 := lv_neT (a := 273) c24 (by decide)
    have t_c25 := lv_neT (a := 274) c25 (by decide)
    have t_c26 := lv_neT (a := 275) c26 (by decide)
    have t_c27 := lv_neT (a := 276) c27 (by decide)
    have t_c28 := lv_neT (a := 277) c28 (by decide)
    have t_c29 := lv_neT (a := 278) c29 (by decide)
    have t_c30 := lv_neT (a := 279) c30 (by decide)
    have t_c31 := lv_neT (a := 280) c31 (by decide)
    have t_c32 := lv_neT (a := 281) c32 (by decide)
    have t_c33 := lv_neT (a := 282) c33 (by decide)
    have t_c34 := lv_neT (a := 283) c34 (by decide)
    have t_c35 := lv_neT (a := 284) c35 (by decide)
    have t_c36 := lv_neT (a := 285) c36 (by decide)
    have t_c37 := lv_neT (a := 286) c37 (by decide)
    have t_c38 := lv_neT (a := 287) c38 (by decide)
    have t_c39 := lv_neT (a := 288) c39 (by decide)
    have t_c40 := lv_neT (a := 289) c40 (by decide)
    have t_c41 := lv_neT (a := 290) c41 (by decide)
    have t_c42 := lv_neT (a := 291) c42 (by decide)
    have t_c43 := lv_neT (a := 292) c43 (by decide)
    have t_c44 := lv_neT (a := 293) c44 (by decide)
    have t_c45 := lv_neT (a := 294) c45 (by decide)
    have t_c46 := lv_neT (a := 295) c46 (by decide)
    have t_c47 := lv_neT (a := 296) c47 (by decide)
    have t_c48 := lv_neT (a := 297) c48 (by decide)
    have t_c49 := lv_neT (a := 298) c49 (by decide)
    have t_c50 := lv_neT (a := 299) c50 (by decide)
    have t_c51 := lv_neT (a := 300) c51 (by decide)
    have t_c52 := lv_neT (a := 301) c52 (by decide)
    have t_c55 := lv_neT (a := 302) c55 (by decide)
    have t_c58 := lv_neT (a := 303) c58 (by decide)
    have t_c61 := lv_neT (a := 304) c61 (by decide)
    have t_c62 := lv_neT (a := 305) c62 (by decide)
    have t_c63 := lv_neT (a := 306) c63 (by decide)
    have t_c64 := lv_neT (a := 307) c64 (by decide)
    have t_c65 := lv_neT (a := 308) c65 (by decide)
    have t_c66 := lv_neT (a := 309) c66 (by decide)
    have t_c69 := lv_neT (a := 310) c69 (by decide)
    have t_c72 := lv_neT (a := 311) c72 (by decide)
    have t_c75 := lv_neT (a := 312) c75 (by decide)
    have t_c78 := lv_neT (a := 313) c78 (by decide)
    have t_c81 := lv_neT (a := 314) c81 (by decide)
    have t_c84 := lv_neT (a := 315) c84 (by decide)
    have t_c85 := lv_neT (a := 316) c85 (by decide)
    have t_c86 := lv_neT (a := 317) c86 (by decide)
    have t_c87 := lv_neT (a := 318) c87 (by decide)
    have t_c90 := lv_neT (a := 319) c90 (by decide)
    have t_c93 := lv_neT (a := 320) c93 (by decide)
    have t_c96 := lv_neT (a := 321) c96 (by decide)
    have t_c97 := lv_neT (a := 322) c97 (by decide)
    have t_c98 := lv_neT (a := 323) c98 (by decide)
    have t_c101 := lv_neT (a := 324) c101 (by decide)
    have t_c102 := lv_neT (a := 325) c102 (by decide)
    have t_c103 := lv_neT (a := 326) c103 (by decide)
    have t_c104 := lv_neT (a := 327) c104 (by decide)
    have t_c105 := lv_neT (a := 328) c105 (by decide)
    have t_c106 := lv_neT (a := 329) c106 (by decide)
    have t_c109 := lv_neT (a := 330) c109 (by decide)
    have t_c112 := lv_neT (a := 331) c112 (by decide)
    have t_c115 := lv_neT (a := 332) c115 (by decide)
    refine lv_tableOut (tgt := 481) X.1 X.2.1 dX8_statement_43 (by omega) (by decide) ?_
    exact j481  T4 _ _ ls (lv_sub hl [1] rfl) h hle f_a0 hw
  · have hw := hw.2 c120
    refine lv_aload_n X.1 X.2.1 dX8_statement_12 rfl (lv_at hl 0 rfl) ?_
    refine kp_calli X h (kp_runV (rm := { frames := F, cells := 0, slots := 0, locals := L }) (mc := 0) (ms := 0) (rest := []) (Qc := fun A => kp_Qi D cy A S _) X h (hB S a0 _ h.2.2.2 f_a0 hw) f_a0 cv_8_120 ⟨by dsimp only; omega, by dsimp only; omega, rfl, rfl, by dsimp only; omega, by dsimp only; omega⟩ rfl hl.1 rfl (Nat.le_of_ble_eq_true rfl) dX8_statement_13) (fun y119 T118 hw l_T118 H locs h => ?_)
    have f_a0 := l_T118.is f_a0
    have f_b1 := l_T118.is f_b1
    have hle := hle.tr l_T118
    exact kp_reti X hr hlocks h hle rfl hw dX8_statement_16
theorem dX8_block_0 : decode cX8_block 0 = .ok (.aload_n 0, 1) := by decide +kernel
theorem dX8_block_1 : decode cX8_block 1 = .ok (.getfield 14, 3) := by decide +kernel
theorem dX8_block_4 : decode cX8_block 4 = .ok (.bipush 123, 2) := by decide +kernel
theorem dX8_block_6 : decode cX8_block 6 = .ok (.invokevirtual 137, 3) := by decide +kernel
theorem dX8_block_9 : decode cX8_block 9 = .ok (.aload_n 0, 1) := by decide +kernel
theorem dX8_block_10 : decode cX8_block 10 = .ok (.getfield 23, 3) := by decide +kernel
theorem dX8_block_13 : decode cX8_block 13 = .ok (.invokevirtual 140, 3) := by decide +kernel
theorem dX8_block_16 : decode cX8_block 16 = .ok (.istore_n 1, 1) := by decide +kernel
theorem dX8_block_17 : decode cX8_block 17 = .ok (.iconst 1, 1) := by decide +kernel
theorem dX8_block_18 : decode cX8_block 18 = .ok (.istore_n 2, 1) := by decide +kernel
theorem dX8_block_19 : decode cX8_block 19 = .ok (.iconst 0, 1) := by decide +kernel
theorem dX8_block_20 : decode cX8_block 20 = .ok (.istore_n 3, 1) := by decide +kernel
theorem dX8_block_21 : decode cX8_block 21 = .ok (.iload_n 3, 1) := by decide +kernel
theorem dX8_block_22 : decode cX8_block 22 = .ok (.sipush 3000, 3) := by decide +kernel
theorem dX8_block_25 : decode cX8_block 25 = .ok (.if_icmp .ge 51, 3) := by decide +kernel
theorem dX8_block_28 : decode cX8_block 28 = .ok (.aload_n 0, 1) := by decide +kernel
theorem dX8_block_29 : decode cX8_block 29 = .ok (.getfield 14, 3) := by decide +kernel
theorem dX8_block_32 : decode cX8_block 32 = .ok (.getfield 66, 3) := by decide +kernel
theorem dX8_block_35 : decode cX8_block 35 = .ok (.bipush 125, 2) := by decide +kernel
theorem dX8_block_37 : decode cX8_block 37 = .ok (.if_icmp .eq 39, 3) := by decide +kernel
theorem dX8_block_40 : decode cX8_block 40 = .ok (.aload_n 0, 1) := by decide +kernel
theorem dX8_block_41 : decode cX8_block 41 = .ok (.getfield 14, 3) := by decide +kernel
theorem dX8_block_44 : decode cX8_block 44 = .ok (.invokevirtual 96, 3) := by decide +kernel
theorem dX8_block_47 : decode cX8_block 47 = .ok (.ifCond .ne 29, 3) := by decide +kernel
theorem dX8_block_50 : decode cX8_block 50 = .ok (.aload_n 0, 1) := by decide +kernel
theorem dX8_block_51 : decode cX8_block 51 = .ok (.invokevirtual 145, 3) := by decide +kernel
theorem dX8_block_54 : decode cX8_block 54 = .ok (.istore 4, 2) := by decide +kernel
theorem dX8_block_56 : decode cX8_block 56 = .ok (.iload_n 2, 1) := by decide +kernel
theorem dX8_block_57 : decode cX8_block 57 = .ok (.iconst 1, 1) := by decide +kernel
theorem dX8_block_58 : decode cX8_block 58 = .ok (.iand, 1) := by decide +kernel
theorem dX8_block_59 : decode cX8_block 59 = .ok (.ifCond .eq 11, 3) := by decide +kernel
theorem dX8_block_62 : decode cX8_block 62 = .ok (.iload_n 2, 1) := by decide +kernel
theorem dX8_block_63 : decode cX8_block 63 = .ok (.bipush (-2), 2) := by decide +kernel
theorem dX8_block_65 : decode cX8_block 65 = .ok (.iand, 1) := by decide +kernel
theorem dX8_block_66 : decode cX8_block 66 = .ok (.iload 4, 2) := by decide +kernel
theorem dX8_block_68 : decode cX8_block 68 = .ok (.ior, 1) := by decide +kernel
theorem dX8_block_69 : decode cX8_block 69 = .ok (.istore_n 2, 1) := by decide +kernel
theorem dX8_block_70 : decode cX8_block 70 = .ok (.iinc 3 1, 3) := by decide +kernel
theorem dX8_block_73 : decode cX8_block 73 = .ok (.goto (-52), 3) := by decide +kernel
theorem dX8_block_76 : decode cX8_block 76 = .ok (.aload_n 0, 1) := by decide +kernel
theorem dX8_block_77 : decode cX8_block 77 = .ok (.getfield 23, 3) := by decide +kernel
theorem dX8_block_80 : decode cX8_block 80 = .ok (.iload_n 1, 1) := by decide +kernel
theorem dX8_block_81 : decode cX8_block 81 = .ok (.invokevirtual 148, 3) := by decide +kernel
theorem dX8_block_84 : decode cX8_block 84 = .ok (.aload_n 0, 1) := by decide +kernel
theorem dX8_block_85 : decode cX8_block 85 = .ok (.getfield 14, 3) := by decide +kernel
theorem dX8_block_88 : decode cX8_block 88 = .ok (.invokevirtual 151, 3) := by decide +kernel
theorem dX8_block_91 : decode cX8_block 91 = .ok (.aload_n 0, 1) := by decide +kernel
theorem dX8_block_92 : decode cX8_block 92 = .ok (.getfield 14, 3) := by decide +kernel
theorem dX8_block_95 : decode cX8_block 95 = .ok (.bipush 125, 2) := by decide +kernel
theorem dX8_block_97 : decode cX8_block 97 = .ok (.invokevirtual 90, 3) := by decide +kernel
theorem dX8_block_100 : decode cX8_block 100 = .ok (.iload_n 2, 1) := by decide +kernel
theorem dX8_block_101 : decode cX8_block 101 = .ok (.ireturn, 1) := by decide +kernel
def wX8_block_b76 (B : Nat → kp_S → (Int32 → kp_S → Prop) → Prop) (a0 : Nat) (xn1 : Int32) (xn2 : Int32)  (Sn : kp_S) (post : Int32 → kp_S → Prop) : Prop :=
  ∃ b1001 : Nat, kp_R Sn 1601 a0 = some b1001 ∧
  wX5_forgetBehind b1001 xn1 Sn (fun T1002 =>
  ∃ b1003 : Nat, kp_R T1002 1600 a0 = some b1003 ∧
  wX9_endNest b1003 T1002 (fun T1004 =>
  ∃ b1005 : Nat, kp_R T1004 1600 a0 = some b1005 ∧
  wX9_expect b1005 125 T1004 (fun T1006 =>
  post xn2 T1006)))
def wX8_block_b70 (B : Nat → kp_S → (Int32 → kp_S → Prop) → Prop) (a0 : Nat) (xn1 : Int32) (xn2 : Int32) (xn3 : Int32) (K21 : Int32 → Int32 → Int32 → kp_S → Prop) (Sn : kp_S) (post : Int32 → kp_S → Prop) : Prop :=
  ∀ y2001 : Int32, y2001 = xn3 + 1 →
  K21 xn1 xn2 y2001 Sn
def wX8_block_L21 (B : Nat → kp_S → (Int32 → kp_S → Prop) → Prop) (a0 : Nat)  (post : Int32 → kp_S → Prop) : Nat → Int32 → Int32 → Int32 → kp_S → Prop
  | 0, _, _, _, _ => False
  | n + 1, xn1, xn2, xn3, Sn =>
  ((3000 ≤ xn3 →
  wX8_block_b76 B a0 xn1 xn2  Sn post) ∧ (¬ 3000 ≤ xn3 →
  ∃ b3001 : Nat, kp_R Sn 1600 a0 = some b3001 ∧
  (((kp_I Sn 1805 b3001) = 125 →
  wX8_block_b76 B a0 xn1 xn2  Sn post) ∧ (¬ (kp_I Sn 1805 b3001) = 125 →
  wX9_isStopped b3001 Sn (fun y3003 T3002 =>
  ((¬ y3003 = 0 →
  wX8_block_b76 B a0 xn1 xn2  T3002 post) ∧ (y3003 = 0 →
  wX8_statement B a0 T3002 (fun y3005 T3004 =>
  (((xn2 &&& 1) = 0 →
  wX8_block_b70 B a0 xn1 xn2 xn3 (fun xn1_ xn2_ xn3_ S_ => wX8_block_L21 B a0  post n xn1_ xn2_ xn3_ S_) T3004 post) ∧ (¬ (xn2 &&& 1) = 0 →
  ∀ y3006 : Int32, y3006 = ((xn2 &&& (-2)) ||| y3005) →
  wX8_block_b70 B a0 xn1 y3006 xn3 (fun xn1_ xn2_ xn3_ S_ => wX8_block_L21 B a0  post n xn1_ xn2_ xn3_ S_) T3004 post))))))))))
def wX8_block (B : Nat → kp_S → (Int32 → kp_S → Prop) → Prop) (a0 : Nat) (S : kp_S) (post : Int32 → kp_S → Prop) : Prop :=
  ∃ b1 : Nat, kp_R S 1600 a0 = some b1 ∧
  wX9_expectNest b1 123 S (fun T2 =>
  ∃ b3 : Nat, kp_R T2 1601 a0 = some b3 ∧
  wX5_knownNow b3 T2 (fun y5 T4 =>
  ∃ n0 : Nat, wX8_block_L21 B a0  post n0 y5 1 0 T4))
set_option maxHeartbeats 4000000 in
set_option maxRecDepth 100000 in
theorem c_X8_block (l : Launch) (D : va_G) (cy : Nat → ClassId) (ad : (Nat → Nat) × (Nat → Nat)) (F L : Nat) (B : Nat → kp_S → (Int32 → kp_S → Prop) → Prop) (hB : ∀ (S : kp_S) (a0 : Nat) (post : Int32 → kp_S → Prop), kp_ok S → kp_is S a0 8 → B a0 S post → kp_M l yX8_block cX8_block 5 (some .int) { frames := F, cells := 0, slots := 0, locals := L } D cy ad S [.ref a0] 0 0 (fun A => kp_Qi D cy A S post)) (hF : 191 ≤ F) (hL : 4387 ≤ L) (S : kp_S) (a0 : Nat) (post : Int32 → kp_S → Prop) (hS : kp_ok S) (f_a0 : kp_is S a0 8) (hw : wX8_block B a0 S post) : kp_M l yX8_block cX8_block 5 (some .int) { frames := F + 7, cells := 0, slots := 0, locals := L + 172 } D cy ad S [.ref a0] 0 0 (fun A => kp_Qi D cy A S post) := by
  refine kp_start (own := RX8) (by decide) rfl (Nat.le_of_ble_eq_true rfl) hS ?_
  intro p e s m below meth c A ls X hr hlocks hname h hl
  have hle : kp_le S S := kp_le.rf
  have hl : lv_has ls 5 [(0, .ref a0)] := hl
  have j76 : ∀ (xn1 : Int32) (xn2 : Int32) (Sn : kp_S) (H : Heap) (locs : List Loc) (ls : Array Slot), lv_has ls 5 [(0, .ref a0), (1, .int xn1), (2, .int xn2)] → kp_H D cy A Sn s.heap H locs → kp_le S Sn → kp_is Sn a0 8 → wX8_block_b76 B a0 xn1 xn2  Sn post → W p l e { frames := F + 7, cells := 0, slots := 0, locals := L + 172 } s m ([.ref a0] : List Value).toArray below meth c H locs 0 0 (MQ below (kp_Qi D cy A S post) ([.ref a0] : List Value).toArray s 0 0 A) (F0 m 76 ls []) := by
    intro xn1 xn2 Sn H locs ls hl h hle f_a0 hw
    unfold wX8_block_b76 at hw
    refine lv_aload_n X.1 X.2.1 dX8_block_76 rfl (lv_at hl 0 rfl) ?_
    obtain ⟨b1001, e_b1001, hw⟩ := hw
    have f_b1001 := h.2.2.2.rf (c := 8) (k := 1) f_a0 (by decide) (by decide) e_b1001 (t := 5) rfl
    refine kp_get X h f_a0 ff_8_23.l (v := .ref b1001) (congrArg va_rf e_b1001) dX8_block_77 ?_
    refine lv_iload_n X.1 X.2.1 dX8_block_80 rfl (lv_at hl 1 rfl) ?_
    refine kp_callv X h (kp_runV (rm := { frames := 0, cells := 0, slots := 0, locals := 0 }) (mc := 0) (ms := 0) (rest := []) (Qc := fun A => kp_Qv D cy A Sn _) X h (c_X5_forgetBehind l D cy ad Sn b1001 xn1 _ h.2.2.2 f_b1001 hw) f_b1001 cv_8_148 ⟨by dsimp only; omega, by dsimp only; omega, rfl, rfl, by dsimp only; omega, by dsimp only; omega⟩ rfl hl.1 rfl (Nat.le_of_ble_eq_true rfl) dX8_block_81) (fun T1002 hw l_T1002 H locs h => ?_)
    have f_a0 := l_T1002.is f_a0
    have f_b1001 := l_T1002.is f_b1001
    have hle := hle.tr l_T1002
    refine lv_aload_n X.1 X.2.1 dX8_block_84 rfl (lv_at hl 0 rfl) ?_
    obtain ⟨b1003, e_b1003, hw⟩ := hw
    have f_b1003 := h.2.2.2.rf (c := 8) (k := 0) f_a0 (by decide) (by decide) e_b1003 (t := 9) rfl
    refine kp_get X h f_a0 ff_8_14.l (v := .ref b1003) (congrArg va_rf e_b1003) dX8_block_85 ?_
    refine kp_callv X h (kp_runV (rm := { frames := 0, cells := 0, slots := 0, locals := 0 }) (mc := 0) (ms := 0) (rest := []) (Qc := fun A => kp_Qv D cy A T1002 _) X h (c_X9_endNest l D cy ad T1002 b1003 _ h.2.2.2 f_b1003 hw) f_b1003 cv_8_151 ⟨by dsimp only; omega, by dsimp only; omega, rfl, rfl, by dsimp only; omega, by dsimp only; omega⟩ rfl hl.1 rfl (Nat.le_of_ble_eq_true rfl) dX8_block_88) (fun T1004 hw l_T1004 H locs h => ?_)
    have f_a0 := l_T1004.is f_a0
    have f_b1001 := l_T1004.is f_b1001
    have f_b1003 := l_T1004.is f_b1003
    have hle := hle.tr l_T1004
    refine lv_aload_n X.1 X.2.1 dX8_block_91 rfl (lv_at hl 0 rfl) ?_
    obtain ⟨b1005, e_b1005, hw⟩ := hw
    have f_b1005 := h.2.2.2.rf (c := 8) (k := 0) f_a0 (by decide) (by decide) e_b1005 (t := 9) rfl
    refine kp_get X h f_a0 ff_8_14.l (v := .ref b1005) (congrArg va_rf e_b1005) dX8_block_92 ?_
    refine lv_bipush (v := 125) X.1 X.2.1 dX8_block_95 (by decide) ?_
    refine kp_callv X h (kp_runV (rm := { frames := 6, cells := 0, slots := 0, locals := 134 }) (mc := 0) (ms := 0) (rest := []) (Qc := fun A => kp_Qv D cy A T1004 _) X h (c_X9_expect l D cy ad T1004 b1005 125 _ h.2.2.2 f_b1005 hw) f_b1005 cv_8_90 ⟨by dsimp only; omega, by dsimp only; omega, rfl, rfl, by dsimp only; omega, by dsimp only; omega⟩ rfl hl.1 rfl (Nat.le_of_ble_eq_true rfl) dX8_block_97) (fun T1006 hw l_T1006 H locs h => ?_)
    have f_a0 := l_T1006.is f_a0
    have f_b1001 := l_T1006.is f_b1001
    have f_b1003 := l_T1006.is f_b1003
    have f_b1005 := l_T1006.is f_b1005
    have hle := hle.tr l_T1006
    refine lv_iload_n X.1 X.2.1 dX8_block_100 rfl (lv_at hl 2 rfl) ?_
    exact kp_reti X hr hlocks h hle rfl hw dX8_block_101
  have L21 : ∀ n21 : Nat, ∀ (xn1 : Int32) (xn2 : Int32) (xn3 : Int32) (Sn : kp_S) (H : Heap) (locs : List Loc) (ls : Array Slot), lv_has ls 5 [(0, .ref a0), (1, .int xn1), (2, .int xn2), (3, .int xn3)] → kp_H D cy A Sn s.heap H locs → kp_le S Sn → kp_is Sn a0 8 → wX8_block_L21 B a0  post n21 xn1 xn2 xn3 Sn → W p l e { frames := F + 7, cells := 0, slots := 0, locals := L + 172 } s m ([.ref a0] : List Value).toArray below meth c H locs 0 0 (MQ below (kp_Qi D cy A S post) ([.ref a0] : List Value).toArray s 0 0 A) (F0 m 21 ls []) := by
    intro n21
    induction n21 with
    | zero => intro xn1 xn2 xn3 Sn H locs ls hl h hle f_a0 hw; exact hw.elim
    | succ n21 ih21 =>
      have j70 : ∀ (xn1 : Int32) (xn2 : Int32) (xn3 : Int32) (Sn : kp_S) (H : Heap) (locs : List Loc) (ls : Array Slot), lv_has ls 5 [(0, .ref a0), (1, .int xn1), (2, .int xn2), (3, .int xn3)] → kp_H D cy A Sn s.heap H locs → kp_le S Sn → kp_is Sn a0 8 → wX8_block_b70 B a0 xn1 xn2 xn3 (fun xn1_ xn2_ xn3_ S_ => wX8_block_L21 B a0  post n21 xn1_ xn2_ xn3_ S_) Sn post → W p l e { frames := F + 7, cells := 0, slots := 0, locals := L + 172 } s m ([.ref a0] : List Value).toArray below meth c H locs 0 0 (MQ below (kp_Qi D cy A S post) ([.ref a0] : List Value).toArray s 0 0 A) (F0 m 70 ls []) := by
        intro xn1 xn2 xn3 Sn H locs ls hl h hle f_a0 hw
        unfold wX8_block_b70 at hw
        obtain ⟨y2001, e_y2001⟩ : ∃ y : Int32, y = xn3 + 1 := ⟨_, rfl⟩
        have hw := hw y2001 e_y2001
        refine lv_iinc (v := y2001) (lv' := [(3, .int y2001), (0, .ref a0), (1, .int xn1), (2, .int xn2)]) X.1 X.2.1 dX8_block_70 hl (k := 3) rfl (by rw [e_y2001]; rfl) (by decide) rfl (fun ls hl => ?_)
        refine lv_goto (tgt := 21) X.1 X.2.1 dX8_block_73 (by decide) ?_
        exact ih21 xn1 xn2 y2001 Sn H locs ls (lv_sub hl [1, 2, 3, 0] rfl) h hle f_a0 hw
      intro xn1 xn2 xn3 Sn H locs ls hl h hle f_a0 hw
      unfold wX8_block_L21 at hw
      refine lv_iload_n X.1 X.2.1 dX8_block_21 rfl (lv_at hl 3 rfl) ?_
      refine lv_sipush (v := 3000) X.1 X.2.1 dX8_block_22 (by decide) ?_
      refine lv_icmp_ge (tgt := 76) X.1 X.2.1 dX8_block_25 (by decide) (fun c3010 => ?_) (fun c3010 => ?_)
      · have hw := hw.1 c3010
        exact j76 xn1 xn2 Sn H locs ls (lv_sub hl [0, 1, 2] rfl) h hle f_a0 hw
      · have hw := hw.2 c3010
        refine lv_aload_n X.1 X.2.1 dX8_block_28 rfl (lv_at hl 0 rfl) ?_
        obtain ⟨b3001, e_b3001, hw⟩ := hw
        have f_b3001 := h.2.2.2.rf (c := 8) (k := 0) f_a0 (by decide) (by decide) e_b3001 (t := 9) rfl
        refine kp_get X h f_a0 ff_8_14.l (v := .ref b3001) (congrArg va_rf e_b3001) dX8_block_29 ?_
        refine kp_get X h f_b3001 fp_8_66.l (v := .int (kp_I Sn 1805 b3001)) rfl dX8_block_32 ?_
        refine lv_bipush (v := 125) X.1 X.2.1 dX8_block_35 (by decide) ?_
        refine lv_icmp_eq (tgt := 76) X.1 X.2.1 dX8_block_37 (by decide) (fun c3009 => ?_) (fun c3009 => ?_)
        · have hw := hw.1 c3009
          exact j76 xn1 xn2 Sn H locs ls (lv_sub hl [0, 1, 2] rfl) h hle f_a0 hw
        · have hw := hw.2 c3009
          refine lv_aload_n X.1 X.2.1 dX8_block_40 rfl (lv_at hl 0 rfl) ?_
          refine kp_get X h f_a0 ff_8_14.l (v := .ref b3001) (congrArg va_rf e_b3001) dX8_block_41 ?_
          refine kp_calli X h (kp_runV (rm := { frames := 0, cells := 0, slots := 0, locals := 0 }) (mc := 0) (ms := 0) (rest := []) (Qc := fun A => kp_Qi D cy A Sn _) X h (c_X9_isStopped l D cy ad Sn b3001 _ h.2.2.2 f_b3001 hw) f_b3001 cv_8_96 ⟨by dsimp only; omega, by dsimp only; omega, rfl, rfl, by dsimp only; omega, by dsimp only; omega⟩ rfl hl.1 rfl (Nat.le_of_ble_eq_true rfl) dX8_block_44) (fun y3003 T3002 hw l_T3002 H locs h => ?_)
          have f_a0 := l_T3002.is f_a0
          have f_b3001 := l_T3002.is f_b3001
          have hle := hle.tr l_T3002
          refine lv_if_ne (tgt := 76) X.1 X.2.1 dX8_block_47 (by decide) (fun c3008 => ?_) (fun c3008 => ?_)
          · have hw := hw.1 c3008
            exact j76 xn1 xn2 T3002 H locs ls (lv_sub hl [0, 1, 2] rfl) h hle f_a0 hw
          · have hw := hw.2 c3008
            refine lv_aload_n X.1 X.2.1 dX8_block_50 rfl (lv_at hl 0 rfl) ?_
            refine kp_calli X h (kp_runV (rm := { frames := F + 6, cells := 0, slots := 0, locals := L + 151 }) (mc := 0) (ms := 0) (rest := []) (Qc := fun A => kp_Qi D cy A T3002 _) X h (c_X8_statement l D cy ad F L B hB hF hL T3002 a0 _ h.2.2.2 f_a0 hw) f_a0 cv_8_145 ⟨by dsimp only; omega, by dsimp only; omega, rfl, rfl, by dsimp only; omega, by dsimp only; omega⟩ rfl hl.1 rfl (Nat.le_of_ble_eq_true rfl) dX8_block_51) (fun y3005 T3004 hw l_T3004 H locs h => ?_)
            have f_a0 := l_T3004.is f_a0
            have f_b3001 := l_T3004.is f_b3001
            have hle := hle.tr l_T3004
            refine lv_istore (lv' := [(4, .int y3005), (0, .ref a0), (1, .int xn1), (2, .int xn2), (3, .int xn3)]) X.1 X.2.1 dX8_block_54 hl (by decide) rfl (fun ls hl => ?_)
            refine lv_iload_n X.1 X.2.1 dX8_block_56 rfl (lv_at hl 3 rfl) ?_
            refine lv_iconst (v := 1) X.1 X.2.1 dX8_block_57 (by decide) ?_
            refine lv_iand X.1 X.2.1 dX8_block_58 ?_
            refine lv_if_eq (tgt := 70) X.1 X.2.1 dX8_block_59 (by decide) (fun c3007 => ?_) (fun c3007 => ?_)
            · have hw := hw.1 c3007
              exact j70 xn1 xn2 xn3 T3004 H locs ls (lv_sub hl [1, 2, 3, 4] rfl) h hle f_a0 hw
            · have hw := hw.2 c3007
              refine lv_iload_n X.1 X.2.1 dX8_block_62 rfl (lv_at hl 3 rfl) ?_
              refine lv_bipush (v := (-2)) X.1 X.2.1 dX8_block_63 (by decide) ?_
              refine lv_iand X.1 X.2.1 dX8_block_65 ?_
              refine lv_iload X.1 X.2.1 dX8_block_66 (lv_at hl 0 rfl) ?_
              refine lv_ior X.1 X.2.1 dX8_block_68 ?_
              refine lv_topi (fun y3006 e_y3006 => ?_)
              have hw := hw y3006 e_y3006
              refine lv_istore_n (lv' := [(2, .int y3006), (4, .int y3005), (0, .ref a0), (1, .int xn1), (3, .int xn3)]) X.1 X.2.1 dX8_block_69 rfl hl (by decide) rfl (fun ls hl => ?_)
              exact j70 xn1 y3006 xn3 T3004 H locs ls (lv_sub hl [2, 3, 0, 4] rfl) h hle f_a0 hw
  unfold wX8_block at hw
  have h : kp_H D cy A S s.heap s.heap [] := h
  revert h
  intro h
  refine lv_aload_n X.1 X.2.1 dX8_block_0 rfl (lv_at hl 0 rfl) ?_
  obtain ⟨b1, e_b1, hw⟩ := hw
  have f_b1 := h.2.2.2.rf (c := 8) (k := 0) f_a0 (by decide) (by decide) e_b1 (t := 9) rfl
  refine kp_get X h f_a0 ff_8_14.l (v := .ref b1) (congrArg va_rf e_b1) dX8_block_1 ?_
  refine lv_bipush (v := 123) X.1 X.2.1 dX8_block_4 (by decide) ?_
  refine kp_callv X h (kp_runV (rm := { frames := 6, cells := 0, slots := 0, locals := 134 }) (mc := 0) (ms := 0) (rest := []) (Qc := fun A => kp_Qv D cy A S _) X h (c_X9_expectNest l D cy ad S b1 123 _ h.2.2.2 f_b1 hw) f_b1 cv_8_137 ⟨by dsimp only; omega, by dsimp only; omega, rfl, rfl, by dsimp only; omega, by dsimp only; omega⟩ rfl hl.1 rfl (Nat.le_of_ble_eq_true rfl) dX8_block_6) (fun T2 hw l_T2 H locs h => ?_)
  have f_a0 := l_T2.is f_a0
  have f_b1 := l_T2.is f_b1
  have hle := hle.tr l_T2
  refine lv_aload_n X.1 X.2.1 dX8_block_9 rfl (lv_at hl 0 rfl) ?_
  obtain ⟨b3, e_b3, hw⟩ := hw
  have f_b3 := h.2.2.2.rf (c := 8) (k := 1) f_a0 (by decide) (by decide) e_b3 (t := 5) rfl
  refine kp_get X h f_a0 ff_8_23.l (v := .ref b3) (congrArg va_rf e_b3) dX8_block_10 ?_
  refine kp_calli X h (kp_runV (rm := { frames := 0, cells := 0, slots := 0, locals := 0 }) (mc := 0) (ms := 0) (rest := []) (Qc := fun A => kp_Qi D cy A T2 _) X h (c_X5_knownNow l D cy ad T2 b3 _ h.2.2.2 f_b3 hw) f_b3 cv_8_140 ⟨by dsimp only; omega, by dsimp only; omega, rfl, rfl, by dsimp only; omega, by dsimp only; omega⟩ rfl hl.1 rfl (Nat.le_of_ble_eq_true rfl) dX8_block_13) (fun y5 T4 hw l_T4 H locs h => ?_)
  have f_a0 := l_T4.is f_a0
  have f_b1 := l_T4.is f_b1
  have f_b3 := l_T4.is f_b3
  have hle := hle.tr l_T4
  refine lv_istore_n (lv' := [(1, .int y5), (0, .ref a0)]) X.1 X.2.1 dX8_block_16 rfl hl (by decide) rfl (fun ls hl => ?_)
  refine lv_iconst (v := 1) X.1 X.2.1 dX8_block_17 (by decide) ?_
  refine lv_istore_n (lv' := [(2, .int 1), (1, .int y5), (0, .ref a0)]) X.1 X.2.1 dX8_block_18 rfl hl (by decide) rfl (fun ls hl => ?_)
  refine lv_iconst (v := 0) X.1 X.2.1 dX8_block_19 (by decide) ?_
  refine lv_istore_n (lv' := [(3, .int 0), (2, .int 1), (1, .int y5), (0, .ref a0)]) X.1 X.2.1 dX8_block_20 rfl hl (by decide) rfl (fun ls hl => ?_)
  obtain ⟨n0, hw⟩ := hw
  exact L21 n0 y5 1 0 T4 _ _ ls (lv_sub hl [3, 2, 1, 0] rfl) h hle f_a0 hw
def wx8_rec : Nat → Nat → Nat → kp_S → (Int32 → kp_S → Prop) → Prop
  | 0, _, _, _, _ => False
  | n + 1, _, a0, S, post => wX8_block (wx8_rec n 0) a0 S post
theorem wx8_all (l : Launch) (D : va_G) (cy : Nat → ClassId) (ad : (Nat → Nat) × (Nat → Nat)) : ∀ n : Nat, (∀ (S : kp_S) (a0 : Nat) (post : Int32 → kp_S → Prop), kp_ok S → kp_is S a0 8 → wx8_rec n 0 a0 S post → kp_M l yX8_block cX8_block 5 (some .int) { frames := 191 + 7 * n, cells := 0, slots := 0, locals := 4387 + 172 * n } D cy ad S [.ref a0] 0 0 (fun A => kp_Qi D cy A S post)) := by
  intro n
  induction n with
  | zero => exact fun S a0 post hS ha hw => kp_never hw
  | succ n ih =>
    exact fun S a0 post hS ha hw => by
      rw [show 191 + 7 * (n + 1) = 191 + 7 * n + 7 by omega, show 4387 + 172 * (n + 1) = 4387 + 172 * n + 172 by omega]
      exact c_X8_block l D cy ad (191 + 7 * n) (4387 + 172 * n) (wx8_rec n 0) ih (by omega) (by omega) S a0 post hS ha hw
def wX8_block_t (a0 : Nat) (S : kp_S) (post : Int32 → kp_S → Prop) : Prop := wX8_block (wx8_rec 16 0) a0 S post
theorem c_X8_block_t (l : Launch) (D : va_G) (cy : Nat → ClassId) (ad : (Nat → Nat) × (Nat → Nat)) (S : kp_S) (a0 : Nat) (post : Int32 → kp_S → Prop) (hS : kp_ok S) (f_a0 : kp_is S a0 8) (hw : wX8_block_t a0 S post) : kp_M l yX8_block cX8_block 5 (some .int) { frames := 310, cells := 0, slots := 0, locals := 7311 } D cy ad S [.ref a0] 0 0 (fun A => kp_Qi D cy A S post) :=
  c_X8_block l D cy ad (191 + 7 * 16) (4387 + 172 * 16) (wx8_rec 16 0) (wx8_all l D cy ad 16) (by omega) (by omega) S a0 post hS f_a0 hw
