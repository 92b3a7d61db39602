set_option maxHeartbeats 4000000 in
set_option maxRecDepth 100000 in
theorem c_X12_step (l : Launch) (D : va_G) (cy : Nat → ClassId) (ad : (Nat → Nat) × (Nat → Nat)) (S : kp_S) (a0 : Nat) (post : kp_S → Prop) (hS : kp_ok S) (f_a0 : kp_is S a0 12) (hw : wX12_step a0 S post) : kp_M l yX12_step cX12_step 4 none { frames := 8, cells := 0, slots := 0, locals := 181 } D cy ad S [.ref a0] 0 0 (fun A => kp_Qv D cy A S post) := by
  refine kp_start (own := RX12) (by decide) rfl (Nat.le_of_ble_eq_true rfl) hS ?_
  intro p e s m below meth c A ls X hr hlocks hname h hl
  have hle : kp_le S S := kp_le.rf
  have hl : lv_has ls 4 [(0, .ref a0)] := hl
  have j436 : ∀  (Sn : kp_S) (H : Heap) (locs : List Loc) (ls : Array Slot), lv_has ls 4 [] → kp_H D cy A Sn s.heap H locs → kp_le S Sn → kp_is Sn a0 12 → wX12_step_b436 a0   Sn post → W p l e { frames := 8, cells := 0, slots := 0, locals := 181 } s m ([.ref a0] : List Value).toArray below meth c H locs 0 0 (MQ below (kp_Qv D cy A S post) ([.ref a0] : List Value).toArray s 0 0 A) (F0 m 436 ls []) := by
    intro  Sn H locs ls hl h hle f_a0 hw
    unfold wX12_step_b436 at hw
    exact kp_retv X hr hlocks h hle hw dX12_step_436
  have j260 : ∀ (xt0 : Int32) (at1 : Nat) (Sn : kp_S) (H : Heap) (locs : List Loc) (ls : Array Slot), lv_has ls 4 [] → kp_H D cy A Sn s.heap H locs → kp_le S Sn → kp_is Sn at1 12 → kp_is Sn a0 12 → wX12_step_b260 a0 xt0 at1  Sn post → W p l e { frames := 8, cells := 0, slots := 0, locals := 181 } s m ([.ref a0] : List Value).toArray below meth c H locs 0 0 (MQ below (kp_Qv D cy A S post) ([.ref a0] : List Value).toArray s 0 0 A) (F0 m 260 ls [.int xt0, .ref at1]) := by
    intro xt0 at1 Sn H locs ls hl h hle f_at1 f_a0 hw
    unfold wX12_step_b260 at hw
    refine kp_callv X h (kp_runV (rm := { frames := 0, cells := 0, slots := 0, locals := 0 }) (mc := 0) (ms := 0) (rest := []) (Qc := fun A => kp_Qv D cy A Sn _) X h (c_X12_push l D cy ad Sn at1 xt0 _ h.2.2.2 f_at1 hw) f_at1 cv_12_708 ⟨by decide, by decide, rfl, rfl, by decide, by decide⟩ rfl hl.1 rfl (Nat.le_of_ble_eq_true rfl) dX12_step_260) (fun T2001 hw l_T2001 H locs h => ?_)
    have f_at1 := l_T2001.is f_at1
    have f_a0 := l_T2001.is f_a0
    have hle := hle.tr l_T2001
    refine lv_goto (tgt := 436) X.1 X.2.1 dX12_step_263 (by decide) ?_
    exact j436  T2001 H locs ls (lv_sub hl [] rfl) h hle f_a0 hw
  have j431 : ∀ (xn1 : Int32) (Sn : kp_S) (H : Heap) (locs : List Loc) (ls : Array Slot), lv_has ls 4 [(0, .ref a0), (1, .int xn1)] → kp_H D cy A Sn s.heap H locs → kp_le S Sn → kp_is Sn a0 12 → wX12_step_b431 a0 xn1  Sn post → W p l e { frames := 8, cells := 0, slots := 0, locals := 181 } s m ([.ref a0] : List Value).toArray below meth c H locs 0 0 (MQ below (kp_Qv D cy A S post) ([.ref a0] : List Value).toArray s 0 0 A) (F0 m 431 ls []) := by
    intro xn1 Sn H locs ls hl h hle f_a0 hw
    unfold wX12_step_b431 at hw
    refine lv_aload_n X.1 X.2.1 dX12_step_431 rfl (lv_at hl 0 rfl) ?_
    refine lv_iload_n X.1 X.2.1 dX12_step_432 rfl (lv_at hl 1 rfl) ?_
    refine kp_callv X h (kp_runV (rm := { frames := 6, cells := 0, slots := 0, locals := 130 }) (mc := 0) (ms := 0) (rest := []) (Qc := fun A => kp_Qv D cy A Sn _) X h (c_X12_reckon l D cy ad Sn a0 xn1 _ h.2.2.2 f_a0 hw) f_a0 cv_12_736 ⟨by decide, by decide, rfl, rfl, by decide, by decide⟩ rfl hl.1 rfl (Nat.le_of_ble_eq_true rfl) dX12_step_433) (fun T3001 hw l_T3001 H locs h => ?_)
    have f_a0 := l_T3001.is f_a0
    have hle := hle.tr l_T3001
    exact j436  T3001 H locs ls (lv_sub hl [] rfl) h hle f_a0 hw
  have j279 : ∀ (xn2 : Int32) (xt0 : Int32) (at1 : Nat) (Sn : kp_S) (H : Heap) (locs : List Loc) (ls : Array Slot), lv_has ls 4 [(2, .int xn2)] → kp_H D cy A Sn s.heap H locs → kp_le S Sn → kp_is Sn at1 12 → kp_is Sn a0 12 → wX12_step_b279 a0 xn2 xt0 at1  Sn post → W p l e { frames := 8, cells := 0, slots := 0, locals := 181 } s m ([.ref a0] : List Value).toArray below meth c H locs 0 0 (MQ below (kp_Qv D cy A S post) ([.ref a0] : List Value).toArray s 0 0 A) (F0 m 279 ls [.int xt0, .ref at1]) := by
    intro xn2 xt0 at1 Sn H locs ls hl h hle f_at1 f_a0 hw
    unfold wX12_step_b279 at hw
    refine lv_iconst (v := 1) X.1 X.2.1 dX12_step_279 (by decide) ?_
    refine lv_iload_n X.1 X.2.1 dX12_step_280 rfl (lv_at hl 0 rfl) ?_
    refine kp_callv X h (kp_runV (rm := { frames := 1, cells := 0, slots := 0, locals := 21 }) (mc := 0) (ms := 0) (rest := []) (Qc := fun A => kp_Qv D cy A Sn _) X h (c_X12_jumpIf l D cy ad Sn at1 xt0 1 xn2 _ h.2.2.2 f_at1 hw) f_at1 cv_12_724 ⟨by decide, by decide, rfl, rfl, by decide, by decide⟩ rfl hl.1 rfl (Nat.le_of_ble_eq_true rfl) dX12_step_281) (fun T4001 hw l_T4001 H locs h => ?_)
    have f_at1 := l_T4001.is f_at1
    have f_a0 := l_T4001.is f_a0
    have hle := hle.tr l_T4001
    refine lv_goto (tgt := 436) X.1 X.2.1 dX12_step_284 (by decide) ?_
    exact j436  T4001 H locs ls (lv_sub hl [] rfl) h hle f_a0 hw
  have j300 : ∀ (xn2 : Int32) (xt0 : Int32) (at1 : Nat) (Sn : kp_S) (H : Heap) (locs : List Loc) (ls : Array Slot), lv_has ls 4 [(2, .int xn2)] → kp_H D cy A Sn s.heap H locs → kp_le S Sn → kp_is Sn at1 12 → kp_is Sn a0 12 → wX12_step_b300 a0 xn2 xt0 at1  Sn post → W p l e { frames := 8, cells := 0, slots := 0, locals := 181 } s m ([.ref a0] : List Value).toArray below meth c H locs 0 0 (MQ below (kp_Qv D cy A S post) ([.ref a0] : List Value).toArray s 0 0 A) (F0 m 300 ls [.int xt0, .ref at1]) := by
    intro xn2 xt0 at1 Sn H locs ls hl h hle f_at1 f_a0 hw
    unfold wX12_step_b300 at hw
    refine lv_iconst (v := 0) X.1 X.2.1 dX12_step_300 (by decide) ?_
    refine lv_iload_n X.1 X.2.1 dX12_step_301 rfl (lv_at hl 0 rfl) ?_
    refine kp_callv X h (kp_runV (rm := { frames := 1, cells := 0, slots := 0, locals := 21 }) (mc := 0) (ms := 0) (rest := []) (Qc := fun A => kp_Qv D cy A Sn _) X h (c_X12_jumpIf l D cy ad Sn at1 xt0 0 xn2 _ h.2.2.2 f_at1 hw) f_at1 cv_12_724 ⟨by decide, by decide, rfl, rfl, by decide, by decide⟩ rfl hl.1 rfl (Nat.le_of_ble_eq_true rfl) dX12_step_302) (fun T5001 hw l_T5001 H locs h => ?_)
    have f_at1 := l_T5001.is f_at1
    have f_a0 := l_T5001.is f_a0
    have hle := hle.tr l_T5001
    refine lv_goto (tgt := 436) X.1 X.2.1 dX12_step_305 (by decide) ?_
    exact j436  T5001 H locs ls (lv_sub hl [] rfl) h hle f_a0 hw
  have j321 : ∀ (xt0 : Int32) (at1 : Nat) (Sn : kp_S) (H : Heap) (locs : List Loc) (ls : Array Slot), lv_has ls 4 [] → kp_H D cy A Sn s.heap H locs → kp_le S Sn → kp_is Sn at1 12 → kp_is Sn a0 12 → wX12_step_b321 a0 xt0 at1  Sn post → W p l e { frames := 8, cells := 0, slots := 0, locals := 181 } s m ([.ref a0] : List Value).toArray below meth c H locs 0 0 (MQ below (kp_Qv D cy A S post) ([.ref a0] : List Value).toArray s 0 0 A) (F0 m 321 ls [.int xt0, .ref at1]) := by
    intro xt0 at1 Sn H locs ls hl h hle f_at1 f_a0 hw
    unfold wX12_step_b321 at hw
    refine kp_callv X h (kp_runV (rm := { frames := 0, cells := 0, slots := 0, locals := 0 }) (mc := 0) (ms := 0) (rest := []) (Qc := fun A => kp_Qv D cy A Sn _) X h (c_X12_push l D cy ad Sn at1 xt0 _ h.2.2.2 f_at1 hw) f_at1 cv_12_708 ⟨by decide, by decide, rfl, rfl, by decide, by decide⟩ rfl hl.1 rfl (Nat.le_of_ble_eq_true rfl) dX12_step_321) (fun T6001 hw l_T6001 H locs h => ?_)
    have f_at1 := l_T6001.is f_at1
    have f_a0 := l_T6001.is f_a0
    have hle := hle.tr l_T6001
    refine lv_goto (tgt := 436) X.1 X.2.1 dX12_step_324 (by decide) ?_
    exact j436  T6001 H locs ls (lv_sub hl [] rfl) h hle f_a0 hw
  unfold wX12_step at hw
  have h : kp_H D cy A S s.heap s.heap [] := h
  revert h
  intro h
  refine lv_aload_n X.1 X.2.1 dX12_step_0 rfl (lv_at hl 0 rfl) ?_
  obtain ⟨b1, e_b1, hw⟩ := hw
  have f_b1 := h.2.2.2.rf (c := 12) (k := 48) f_a0 (by decide) (by decide) e_b1 (t := 14) rfl
  refine kp_get X h f_a0 ff_12_112.l (v := .ref b1) (congrArg va_rf e_b1) dX12_step_1 ?_
  refine lv_aload_n X.1 X.2.1 dX12_step_4 rfl (lv_at hl 0 rfl) ?_
  refine kp_get X h f_a0 fp_12_648.l (v := .int (kp_I S 2510 a0)) rfl dX12_step_5 ?_
  obtain ⟨hi, hw⟩ := hw
  refine kp_iald X h f_b1 hi dX12_step_8 ?_
  refine lv_topi (fun y2 e_y2 => ?_)
  have hw := hw y2 e_y2
  refine lv_istore_n (lv' := [(1, .int y2), (0, .ref a0)]) X.1 X.2.1 dX12_step_9 rfl hl (by decide) rfl (fun ls hl => ?_)
  refine lv_aload_n X.1 X.2.1 dX12_step_10 rfl (lv_at hl 1 rfl) ?_
  obtain ⟨b3, e_b3, hw⟩ := hw
  have f_b3 := h.2.2.2.rf (c := 12) (k := 49) f_a0 (by decide) (by decide) e_b3 (t := 14) rfl
  refine kp_get X h f_a0 ff_12_115.l (v := .ref b3) (congrArg va_rf e_b3) dX12_step_11 ?_
  refine lv_aload_n X.1 X.2.1 dX12_step_14 rfl (lv_at hl 1 rfl) ?_
  refine kp_get X h f_a0 fp_12_648.l (v := .int (kp_I S 2510 a0)) rfl dX12_step_15 ?_
  obtain ⟨hi, hw⟩ := hw
  refine kp_iald X h f_b3 hi dX12_step_18 ?_
  refine lv_topi (fun y4 e_y4 => ?_)
  have hw := hw y4 e_y4
  refine lv_istore_n (lv' := [(2, .int y4), (1, .int y2), (0, .ref a0)]) X.1 X.2.1 dX12_step_19 rfl hl (by decide) rfl (fun ls hl => ?_)
  refine lv_aload_n X.1 X.2.1 dX12_step_20 rfl (lv_at hl 2 rfl) ?_
  obtain ⟨b5, e_b5, hw⟩ := hw
  have f_b5 := h.2.2.2.rf (c := 12) (k := 50) f_a0 (by decide) (by decide) e_b5 (t := 14) rfl
  refine kp_get X h f_a0 ff_12_118.l (v := .ref b5) (congrArg va_rf e_b5) dX12_step_21 ?_
  refine lv_aload_n X.1 X.2.1 dX12_step_24 rfl (lv_at hl 2 rfl) ?_
  refine kp_get X h f_a0 fp_12_648.l (v := .int (kp_I S 2510 a0)) rfl dX12_step_25 ?_
  obtain ⟨hi, hw⟩ := hw
  refine kp_iald X h f_b5 hi dX12_step_28 ?_
  refine lv_topi (fun y6 e_y6 => ?_)
  have hw := hw y6 e_y6
  refine lv_istore_n (lv' := [(3, .int y6), (2, .int y4), (1, .int y2), (0, .ref a0)]) X.1 X.2.1 dX12_step_29 rfl hl (by decide) rfl (fun ls hl => ?_)
  refine lv_aload_n X.1 X.2.1 dX12_step_30 rfl (lv_at hl 3 rfl) ?_
  refine lv_dup X.1 X.2.1 dX12_step_31 rfl ?_
  refine kp_get X h f_a0 fp_12_648.l (v := .int (kp_I S 2510 a0)) rfl dX12_step_32 ?_
  refine lv_iconst (v := 1) X.1 X.2.1 dX12_step_35 (by decide) ?_
  refine lv_iadd X.1 X.2.1 dX12_step_36 ?_
  refine kp_putI X h f_a0 fp_12_648 rfl ⟨rfl, rfl⟩ dX12_step_37 (fun T7 e_T7 l_T7 H locs h => ?_)
  have hw := hw T7 e_T7
  have f_a0 := l_T7.is f_a0
  have f_b1 := l_T7.is f_b1
  have f_b3 := l_T7.is f_b3
  have f_b5 := l_T7.is f_b5
  have hle := hle.tr l_T7
  have e_b1 : kp_R T7 2448 a0 = some b1 := by rw [e_T7]; exact e_b1
  have e_b3 : kp_R T7 2449 a0 = some b3 := by rw [e_T7]; exact e_b3
  have e_b5 : kp_R T7 2450 a0 = some b5 := by rw [e_T7]; exact e_b5
  refine lv_iload_n X.1 X.2.1 dX12_step_40 rfl (lv_at hl 2 rfl) ?_
  refine lv_bipush (v := 30) X.1 X.2.1 dX12_step_41 (by decide) ?_
  refine lv_icmp_lt (tgt := 54) X.1 X.2.1 dX12_step_43 (by decide) (fun c76 => ?_) (fun c76 => ?_)
  · have hw := hw.1 c76
    refine lv_iload_n X.1 X.2.1 dX12_step_54 rfl (lv_at hl 2 rfl) ?_
    by_cases c8 : y2 = 1
    · have hw := hw.1 c8
      refine lv_tableIn (off := 117) (tgt := 172) X.1 X.2.1 dX12_step_55 (by rw [c8]; decide) (by rw [c8]; decide) (by rw [c8]; decide) (by decide) ?_
      refine lv_aload_n X.1 X.2.1 dX12_step_172 rfl (lv_at hl 3 rfl) ?_
      refine lv_iload_n X.1 X.2.1 dX12_step_173 rfl (lv_at hl 1 rfl) ?_
      refine kp_callv X h (kp_runV (rm := { frames := 0, cells := 0, slots := 0, locals := 0 }) (mc := 0) (ms := 0) (rest := []) (Qc := fun A => kp_Qv D cy A T7 _) X h (c_X12_push l D cy ad T7 a0 y4 _ h.2.2.2 f_a0 hw) f_a0 cv_12_708 ⟨by decide, by decide, rfl, rfl, by decide, by decide⟩ rfl hl.1 rfl (Nat.le_of_ble_eq_true rfl) dX12_step_174) (fun T9 hw l_T9 H locs h => ?_)
      have f_a0 := l_T9.is f_a0
      have f_b1 := l_T9.is f_b1
      have f_b3 := l_T9.is f_b3
      have f_b5 := l_T9.is f_b5
      have hle := hle.tr l_T9
      refine lv_goto (tgt := 436) X.1 X.2.1 dX12_step_177 (by decide) ?_
      exact j436  T9 _ _ ls (lv_sub hl [] rfl) h hle f_a0 hw
    have hw := hw.2 c8
    by_cases c10 : y2 = 2
    · have hw := hw.1 c10
      refine lv_tableIn (off := 125) (tgt := 180) X.1 X.2.1 dX12_step_55 (by rw [c10]; decide) (by rw [c10]; decide) (by rw [c10]; decide) (by decide) ?_
      refine lv_aload_n X.1 X.2.1 dX12_step_180 rfl (lv_at hl 3 rfl) ?_
      refine lv_aload_n X.1 X.2.1 dX12_step_181 rfl (lv_at hl 3 rfl) ?_
      obtain ⟨b11, e_b11, hw⟩ := hw
      have f_b11 := h.2.2.2.rf (c := 12) (k := 109) f_a0 (by decide) (by decide) e_b11 (t := 14) rfl
      refine kp_get X h f_a0 ff_12_236.l (v := .ref b11) (congrArg va_rf e_b11) dX12_step_182 ?_
      refine lv_bipush (v := 24) X.1 X.2.1 dX12_step_185 (by decide) ?_
      refine lv_aload_n X.1 X.2.1 dX12_step_187 rfl (lv_at hl 3 rfl) ?_
      refine kp_get X h f_a0 fp_12_699.l (v := .int (kp_I T7 2501 a0)) rfl dX12_step_188 ?_
      refine lv_imul X.1 X.2.1 dX12_step_191 ?_
      refine lv_iload_n X.1 X.2.1 dX12_step_192 rfl (lv_at hl 1 rfl) ?_
      refine lv_iadd X.1 X.2.1 dX12_step_193 ?_
      obtain ⟨hi, hw⟩ := hw
      refine kp_iald X h f_b11 hi dX12_step_194 ?_
      refine kp_callv X h (kp_runV (rm := { frames := 0, cells := 0, slots := 0, locals := 0 }) (mc := 0) (ms := 0) (rest := []) (Qc := fun A => kp_Qv D cy A T7 _) X h (c_X12_push l D cy ad T7 a0 (kp_A T7 b11 ((24 * (kp_I T7 2501 a0)) + y4).toNatClampNeg) _ h.2.2.2 f_a0 hw) f_a0 cv_12_708 ⟨by decide, by decide, rfl, rfl, by decide, by decide⟩ rfl hl.1 rfl (Nat.le_of_ble_eq_true rfl) dX12_step_195) (fun T12 hw l_T12 H locs h => ?_)
      have f_a0 := l_T12.is f_a0
      have f_b1 := l_T12.is f_b1
      have f_b3 := l_T12.is f_b3
      have f_b5 := l_T12.is f_b5
      have f_b11 := l_T12.is f_b11
      have hle := hle.tr l_T12
      refine lv_goto (tgt := 436) X.1 X.2.1 dX12_step_198 (by decide) ?_
      exact j436  T12 _ _ ls (lv_sub hl [] rfl) h hle f_a0 hw
    have hw := hw.2 c10
    by_cases c13 : y2 = 3
    · have hw := hw.1 c13
      refine lv_tableIn (off := 146) (tgt := 201) X.1 X.2.1 dX12_step_55 (by rw [c13]; decide) (by rw [c13]; decide) (by rw [c13]; decide) (by decide) ?_
      refine lv_aload_n X.1 X.2.1 dX12_step_201 rfl (lv_at hl 3 rfl) ?_
      obtain ⟨b14, e_b14, hw⟩ := hw
      have f_b14 := h.2.2.2.rf (c := 12) (k := 109) f_a0 (by decide) (by decide) e_b14 (t := 14) rfl
      refine kp_get X h f_a0 ff_12_236.l (v := .ref b14) (congrArg va_rf e_b14) dX12_step_202 ?_
      refine lv_bipush (v := 24) X.1 X.2.1 dX12_step_205 (by decide) ?_
      refine lv_aload_n X.1 X.2.1 dX12_step_207 rfl (lv_at hl 3 rfl) ?_
      refine kp_get X h f_a0 fp_12_699.l (v := .int (kp_I T7 2501 a0)) rfl dX12_step_208 ?_
      refine lv_imul X.1 X.2.1 dX12_step_211 ?_
      refine lv_iload_n X.1 X.2.1 dX12_step_212 rfl (lv_at hl 1 rfl) ?_
      refine lv_iadd X.1 X.2.1 dX12_step_213 ?_
      refine lv_aload_n X.1 X.2.1 dX12_step_214 rfl (lv_at hl 3 rfl) ?_
      refine kp_calli X h (kp_runV (rm := { frames := 0, cells := 0, slots := 0, locals := 0 }) (mc := 0) (ms := 0) (rest := [.int ((24 * (kp_I T7 2501 a0)) + y4), .ref b14]) (Qc := fun A => kp_Qi D cy A T7 _) X h (c_X12_pop l D cy ad T7 a0 _ h.2.2.2 f_a0 hw) f_a0 cv_12_718 ⟨by decide, by decide, rfl, rfl, by decide, by decide⟩ rfl hl.1 rfl (Nat.le_of_ble_eq_true rfl) dX12_step_215) (fun y16 T15 hw l_T15 H locs h => ?_)
      have f_a0 := l_T15.is f_a0
      have f_b1 := l_T15.is f_b1
      have f_b3 := l_T15.is f_b3
      have f_b5 := l_T15.is f_b5
      have f_b14 := l_T15.is f_b14
      have hle := hle.tr l_T15
      obtain ⟨hi, hw⟩ := hw
      refine kp_iast X h f_b14 hi dX12_step_218 (fun T17 e_T17 l_T17 H locs h => ?_)
      have hw := hw T17 e_T17
      have f_a0 := l_T17.is f_a0
      have f_b1 := l_T17.is f_b1
      have f_b3 := l_T17.is f_b3
      have f_b5 := l_T17.is f_b5
      have f_b14 := l_T17.is f_b14
      have hle := hle.tr l_T17
      refine lv_goto (tgt := 436) X.1 X.2.1 dX12_step_219 (by decide) ?_
      exact j436  T17 _ _ ls (lv_sub hl [] rfl) h hle f_a0 hw
    have hw := hw.2 c13
    by_cases c18 : y2 = 4
    · have hw := hw.1 c18
      refine lv_tableIn (off := 167) (tgt := 222) X.1 X.2.1 dX12_step_55 (by rw [c18]; decide) (by rw [c18]; decide) (by rw [c18]; decide) (by decide) ?_
      refine lv_aload_n X.1 X.2.1 dX12_step_222 rfl (lv_at hl 3 rfl) ?_
      refine lv_dup X.1 X.2.1 dX12_step_223 rfl ?_
      refine kp_get X h f_a0 fp_12_604.l (v := .int (kp_I T7 2516 a0)) rfl dX12_step_224 ?_
      refine lv_iconst (v := 1) X.1 X.2.1 dX12_step_227 (by decide) ?_
      refine lv_isub X.1 X.2.1 dX12_step_228 ?_
      refine kp_putI X h f_a0 fp_12_604 rfl ⟨rfl, rfl⟩ dX12_step_229 (fun T19 e_T19 l_T19 H locs h => ?_)
      have hw := hw T19 e_T19
      have f_a0 := l_T19.is f_a0
      have f_b1 := l_T19.is f_b1
      have f_b3 := l_T19.is f_b3
      have f_b5 := l_T19.is f_b5
      have hle := hle.tr l_T19
      have e_b1 : kp_R T19 2448 a0 = some b1 := by rw [e_T19]; exact e_b1
      have e_b3 : kp_R T19 2449 a0 = some b3 := by rw [e_T19]; exact e_b3
      have e_b5 : kp_R T19 2450 a0 = some b5 := by rw [e_T19]; exact e_b5
      refine lv_goto (tgt := 436) X.1 X.2.1 dX12_step_232 (by decide) ?_
      exact j436  T19 _ _ ls (lv_sub hl [] rfl) h hle f_a0 hw
    have hw := hw.2 c18
    by_cases c20 : y2 = 5
    · have hw := hw.1 c20
      refine lv_tableIn (off := 180) (tgt := 235) X.1 X.2.1 dX12_step_55 (by rw [c20]; decide) (by rw [c20]; decide) (by rw [c20]; decide) (by decide) ?_
      refine lv_aload_n X.1 X.2.1 dX12_step_235 rfl (lv_at hl 3 rfl) ?_
      refine lv_aload_n X.1 X.2.1 dX12_step_236 rfl (lv_at hl 3 rfl) ?_
      refine kp_calli X h (kp_runV (rm := { frames := 0, cells := 0, slots := 0, locals := 0 }) (mc := 0) (ms := 0) (rest := [.ref a0]) (Qc := fun A => kp_Qi D cy A T7 _) X h (c_X12_pop l D cy ad T7 a0 _ h.2.2.2 f_a0 hw) f_a0 cv_12_718 ⟨by decide, by decide, rfl, rfl, by decide, by decide⟩ rfl hl.1 rfl (Nat.le_of_ble_eq_true rfl) dX12_step_237) (fun y22 T21 hw l_T21 H locs h => ?_)
      have f_a0 := l_T21.is f_a0
      have f_b1 := l_T21.is f_b1
      have f_b3 := l_T21.is f_b3
      have f_b5 := l_T21.is f_b5
      have hle := hle.tr l_T21
      refine lv_ineg X.1 X.2.1 dX12_step_240 ?_
      refine kp_callv X h (kp_runV (rm := { frames := 0, cells := 0, slots := 0, locals := 0 }) (mc := 0) (ms := 0) (rest := []) (Qc := fun A => kp_Qv D cy A T21 _) X h (c_X12_push l D cy ad T21 a0 (-y22) _ h.2.2.2 f_a0 hw) f_a0 cv_12_708 ⟨by decide, by decide, rfl, rfl, by decide, by decide⟩ rfl hl.1 rfl (Nat.le_of_ble_eq_true rfl) dX12_step_241) (fun T23 hw l_T23 H locs h => ?_)
      have f_a0 := l_T23.is f_a0
      have f_b1 := l_T23.is f_b1
      have f_b3 := l_T23.is f_b3
      have f_b5 := l_T23.is f_b5
      have hle := hle.tr l_T23
      refine lv_goto (tgt := 436) X.1 X.2.1 dX12_step_244 (by decide) ?_
      exact j436  T23 _ _ ls (lv_sub hl [] rfl) h hle f_a0 hw
    have hw := hw.2 c20
    by_cases c24 : y2 = 6
    · have hw := hw.1 c24
      refine lv_tableIn (off := 192) (tgt := 247) X.1 X.2.1 dX12_step_55 (by rw [c24]; decide) (by rw [c24]; decide) (by rw [c24]; decide) (by decide) ?_
      refine lv_aload_n X.1 X.2.1 dX12_step_247 rfl (lv_at hl 3 rfl) ?_
      refine lv_aload_n X.1 X.2.1 dX12_step_248 rfl (lv_at hl 3 rfl) ?_
      refine kp_calli X h (kp_runV (rm := { frames := 0, cells := 0, slots := 0, locals := 0 }) (mc := 0) (ms := 0) (rest := [.ref a0]) (Qc := fun A => kp_Qi D cy A T7 _) X h (c_X12_pop l D cy ad T7 a0 _ h.2.2.2 f_a0 hw) f_a0 cv_12_718 ⟨by decide, by decide, rfl, rfl, by decide, by decide⟩ rfl hl.1 rfl (Nat.le_of_ble_eq_true rfl) dX12_step_249) (fun y26 T25 hw l_T25 H locs h => ?_)
      have f_a0 := l_T25.is f_a0
      have f_b1 := l_T25.is f_b1
      have f_b3 := l_T25.is f_b3
      have f_b5 := l_T25.is f_b5
      have hle := hle.tr l_T25
      refine lv_if_ne (tgt := 259) X.1 X.2.1 dX12_step_252 (by decide) (fun c27 => ?_) (fun c27 => ?_)
      · have hw := hw.1 c27
        refine lv_iconst (v := 0) X.1 X.2.1 dX12_step_259 (by decide) ?_
        exact j260 0 a0 T25 _ _ ls (lv_sub hl [] rfl) h hle f_a0 f_a0 hw
      · have hw := hw.2 c27
        refine lv_iconst (v := 1) X.1 X.2.1 dX12_step_255 (by decide) ?_
        refine lv_goto (tgt := 260) X.1 X.2.1 dX12_step_256 (by decide) ?_
        exact j260 1 a0 T25 _ _ ls (lv_sub hl [] rfl) h hle f_a0 f_a0 hw
    have hw := hw.2 c24
    by_cases c28 : y2 = 7
    · have hw := hw.1 c28
      refine lv_tableIn (off := 376) (tgt := 431) X.1 X.2.1 dX12_step_55 (by rw [c28]; decide) (by rw [c28]; decide) (by rw [c28]; decide) (by decide) ?_
      exact j431 y2 T7 _ _ ls (lv_sub hl [3, 2] rfl) h hle f_a0 hw
    have hw := hw.2 c28
    by_cases c29 : y2 = 8
    · have hw := hw.1 c29
      refine lv_tableIn (off := 376) (tgt := 431) X.1 X.2.1 dX12_step_55 (by rw [c29]; decide) (by rw [c29]; decide) (by rw [c29]; decide) (by decide) ?_
      exact j431 y2 T7 _ _ ls (lv_sub hl [3, 2] rfl) h hle f_a0 hw
    have hw := hw.2 c29
    by_cases c30 : y2 = 9
    · have hw := hw.1 c30
      refine lv_tableIn (off := 376) (tgt := 431) X.1 X.2.1 dX12_step_55 (by rw [c30]; decide) (by rw [c30]; decide) (by rw [c30]; decide) (by decide) ?_
      exact j431 y2 T7 _ _ ls (lv_sub hl [3, 2] rfl) h hle f_a0 hw
    have hw := hw.2 c30
    by_cases c31 : y2 = 10
    · have hw := hw.1 c31
      refine lv_tableIn (off := 376) (tgt := 431) X.1 X.2.1 dX12_step_55 (by rw [c31]; decide) (by rw [c31]; decide) (by rw [c31]; decide) (by decide) ?_
      exact j431 y2 T7 _ _ ls (lv_sub hl [3, 2] rfl) h hle f_a0 hw
    have hw := hw.2 c31
    by_cases c32 : y2 = 11
    · have hw := hw.1 c32
      refine lv_tableIn (off := 376) (tgt := 431) X.1 X.2.1 dX12_step_55 (by rw [c32]; decide) (by rw [c32]; decide) (by rw [c32]; decide) (by decide) ?_
      exact j431 y2 T7 _ _ ls (lv_sub hl [3, 2] rfl) h hle f_a0 hw
    have hw := hw.2 c32
    by_cases c33 : y2 = 12
    · have hw := hw.1 c33
      refine lv_tableIn (off := 376) (tgt := 431) X.1 X.2.1 dX12_step_55 (by rw [c33]; decide) (by rw [c33]; decide) (by rw [c33]; decide) (by decide) ?_
      exact j431 y2 T7 _ _ ls (lv_sub hl [3, 2] rfl) h hle f_a0 hw
    have hw := hw.2 c33
    by_cases c34 : y2 = 13
    · have hw := hw.1 c34
      refine lv_tableIn (off := 376) (tgt := 431) X.1 X.2.1 dX12_step_55 (by rw [c34]; decide) (by rw [c34]; decide) (by rw [c34]; decide) (by decide) ?_
      exact j431 y2 T7 _ _ ls (lv_sub hl [3, 2] rfl) h hle f_a0 hw
    have hw := hw.2 c34
    by_cases c35 : y2 = 14
    · have hw := hw.1 c35
      refine lv_tableIn (off := 376) (tgt := 431) X.1 X.2.1 dX12_step_55 (by rw [c35]; decide) (by rw [c35]; decide) (by rw [c35]; decide) (by decide) ?_
      exact j431 y2 T7 _ _ ls (lv_sub hl [3, 2] rfl) h hle f_a0 hw
    have hw := hw.2 c35
    by_cases c36 : y2 = 15
    · have hw := hw.1 c36
      refine lv_tableIn (off := 376) (tgt := 431) X.1 X.2.1 dX12_step_55 (by rw [c36]; decide) (by rw [c36]; decide) (by rw [c36]; decide) (by decide) ?_
      exact j431 y2 T7 _ _ ls (lv_sub hl [3, 2] rfl) h hle f_a0 hw
    have hw := hw.2 c36
    by_cases c37 : y2 = 16
    · have hw := hw.1 c37
      refine lv_tableIn (off := 211) (tgt := 266) X.1 X.2.1 dX12_step_55 (by rw [c37]; decide) (by rw [c37]; decide) (by rw [c37]; decide) (by decide) ?_
      refine lv_aload_n X.1 X.2.1 dX12_step_266 rfl (lv_at hl 3 rfl) ?_
      refine lv_aload_n X.1 X.2.1 dX12_step_267 rfl (lv_at hl 3 rfl) ?_
      refine kp_calli X h (kp_runV (rm := { frames := 0, cells := 0, slots := 0, locals := 0 }) (mc := 0) (ms := 0) (rest := [.ref a0]) (Qc := fun A => kp_Qi D cy A T7 _) X h (c_X12_pop l D cy ad T7 a0 _ h.2.2.2 f_a0 hw) f_a0 cv_12_718 ⟨by decide, by decide, rfl, rfl, by decide, by decide⟩ rfl hl.1 rfl (Nat.le_of_ble_eq_true rfl) dX12_step_268) (fun y39 T38 hw l_T38 H locs h => ?_)
      have f_a0 := l_T38.is f_a0
      have f_b1 := l_T38.is f_b1
      have f_b3 := l_T38.is f_b3
      have f_b5 := l_T38.is f_b5
      have hle := hle.tr l_T38
      refine lv_if_eq (tgt := 278) X.1 X.2.1 dX12_step_271 (by decide) (fun c40 => ?_) (fun c40 => ?_)
      · have hw := hw.1 c40
        refine lv_iconst (v := 0) X.1 X.2.1 dX12_step_278 (by decide) ?_
        exact j279 y4 0 a0 T38 _ _ ls (lv_sub hl [1] rfl) h hle f_a0 f_a0 hw
      · have hw := hw.2 c40
        refine lv_iconst (v := 1) X.1 X.2.1 dX12_step_274 (by decide) ?_
        refine lv_goto (tgt := 279) X.1 X.2.1 dX12_step_275 (by decide) ?_
        exact j279 y4 1 a0 T38 _ _ ls (lv_sub hl [1] rfl) h hle f_a0 f_a0 hw
    have hw := hw.2 c37
    by_cases c41 : y2 = 17
    · have hw := hw.1 c41
      refine lv_tableIn (off := 232) (tgt := 287) X.1 X.2.1 dX12_step_55 (by rw [c41]; decide) (by rw [c41]; decide) (by rw [c41]; decide) (by decide) ?_
      refine lv_aload_n X.1 X.2.1 dX12_step_287 rfl (lv_at hl 3 rfl) ?_
      refine lv_aload_n X.1 X.2.1 dX12_step_288 rfl (lv_at hl 3 rfl) ?_
      refine kp_calli X h (kp_runV (rm := { frames := 0, cells := 0, slots := 0, locals := 0 }) (mc := 0) (ms := 0) (rest := [.ref a0]) (Qc := fun A => kp_Qi D cy A T7 _) X h (c_X12_pop l D cy ad T7 a0 _ h.2.2.2 f_a0 hw) f_a0 cv_12_718 ⟨by decide, by decide, rfl, rfl, by decide, by decide⟩ rfl hl.1 rfl (Nat.le_of_ble_eq_true rfl) dX12_step_289) (fun y43 T42 hw l_T42 H locs h => ?_)
      have f_a0 := l_T42.is f_a0
      have f_b1 := l_T42.is f_b1
      have f_b3 := l_T42.is f_b3
      have f_b5 := l_T42.is f_b5
      have hle := hle.tr l_T42
      refine lv_if_ne (tgt := 299) X.1 X.2.1 dX12_step_292 (by decide) (fun c44 => ?_) (fun c44 => ?_)
      · have hw := hw.1 c44
        refine lv_iconst (v := 0) X.1 X.2.1 dX12_step_299 (by decide) ?_
        exact j300 y4 0 a0 T42 _ _ ls (lv_sub hl [1] rfl) h hle f_a0 f_a0 hw
      · have hw := hw.2 c44
        refine lv_iconst (v := 1) X.1 X.2.1 dX12_step_295 (by decide) ?_
        refine lv_goto (tgt := 300) X.1 X.2.1 dX12_step_296 (by decide) ?_
        exact j300 y4 1 a0 T42 _ _ ls (lv_sub hl [1] rfl) h hle f_a0 f_a0 hw
    have hw := hw.2 c41
    by_cases c45 : y2 = 18
    · have hw := hw.1 c45
      refine lv_tableIn (off := 253) (tgt := 308) X.1 X.2.1 dX12_step_55 (by rw [c45]; decide) (by rw [c45]; decide) (by rw [c45]; decide) (by decide) ?_
      refine lv_aload_n X.1 X.2.1 dX12_step_308 rfl (lv_at hl 3 rfl) ?_
      refine lv_aload_n X.1 X.2.1 dX12_step_309 rfl (lv_at hl 3 rfl) ?_
      refine kp_calli X h (kp_runV (rm := { frames := 0, cells := 0, slots := 0, locals := 0 }) (mc := 0) (ms := 0) (rest := [.ref a0]) (Qc := fun A => kp_Qi D cy A T7 _) X h (c_X12_pop l D cy ad T7 a0 _ h.2.2.2 f_a0 hw) f_a0 cv_12_718 ⟨by decide, by decide, rfl, rfl, by decide, by decide⟩ rfl hl.1 rfl (Nat.le_of_ble_eq_true rfl) dX12_step_310) (fun y47 T46 hw l_T46 H locs h => ?_)
      have f_a0 := l_T46.is f_a0
      have f_b1 := l_T46.is f_b1
      have f_b3 := l_T46.is f_b3
      have f_b5 := l_T46.is f_b5
      have hle := hle.tr l_T46
      refine lv_if_eq (tgt := 320) X.1 X.2.1 dX12_step_313 (by decide) (fun c48 => ?_) (fun c48 => ?_)
      · have hw := hw.1 c48
        refine lv_iconst (v := 0) X.1 X.2.1 dX12_step_320 (by decide) ?_
        exact j321 0 a0 T46 _ _ ls (lv_sub hl [] rfl) h hle f_a0 f_a0 hw
      · have hw := hw.2 c48
        refine lv_iconst (v := 1) X.1 X.2.1 dX12_step_316 (by decide) ?_
        refine lv_goto (tgt := 321) X.1 X.2.1 dX12_step_317 (by decide) ?_
        exact j321 1 a0 T46 _ _ ls (lv_sub hl [] rfl) h hle f_a0 f_a0 hw
    have hw := hw.2 c45
    by_cases c49 : y2 = 19
    · have hw := hw.1 c49
      refine lv_tableIn (off := 272) (tgt := 327) X.1 X.2.1 dX12_step_55 (by rw [c49]; decide) (by rw [c49]; decide) (by rw [c49]; decide) (by decide) ?_
      refine lv_aload_n X.1 X.2.1 dX12_step_327 rfl (lv_at hl 3 rfl) ?_
      refine lv_iload_n X.1 X.2.1 dX12_step_328 rfl (lv_at hl 1 rfl) ?_
      refine lv_iload_n X.1 X.2.1 dX12_step_329 rfl (lv_at hl 0 rfl) ?_
      refine kp_callv X h (kp_runV (rm := { frames := 6, cells := 0, slots := 0, locals := 130 }) (mc := 0) (ms := 0) (rest := []) (Qc := fun A => kp_Qv D cy A T7 _) X h (c_X12_calls l D cy ad T7 a0 y4 y6 _ h.2.2.2 f_a0 hw) f_a0 cv_12_728 ⟨by decide, by decide, rfl, rfl, by decide, by decide⟩ rfl hl.1 rfl (Nat.le_of_ble_eq_true rfl) dX12_step_330) (fun T50 hw l_T50 H locs h => ?_)
      have f_a0 := l_T50.is f_a0
      have f_b1 := l_T50.is f_b1
      have f_b3 := l_T50.is f_b3
      have f_b5 := l_T50.is f_b5
      have hle := hle.tr l_T50
      refine lv_goto (tgt := 436) X.1 X.2.1 dX12_step_333 (by decide) ?_
      exact j436  T50 _ _ ls (lv_sub hl [] rfl) h hle f_a0 hw
    have hw := hw.2 c49
    by_cases c51 : y2 = 20
    · have hw := hw.1 c51
      refine lv_tableIn (off := 281) (tgt := 336) X.1 X.2.1 dX12_step_55 (by rw [c51]; decide) (by rw [c51]; decide) (by rw [c51]; decide) (by decide) ?_
      refine lv_aload_n X.1 X.2.1 dX12_step_336 rfl (lv_at hl 3 rfl) ?_
      refine lv_aload_n X.1 X.2.1 dX12_step_337 rfl (lv_at hl 3 rfl) ?_
      refine kp_calli X h (kp_runV (rm := { frames := 0, cells := 0, slots := 0, locals := 0 }) (mc := 0) (ms := 0) (rest := [.ref a0]) (Qc := fun A => kp_Qi D cy A T7 _) X h (c_X12_pop l D cy ad T7 a0 _ h.2.2.2 f_a0 hw) f_a0 cv_12_718 ⟨by decide, by decide, rfl, rfl, by decide, by decide⟩ rfl hl.1 rfl (Nat.le_of_ble_eq_true rfl) dX12_step_338) (fun y53 T52 hw l_T52 H locs h => ?_)
      have f_a0 := l_T52.is f_a0
      have f_b1 := l_T52.is f_b1
      have f_b3 := l_T52.is f_b3
      have f_b5 := l_T52.is f_b5
      have hle := hle.tr l_T52
      refine lv_bipush (v := 6) X.1 X.2.1 dX12_step_341 (by decide) ?_
      refine lv_iload_n X.1 X.2.1 dX12_step_343 rfl (lv_at hl 2 rfl) ?_
      refine kp_callv X h (kp_runV (rm := { frames := 6, cells := 0, slots := 0, locals := 130 }) (mc := 0) (ms := 0) (rest := []) (Qc := fun A => kp_Qv D cy A T52 _) X h (c_X12_answers l D cy ad T52 a0 y53 6 y2 _ h.2.2.2 f_a0 hw) f_a0 cv_12_730 ⟨by decide, by decide, rfl, rfl, by decide, by decide⟩ rfl hl.1 rfl (Nat.le_of_ble_eq_true rfl) dX12_step_344) (fun T54 hw l_T54 H locs h => ?_)
      have f_a0 := l_T54.is f_a0
      have f_b1 := l_T54.is f_b1
      have f_b3 := l_T54.is f_b3
      have f_b5 := l_T54.is f_b5
      have hle := hle.tr l_T54
      refine lv_goto (tgt := 436) X.1 X.2.1 dX12_step_347 (by decide) ?_
      exact j436  T54 _ _ ls (lv_sub hl [] rfl) h hle f_a0 hw
    have hw := hw.2 c51
    by_cases c55 : y2 = 21
    · have hw := hw.1 c55
      refine lv_tableIn (off := 295) (tgt := 350) X.1 X.2.1 dX12_step_55 (by rw [c55]; decide) (by rw [c55]; decide) (by rw [c55]; decide) (by decide) ?_
      refine lv_aload_n X.1 X.2.1 dX12_step_350 rfl (lv_at hl 3 rfl) ?_
      refine lv_aload_n X.1 X.2.1 dX12_step_351 rfl (lv_at hl 3 rfl) ?_
      refine kp_calli X h (kp_runV (rm := { frames := 0, cells := 0, slots := 0, locals := 0 }) (mc := 0) (ms := 0) (rest := [.ref a0]) (Qc := fun A => kp_Qi D cy A T7 _) X h (c_X12_pop l D cy ad T7 a0 _ h.2.2.2 f_a0 hw) f_a0 cv_12_718 ⟨by decide, by decide, rfl, rfl, by decide, by decide⟩ rfl hl.1 rfl (Nat.le_of_ble_eq_true rfl) dX12_step_352) (fun y57 T56 hw l_T56 H locs h => ?_)
      have f_a0 := l_T56.is f_a0
      have f_b1 := l_T56.is f_b1
      have f_b3 := l_T56.is f_b3
      have f_b5 := l_T56.is f_b5
      have hle := hle.tr l_T56
      refine lv_bipush (v := 7) X.1 X.2.1 dX12_step_355 (by decide) ?_
      refine lv_iload_n X.1 X.2.1 dX12_step_357 rfl (lv_at hl 2 rfl) ?_
      refine kp_callv X h (kp_runV (rm := { frames := 6, cells := 0, slots := 0, locals := 130 }) (mc := 0) (ms := 0) (rest := []) (Qc := fun A => kp_Qv D cy A T56 _) X h (c_X12_answers l D cy ad T56 a0 y57 7 y2 _ h.2.2.2 f_a0 hw) f_a0 cv_12_730 ⟨by decide, by decide, rfl, rfl, by decide, by decide⟩ rfl hl.1 rfl (Nat.le_of_ble_eq_true rfl) dX12_step_358) (fun T58 hw l_T58 H locs h => ?_)
      have f_a0 := l_T58.is f_a0
      have f_b1 := l_T58.is f_b1
      have f_b3 := l_T58.is f_b3
      have f_b5 := l_T58.is f_b5
      have hle := hle.tr l_T58
      refine lv_goto (tgt := 436) X.1 X.2.1 dX12_step_361 (by decide) ?_
      exact j436  T58 _ _ ls (lv_sub hl [] rfl) h hle f_a0 hw
    have hw := hw.2 c55
    by_cases c59 : y2 = 22
    · have hw := hw.1 c59
      refine lv_tableIn (off := 337) (tgt := 392) X.1 X.2.1 dX12_step_55 (by rw [c59]; decide) (by rw [c59]; decide) (by rw [c59]; decide) (by decide) ?_
      refine lv_aload_n X.1 X.2.1 dX12_step_392 rfl (lv_at hl 3 rfl) ?_
      refine kp_callv X h (kp_runV (rm := { frames := 6, cells := 0, slots := 0, locals := 130 }) (mc := 0) (ms := 0) (rest := []) (Qc := fun A => kp_Qv D cy A T7 _) X h (c_X12_answersGate l D cy ad T7 a0 _ h.2.2.2 f_a0 hw) f_a0 cv_12_733 ⟨by decide, by decide, rfl, rfl, by decide, by decide⟩ rfl hl.1 rfl (Nat.le_of_ble_eq_true rfl) dX12_step_393) (fun T60 hw l_T60 H locs h => ?_)
      have f_a0 := l_T60.is f_a0
      have f_b1 := l_T60.is f_b1
      have f_b3 := l_T60.is f_b3
      have f_b5 := l_T60.is f_b5
      have hle := hle.tr l_T60
      refine lv_goto (tgt := 436) X.1 X.2.1 dX12_step_396 (by decide) ?_
      exact j436  T60 _ _ ls (lv_sub hl [] rfl) h hle f_a0 hw
    have hw := hw.2 c59
    by_cases c61 : y2 = 23
    · have hw := hw.1 c61
      refine lv_tableIn (off := 309) (tgt := 364) X.1 X.2.1 dX12_step_55 (by rw [c61]; decide) (by rw [c61]; decide) (by rw [c61]; decide) (by decide) ?_
      refine lv_aload_n X.1 X.2.1 dX12_step_364 rfl (lv_at hl 3 rfl) ?_
      refine lv_aload_n X.1 X.2.1 dX12_step_365 rfl (lv_at hl 3 rfl) ?_
      refine kp_calli X h (kp_runV (rm := { frames := 0, cells := 0, slots := 0, locals := 0 }) (mc := 0) (ms := 0) (rest := [.ref a0]) (Qc := fun A => kp_Qi D cy A T7 _) X h (c_X12_pop l D cy ad T7 a0 _ h.2.2.2 f_a0 hw) f_a0 cv_12_718 ⟨by decide, by decide, rfl, rfl, by decide, by decide⟩ rfl hl.1 rfl (Nat.le_of_ble_eq_true rfl) dX12_step_366) (fun y63 T62 hw l_T62 H locs h => ?_)
      have f_a0 := l_T62.is f_a0
      have f_b1 := l_T62.is f_b1
      have f_b3 := l_T62.is f_b3
      have f_b5 := l_T62.is f_b5
      have hle := hle.tr l_T62
      refine lv_bipush (v := 8) X.1 X.2.1 dX12_step_369 (by decide) ?_
      refine lv_iload_n X.1 X.2.1 dX12_step_371 rfl (lv_at hl 2 rfl) ?_
      refine kp_callv X h (kp_runV (rm := { frames := 6, cells := 0, slots := 0, locals := 130 }) (mc := 0) (ms := 0) (rest := []) (Qc := fun A => kp_Qv D cy A T62 _) X h (c_X12_answers l D cy ad T62 a0 y63 8 y2 _ h.2.2.2 f_a0 hw) f_a0 cv_12_730 ⟨by decide, by decide, rfl, rfl, by decide, by decide⟩ rfl hl.1 rfl (Nat.le_of_ble_eq_true rfl) dX12_step_372) (fun T64 hw l_T64 H locs h => ?_)
      have f_a0 := l_T64.is f_a0
      have f_b1 := l_T64.is f_b1
      have f_b3 := l_T64.is f_b3
      have f_b5 := l_T64.is f_b5
      have hle := hle.tr l_T64
      refine lv_goto (tgt := 436) X.1 X.2.1 dX12_step_375 (by decide) ?_
      exact j436  T64 _ _ ls (lv_sub hl [] rfl) h hle f_a0 hw
    have hw := hw.2 c61
    by_cases c65 : y2 = 24
    · have hw := hw.1 c65
      refine lv_tableIn (off := 323) (tgt := 378) X.1 X.2.1 dX12_step_55 (by rw [c65]; decide) (by rw [c65]; decide) (by rw [c65]; decide) (by decide) ?_
      refine lv_aload_n X.1 X.2.1 dX12_step_378 rfl (lv_at hl 3 rfl) ?_
      refine lv_aload_n X.1 X.2.1 dX12_step_379 rfl (lv_at hl 3 rfl) ?_
      refine kp_calli X h (kp_runV (rm := { frames := 0, cells := 0, slots := 0, locals := 0 }) (mc := 0) (ms := 0) (rest := [.ref a0]) (Qc := fun A => kp_Qi D cy A T7 _) X h (c_X12_pop l D cy ad T7 a0 _ h.2.2.2 f_a0 hw) f_a0 cv_12_718 ⟨by decide, by decide, rfl, rfl, by decide, by decide⟩ rfl hl.1 rfl (Nat.le_of_ble_eq_true rfl) dX12_step_380) (fun y67 T66 hw l_T66 H locs h => ?_)
      have f_a0 := l_T66.is f_a0
      have f_b1 := l_T66.is f_b1
      have f_b3 := l_T66.is f_b3
      have f_b5 := l_T66.is f_b5
      have hle := hle.tr l_T66
      refine lv_bipush (v := 6) X.1 X.2.1 dX12_step_383 (by decide) ?_
      refine lv_iload_n X.1 X.2.1 dX12_step_385 rfl (lv_at hl 2 rfl) ?_
      refine kp_callv X h (kp_runV (rm := { frames := 6, cells := 0, slots := 0, locals := 130 }) (mc := 0) (ms := 0) (rest := []) (Qc := fun A => kp_Qv D cy A T66 _) X h (c_X12_answers l D cy ad T66 a0 y67 6 y2 _ h.2.2.2 f_a0 hw) f_a0 cv_12_730 ⟨by decide, by decide, rfl, rfl, by decide, by decide⟩ rfl hl.1 rfl (Nat.le_of_ble_eq_true rfl) dX12_step_386) (fun T68 hw l_T68 H locs h => ?_)
      have f_a0 := l_T68.is f_a0
      have f_b1 := l_T68.is f_b1
      have f_b3 := l_T68.is f_b3
      have f_b5 := l_T68.is f_b5
      have hle := hle.tr l_T68
      refine lv_goto (tgt := 436) X.1 X.2.1 dX12_step_389 (by decide) ?_
      exact j436  T68 _ _ ls (lv_sub hl [] rfl) h hle f_a0 hw
    have hw := hw.2 c65
    by_cases c69 : y2 = 25
    · have hw := hw.1 c69
      refine lv_tableIn (off := 344) (tgt := 399) X.1 X.2.1 dX12_step_55 (by rw [c69]; decide) (by rw [c69]; decide) (by rw [c69]; decide) (by decide) ?_
      refine lv_aload_n X.1 X.2.1 dX12_step_399 rfl (lv_at hl 3 rfl) ?_
      refine lv_aload_n X.1 X.2.1 dX12_step_400 rfl (lv_at hl 3 rfl) ?_
      obtain ⟨b70, e_b70, hw⟩ := hw
      have f_b70 := h.2.2.2.rf (c := 12) (k := 104) f_a0 (by decide) (by decide) e_b70 (t := 14) rfl
      refine kp_get X h f_a0 ff_12_221.l (v := .ref b70) (congrArg va_rf e_b70) dX12_step_401 ?_
      refine lv_aload_n X.1 X.2.1 dX12_step_404 rfl (lv_at hl 3 rfl) ?_
      refine kp_get X h f_a0 fp_12_699.l (v := .int (kp_I T7 2501 a0)) rfl dX12_step_405 ?_
      obtain ⟨hi, hw⟩ := hw
      refine kp_iald X h f_b70 hi dX12_step_408 ?_
      refine kp_callv X h (kp_runV (rm := { frames := 0, cells := 0, slots := 0, locals := 0 }) (mc := 0) (ms := 0) (rest := []) (Qc := fun A => kp_Qv D cy A T7 _) X h (c_X12_push l D cy ad T7 a0 (kp_A T7 b70 (kp_I T7 2501 a0).toNatClampNeg) _ h.2.2.2 f_a0 hw) f_a0 cv_12_708 ⟨by decide, by decide, rfl, rfl, by decide, by decide⟩ rfl hl.1 rfl (Nat.le_of_ble_eq_true rfl) dX12_step_409) (fun T71 hw l_T71 H locs h => ?_)
      have f_a0 := l_T71.is f_a0
      have f_b1 := l_T71.is f_b1
      have f_b3 := l_T71.is f_b3
      have f_b5 := l_T71.is f_b5
      have f_b70 := l_T71.is f_b70
      have hle := hle.tr l_T71
      refine lv_goto (tgt := 436) X.1 X.2.1 dX12_step_412 (by decide) ?_
      exact j436  T71 _ _ ls (lv_sub hl [] rfl) h hle f_a0 hw
    have hw := hw.2 c69
    by_cases c72 : y2 = 26
    · have hw := hw.1 c72
      refine lv_tableIn (off := 360) (tgt := 415) X.1 X.2.1 dX12_step_55 (by rw [c72]; decide) (by rw [c72]; decide) (by rw [c72]; decide) (by decide) ?_
      refine lv_aload_n X.1 X.2.1 dX12_step_415 rfl (lv_at hl 3 rfl) ?_
      refine lv_aload_n X.1 X.2.1 dX12_step_416 rfl (lv_at hl 3 rfl) ?_
      obtain ⟨b73, e_b73, hw⟩ := hw
      have f_b73 := h.2.2.2.rf (c := 12) (k := 105) f_a0 (by decide) (by decide) e_b73 (t := 14) rfl
      refine kp_get X h f_a0 ff_12_224.l (v := .ref b73) (congrArg va_rf e_b73) dX12_step_417 ?_
      refine lv_aload_n X.1 X.2.1 dX12_step_420 rfl (lv_at hl 3 rfl) ?_
      refine kp_get X h f_a0 fp_12_699.l (v := .int (kp_I T7 2501 a0)) rfl dX12_step_421 ?_
      obtain ⟨hi, hw⟩ := hw
      refine kp_iald X h f_b73 hi dX12_step_424 ?_
      refine kp_callv X h (kp_runV (rm := { frames := 0, cells := 0, slots := 0, locals := 0 }) (mc := 0) (ms := 0) (rest := []) (Qc := fun A => kp_Qv D cy A T7 _) X h (c_X12_push l D cy ad T7 a0 (kp_A T7 b73 (kp_I T7 2501 a0).toNatClampNeg) _ h.2.2.2 f_a0 hw) f_a0 cv_12_708 ⟨by decide, by decide, rfl, rfl, by decide, by decide⟩ rfl hl.1 rfl (Nat.le_of_ble_eq_true rfl) dX12_step_425) (fun T74 hw l_T74 H locs h => ?_)
      have f_a0 := l_T74.is f_a0
      have f_b1 := l_T74.is f_b1
      have f_b3 := l_T74.is f_b3
      have f_b5 := l_T74.is f_b5
      have f_b73 := l_T74.is f_b73
      have hle := hle.tr l_T74
      refine lv_goto (tgt := 436) X.1 X.2.1 dX12_step_428 (by decide) ?_
      exact j436  T74 _ _ ls (lv_sub hl [] rfl) h hle f_a0 hw
    have hw := hw.2 c72
    have t_c8 := lv_neT (a := 1) c8 (by decide)
    have t_c10 := lv_neT (a := 2) c10 (by decide)
    have t_c13 := lv_neT (a := 3) c13 (by decide)
    have t_c18 := lv_neT (a := 4) c18 (by decide)
    have t_c20 := lv_neT (a := 5) c20 (by decide)
    have t_c24 := lv_neT (a := 6) c24 (by decide)
    have t_c28 := lv_neT (a := 7) c28 (by decide)
    have t_c29 := lv_neT (a := 8) c29 (by decide)
    have t_c30 := lv_neT (a := 9) c30 (by decide)
    have t_c31 := lv_neT (a := 10) c31 (by decide)
    have t_c32 := lv_neT (a := 11) c32 (by decide)
    have t_c33 := lv_neT (a := 12) c33 (by decide)
    have t_c34 := lv_neT (a := 13) c34 (by decide)
    have t_c35 := lv_neT (a := 14) c35 (by decide)
    have t_c36 := lv_neT (a := 15) c36 (by decide)
    have t_c37 := lv_neT (a := 16) c37 (by decide)
    have t_c41 := lv_neT (a := 17) c41 (by decide)
    have t_c45 := lv_neT (a := 18) c45 (by decide)
    have t_c49 := lv_neT (a := 19) c49 (by decide)
    have t_c51 := lv_neT (a := 20) c51 (by decide)
    have t_c55 := lv_neT (a := 21) c55 (by decide)
    have t_c59 := lv_neT (a := 22) c59 (by decide)
    have t_c61 := lv_neT (a := 23) c61 (by decide)
    have t_c65 := lv_neT (a := 24) c65 (by decide)
    have t_c69 := lv_neT (a := 25) c69 (by decide)
    have t_c72 := lv_neT (a := 26) c72 (by decide)
    refine lv_tableOut (tgt := 431) X.1 X.2.1 dX12_step_55 (by omega) (by decide) ?_
    exact j431 y2 T7 _ _ ls (lv_sub hl [3, 2] rfl) h hle f_a0 hw
  · have hw := hw.2 c76
    refine lv_aload_n X.1 X.2.1 dX12_step_46 rfl (lv_at hl 3 rfl) ?_
    refine lv_iload_n X.1 X.2.1 dX12_step_47 rfl (lv_at hl 2 rfl) ?_
    refine lv_iload_n X.1 X.2.1 dX12_step_48 rfl (lv_at hl 1 rfl) ?_
    refine lv_iload_n X.1 X.2.1 dX12_step_49 rfl (lv_at hl 0 rfl) ?_
    refine kp_callv X h (kp_runV (rm := { frames := 7, cells := 0, slots := 0, locals := 158 }) (mc := 0) (ms := 0) (rest := []) (Qc := fun A => kp_Qv D cy A T7 _) X h (c_X12_stepOfStatement l D cy ad T7 a0 y2 y4 y6 _ h.2.2.2 f_a0 hw) f_a0 cv_12_721 ⟨by decide, by decide, rfl, rfl, by decide, by decide⟩ rfl hl.1 rfl (Nat.le_of_ble_eq_true rfl) dX12_step_50) (fun T75 hw l_T75 H locs h => ?_)
    have f_a0 := l_T75.is f_a0
    have f_b1 := l_T75.is f_b1
    have f_b3 := l_T75.is f_b3
    have f_b5 := l_T75.is f_b5
    have hle := hle.tr l_T75
    exact kp_retv X hr hlocks h hle hw dX12_step_53
theorem dX12_clear_0 : decode cX12_clear 0 = .ok (.aload_n 0, 1) := by decide +kernel
theorem dX12_clear_1 : decode cX12_clear 1 = .ok (.iconst 0, 1) := by decide +kernel
theorem dX12_clear_2 : decode cX12_clear 2 = .ok (.putfield 601, 3) := by decide +kernel
theorem dX12_clear_5 : decode cX12_clear 5 = .ok (.aload_n 0, 1) := by decide +kernel
theorem dX12_clear_6 : decode cX12_clear 6 = .ok (.iconst 0, 1) := by decide +kernel
theorem dX12_clear_7 : decode cX12_clear 7 = .ok (.putfield 778, 3) := by decide +kernel
theorem dX12_clear_10 : decode cX12_clear 10 = .ok (.aload_n 0, 1) := by decide +kernel
theorem dX12_clear_11 : decode cX12_clear 11 = .ok (.iconst 0, 1) := by decide +kernel
theorem dX12_clear_12 : decode cX12_clear 12 = .ok (.putfield 669, 3) := by decide +kernel
theorem dX12_clear_15 : decode cX12_clear 15 = .ok (.aload_n 0, 1) := by decide +kernel
theorem dX12_clear_16 : decode cX12_clear 16 = .ok (.iconst 0, 1) := by decide +kernel
theorem dX12_clear_17 : decode cX12_clear 17 = .ok (.putfield 770, 3) := by decide +kernel
theorem dX12_clear_20 : decode cX12_clear 20 = .ok (.aload_n 0, 1) := by decide +kernel
theorem dX12_clear_21 : decode cX12_clear 21 = .ok (.iconst 0, 1) := by decide +kernel
theorem dX12_clear_22 : decode cX12_clear 22 = .ok (.putfield 678, 3) := by decide +kernel
theorem dX12_clear_25 : decode cX12_clear 25 = .ok (.aload_n 0, 1) := by decide +kernel
theorem dX12_clear_26 : decode cX12_clear 26 = .ok (.iconst 0, 1) := by decide +kernel
theorem dX12_clear_27 : decode cX12_clear 27 = .ok (.putfield 784, 3) := by decide +kernel
theorem dX12_clear_30 : decode cX12_clear 30 = .ok (.aload_n 0, 1) := by decide +kernel
theorem dX12_clear_31 : decode cX12_clear 31 = .ok (.iconst 0, 1) := by decide +kernel
theorem dX12_clear_32 : decode cX12_clear 32 = .ok (.putfield 702, 3) := by decide +kernel
theorem dX12_clear_35 : decode cX12_clear 35 = .ok (.aload_n 0, 1) := by decide +kernel
theorem dX12_clear_36 : decode cX12_clear 36 = .ok (.iconst 0, 1) := by decide +kernel
theorem dX12_clear_37 : decode cX12_clear 37 = .ok (.putfield 642, 3) := by decide +kernel
theorem dX12_clear_40 : decode cX12_clear 40 = .ok (.aload_n 0, 1) := by decide +kernel
theorem dX12_clear_41 : decode cX12_clear 41 = .ok (.iconst 0, 1) := by decide +kernel
theorem dX12_clear_42 : decode cX12_clear 42 = .ok (.putfield 781, 3) := by decide +kernel
theorem dX12_clear_45 : decode cX12_clear 45 = .ok (.aload_n 0, 1) := by decide +kernel
theorem dX12_clear_46 : decode cX12_clear 46 = .ok (.iconst 0, 1) := by decide +kernel
theorem dX12_clear_47 : decode cX12_clear 47 = .ok (.putfield 634, 3) := by decide +kernel
theorem dX12_clear_50 : decode cX12_clear 50 = .ok (.aload_n 0, 1) := by decide +kernel
theorem dX12_clear_51 : decode cX12_clear 51 = .ok (.iconst 0, 1) := by decide +kernel
theorem dX12_clear_52 : decode cX12_clear 52 = .ok (.putfield 711, 3) := by decide +kernel
theorem dX12_clear_55 : decode cX12_clear 55 = .ok (.aload_n 0, 1) := by decide +kernel
theorem dX12_clear_56 : decode cX12_clear 56 = .ok (.iconst 0, 1) := by decide +kernel
theorem dX12_clear_57 : decode cX12_clear 57 = .ok (.putfield 616, 3) := by decide +kernel
theorem dX12_clear_60 : decode cX12_clear 60 = .ok (.aload_n 0, 1) := by decide +kernel
theorem dX12_clear_61 : decode cX12_clear 61 = .ok (.iconst 0, 1) := by decide +kernel
theorem dX12_clear_62 : decode cX12_clear 62 = .ok (.putfield 613, 3) := by decide +kernel
theorem dX12_clear_65 : decode cX12_clear 65 = .ok (.aload_n 0, 1) := by decide +kernel
theorem dX12_clear_66 : decode cX12_clear 66 = .ok (.iconst 0, 1) := by decide +kernel
theorem dX12_clear_67 : decode cX12_clear 67 = .ok (.putfield 699, 3) := by decide +kernel
theorem dX12_clear_70 : decode cX12_clear 70 = .ok (.aload_n 0, 1) := by decide +kernel
theorem dX12_clear_71 : decode cX12_clear 71 = .ok (.iconst 0, 1) := by decide +kernel
theorem dX12_clear_72 : decode cX12_clear 72 = .ok (.putfield 604, 3) := by decide +kernel
theorem dX12_clear_75 : decode cX12_clear 75 = .ok (.aload_n 0, 1) := by decide +kernel
theorem dX12_clear_76 : decode cX12_clear 76 = .ok (.iconst 0, 1) := by decide +kernel
theorem dX12_clear_77 : decode cX12_clear 77 = .ok (.putfield 648, 3) := by decide +kernel
theorem dX12_clear_80 : decode cX12_clear 80 = .ok (.aload_n 0, 1) := by decide +kernel
theorem dX12_clear_81 : decode cX12_clear 81 = .ok (.iconst 0, 1) := by decide +kernel
theorem dX12_clear_82 : decode cX12_clear 82 = .ok (.putfield 639, 3) := by decide +kernel
theorem dX12_clear_85 : decode cX12_clear 85 = .ok (.aload_n 0, 1) := by decide +kernel
theorem dX12_clear_86 : decode cX12_clear 86 = .ok (.iconst 0, 1) := by decide +kernel
theorem dX12_clear_87 : decode cX12_clear 87 = .ok (.putfield 610, 3) := by decide +kernel
theorem dX12_clear_90 : decode cX12_clear 90 = .ok (.aload_n 0, 1) := by decide +kernel
theorem dX12_clear_91 : decode cX12_clear 91 = .ok (.iconst 0, 1) := by decide +kernel
theorem dX12_clear_92 : decode cX12_clear 92 = .ok (.putfield 705, 3) := by decide +kernel
theorem dX12_clear_95 : decode cX12_clear 95 = .ok (.return_, 1) := by decide +kernel
def wX12_clear (a0 : Nat) (S : kp_S) (post : kp_S → Prop) : Prop :=
  ∀ T1 : kp_S, T1 = kp_sI S 2470 a0 0 →
  ∀ T2 : kp_S, T2 = kp_sI T1 2471 a0 0 →
  ∀ T3 : kp_S, T3 = kp_sI T2 2472 a0 0 →
  ∀ T4 : kp_S, T4 = kp_sI T3 2473 a0 0 →
  ∀ T5 : kp_S, T5 = kp_sI T4 2474 a0 0 →
  ∀ T6 : kp_S, T6 = kp_sI T5 2475 a0 0 →
  ∀ T7 : kp_S, T7 = kp_sI T6 2476 a0 0 →
  ∀ T8 : kp_S, T8 = kp_sI T7 2477 a0 0 →
  ∀ T9 : kp_S, T9 = kp_sI T8 2478 a0 0 →
  ∀ T10 : kp_S, T10 = kp_sI T9 2479 a0 0 →
  ∀ T11 : kp_S, T11 = kp_sI T10 2480 a0 0 →
  ∀ T12 : kp_S, T12 = kp_sI T11 2481 a0 0 →
  ∀ T13 : kp_S, T13 = kp_sI T12 2487 a0 0 →
  ∀ T14 : kp_S, T14 = kp_sI T13 2501 a0 0 →
  ∀ T15 : kp_S, T15 = kp_sI T14 2516 a0 0 →
  ∀ T16 : kp_S, T16 = kp_sI T15 2510 a0 0 →
  ∀ T17 : kp_S, T17 = kp_sI T16 2511 a0 0 →
  ∀ T18 : kp_S, T18 = kp_sI T17 2513 a0 0 →
  ∀ T19 : kp_S, T19 = kp_sI T18 2514 a0 0 →
  post T19
set_option maxHeartbeats 4000000 in
set_option maxRecDepth 100000 in
theorem c_X12_clear (l : Launch) (D : va_G) (cy : Nat → ClassId) (ad : (Nat → Nat) × (Nat → Nat)) (S : kp_S) (a0 : Nat) (post : kp_S → Prop) (hS : kp_ok S) (f_a0 : kp_is S a0 12) (hw : wX12_clear a0 S post) : kp_M l yX12_clear cX12_clear 1 none { frames := 0, cells := 0, slots := 0, locals := 0 } D cy ad S [.ref a0] 0 0 (fun A => kp_Qv D cy A S post) := by
  refine kp_start (own := RX12) (by decide) rfl (Nat.le_of_ble_eq_true rfl) hS ?_
  intro p e s m below meth c A ls X hr hlocks hname h hl
  have hle : kp_le S S := kp_le.rf
  have hl : lv_has ls 1 [(0, .ref a0)] := hl
  unfold wX12_clear at hw
  have h : kp_H D cy A S s.heap s.heap [] := h
  revert h
  intro h
  refine lv_aload_n X.1 X.2.1 dX12_clear_0 rfl (lv_at hl 0 rfl) ?_
  refine lv_iconst (v := 0) X.1 X.2.1 dX12_clear_1 (by decide) ?_
  refine kp_putI X h f_a0 fp_12_601 rfl ⟨rfl, rfl⟩ dX12_clear_2 (fun T1 e_T1 l_T1 H locs h => ?_)
  have hw := hw T1 e_T1
  have f_a0 := l_T1.is f_a0
  have hle := hle.tr l_T1
  refine lv_aload_n X.1 X.2.1 dX12_clear_5 rfl (lv_at hl 0 rfl) ?_
  refine lv_iconst (v := 0) X.1 X.2.1 dX12_clear_6 (by decide) ?_
  refine kp_putI X h f_a0 fp_12_778 rfl ⟨rfl, rfl⟩ dX12_clear_7 (fun T2 e_T2 l_T2 H locs h => ?_)
  have hw := hw T2 e_T2
  have f_a0 := l_T2.is f_a0
  have hle := hle.tr l_T2
  refine lv_aload_n X.1 X.2.1 dX12_clear_10 rfl (lv_at hl 0 rfl) ?_
  refine lv_iconst (v := 0) X.1 X.2.1 dX12_clear_11 (by decide) ?_
  refine kp_putI X h f_a0 fp_12_669 rfl ⟨rfl, rfl⟩ dX12_clear_12 (fun T3 e_T3 l_T3 H locs h => ?_)
  have hw := hw T3 e_T3
  have f_a0 := l_T3.is f_a0
  have hle := hle.tr l_T3
  refine lv_aload_n X.1 X.2.1 dX12_clear_15 rfl (lv_at hl 0 rfl) ?_
  refine lv_iconst (v := 0) X.1 X.2.1 dX12_clear_16 (by decide) ?_
  refine kp_putI X h f_a0 fp_12_770 rfl ⟨rfl, rfl⟩ dX12_clear_17 (fun T4 e_T4 l_T4 H locs h => ?_)
  have hw := hw T4 e_T4
  have f_a0 := l_T4.is f_a0
  have hle := hle.tr l_T4
  refine lv_aload_n X.1 X.2.1 dX12_clear_20 rfl (lv_at hl 0 rfl) ?_
  refine lv_iconst (v := 0) X.1 X.2.1 dX12_clear_21 (by decide) ?_
  refine kp_putI X h f_a0 fp_12_678 rfl ⟨rfl, rfl⟩ dX12_clear_22 (fun T5 e_T5 l_T5 H locs h => ?_)
  have hw := hw T5 e_T5
  have f_a0 := l_T5.is f_a0
  have hle := hle.tr l_T5
  refine lv_aload_n X.1 X.2.1 dX12_clear_25 rfl (lv_at hl 0 rfl) ?_
  refine lv_iconst (v := 0) X.1 X.2.1 dX12_clear_26 (by decide) ?_
  refine kp_putI X h f_a0 fp_12_784 rfl ⟨rfl, rfl⟩ dX12_clear_27 (fun T6 e_T6 l_T6 H locs h => ?_)
  have hw := hw T6 e_T6
  have f_a0 := l_T6.is f_a0
  have hle := hle.tr l_T6
  refine lv_aload_n X.1 X.2.1 dX12_clear_30 rfl (lv_at hl 0 rfl) ?_
  refine lv_iconst (v := 0) X.1 X.2.1 dX12_clear_31 (by decide) ?_
  refine kp_putI X h f_a0 fp_12_702 rfl ⟨rfl, rfl⟩ dX12_clear_32 (fun T7 e_T7 l_T7 H locs h => ?_)
  have hw := hw T7 e_T7
  have f_a0 := l_T7.is f_a0
  have hle := hle.tr l_T7
  refine lv_aload_n X.1 X.2.1 dX12_clear_35 rfl (lv_at hl 0 rfl) ?_
  refine lv_iconst (v := 0) X.1 X.2.1 dX12_clear_36 (by decide) ?_
  refine kp_putI X h f_a0 fp_12_642 rfl ⟨rfl, rfl⟩ dX12_clear_37 (fun T8 e_T8 l_T8 H locs h => ?_)
  have hw := hw T8 e_T8
  have f_a0 := l_T8.is f_a0
  have hle := hle.tr l_T8
  refine lv_aload_n X.1 X.2.1 dX12_clear_40 rfl (lv_at hl 0 rfl) ?_
  refine lv_iconst (v := 0) X.1 X.2.1 dX12_clear_41 (by decide) ?_
  refine kp_putI X h f_a0 fp_12_781 rfl ⟨rfl, rfl⟩ dX12_clear_42 (fun T9 e_T9 l_T9 H locs h => ?_)
  have hw := hw T9 e_T9
  have f_a0 := l_T9.is f_a0
  have hle := hle.tr l_T9
  refine lv_aload_n X.1 X.2.1 dX12_clear_45 rfl (lv_at hl 0 rfl) ?_
  refine lv_iconst (v := 0) X.1 X.2.1 dX12_clear_46 (by decide) ?_
  refine kp_putI X h f_a0 fp_12_634 rfl ⟨rfl, rfl⟩ dX12_clear_47 (fun T10 e_T10 l_T10 H locs h => ?_)
  have hw := hw T10 e_T10
  have f_a0 := l_T10.is f_a0
  have hle := hle.tr l_T10
  refine lv_aload_n X.1 X.2.1 dX12_clear_50 rfl (lv_at hl 0 rfl) ?_
  refine lv_iconst (v := 0) X.1 X.2.1 dX12_clear_51 (by decide) ?_
  refine kp_putI X h f_a0 fp_12_711 rfl ⟨rfl, rfl⟩ dX12_clear_52 (fun T11 e_T11 l_T11 H locs h => ?_)
  have hw := hw T11 e_T11
  have f_a0 := l_T11.is f_a0
  have hle := hle.tr l_T11
  refine lv_aload_n X.1 X.2.1 dX12_clear_55 rfl (lv_at hl 0 rfl) ?_
  refine lv_iconst (v := 0) X.1 X.2.1 dX12_clear_56 (by decide) ?_
  refine kp_putI X h f_a0 fp_12_616 rfl ⟨rfl, rfl⟩ dX12_clear_57 (fun T12 e_T12 l_T12 H locs h => ?_)
  have hw := hw T12 e_T12
  have f_a0 := l_T12.is f_a0
  have hle := hle.tr l_T12
  refine lv_aload_n X.1 X.2.1 dX12_clear_60 rfl (lv_at hl 0 rfl) ?_
  refine lv_iconst (v := 0) X.1 X.2.1 dX12_clear_61 (by decide) ?_
  refine kp_putI X h f_a0 fp_12_613 rfl ⟨rfl, rfl⟩ dX12_clear_62 (fun T13 e_T13 l_T13 H locs h => ?_)
  have hw := hw T13 e_T13
  have f_a0 := l_T13.is f_a0
  have hle := hle.tr l_T13
  refine lv_aload_n X.1 X.2.1 dX12_clear_65 rfl (lv_at hl 0 rfl) ?_
  refine lv_iconst (v := 0) X.1 X.2.1 dX12_clear_66 (by decide) ?_
  refine kp_putI X h f_a0 fp_12_699 rfl ⟨rfl, rfl⟩ dX12_clear_67 (fun T14 e_T14 l_T14 H locs h => ?_)
  have hw := hw T14 e_T14
  have f_a0 := l_T14.is f_a0
  have hle := hle.tr l_T14
  refine lv_aload_n X.1 X.2.1 dX12_clear_70 rfl (lv_at hl 0 rfl) ?_
  refine lv_iconst (v := 0) X.1 X.2.1 dX12_clear_71 (by decide) ?_
  refine kp_putI X h f_a0 fp_12_604 rfl ⟨rfl, rfl⟩ dX12_clear_72 (fun T15 e_T15 l_T15 H locs h => ?_)
  have hw := hw T15 e_T15
  have f_a0 := l_T15.is f_a0
  have hle := hle.tr l_T15
  refine lv_aload_n X.1 X.2.1 dX12_clear_75 rfl (lv_at hl 0 rfl) ?_
  refine lv_iconst (v := 0) X.1 X.2.1 dX12_clear_76 (by decide) ?_
  refine kp_putI X h f_a0 fp_12_648 rfl ⟨rfl, rfl⟩ dX12_clear_77 (fun T16 e_T16 l_T16 H locs h => ?_)
  have hw := hw T16 e_T16
  have f_a0 := l_T16.is f_a0
  have hle := hle.tr l_T16
  refine lv_aload_n X.1 X.2.1 dX12_clear_80 rfl (lv_at hl 0 rfl) ?_
  refine lv_iconst (v := 0) X.1 X.2.1 dX12_clear_81 (by decide) ?_
  refine kp_putI X h f_a0 fp_12_639 rfl ⟨rfl, rfl⟩ dX12_clear_82 (fun T17 e_T17 l_T17 H locs h => ?_)
  have hw := hw T17 e_T17
  have f_a0 := l_T17.is f_a0
  have hle := hle.tr l_T17
  refine lv_aload_n X.1 X.2.1 dX12_clear_85 rfl (lv_at hl 0 rfl) ?_
  refine lv_iconst (v := 0) X.1 X.2.1 dX12_clear_86 (by decide) ?_
  refine kp_putI X h f_a0 fp_12_610 rfl ⟨rfl, rfl⟩ dX12_clear_87 (fun T18 e_T18 l_T18 H locs h => ?_)
  have hw := hw T18 e_T18
  have f_a0 := l_T18.is f_a0
  have hle := hle.tr l_T18
  refine lv_aload_n X.1 X.2.1 dX12_clear_90 rfl (lv_at hl 0 rfl) ?_
  refine lv_iconst (v := 0) X.1 X.2.1 dX12_clear_91 (by decide) ?_
  refine kp_putI X h f_a0 fp_12_705 rfl ⟨by decide, by decide⟩ dX12_clear_92 (fun T19 e_T19 l_T19 H locs h => ?_)
  have hw := hw T19 e_T19
  have f_a0 := l_T19.is f_a0
  have hle := hle.tr l_T19
  exact kp_retv X hr hlocks h hle hw dX12_clear_95
theorem dX12_tellEnd_0 : decode cX12_tellEnd 0 = .ok (.aload_n 0, 1) := by decide +kernel
theorem dX12_tellEnd_1 : decode cX12_tellEnd 1 = .ok (.iconst 0, 1) := by decide +kernel
theorem dX12_tellEnd_2 : decode cX12_tellEnd 2 = .ok (.putfield 809, 3) := by decide +kernel
theorem dX12_tellEnd_5 : decode cX12_tellEnd 5 = .ok (.aload_n 0, 1) := by decide +kernel
theorem dX12_tellEnd_6 : decode cX12_tellEnd 6 = .ok (.iconst 0, 1) := by decide +kernel
theorem dX12_tellEnd_7 : decode cX12_tellEnd 7 = .ok (.putfield 812, 3) := by decide +kernel
theorem dX12_tellEnd_10 : decode cX12_tellEnd 10 = .ok (.aload_n 0, 1) := by decide +kernel
theorem dX12_tellEnd_11 : decode cX12_tellEnd 11 = .ok (.iconst 0, 1) := by decide +kernel
theorem dX12_tellEnd_12 : decode cX12_tellEnd 12 = .ok (.putfield 815, 3) := by decide +kernel
theorem dX12_tellEnd_15 : decode cX12_tellEnd 15 = .ok (.aload_n 0, 1) := by decide +kernel
theorem dX12_tellEnd_16 : decode cX12_tellEnd 16 = .ok (.iconst (-1), 1) := by decide +kernel
theorem dX12_tellEnd_17 : decode cX12_tellEnd 17 = .ok (.putfield 245, 3) := by decide +kernel
theorem dX12_tellEnd_20 : decode cX12_tellEnd 20 = .ok (.aload_n 0, 1) := by decide +kernel
theorem dX12_tellEnd_21 : decode cX12_tellEnd 21 = .ok (.aload_n 0, 1) := by decide +kernel
theorem dX12_tellEnd_22 : decode cX12_tellEnd 22 = .ok (.getfield 610, 3) := by decide +kernel
theorem dX12_tellEnd_25 : decode cX12_tellEnd 25 = .ok (.ifCond .le 7, 3) := by decide +kernel
theorem dX12_tellEnd_28 : decode cX12_tellEnd 28 = .ok (.iconst 0, 1) := by decide +kernel
theorem dX12_tellEnd_29 : decode cX12_tellEnd 29 = .ok (.goto 28, 3) := by decide +kernel
theorem dX12_tellEnd_32 : decode cX12_tellEnd 32 = .ok (.aload_n 0, 1) := by decide +kernel
theorem dX12_tellEnd_33 : decode cX12_tellEnd 33 = .ok (.getfield 616, 3) := by decide +kernel
theorem dX12_tellEnd_36 : decode cX12_tellEnd 36 = .ok (.iconst 4, 1) := by decide +kernel
theorem dX12_tellEnd_37 : decode cX12_tellEnd 37 = .ok (.if_icmp .ne 7, 3) := by decide +kernel
theorem dX12_tellEnd_40 : decode cX12_tellEnd 40 = .ok (.iconst 4, 1) := by decide +kernel
theorem dX12_tellEnd_41 : decode cX12_tellEnd 41 = .ok (.goto 16, 3) := by decide +kernel
theorem dX12_tellEnd_44 : decode cX12_tellEnd 44 = .ok (.aload_n 0, 1) := by decide +kernel
theorem dX12_tellEnd_45 : decode cX12_tellEnd 45 = .ok (.getfield 616, 3) := by decide +kernel
theorem dX12_tellEnd_48 : decode cX12_tellEnd 48 = .ok (.iconst 3, 1) := by decide +kernel
theorem dX12_tellEnd_49 : decode cX12_tellEnd 49 = .ok (.if_icmp .ne 7, 3) := by decide +kernel
theorem dX12_tellEnd_52 : decode cX12_tellEnd 52 = .ok (.iconst 2, 1) := by decide +kernel
theorem dX12_tellEnd_53 : decode cX12_tellEnd 53 = .ok (.goto 4, 3) := by decide +kernel
theorem dX12_tellEnd_56 : decode cX12_tellEnd 56 = .ok (.iconst 1, 1) := by decide +kernel
theorem dX12_tellEnd_57 : decode cX12_tellEnd 57 = .ok (.putfield 818, 3) := by decide +kernel
theorem dX12_tellEnd_60 : decode cX12_tellEnd 60 = .ok (.aload_n 0, 1) := by decide +kernel
theorem dX12_tellEnd_61 : decode cX12_tellEnd 61 = .ok (.getfield 610, 3) := by decide +kernel
theorem dX12_tellEnd_64 : decode cX12_tellEnd 64 = .ok (.ifCond .le 33, 3) := by decide +kernel
theorem dX12_tellEnd_67 : decode cX12_tellEnd 67 = .ok (.iconst 0, 1) := by decide +kernel
theorem dX12_tellEnd_68 : decode cX12_tellEnd 68 = .ok (.istore_n 1, 1) := by decide +kernel
theorem dX12_tellEnd_69 : decode cX12_tellEnd 69 = .ok (.iload_n 1, 1) := by decide +kernel
theorem dX12_tellEnd_70 : decode cX12_tellEnd 70 = .ok (.bipush 6, 2) := by decide +kernel
theorem dX12_tellEnd_72 : decode cX12_tellEnd 72 = .ok (.if_icmp .ge 16, 3) := by decide +kernel
theorem dX12_tellEnd_75 : decode cX12_tellEnd 75 = .ok (.aload_n 0, 1) := by decide +kernel
theorem dX12_tellEnd_76 : decode cX12_tellEnd 76 = .ok (.getfield 161, 3) := by decide +kernel
theorem dX12_tellEnd_79 : decode cX12_tellEnd 79 = .ok (.iload_n 1, 1) := by decide +kernel
theorem dX12_tellEnd_80 : decode cX12_tellEnd 80 = .ok (.iconst 0, 1) := by decide +kernel
theorem dX12_tellEnd_81 : decode cX12_tellEnd 81 = .ok (.iastore, 1) := by decide +kernel
theorem dX12_tellEnd_82 : decode cX12_tellEnd 82 = .ok (.iinc 1 1, 3) := by decide +kernel
theorem dX12_tellEnd_85 : decode cX12_tellEnd 85 = .ok (.goto (-16), 3) := by decide +kernel
theorem dX12_tellEnd_88 : decode cX12_tellEnd 88 = .ok (.aload_n 0, 1) := by decide +kernel
theorem dX12_tellEnd_89 : decode cX12_tellEnd 89 = .ok (.aload_n 0, 1) := by decide +kernel
theorem dX12_tellEnd_90 : decode cX12_tellEnd 90 = .ok (.getfield 610, 3) := by decide +kernel
theorem dX12_tellEnd_93 : decode cX12_tellEnd 93 = .ok (.putfield 242, 3) := by decide +kernel
theorem dX12_tellEnd_96 : decode cX12_tellEnd 96 = .ok (.return_, 1) := by decide +kernel
theorem dX12_tellEnd_97 : decode cX12_tellEnd 97 = .ok (.aload_n 0, 1) := by decide +kernel
theorem dX12_tellEnd_98 : decode cX12_tellEnd 98 = .ok (.aload_n 0, 1) := by decide +kernel
theorem dX12_tellEnd_99 : decode cX12_tellEnd 99 = .ok (.getfield 616, 3) := by decide +kernel
theorem dX12_tellEnd_102 : decode cX12_tellEnd 102 = .ok (.iconst 4, 1) := by decide +kernel
theorem dX12_tellEnd_103 : decode cX12_tellEnd 103 = .ok (.if_icmp .ne 7, 3) := by decide +kernel
theorem dX12_tellEnd_106 : decode cX12_tellEnd 106 = .ok (.iconst 3, 1) := by decide +kernel
theorem dX12_tellEnd_107 : decode cX12_tellEnd 107 = .ok (.goto 4, 3) := by decide +kernel
theorem dX12_tellEnd_110 : decode cX12_tellEnd 110 = .ok (.iconst 0, 1) := by decide +kernel
theorem dX12_tellEnd_111 : decode cX12_tellEnd 111 = .ok (.putfield 242, 3) := by decide +kernel
theorem dX12_tellEnd_114 : decode cX12_tellEnd 114 = .ok (.aload_n 0, 1) := by decide +kernel
theorem dX12_tellEnd_115 : decode cX12_tellEnd 115 = .ok (.getfield 616, 3) := by decide +kernel
theorem dX12_tellEnd_118 : decode cX12_tellEnd 118 = .ok (.iconst 4, 1) := by decide +kernel
theorem dX12_tellEnd_119 : decode cX12_tellEnd 119 = .ok (.if_icmp .ne 30, 3) := by decide +kernel
theorem dX12_tellEnd_122 : decode cX12_tellEnd 122 = .ok (.aload_n 0, 1) := by decide +kernel
theorem dX12_tellEnd_123 : decode cX12_tellEnd 123 = .ok (.aload_n 0, 1) := by decide +kernel
theorem dX12_tellEnd_124 : decode cX12_tellEnd 124 = .ok (.getfield 625, 3) := by decide +kernel
theorem dX12_tellEnd_127 : decode cX12_tellEnd 127 = .ok (.putfield 812, 3) := by decide +kernel
theorem dX12_tellEnd_130 : decode cX12_tellEnd 130 = .ok (.aload_n 0, 1) := by decide +kernel
theorem dX12_tellEnd_131 : decode cX12_tellEnd 131 = .ok (.aload_n 0, 1) := by decide +kernel
theorem dX12_tellEnd_132 : decode cX12_tellEnd 132 = .ok (.getfield 628, 3) := by decide +kernel
theorem dX12_tellEnd_135 : decode cX12_tellEnd 135 = .ok (.putfield 815, 3) := by decide +kernel
theorem dX12_tellEnd_138 : decode cX12_tellEnd 138 = .ok (.aload_n 0, 1) := by decide +kernel
theorem dX12_tellEnd_139 : decode cX12_tellEnd 139 = .ok (.aload_n 0, 1) := by decide +kernel
theorem dX12_tellEnd_140 : decode cX12_tellEnd 140 = .ok (.getfield 631, 3) := by decide +kernel
theorem dX12_tellEnd_143 : decode cX12_tellEnd 143 = .ok (.putfield 245, 3) := by decide +kernel
theorem dX12_tellEnd_146 : decode cX12_tellEnd 146 = .ok (.goto 23, 3) := by decide +kernel
theorem dX12_tellEnd_149 : decode cX12_tellEnd 149 = .ok (.aload_n 0, 1) := by decide +kernel
theorem dX12_tellEnd_150 : decode cX12_tellEnd 150 = .ok (.aload_n 0, 1) := by decide +kernel
theorem dX12_tellEnd_151 : decode cX12_tellEnd 151 = .ok (.getfield 616, 3) := by decide +kernel
theorem dX12_tellEnd_154 : decode cX12_tellEnd 154 = .ok (.iconst 3, 1) := by decide +kernel
theorem dX12_tellEnd_155 : decode cX12_tellEnd 155 = .ok (.if_icmp .ne 10, 3) := by decide +kernel
theorem dX12_tellEnd_158 : decode cX12_tellEnd 158 = .ok (.aload_n 0, 1) := by decide +kernel
theorem dX12_tellEnd_159 : decode cX12_tellEnd 159 = .ok (.getfield 622, 3) := by decide +kernel
theorem dX12_tellEnd_162 : decode cX12_tellEnd 162 = .ok (.goto 4, 3) := by decide +kernel
theorem dX12_tellEnd_165 : decode cX12_tellEnd 165 = .ok (.iconst 0, 1) := by decide +kernel
theorem dX12_tellEnd_166 : decode cX12_tellEnd 166 = .ok (.putfield 809, 3) := by decide +kernel
theorem dX12_tellEnd_169 : decode cX12_tellEnd 169 = .ok (.return_, 1) := by decide +kernel
def wX12_tellEnd_b169 (a0 : Nat)  (Sn : kp_S) (post : kp_S → Prop) : Prop :=
  post Sn
def wX12_tellEnd_b166 (a0 : Nat) (xt0 : Int32) (at1 : Nat)  (Sn : kp_S) (post : kp_S → Prop) : Prop :=
  ∀ T2001 : kp_S, T2001 = kp_sI Sn 2518 at1 xt0 →
  wX12_tellEnd_b169 a0   T2001 post
def wX12_tellEnd_b111 (a0 : Nat) (xt0 : Int32) (at1 : Nat)  (Sn : kp_S) (post : kp_S → Prop) : Prop :=
  ∀ T3001 : kp_S, T3001 = kp_sI Sn 2517 at1 xt0 →
  ((¬ (kp_I T3001 2481 a0) = 4 →
  ((¬ (kp_I T3001 2481 a0) = 3 →
  wX12_tellEnd_b166 a0 0 a0  T3001 post) ∧ ((kp_I T3001 2481 a0) = 3 →
  wX12_tellEnd_b166 a0 (kp_I T3001 2483 a0) a0  T3001 post))) ∧ ((kp_I T3001 2481 a0) = 4 →
  ∀ T3003 : kp_S, T3003 = kp_sI T3001 2519 a0 (kp_I T3001 2484 a0) →
  ∀ T3004 : kp_S, T3004 = kp_sI T3003 2520 a0 (kp_I T3003 2485 a0) →
  ∀ T3005 : kp_S, T3005 = kp_sI T3004 2522 a0 (kp_I T3004 2486 a0) →
  wX12_tellEnd_b169 a0   T3005 post))
def wX12_tellEnd_L69 (a0 : Nat)  (post : kp_S → Prop) : Nat → Int32 → kp_S → Prop
  | 0, _, _ => False
  | n + 1, xn1, Sn =>
  ((6 ≤ xn1 →
  ∀ T4001 : kp_S, T4001 = kp_sI Sn 2517 a0 (kp_I Sn 2513 a0) →
  post T4001) ∧ (¬ 6 ≤ xn1 →
  ∃ b4002 : Nat, kp_R Sn 2465 a0 = some b4002 ∧
  vp_in xn1 (kp_N Sn b4002) ∧ ∀ T4003 : kp_S, T4003 = kp_sA Sn b4002 (upd (kp_A Sn b4002) (xn1.toNatClampNeg) 0) →
  ∀ y4004 : Int32, y4004 = xn1 + 1 →
  wX12_tellEnd_L69 a0  post n y4004 T4003))
def wX12_tellEnd_b57 (a0 : Nat) (xt0 : Int32) (at1 : Nat)  (Sn : kp_S) (post : kp_S → Prop) : Prop :=
  ∀ T5001 : kp_S, T5001 = kp_sI Sn 2521 at1 xt0 →
  (((kp_I T5001 2513 a0) ≤ 0 →
  ((¬ (kp_I T5001 2481 a0) = 4 →
  wX12_tellEnd_b111 a0 0 a0  T5001 post) ∧ ((kp_I T5001 2481 a0) = 4 →
  wX12_tellEnd_b111 a0 3 a0  T5001 post))) ∧ (¬ (kp_I T5001 2513 a0) ≤ 0 →
  ∃ n0 : Nat, wX12_tellEnd_L69 a0  post n0 0 T5001))
def wX12_tellEnd (a0 : Nat) (S : kp_S) (post : kp_S → Prop) : Prop :=
  ∀ T1 : kp_S, T1 = kp_sI S 2518 a0 0 →
  ∀ T2 : kp_S, T2 = kp_sI T1 2519 a0 0 →
  ∀ T3 : kp_S, T3 = kp_sI T2 2520 a0 0 →
  ∀ T4 : kp_S, T4 = kp_sI T3 2522 a0 (-1) →
  (((kp_I T4 2513 a0) ≤ 0 →
  ((¬ (kp_I T4 2481 a0) = 4 →
  ((¬ (kp_I T4 2481 a0) = 3 →
  wX12_tellEnd_b57 a0 1 a0  T4 post) ∧ ((kp_I T4 2481 a0) = 3 →
  wX12_tellEnd_b57 a0 2 a0  T4 post))) ∧ ((kp_I T4 2481 a0) = 4 →
  wX12_tellEnd_b57 a0 4 a0  T4 post))) ∧ (¬ (kp_I T4 2513 a0) ≤ 0 →
  wX12_tellEnd_b57 a0 0 a0  T4 post))
set_option maxHeartbeats 4000000 in
set_option maxRecDepth 100000 in
theorem c_X12_tellEnd (l : Launch) (D : va_G) (cy : Nat → ClassId) (ad : (Nat → Nat) × (Nat → Nat)) (S : kp_S) (a0 : Nat) (post : kp_S → Prop) (hS : kp_ok S) (f_a0 : kp_is S a0 12) (hw : wX12_tellEnd a0 S post) : kp_M l yX12_tellEnd cX12_tellEnd 2 none { frames := 0, cells := 0, slots := 0, locals := 0 } D cy ad S [.ref a0] 0 0 (fun A => kp_Qv D cy A S post) := by
  refine kp_start (own := RX12) (by decide) rfl (Nat.le_of_ble_eq_true rfl) hS ?_
  intro p e s m below meth c A ls X hr hlocks hname h hl
  have hle : kp_le S S := kp_le.rf
  have hl : lv_has ls 2 [(0, .ref a0)] := hl
  have j169 : ∀  (Sn : kp_S) (H : Heap) (locs : List Loc) (ls : Array Slot), lv_has ls 2 [] → kp_H D cy A Sn s.heap H locs → kp_le S Sn → kp_is Sn a0 12 → wX12_tellEnd_b169 a0   Sn post → W p l e { frames := 0, cells := 0, slots := 0, locals := 0 } s m ([.ref a0] : List Value).toArray below meth c H locs 0 0 (MQ below (kp_Qv D cy A S post) ([.ref a0] : List Value).toArray s 0 0 A) (F0 m 169 ls []) := by
    intro  Sn H locs ls hl h hle f_a0 hw
    unfold wX12_tellEnd_b169 at hw
    exact kp_retv X hr hlocks h hle hw dX12_tellEnd_169
  have j166 : ∀ (xt0 : Int32) (at1 : Nat) (Sn : kp_S) (H : Heap) (locs : List Loc) (ls : Array Slot), lv_has ls 2 [] → kp_H D cy A Sn s.heap H locs → kp_le S Sn → kp_is Sn at1 12 → kp_is Sn a0 12 → wX12_tellEnd_b166 a0 xt0 at1  Sn post → W p l e { frames := 0, cells := 0, slots := 0, locals := 0 } s m ([.ref a0] : List Value).toArray below meth c H locs 0 0 (MQ below (kp_Qv D cy A S post) ([.ref a0] : List Value).toArray s 0 0 A) (F0 m 166 ls [.int xt0, .ref at1]) := by
    intro xt0 at1 Sn H locs ls hl h hle f_at1 f_a0 hw
    unfold wX12_tellEnd_b166 at hw
    refine kp_putI X h f_at1 fp_12_809 rfl ⟨rfl, rfl⟩ dX12_tellEnd_166 (fun T2001 e_T2001 l_T2001 H locs h => ?_)
    have hw := hw T2001 e_T2001
    have f_at1 := l_T2001.is f_at1
    have f_a0 := l_T2001.is f_a0
    have hle := hle.tr l_T2001
    exact j169  T2001 H locs ls (lv_sub hl [] rfl) h hle f_a0 hw
  have j111 : ∀ (xt0 : Int32) (at1 : Nat) (Sn : kp_S) (H : Heap) (locs : List Loc) (ls : Array Slot), lv_has ls 2 [(0, .ref a0)] → kp_H D cy A Sn s.heap H locs → kp_le S Sn → kp_is Sn a0 12 → kp_is Sn at1 12 → wX12_tellEnd_b111 a0 xt0 at1  Sn post → W p l e { frames := 0, cells := 0, slots := 0, locals := 0 } s m ([.ref a0] : List Value).toArray below meth c H locs 0 0 (MQ below (kp_Qv D cy A S post) ([.ref a0] : List Value).toArray s 0 0 A) (F0 m 111 ls [.int xt0, .ref at1]) := by
    intro xt0 at1 Sn H locs ls hl h hle f_a0 f_at1 hw
    unfold wX12_tellEnd_b111 at hw
    refine kp_putI X h f_at1 fp_12_242 rfl ⟨rfl, rfl⟩ dX12_tellEnd_111 (fun T3001 e_T3001 l_T3001 H locs h => ?_)
    have hw := hw T3001 e_T3001
    have f_a0 := l_T3001.is f_a0
    have f_at1 := l_T3001.is f_at1
    have hle := hle.tr l_T3001
    refine lv_aload_n X.1 X.2.1 dX12_tellEnd_114 rfl (lv_at hl 0 rfl) ?_
    refine kp_get X h f_a0 fp_12_616.l (v := .int (kp_I T3001 2481 a0)) rfl dX12_tellEnd_115 ?_
    refine lv_iconst (v := 4) X.1 X.2.1 dX12_tellEnd_118 (by decide) ?_
    refine lv_icmp_ne (tgt := 149) X.1 X.2.1 dX12_tellEnd_119 (by decide) (fun c3006 => ?_) (fun c3006 => ?_)
    · have hw := hw.1 c3006
      refine lv_aload_n X.1 X.2.1 dX12_tellEnd_149 rfl (lv_at hl 0 rfl) ?_
      refine lv_aload_n X.1 X.2.1 dX12_tellEnd_150 rfl (lv_at hl 0 rfl) ?_
      refine kp_get X h f_a0 fp_12_616.l (v := .int (kp_I T3001 2481 a0)) rfl dX12_tellEnd_151 ?_
      refine lv_iconst (v := 3) X.1 X.2.1 dX12_tellEnd_154 (by decide) ?_
      refine lv_icmp_ne (tgt := 165) X.1 X.2.1 dX12_tellEnd_155 (by decide) (fun c3002 => ?_) (fun c3002 => ?_)
      · have hw := hw.1 c3002
        refine lv_iconst (v := 0) X.1 X.2.1 dX12_tellEnd_165 (by decide) ?_
        exact j166 0 a0 T3001 H locs ls (lv_sub hl [] rfl) h hle f_a0 f_a0 hw
      · have hw := hw.2 c3002
        refine lv_aload_n X.1 X.2.1 dX12_tellEnd_158 rfl (lv_at hl 0 rfl) ?_
        refine kp_get X h f_a0 fp_12_622.l (v := .int (kp_I T3001 2483 a0)) rfl dX12_tellEnd_159 ?_
        refine lv_goto (tgt := 166) X.1 X.2.1 dX12_tellEnd_162 (by decide) ?_
        exact j166 (kp_I T3001 2483 a0) a0 T3001 H locs ls (lv_sub hl [] rfl) h hle f_a0 f_a0 hw
    · have hw := hw.2 c3006
      refine lv_aload_n X.1 X.2.1 dX12_tellEnd_122 rfl (lv_at hl 0 rfl) ?_
      refine lv_aload_n X.1 X.2.1 dX12_tellEnd_123 rfl (lv_at hl 0 rfl) ?_
      refine kp_get X h f_a0 fp_12_625.l (v := .int (kp_I T3001 2484 a0)) rfl dX12_tellEnd_124 ?_
      refine kp_putI X h f_a0 fp_12_812 rfl ⟨rfl, rfl⟩ dX12_tellEnd_127 (fun T3003 e_T3003 l_T3003 H locs h => ?_)
      have hw := hw T3003 e_T3003
      have f_a0 := l_T3003.is f_a0
      have f_at1 := l_T3003.is f_at1
      have hle := hle.tr l_T3003
      refine lv_aload_n X.1 X.2.1 dX12_tellEnd_130 rfl (lv_at hl 0 rfl) ?_
      refine lv_aload_n X.1 X.2.1 dX12_tellEnd_131 rfl (lv_at hl 0 rfl) ?_
      refine kp_get X h f_a0 fp_12_628.l (v := .int (kp_I T3003 2485 a0)) rfl dX12_tellEnd_132 ?_
      refine kp_putI X h f_a0 fp_12_815 rfl ⟨rfl, rfl⟩ dX12_tellEnd_135 (fun T3004 e_T3004 l_T3004 H locs h => ?_)
      have hw := hw T3004 e_T3004
      have f_a0 := l_T3004.is f_a0
      have f_at1 := l_T3004.is f_at1
      have hle := hle.tr l_T3004
      refine lv_aload_n X.1 X.2.1 dX12_tellEnd_138 rfl (lv_at hl 0 rfl) ?_
      refine lv_aload_n X.1 X.2.1 dX12_tellEnd_139 rfl (lv_at hl 0 rfl) ?_
      refine kp_get X h f_a0 fp_12_631.l (v := .int (kp_I T3004 2486 a0)) rfl dX12_tellEnd_140 ?_
      refine kp_putI X h f_a0 fp_12_245 rfl ⟨rfl, rfl⟩ dX12_tellEnd_143 (fun T3005 e_T3005 l_T3005 H locs h => ?_)
      have hw := hw T3005 e_T3005
      have f_a0 := l_T3005.is f_a0
      have f_at1 := l_T3005.is f_at1
      have hle := hle.tr l_T3005
      refine lv_goto (tgt := 169) X.1 X.2.1 dX12_tellEnd_146 (by decide) ?_
      exact j169  T3005 H locs ls (lv_sub hl [] rfl) h hle f_a0 hw
  have L69 : ∀ n69 : Nat, ∀ (xn1 : Int32) (Sn : kp_S) (H : Heap) (locs : List Loc) (ls : Array Slot), lv_has ls 2 [(0, .ref a0), (1, .int xn1)] → kp_H D cy A Sn s.heap H locs → kp_le S Sn → kp_is Sn a0 12 → wX12_tellEnd_L69 a0  post n69 xn1 Sn → W p l e { frames := 0, cells := 0, slots := 0, locals := 0 } s m ([.ref a0] : List Value).toArray below meth c H locs 0 0 (MQ below (kp_Qv D cy A S post) ([.ref a0] : List Value).toArray s 0 0 A) (F0 m 69 ls []) := by
    intro n69
    induction n69 with
    | zero => intro xn1 Sn H locs ls hl h hle f_a0 hw; exact hw.elim
    | succ n69 ih69 =>
      intro xn1 Sn H locs ls hl h hle f_a0 hw
      unfold wX12_tellEnd_L69 at hw
      refine lv_iload_n X.1 X.2.1 dX12_tellEnd_69 rfl (lv_at hl 1 rfl) ?_
      refine lv_bipush (v := 6) X.1 X.2.1 dX12_tellEnd_70 (by decide) ?_
      refine lv_icmp_ge (tgt := 88) X.1 X.2.1 dX12_tellEnd_72 (by decide) (fun c4005 => ?_) (fun c4005 => ?_)
      · have hw := hw.1 c4005
        refine lv_aload_n X.1 X.2.1 dX12_tellEnd_88 rfl (lv_at hl 0 rfl) ?_
        refine lv_aload_n X.1 X.2.1 dX12_tellEnd_89 rfl (lv_at hl 0 rfl) ?_
        refine kp_get X h f_a0 fp_12_610.l (v := .int (kp_I Sn 2513 a0)) rfl dX12_tellEnd_90 ?_
        refine kp_putI X h f_a0 fp_12_242 rfl ⟨rfl, rfl⟩ dX12_tellEnd_93 (fun T4001 e_T4001 l_T4001 H locs h => ?_)
        have hw := hw T4001 e_T4001
        have f_a0 := l_T4001.is f_a0
        have hle := hle.tr l_T4001
        exact kp_retv X hr hlocks h hle hw dX12_tellEnd_96
      · have hw := hw.2 c4005
        refine lv_aload_n X.1 X.2.1 dX12_tellEnd_75 rfl (lv_at hl 0 rfl) ?_
        obtain ⟨b4002, e_b4002, hw⟩ := hw
        have f_b4002 := h.2.2.2.rf (c := 12) (k := 65) f_a0 (by decide) (by decide) e_b4002 (t := 14) rfl
        refine kp_get X h f_a0 ff_12_161.l (v := .ref b4002) (congrArg va_rf e_b4002) dX12_tellEnd_76 ?_
        refine lv_iload_n X.1 X.2.1 dX12_tellEnd_79 rfl (lv_at hl 1 rfl) ?_
        refine lv_iconst (v := 0) X.1 X.2.1 dX12_tellEnd_80 (by decide) ?_
        obtain ⟨hi, hw⟩ := hw
        refine kp_iast X h f_b4002 hi dX12_tellEnd_81 (fun T4003 e_T4003 l_T4003 H locs h => ?_)
        have hw := hw T4003 e_T4003
        have f_a0 := l_T4003.is f_a0
        have f_b4002 := l_T4003.is f_b4002
        have hle := hle.tr l_T4003
        have e_b4002 : kp_R T4003 2465 a0 = some b4002 := by rw [e_T4003]; exact e_b4002
        obtain ⟨y4004, e_y4004⟩ : ∃ y : Int32, y = xn1 + 1 := ⟨_, rfl⟩
        have hw := hw y4004 e_y4004
        refine lv_iinc (v := y4004) (lv' := [(1, .int y4004), (0, .ref a0)]) X.1 X.2.1 dX12_tellEnd_82 hl (k := 1) rfl (by rw [e_y4004]; rfl) (by decide) rfl (fun ls hl => ?_)
        refine lv_goto (tgt := 69) X.1 X.2.1 dX12_tellEnd_85 (by decide) ?_
        exact ih69 y4004 T4003 H locs ls (lv_sub hl [1, 0] rfl) h hle f_a0 hw
  have j57 : ∀ (xt0 : Int32) (at1 : Nat) (Sn : kp_S) (H : Heap) (locs : List Loc) (ls : Array Slot), lv_has ls 2 [(0, .ref a0)] → kp_H D cy A Sn s.heap H locs → kp_le S Sn → kp_is Sn a0 12 → kp_is Sn at1 12 → wX12_tellEnd_b57 a0 xt0 at1  Sn post → W p l e { frames := 0, cells := 0, slots := 0, locals := 0 } s m ([.ref a0] : List Value).toArray below meth c H locs 0 0 (MQ below (kp_Qv D cy A S post) ([.ref a0] : List Value).toArray s 0 0 A) (F0 m 57 ls [.int xt0, .ref at1]) := by
    intro xt0 at1 Sn H locs ls hl h hle f_a0 f_at1 hw
    unfold wX12_tellEnd_b57 at hw
    refine kp_putI X h f_at1 fp_12_818 rfl ⟨rfl, rfl⟩ dX12_tellEnd_57 (fun T5001 e_T5001 l_T5001 H locs h => ?_)
    have hw := hw T5001 e_T5001
    have f_a0 := l_T5001.is f_a0
    have f_at1 := l_T5001.is f_at1
    have hle := hle.tr l_T5001
    refine lv_aload_n X.1 X.2.1 dX12_tellEnd_60 rfl (lv_at hl 0 rfl) ?_
    refine kp_get X h f_a0 fp_12_610.l (v := .int (kp_I T5001 2513 a0)) rfl dX12_tellEnd_61 ?_
    refine lv_if_le (tgt := 97) X.1 X.2.1 dX12_tellEnd_64 (by decide) (fun c5003 => ?_) (fun c5003 => ?_)
    · have hw := hw.1 c5003
      refine lv_aload_n X.1 X.2.1 dX12_tellEnd_97 rfl (lv_at hl 0 rfl) ?_
      refine lv_aload_n X.1 X.2.1 dX12_tellEnd_98 rfl (lv_at hl 0 rfl) ?_
      refine kp_get X h f_a0 fp_12_616.l (v := .int (kp_I T5001 2481 a0)) rfl dX12_tellEnd_99 ?_
      refine lv_iconst (v := 4) X.1 X.2.1 dX12_tellEnd_102 (by decide) ?_
      refine lv_icmp_ne (tgt := 110) X.1 X.2.1 dX12_tellEnd_103 (by decide) (fun c5002 => ?_) (fun c5002 => ?_)
      · have hw := hw.1 c5002
        refine lv_iconst (v := 0) X.1 X.2.1 dX12_tellEnd_110 (by decide) ?_
        exact j111 0 a0 T5001 H locs ls (lv_sub hl [0] rfl) h hle f_a0 f_a0 hw
      · have hw := hw.2 c5002
        refine lv_iconst (v := 3) X.1 X.2.1 dX12_tellEnd_106 (by decide) ?_
        refine lv_goto (tgt := 111) X.1 X.2.1 dX12_tellEnd_107 (by decide) ?_
        exact j111 3 a0 T5001 H locs ls (lv_sub hl [0] rfl) h hle f_a0 f_a0 hw
    · have hw := hw.2 c5003
      refine lv_iconst (v := 0) X.1 X.2.1 dX12_tellEnd_67 (by decide) ?_
      refine lv_istore_n (lv' := [(1, .int 0), (0, .ref a0)]) X.1 X.2.1 dX12_tellEnd_68 rfl hl (by decide) rfl (fun ls hl => ?_)
      obtain ⟨n0, hw⟩ := hw
      exact L69 n0 0 T5001 H locs ls (lv_sub hl [1, 0] rfl) h hle f_a0 hw
  unfold wX12_tellEnd at hw
  have h : kp_H D cy A S s.heap s.heap [] := h
  revert h
  intro h
  refine lv_aload_n X.1 X.2.1 dX12_tellEnd_0 rfl (lv_at hl 0 rfl) ?_
  refine lv_iconst (v := 0) X.1 X.2.1 dX12_tellEnd_1 (by decide) ?_
  refine kp_putI X h f_a0 fp_12_809 rfl ⟨rfl, rfl⟩ dX12_tellEnd_2 (fun T1 e_T1 l_T1 H locs h => ?_)
  have hw := hw T1 e_T1
  have f_a0 := l_T1.is f_a0
  have hle := hle.tr l_T1
  refine lv_aload_n X.1 X.2.1 dX12_tellEnd_5 rfl (lv_at hl 0 rfl) ?_
  refine lv_iconst (v := 0) X.1 X.2.1 dX12_tellEnd_6 (by decide) ?_
  refine kp_putI X h f_a0 fp_12_812 rfl ⟨rfl, rfl⟩ dX12_tellEnd_7 (fun T2 e_T2 l_T2 H locs h => ?_)
  have hw := hw T2 e_T2
  have f_a0 := l_T2.is f_a0
  have hle := hle.tr l_T2
  refine lv_aload_n X.1 X.2.1 dX12_tellEnd_10 rfl (lv_at hl 0 rfl) ?_
  refine lv_iconst (v := 0) X.1 X.2.1 dX12_tellEnd_11 (by decide) ?_
  refine kp_putI X h f_a0 fp_12_815 rfl ⟨rfl, rfl⟩ dX12_tellEnd_12 (fun T3 e_T3 l_T3 H locs h => ?_)
  have hw := hw T3 e_T3
  have f_a0 := l_T3.is f_a0
  have hle := hle.tr l_T3
  refine lv_aload_n X.1 X.2.1 dX12_tellEnd_15 rfl (lv_at hl 0 rfl) ?_
  refine lv_iconst (v := (-1)) X.1 X.2.1 dX12_tellEnd_16 (by decide) ?_
  refine kp_putI X h f_a0 fp_12_245 rfl ⟨rfl, rfl⟩ dX12_tellEnd_17 (fun T4 e_T4 l_T4 H locs h => ?_)
  have hw := hw T4 e_T4
  have f_a0 := l_T4.is f_a0
  have hle := hle.tr l_T4
  refine lv_aload_n X.1 X.2.1 dX12_tellEnd_20 rfl (lv_at hl 0 rfl) ?_
  refine lv_aload_n X.1 X.2.1 dX12_tellEnd_21 rfl (lv_at hl 0 rfl) ?_
  refine kp_get X h f_a0 fp_12_610.l (v := .int (kp_I T4 2513 a0)) rfl dX12_tellEnd_22 ?_
  refine lv_if_le (tgt := 32) X.1 X.2.1 dX12_tellEnd_25 (by decide) (fun c7 => ?_) (fun c7 => ?_)
  · have hw := hw.1 c7
    refine lv_aload_n X.1 X.2.1 dX12_tellEnd_32 rfl (lv_at hl 0 rfl) ?_
    refine kp_get X h f_a0 fp_12_616.l (v := .int (kp_I T4 2481 a0)) rfl dX12_tellEnd_33 ?_
    refine lv_iconst (v := 4) X.1 X.2.1 dX12_tellEnd_36 (by decide) ?_
    refine lv_icmp_ne (tgt := 44) X.1 X.2.1 dX12_tellEnd_37 (by decide) (fun c6 => ?_) (fun c6 => ?_)
    · have hw := hw.1 c6
      refine lv_aload_n X.1 X.2.1 dX12_tellEnd_44 rfl (lv_at hl 0 rfl) ?_
      refine kp_get X h f_a0 fp_12_616.l (v := .int (kp_I T4 2481 a0)) rfl dX12_tellEnd_45 ?_
      refine lv_iconst (v := 3) X.1 X.2.1 dX12_tellEnd_48 (by decide) ?_
      refine lv_icmp_ne (tgt := 56) X.1 X.2.1 dX12_tellEnd_49 (by decide) (fun c5 => ?_) (fun c5 => ?_)
      · have hw := hw.1 c5
        refine lv_iconst (v := 1) X.1 X.2.1 dX12_tellEnd_56 (by decide) ?_
        exact j57 1 a0 T4 _ _ ls (lv_sub hl [0] rfl) h hle f_a0 f_a0 hw
      · have hw := hw.2 c5
        refine lv_iconst (v := 2) X.1 X.2.1 dX12_tellEnd_52 (by decide) ?_
        refine lv_goto (tgt := 57) X.1 X.2.1 dX12_tellEnd_53 (by decide) ?_
        exact j57 2 a0 T4 _ _ ls (lv_sub hl [0] rfl) h hle f_a0 f_a0 hw
    · have hw := hw.2 c6
      refine lv_iconst (v := 4) X.1 X.2.1 dX12_tellEnd_40 (by decide) ?_
      refine lv_goto (tgt := 57) X.1 X.2.1 dX12_tellEnd_41 (by decide) ?_
      exact j57 4 a0 T4 _ _ ls (lv_sub hl [0] rfl) h hle f_a0 f_a0 hw
  · have hw := hw.2 c7
    refine lv_iconst (v := 0) X.1 X.2.1 dX12_tellEnd_28 (by decide) ?_
    refine lv_goto (tgt := 57) X.1 X.2.1 dX12_tellEnd_29 (by decide) ?_
    exact j57 0 a0 T4 _ _ ls (lv_sub hl [0] rfl) h hle f_a0 f_a0 hw
theorem dX12_run_0 : decode cX12_run 0 = .ok (.aload_n 0, 1) := by decide +kernel
theorem dX12_run_1 : decode cX12_run 1 = .ok (.iconst 0, 1) := by decide +kernel
theorem dX12_run_2 : decode cX12_run 2 = .ok (.putfield 1, 3) := by decide +kernel
theorem dX12_run_5 : decode cX12_run 5 = .ok (.aload_n 0, 1) := by decide +kernel
theorem dX12_run_6 : decode cX12_run 6 = .ok (.getfield 583, 3) := by decide +kernel
theorem dX12_run_9 : decode cX12_run 9 = .ok (.ifCond .eq 13, 3) := by decide +kernel
theorem dX12_run_12 : decode cX12_run 12 = .ok (.aload_n 0, 1) := by decide +kernel
theorem dX12_run_13 : decode cX12_run 13 = .ok (.getfield 793, 3) := by decide +kernel
theorem dX12_run_16 : decode cX12_run 16 = .ok (.ldc_w 796, 3) := by decide +kernel
theorem dX12_run_19 : decode cX12_run 19 = .ok (.if_icmp .lt 10, 3) := by decide +kernel
theorem dX12_run_22 : decode cX12_run 22 = .ok (.aload_n 0, 1) := by decide +kernel
theorem dX12_run_23 : decode cX12_run 23 = .ok (.iconst 1, 1) := by decide +kernel
theorem dX12_run_24 : decode cX12_run 24 = .ok (.putfield 1, 3) := by decide +kernel
theorem dX12_run_27 : decode cX12_run 27 = .ok (.iconst 0, 1) := by decide +kernel
theorem dX12_run_28 : decode cX12_run 28 = .ok (.ireturn, 1) := by decide +kernel
theorem dX12_run_29 : decode cX12_run 29 = .ok (.iload_n 1, 1) := by decide +kernel
theorem dX12_run_30 : decode cX12_run 30 = .ok (.ifCond .lt 24, 3) := by decide +kernel
theorem dX12_run_33 : decode cX12_run 33 = .ok (.iload_n 1, 1) := by decide +kernel
theorem dX12_run_34 : decode cX12_run 34 = .ok (.aload_n 0, 1) := by decide +kernel
theorem dX12_run_35 : decode cX12_run 35 = .ok (.getfield 586, 3) := by decide +kernel
theorem dX12_run_38 : decode cX12_run 38 = .ok (.if_icmp .ge 16, 3) := by decide +kernel
theorem dX12_run_41 : decode cX12_run 41 = .ok (.iload 4, 2) := by decide +kernel
theorem dX12_run_43 : decode cX12_run 43 = .ok (.ifCond .lt 11, 3) := by decide +kernel
theorem dX12_run_46 : decode cX12_run 46 = .ok (.iload 4, 2) := by decide +kernel
theorem dX12_run_48 : decode cX12_run 48 = .ok (.sipush 20000, 3) := by decide +kernel
theorem dX12_run_51 : decode cX12_run 51 = .ok (.if_icmp .le 10, 3) := by decide +kernel
theorem dX12_run_54 : decode cX12_run 54 = .ok (.aload_n 0, 1) := by decide +kernel
theorem dX12_run_55 : decode cX12_run 55 = .ok (.iconst 2, 1) := by decide +kernel
theorem dX12_run_56 : decode cX12_run 56 = .ok (.putfield 1, 3) := by decide +kernel
theorem dX12_run_59 : decode cX12_run 59 = .ok (.iconst 0, 1) := by decide +kernel
theorem dX12_run_60 : decode cX12_run 60 = .ok (.ireturn, 1) := by decide +kernel
theorem dX12_run_61 : decode cX12_run 61 = .ok (.aload_n 0, 1) := by decide +kernel
theorem dX12_run_62 : decode cX12_run 62 = .ok (.invokevirtual 797, 3) := by decide +kernel
theorem dX12_run_65 : decode cX12_run 65 = .ok (.aload_n 0, 1) := by decide +kernel
theorem dX12_run_66 : decode cX12_run 66 = .ok (.iload 4, 2) := by decide +kernel
theorem dX12_run_68 : decode cX12_run 68 = .ok (.putfield 607, 3) := by decide +kernel
theorem dX12_run_71 : decode cX12_run 71 = .ok (.aload_n 0, 1) := by decide +kernel
theorem dX12_run_72 : decode cX12_run 72 = .ok (.getfield 142, 3) := by decide +kernel
theorem dX12_run_75 : decode cX12_run 75 = .ok (.iload_n 1, 1) := by decide +kernel
theorem dX12_run_76 : decode cX12_run 76 = .ok (.iaload, 1) := by decide +kernel
theorem dX12_run_77 : decode cX12_run 77 = .ok (.istore 5, 2) := by decide +kernel
theorem dX12_run_79 : decode cX12_run 79 = .ok (.iconst 0, 1) := by decide +kernel
theorem dX12_run_80 : decode cX12_run 80 = .ok (.istore 6, 2) := by decide +kernel
theorem dX12_run_82 : decode cX12_run 82 = .ok (.iload 6, 2) := by decide +kernel
theorem dX12_run_84 : decode cX12_run 84 = .ok (.iload 5, 2) := by decide +kernel
theorem dX12_run_86 : decode cX12_run 86 = .ok (.if_icmp .ge 33, 3) := by decide +kernel
theorem dX12_run_89 : decode cX12_run 89 = .ok (.aload_n 0, 1) := by decide +kernel
theorem dX12_run_90 : decode cX12_run 90 = .ok (.iload 6, 2) := by decide +kernel
theorem dX12_run_92 : decode cX12_run 92 = .ok (.ifCond .ne 7, 3) := by decide +kernel
theorem dX12_run_95 : decode cX12_run 95 = .ok (.iload_n 2, 1) := by decide +kernel
theorem dX12_run_96 : decode cX12_run 96 = .ok (.goto 14, 3) := by decide +kernel
theorem dX12_run_99 : decode cX12_run 99 = .ok (.iload 6, 2) := by decide +kernel
theorem dX12_run_101 : decode cX12_run 101 = .ok (.iconst 1, 1) := by decide +kernel
theorem dX12_run_102 : decode cX12_run 102 = .ok (.if_icmp .ne 7, 3) := by decide +kernel
theorem dX12_run_105 : decode cX12_run 105 = .ok (.iload_n 3, 1) := by decide +kernel
theorem dX12_run_106 : decode cX12_run 106 = .ok (.goto 4, 3) := by decide +kernel
theorem dX12_run_109 : decode cX12_run 109 = .ok (.iconst 0, 1) := by decide +kernel
theorem dX12_run_110 : decode cX12_run 110 = .ok (.invokevirtual 708, 3) := by decide +kernel
theorem dX12_run_113 : decode cX12_run 113 = .ok (.iinc 6 1, 3) := by decide +kernel
theorem dX12_run_116 : decode cX12_run 116 = .ok (.goto (-34), 3) := by decide +kernel
theorem dX12_run_119 : decode cX12_run 119 = .ok (.aload_n 0, 1) := by decide +kernel
theorem dX12_run_120 : decode cX12_run 120 = .ok (.iload_n 1, 1) := by decide +kernel
theorem dX12_run_121 : decode cX12_run 121 = .ok (.iload 5, 2) := by decide +kernel
theorem dX12_run_123 : decode cX12_run 123 = .ok (.invokevirtual 728, 3) := by decide +kernel
theorem dX12_run_126 : decode cX12_run 126 = .ok (.aload_n 0, 1) := by decide +kernel
theorem dX12_run_127 : decode cX12_run 127 = .ok (.getfield 610, 3) := by decide +kernel
theorem dX12_run_130 : decode cX12_run 130 = .ok (.ifCond .ne 17, 3) := by decide +kernel
theorem dX12_run_133 : decode cX12_run 133 = .ok (.aload_n 0, 1) := by decide +kernel
theorem dX12_run_134 : decode cX12_run 134 = .ok (.getfield 705, 3) := by decide +kernel
theorem dX12_run_137 : decode cX12_run 137 = .ok (.ifCond .ne 10, 3) := by decide +kernel
theorem dX12_run_140 : decode cX12_run 140 = .ok (.aload_n 0, 1) := by decide +kernel
theorem dX12_run_141 : decode cX12_run 141 = .ok (.invokevirtual 800, 3) := by decide +kernel
theorem dX12_run_144 : decode cX12_run 144 = .ok (.goto (-18), 3) := by decide +kernel
theorem dX12_run_147 : decode cX12_run 147 = .ok (.aload_n 0, 1) := by decide +kernel
theorem dX12_run_148 : decode cX12_run 148 = .ok (.aload_n 0, 1) := by decide +kernel
theorem dX12_run_149 : decode cX12_run 149 = .ok (.getfield 607, 3) := by decide +kernel
theorem dX12_run_152 : decode cX12_run 152 = .ok (.putfield 803, 3) := by decide +kernel
theorem dX12_run_155 : decode cX12_run 155 = .ok (.aload_n 0, 1) := by decide +kernel
theorem dX12_run_156 : decode cX12_run 156 = .ok (.dup, 1) := by decide +kernel
theorem dX12_run_157 : decode cX12_run 157 = .ok (.getfield 793, 3) := by decide +kernel
theorem dX12_run_160 : decode cX12_run 160 = .ok (.iload 4, 2) := by decide +kernel
theorem dX12_run_162 : decode cX12_run 162 = .ok (.aload_n 0, 1) := by decide +kernel
theorem dX12_run_163 : decode cX12_run 163 = .ok (.getfield 607, 3) := by decide +kernel
theorem dX12_run_166 : decode cX12_run 166 = .ok (.isub, 1) := by decide +kernel
theorem dX12_run_167 : decode cX12_run 167 = .ok (.iadd, 1) := by decide +kernel
theorem dX12_run_168 : decode cX12_run 168 = .ok (.putfield 793, 3) := by decide +kernel
theorem dX12_run_171 : decode cX12_run 171 = .ok (.aload_n 0, 1) := by decide +kernel
theorem dX12_run_172 : decode cX12_run 172 = .ok (.invokevirtual 806, 3) := by decide +kernel
theorem dX12_run_175 : decode cX12_run 175 = .ok (.aload_n 0, 1) := by decide +kernel
theorem dX12_run_176 : decode cX12_run 176 = .ok (.getfield 242, 3) := by decide +kernel
theorem dX12_run_179 : decode cX12_run 179 = .ok (.ireturn, 1) := by decide +kernel
def wX12_run_b22 (a0 : Nat) (x1 : Int32) (x2 : Int32) (x3 : Int32) (x4 : Int32)  (Sn : kp_S) (post : Int32 → kp_S → Prop) : Prop :=
  ∀ T1001 : kp_S, T1001 = kp_sI Sn 2400 a0 1 →
  post 0 T1001
def wX12_run_b54 (a0 : Nat) (x1 : Int32) (x2 : Int32) (x3 : Int32) (x4 : Int32)  (Sn : kp_S) (post : Int32 → kp_S → Prop) : Prop :=
  ∀ T2001 : kp_S, T2001 = kp_sI Sn 2400 a0 2 →
  post 0 T2001
def wX12_run_b147 (a0 : Nat) (x1 : Int32) (x2 : Int32) (x3 : Int32) (x4 : Int32)  (Sn : kp_S) (post : Int32 → kp_S → Prop) : Prop :=
  ∀ T3001 : kp_S, T3001 = kp_sI Sn 2523 a0 (kp_I Sn 2512 a0) →
  ∀ T3002 : kp_S, T3002 = kp_sI T3001 2524 a0 ((kp_I T3001 2524 a0) + (x4 - (kp_I T3001 2512 a0))) →
  wX12_tellEnd a0 T3002 (fun T3003 =>
  post (kp_I T3003 2517 a0) T3003)
def wX12_run_L126 (a0 : Nat) (x1 : Int32) (x2 : Int32) (x3 : Int32) (x4 : Int32)  (post : Int32 → kp_S → Prop) : Nat → kp_S → Prop
  | 0, _ => False
  | n + 1, Sn =>
  ((¬ (kp_I Sn 2513 a0) = 0 →
  wX12_run_b147 a0 x1 x2 x3 x4   Sn post) ∧ ((kp_I Sn 2513 a0) = 0 →
  ((¬ (kp_I Sn 2514 a0) = 0 →
  wX12_run_b147 a0 x1 x2 x3 x4   Sn post) ∧ ((kp_I Sn 2514 a0) = 0 →
  wX12_step a0 Sn (fun T4001 =>
  wX12_run_L126 a0 x1 x2 x3 x4  post n  T4001)))))
def wX12_run_b110 (a0 : Nat) (x1 : Int32) (x2 : Int32) (x3 : Int32) (x4 : Int32) (xn5 : Int32) (xn6 : Int32) (xt0 : Int32) (at1 : Nat) (K82 : Int32 → Int32 → kp_S → Prop) (Sn : kp_S) (post : Int32 → kp_S → Prop) : Prop :=
  wX12_push at1 xt0 Sn (fun T5001 =>
  ∀ y5002 : Int32, y5002 = xn6 + 1 →
  K82 xn5 y5002 T5001)
def wX12_run_L82 (a0 : Nat) (x1 : Int32) (x2 : Int32) (x3 : Int32) (x4 : Int32)  (post : Int32 → kp_S → Prop) : Nat → Int32 → Int32 → kp_S → Prop
  | 0, _, _, _ => False
  | n + 1, xn5, xn6, Sn =>
  ((xn5 ≤ xn6 →
  wX12_calls a0 x1 xn5 Sn (fun T6001 =>
  ∃ n0 : Nat, wX12_run_L126 a0 x1 x2 x3 x4  post n0  T6001)) ∧ (¬ xn5 ≤ xn6 →
  ((¬ xn6 = 0 →
  ((¬ xn6 = 1 →
  wX12_run_b110 a0 x1 x2 x3 x4 xn5 xn6 0 a0 (fun xn5_ xn6_ S_ => wX12_run_L82 a0 x1 x2 x3 x4  post n xn5_ xn6_ S_) Sn post) ∧ (xn6 = 1 →
  wX12_run_b110 a0 x1 x2 x3 x4 xn5 xn6 x3 a0 (fun xn5_ xn6_ S_ => wX12_run_L82 a0 x1 x2 x3 x4  post n xn5_ xn6_ S_) Sn post))) ∧ (xn6 = 0 →
  wX12_run_b110 a0 x1 x2 x3 x4 xn5 xn6 x2 a0 (fun xn5_ xn6_ S_ => wX12_run_L82 a0 x1 x2 x3 x4  post n xn5_ xn6_ S_) Sn post))))
def wX12_run (a0 : Nat) (x1 : Int32) (x2 : Int32) (x3 : Int32) (x4 : Int32) (S : kp_S) (post : Int32 → kp_S → Prop) : Prop :=
  ∀ T1 : kp_S, T1 = kp_sI S 2400 a0 0 →
  (((kp_I T1 2447 a0) = 0 →
  wX12_run_b22 a0 x1 x2 x3 x4   T1 post) ∧ (¬ (kp_I T1 2447 a0) = 0 →
  (((kp_I T1 2524 a0) < 200000 →
  ((x1 < 0 →
  wX12_run_b54 a0 x1 x2 x3 x4   T1 post) ∧ (¬ x1 < 0 →
  (((kp_I T1 2462 a0) ≤ x1 →
  wX12_run_b54 a0 x1 x2 x3 x4   T1 post) ∧ (¬ (kp_I T1 2462 a0) ≤ x1 →
  ((x4 < 0 →
  wX12_run_b54 a0 x1 x2 x3 x4   T1 post) ∧ (¬ x4 < 0 →
  ((x4 ≤ 20000 →
  wX12_clear a0 T1 (fun T2 =>
  ∀ T3 : kp_S, T3 = kp_sI T2 2512 a0 x4 →
  ∃ b4 : Nat, kp_R T3 2458 a0 = some b4 ∧
  vp_in x1 (kp_N T3 b4) ∧
  ∀ y5 : Int32, y5 = (kp_A T3 b4 x1.toNatClampNeg) →
  ∃ n0 : Nat, wX12_run_L82 a0 x1 x2 x3 x4  post n0 y5 0 T3)) ∧ (¬ x4 ≤ 20000 →
  wX12_run_b54 a0 x1 x2 x3 x4   T1 post))))))))) ∧ (¬ (kp_I T1 2524 a0) < 200000 →
  wX12_run_b22 a0 x1 x2 x3 x4   T1 post))))
