def wX12_unit (U : Nat → kp_S → (kp_S → Prop) → Prop) (N : Nat → kp_S → (kp_S → Prop) → Prop) (a0 : Nat) (S : kp_S) (post : kp_S → Prop) : Prop :=
  wX12_fine a0 S (fun y2 T1 =>
  ((¬ y2 = 0 →
  ∀ y3 : Int32, y3 = (kp_I T1 2410 a0) →
  ∃ b4 : Nat, kp_R T1 2404 a0 = some b4 ∧
  vp_in y3 (kp_N T1 b4) ∧
  ∀ y5 : Int32, y5 = (kp_A T1 b4 y3.toNatClampNeg) →
  ((y5 = 2 →
  ∀ T7 : kp_S, T7 = kp_sI T1 2410 a0 ((kp_I T1 2410 a0) + 1) →
  wX12_isSign a0 40 T7 (fun y9 T8 =>
  ((y9 = 0 →
  ∃ b10 : Nat, kp_R T8 2406 a0 = some b10 ∧
  vp_in y3 (kp_N T8 b10) ∧
  wX12_known a0 (kp_B T8 b10 y3.toNatClampNeg) T8 (fun y12 T11 =>
  ((¬ y12 = (-1) →
  wX12_unit_b219 U N a0 y3  T11 post) ∧ (y12 = (-1) →
  wX12_bad a0 5 y3 T11 (fun T13 =>
  wX12_unit_b219 U N a0 y3  T13 post))))) ∧ (¬ y9 = 0 →
  wX12_call U N a0 y3 T8 (fun T15 =>
  wX12_unit_b364 U N a0   T15 post))))) ∧ (¬ y5 = 2 →
  ((y5 = 3 →
  ∀ T18 : kp_S, T18 = kp_sI T1 2410 a0 ((kp_I T1 2410 a0) + 1) →
  ∃ b19 : Nat, kp_R T18 2406 a0 = some b19 ∧
  vp_in y3 (kp_N T18 b19) ∧
  wX12_emit a0 1 ((kp_B T18 b19 y3.toNatClampNeg : Int64).toInt32) 0 T18 (fun y21 T20 =>
  wX12_unit_b364 U N a0   T20 post)) ∧ (¬ y5 = 3 →
  ((y5 = 37 →
  wX12_question U N a0 1 20 T1 (fun T23 =>
  wX12_unit_b364 U N a0   T23 post)) ∧ (¬ y5 = 37 →
  ((y5 = 38 →
  wX12_question U N a0 1 21 T1 (fun T25 =>
  wX12_unit_b364 U N a0   T25 post)) ∧ (¬ y5 = 38 →
  ((y5 = 39 →
  wX12_question U N a0 2 22 T1 (fun T27 =>
  wX12_unit_b364 U N a0   T27 post)) ∧ (¬ y5 = 39 →
  ((y5 = 40 →
  wX12_question U N a0 1 23 T1 (fun T29 =>
  wX12_unit_b364 U N a0   T29 post)) ∧ (¬ y5 = 40 →
  ((y5 = 41 →
  wX12_question U N a0 1 24 T1 (fun T31 =>
  wX12_unit_b364 U N a0   T31 post)) ∧ (¬ y5 = 41 →
  ((y5 = 42 →
  ∀ T33 : kp_S, T33 = kp_sI T1 2410 a0 ((kp_I T1 2410 a0) + 1) →
  wX12_emit a0 25 0 0 T33 (fun y35 T34 =>
  wX12_unit_b364 U N a0   T34 post)) ∧ (¬ y5 = 42 →
  ((y5 = 43 →
  ∀ T37 : kp_S, T37 = kp_sI T1 2410 a0 ((kp_I T1 2410 a0) + 1) →
  wX12_emit a0 26 0 0 T37 (fun y39 T38 =>
  wX12_unit_b364 U N a0   T38 post)) ∧ (¬ y5 = 43 →
  ((y5 = 140 →
  wX12_nest a0 T1 (fun T41 =>
  wX12_expression U N a0 T41 (fun T42 =>
  wX12_takeSign a0 41 T42 (fun T43 =>
  ∀ T44 : kp_S, T44 = kp_sI T43 2411 a0 ((kp_I T43 2411 a0) - 1) →
  wX12_unit_b364 U N a0   T44 post)))) ∧ (¬ y5 = 140 →
  ((y5 = 145 →
  wX12_nest a0 T1 (fun T46 =>
  U a0 T46 (fun T47 =>
  ∀ T48 : kp_S, T48 = kp_sI T47 2411 a0 ((kp_I T47 2411 a0) - 1) →
  wX12_emit a0 5 0 0 T48 (fun y50 T49 =>
  wX12_unit_b364 U N a0   T49 post)))) ∧ (¬ y5 = 145 →
  wX12_wrong a0 T1 (fun T51 =>
  wX12_unit_b364 U N a0   T51 post)))))))))))))))))))))))) ∧ (y2 = 0 →
  post T1)))
set_option maxHeartbeats 4000000 in
set_option maxRecDepth 100000 in
theorem c_X12_unit (l : Launch) (D : va_G) (cy : Nat → ClassId) (ad : (Nat → Nat) × (Nat → Nat)) (F L : Nat) (U : Nat → kp_S → (kp_S → Prop) → Prop) (N : Nat → kp_S → (kp_S → Prop) → Prop) (hU : ∀ (S : kp_S) (a0 : Nat) (post : kp_S → Prop), kp_ok S → kp_is S a0 12 → U a0 S post → kp_M l yX12_unit cX12_unit 2 none { frames := F, cells := 0, slots := 0, locals := L } D cy ad S [.ref a0] 0 0 (fun A => kp_Qv D cy A S post)) (hN : ∀ (S : kp_S) (a0 : Nat) (post : kp_S → Prop), kp_ok S → kp_is S a0 12 → N a0 S post → kp_M l yX12_turned cX12_turned 1 none { frames := F, cells := 0, slots := 0, locals := L } D cy ad S [.ref a0] 0 0 (fun A => kp_Qv D cy A S post)) (hF : 3 ≤ F) (hL : 63 ≤ L) (S : kp_S) (a0 : Nat) (post : kp_S → Prop) (hS : kp_ok S) (f_a0 : kp_is S a0 12) (hw : wX12_unit U N a0 S post) : kp_M l yX12_unit cX12_unit 2 none { frames := F + 4, cells := 0, slots := 0, locals := L + 85 } D cy ad S [.ref a0] 0 0 (fun A => kp_Qv D cy A S post) := by
  refine kp_start (own := RX12) (by decide) rfl (Nat.le_of_ble_eq_true rfl) hS ?_
  intro p e s m below meth c A ls X hr hlocks hname h hl
  have hle : kp_le S S := kp_le.rf
  have hl : lv_has ls 2 [(0, .ref a0)] := hl
  have j364 : ∀  (Sn : kp_S) (H : Heap) (locs : List Loc) (ls : Array Slot), lv_has ls 2 [] → kp_H D cy A Sn s.heap H locs → kp_le S Sn → kp_is Sn a0 12 → wX12_unit_b364 U N a0   Sn post → W p l e { frames := F + 4, cells := 0, slots := 0, locals := L + 85 } s m ([.ref a0] : List Value).toArray below meth c H locs 0 0 (MQ below (kp_Qv D cy A S post) ([.ref a0] : List Value).toArray s 0 0 A) (F0 m 364 ls []) := by
    intro  Sn H locs ls hl h hle f_a0 hw
    unfold wX12_unit_b364 at hw
    exact kp_retv X hr hlocks h hle hw dX12_unit_364
  have j219 : ∀ (xn1 : Int32) (Sn : kp_S) (H : Heap) (locs : List Loc) (ls : Array Slot), lv_has ls 2 [(0, .ref a0), (1, .int xn1)] → kp_H D cy A Sn s.heap H locs → kp_le S Sn → kp_is Sn a0 12 → wX12_unit_b219 U N a0 xn1  Sn post → W p l e { frames := F + 4, cells := 0, slots := 0, locals := L + 85 } s m ([.ref a0] : List Value).toArray below meth c H locs 0 0 (MQ below (kp_Qv D cy A S post) ([.ref a0] : List Value).toArray s 0 0 A) (F0 m 219 ls []) := by
    intro xn1 Sn H locs ls hl h hle f_a0 hw
    unfold wX12_unit_b219 at hw
    refine lv_aload_n X.1 X.2.1 dX12_unit_219 rfl (lv_at hl 0 rfl) ?_
    refine lv_iconst (v := 2) X.1 X.2.1 dX12_unit_220 (by decide) ?_
    refine lv_aload_n X.1 X.2.1 dX12_unit_221 rfl (lv_at hl 0 rfl) ?_
    refine lv_aload_n X.1 X.2.1 dX12_unit_222 rfl (lv_at hl 0 rfl) ?_
    obtain ⟨b2001, e_b2001, hw⟩ := hw
    have f_b2001 := h.2.2.2.rf (c := 12) (k := 6) f_a0 (by decide) (by decide) e_b2001 (t := 15) rfl
    refine kp_get X h f_a0 ff_12_37.l (v := .ref b2001) (congrArg va_rf e_b2001) dX12_unit_223 ?_
    refine lv_iload_n X.1 X.2.1 dX12_unit_226 rfl (lv_at hl 1 rfl) ?_
    obtain ⟨hi, hw⟩ := hw
    refine kp_lald X h f_b2001 hi dX12_unit_227 ?_
    refine kp_calli X h (kp_runV (rm := { frames := 0, cells := 0, slots := 0, locals := 0 }) (mc := 0) (ms := 0) (rest := [.int 2, .ref a0]) (Qc := fun A => kp_Qi D cy A Sn _) X h (c_X12_known l D cy ad Sn a0 (kp_B Sn b2001 xn1.toNatClampNeg) _ h.2.2.2 f_a0 hw) f_a0 cv_12_457 ⟨by dsimp only; omega, by dsimp only; omega, rfl, rfl, by dsimp only; omega, by dsimp only; omega⟩ rfl hl.1 rfl (Nat.le_of_ble_eq_true rfl) dX12_unit_228) (fun y2003 T2002 hw l_T2002 H locs h => ?_)
    have f_a0 := l_T2002.is f_a0
    have f_b2001 := l_T2002.is f_b2001
    have hle := hle.tr l_T2002
    refine lv_iconst (v := 0) X.1 X.2.1 dX12_unit_231 (by decide) ?_
    refine kp_calli X h (kp_runV (rm := { frames := 0, cells := 0, slots := 0, locals := 0 }) (mc := 0) (ms := 0) (rest := []) (Qc := fun A => kp_Qi D cy A T2002 _) X h (c_X12_emit l D cy ad T2002 a0 2 y2003 0 _ h.2.2.2 f_a0 hw) f_a0 cv_12_451 ⟨by dsimp only; omega, by dsimp only; omega, rfl, rfl, by dsimp only; omega, by dsimp only; omega⟩ rfl hl.1 rfl (Nat.le_of_ble_eq_true rfl) dX12_unit_232) (fun y2005 T2004 hw l_T2004 H locs h => ?_)
    have f_a0 := l_T2004.is f_a0
    have f_b2001 := l_T2004.is f_b2001
    have hle := hle.tr l_T2004
    refine lv_pop X.1 X.2.1 dX12_unit_235 rfl ?_
    refine lv_goto (tgt := 364) X.1 X.2.1 dX12_unit_236 (by decide) ?_
    exact j364  T2004 H locs ls (lv_sub hl [] rfl) h hle f_a0 hw
  unfold wX12_unit at hw
  have h : kp_H D cy A S s.heap s.heap [] := h
  revert h
  intro h
  refine lv_aload_n X.1 X.2.1 dX12_unit_0 rfl (lv_at hl 0 rfl) ?_
  refine kp_calli X h (kp_runV (rm := { frames := 0, cells := 0, slots := 0, locals := 0 }) (mc := 0) (ms := 0) (rest := []) (Qc := fun A => kp_Qi D cy A S _) X h (c_X12_fine l D cy ad S a0 _ h.2.2.2 f_a0 hw) f_a0 cv_12_408 ⟨by dsimp only; omega, by dsimp only; omega, rfl, rfl, by dsimp only; omega, by dsimp only; omega⟩ rfl hl.1 rfl (Nat.le_of_ble_eq_true rfl) dX12_unit_1) (fun y2 T1 hw l_T1 H locs h => ?_)
  have f_a0 := l_T1.is f_a0
  have hle := hle.tr l_T1
  refine lv_if_ne (tgt := 8) X.1 X.2.1 dX12_unit_4 (by decide) (fun c52 => ?_) (fun c52 => ?_)
  · have hw := hw.1 c52
    refine lv_aload_n X.1 X.2.1 dX12_unit_8 rfl (lv_at hl 0 rfl) ?_
    refine kp_get X h f_a0 fp_12_376.l (v := .int (kp_I T1 2410 a0)) rfl dX12_unit_9 ?_
    refine lv_topi (fun y3 e_y3 => ?_)
    have hw := hw y3 e_y3
    refine lv_istore_n (lv' := [(1, .int y3), (0, .ref a0)]) X.1 X.2.1 dX12_unit_12 rfl hl (by decide) rfl (fun ls hl => ?_)
    refine lv_aload_n X.1 X.2.1 dX12_unit_13 rfl (lv_at hl 1 rfl) ?_
    obtain ⟨b4, e_b4, hw⟩ := hw
    have f_b4 := h.2.2.2.rf (c := 12) (k := 4) f_a0 (by decide) (by decide) e_b4 (t := 14) rfl
    refine kp_get X h f_a0 ff_12_31.l (v := .ref b4) (congrArg va_rf e_b4) dX12_unit_14 ?_
    refine lv_iload_n X.1 X.2.1 dX12_unit_17 rfl (lv_at hl 0 rfl) ?_
    obtain ⟨hi, hw⟩ := hw
    refine kp_iald X h f_b4 hi dX12_unit_18 ?_
    refine lv_topi (fun y5 e_y5 => ?_)
    have hw := hw y5 e_y5
    by_cases c6 : y5 = 2
    · have hw := hw.1 c6
      refine lv_lookup (off := 153) (tgt := 172) X.1 X.2.1 dX12_unit_19 (by decide) (by rw [c6]; decide) (by decide) ?_
      refine lv_aload_n X.1 X.2.1 dX12_unit_172 rfl (lv_at hl 1 rfl) ?_
      refine lv_dup X.1 X.2.1 dX12_unit_173 rfl ?_
      refine kp_get X h f_a0 fp_12_376.l (v := .int (kp_I T1 2410 a0)) rfl dX12_unit_174 ?_
      refine lv_iconst (v := 1) X.1 X.2.1 dX12_unit_177 (by decide) ?_
      refine lv_iadd X.1 X.2.1 dX12_unit_178 ?_
      refine kp_putI X h f_a0 fp_12_376 rfl ⟨rfl, rfl⟩ dX12_unit_179 (fun T7 e_T7 l_T7 H locs h => ?_)
      have hw := hw T7 e_T7
      have f_a0 := l_T7.is f_a0
      have f_b4 := l_T7.is f_b4
      have hle := hle.tr l_T7
      have e_b4 : kp_R T7 2404 a0 = some b4 := by rw [e_T7]; exact e_b4
      refine lv_aload_n X.1 X.2.1 dX12_unit_182 rfl (lv_at hl 1 rfl) ?_
      refine lv_bipush (v := 40) X.1 X.2.1 dX12_unit_183 (by decide) ?_
      refine kp_calli X h (kp_runV (rm := { frames := 1, cells := 0, slots := 0, locals := 21 }) (mc := 0) (ms := 0) (rest := []) (Qc := fun A => kp_Qi D cy A T7 _) X h (c_X12_isSign l D cy ad T7 a0 40 _ h.2.2.2 f_a0 hw) f_a0 cv_12_433 ⟨by dsimp only; omega, by dsimp only; omega, rfl, rfl, by dsimp only; omega, by dsimp only; omega⟩ rfl hl.1 rfl (Nat.le_of_ble_eq_true rfl) dX12_unit_185) (fun y9 T8 hw l_T8 H locs h => ?_)
      have f_a0 := l_T8.is f_a0
      have f_b4 := l_T8.is f_b4
      have hle := hle.tr l_T8
      refine lv_if_eq (tgt := 199) X.1 X.2.1 dX12_unit_188 (by decide) (fun c16 => ?_) (fun c16 => ?_)
      · have hw := hw.1 c16
        refine lv_aload_n X.1 X.2.1 dX12_unit_199 rfl (lv_at hl 1 rfl) ?_
        refine lv_aload_n X.1 X.2.1 dX12_unit_200 rfl (lv_at hl 1 rfl) ?_
        obtain ⟨b10, e_b10, hw⟩ := hw
        have f_b10 := h.2.2.2.rf (c := 12) (k := 6) f_a0 (by decide) (by decide) e_b10 (t := 15) rfl
        refine kp_get X h f_a0 ff_12_37.l (v := .ref b10) (congrArg va_rf e_b10) dX12_unit_201 ?_
        refine lv_iload_n X.1 X.2.1 dX12_unit_204 rfl (lv_at hl 0 rfl) ?_
        obtain ⟨hi, hw⟩ := hw
        refine kp_lald X h f_b10 hi dX12_unit_205 ?_
        refine kp_calli X h (kp_runV (rm := { frames := 0, cells := 0, slots := 0, locals := 0 }) (mc := 0) (ms := 0) (rest := []) (Qc := fun A => kp_Qi D cy A T8 _) X h (c_X12_known l D cy ad T8 a0 (kp_B T8 b10 y3.toNatClampNeg) _ h.2.2.2 f_a0 hw) f_a0 cv_12_457 ⟨by dsimp only; omega, by dsimp only; omega, rfl, rfl, by dsimp only; omega, by dsimp only; omega⟩ rfl hl.1 rfl (Nat.le_of_ble_eq_true rfl) dX12_unit_206) (fun y12 T11 hw l_T11 H locs h => ?_)
        have f_a0 := l_T11.is f_a0
        have f_b4 := l_T11.is f_b4
        have f_b10 := l_T11.is f_b10
        have hle := hle.tr l_T11
        refine lv_iconst (v := (-1)) X.1 X.2.1 dX12_unit_209 (by decide) ?_
        refine lv_icmp_ne (tgt := 219) X.1 X.2.1 dX12_unit_210 (by decide) (fun c14 => ?_) (fun c14 => ?_)
        · have hw := hw.1 c14
          exact j219 y3 T11 _ _ ls (lv_sub hl [1, 0] rfl) h hle f_a0 hw
        · have hw := hw.2 c14
          refine lv_aload_n X.1 X.2.1 dX12_unit_213 rfl (lv_at hl 1 rfl) ?_
          refine lv_iconst (v := 5) X.1 X.2.1 dX12_unit_214 (by decide) ?_
          refine lv_iload_n X.1 X.2.1 dX12_unit_215 rfl (lv_at hl 0 rfl) ?_
          refine kp_callv X h (kp_runV (rm := { frames := 0, cells := 0, slots := 0, locals := 0 }) (mc := 0) (ms := 0) (rest := []) (Qc := fun A => kp_Qv D cy A T11 _) X h (c_X12_bad l D cy ad T11 a0 5 y3 _ h.2.2.2 f_a0 hw) f_a0 cv_12_419 ⟨by dsimp only; omega, by dsimp only; omega, rfl, rfl, by dsimp only; omega, by dsimp only; omega⟩ rfl hl.1 rfl (Nat.le_of_ble_eq_true rfl) dX12_unit_216) (fun T13 hw l_T13 H locs h => ?_)
          have f_a0 := l_T13.is f_a0
          have f_b4 := l_T13.is f_b4
          have f_b10 := l_T13.is f_b10
          have hle := hle.tr l_T13
          exact j219 y3 T13 _ _ ls (lv_sub hl [1, 0] rfl) h hle f_a0 hw
      · have hw := hw.2 c16
        refine lv_aload_n X.1 X.2.1 dX12_unit_191 rfl (lv_at hl 1 rfl) ?_
        refine lv_iload_n X.1 X.2.1 dX12_unit_192 rfl (lv_at hl 0 rfl) ?_
        refine kp_callv X h (kp_runV (rm := { frames := F + 3, cells := 0, slots := 0, locals := L + 62 }) (mc := 0) (ms := 0) (rest := []) (Qc := fun A => kp_Qv D cy A T8 _) X h (c_X12_call l D cy ad F L U N hU hN hF hL T8 a0 y3 _ h.2.2.2 f_a0 hw) f_a0 cv_12_532 ⟨by dsimp only; omega, by dsimp only; omega, rfl, rfl, by dsimp only; omega, by dsimp only; omega⟩ rfl hl.1 rfl (Nat.le_of_ble_eq_true rfl) dX12_unit_193) (fun T15 hw l_T15 H locs h => ?_)
        have f_a0 := l_T15.is f_a0
        have f_b4 := l_T15.is f_b4
        have hle := hle.tr l_T15
        refine lv_goto (tgt := 364) X.1 X.2.1 dX12_unit_196 (by decide) ?_
        exact j364  T15 _ _ ls (lv_sub hl [] rfl) h hle f_a0 hw
    have hw := hw.2 c6
    by_cases c17 : y5 = 3
    · have hw := hw.1 c17
      refine lv_lookup (off := 126) (tgt := 145) X.1 X.2.1 dX12_unit_19 (by decide) (by rw [c17]; decide) (by decide) ?_
      refine lv_aload_n X.1 X.2.1 dX12_unit_145 rfl (lv_at hl 1 rfl) ?_
      refine lv_dup X.1 X.2.1 dX12_unit_146 rfl ?_
      refine kp_get X h f_a0 fp_12_376.l (v := .int (kp_I T1 2410 a0)) rfl dX12_unit_147 ?_
      refine lv_iconst (v := 1) X.1 X.2.1 dX12_unit_150 (by decide) ?_
      refine lv_iadd X.1 X.2.1 dX12_unit_151 ?_
      refine kp_putI X h f_a0 fp_12_376 rfl ⟨rfl, rfl⟩ dX12_unit_152 (fun T18 e_T18 l_T18 H locs h => ?_)
      have hw := hw T18 e_T18
      have f_a0 := l_T18.is f_a0
      have f_b4 := l_T18.is f_b4
      have hle := hle.tr l_T18
      have e_b4 : kp_R T18 2404 a0 = some b4 := by rw [e_T18]; exact e_b4
      refine lv_aload_n X.1 X.2.1 dX12_unit_155 rfl (lv_at hl 1 rfl) ?_
      refine lv_iconst (v := 1) X.1 X.2.1 dX12_unit_156 (by decide) ?_
      refine lv_aload_n X.1 X.2.1 dX12_unit_157 rfl (lv_at hl 1 rfl) ?_
      obtain ⟨b19, e_b19, hw⟩ := hw
      have f_b19 := h.2.2.2.rf (c := 12) (k := 6) f_a0 (by decide) (by decide) e_b19 (t := 15) rfl
      refine kp_get X h f_a0 ff_12_37.l (v := .ref b19) (congrArg va_rf e_b19) dX12_unit_158 ?_
      refine lv_iload_n X.1 X.2.1 dX12_unit_161 rfl (lv_at hl 0 rfl) ?_
      obtain ⟨hi, hw⟩ := hw
      refine kp_lald X h f_b19 hi dX12_unit_162 ?_
      refine lv_l2i X.1 X.2.1 dX12_unit_163 rfl ?_
      refine lv_iconst (v := 0) X.1 X.2.1 dX12_unit_164 (by decide) ?_
      refine kp_calli X h (kp_runV (rm := { frames := 0, cells := 0, slots := 0, locals := 0 }) (mc := 0) (ms := 0) (rest := []) (Qc := fun A => kp_Qi D cy A T18 _) X h (c_X12_emit l D cy ad T18 a0 1 ((kp_B T18 b19 y3.toNatClampNeg : Int64).toInt32) 0 _ h.2.2.2 f_a0 hw) f_a0 cv_12_451 ⟨by dsimp only; omega, by dsimp only; omega, rfl, rfl, by dsimp only; omega, by dsimp only; omega⟩ rfl hl.1 rfl (Nat.le_of_ble_eq_true rfl) dX12_unit_165) (fun y21 T20 hw l_T20 H locs h => ?_)
      have f_a0 := l_T20.is f_a0
      have f_b4 := l_T20.is f_b4
      have f_b19 := l_T20.is f_b19
      have hle := hle.tr l_T20
      refine lv_pop X.1 X.2.1 dX12_unit_168 rfl ?_
      refine lv_goto (tgt := 364) X.1 X.2.1 dX12_unit_169 (by decide) ?_
      exact j364  T20 _ _ ls (lv_sub hl [] rfl) h hle f_a0 hw
    have hw := hw.2 c17
    by_cases c22 : y5 = 37
    · have hw := hw.1 c22
      refine lv_lookup (off := 247) (tgt := 266) X.1 X.2.1 dX12_unit_19 (by decide) (by rw [c22]; decide) (by decide) ?_
      refine lv_aload_n X.1 X.2.1 dX12_unit_266 rfl (lv_at hl 1 rfl) ?_
      refine lv_iconst (v := 1) X.1 X.2.1 dX12_unit_267 (by decide) ?_
      refine lv_bipush (v := 20) X.1 X.2.1 dX12_unit_268 (by decide) ?_
      refine kp_callv X h (kp_runV (rm := { frames := F + 3, cells := 0, slots := 0, locals := L + 62 }) (mc := 0) (ms := 0) (rest := []) (Qc := fun A => kp_Qv D cy A T1 _) X h (c_X12_question l D cy ad F L U N hU hN hF hL T1 a0 1 20 _ h.2.2.2 f_a0 hw) f_a0 cv_12_571 ⟨by dsimp only; omega, by dsimp only; omega, rfl, rfl, by dsimp only; omega, by dsimp only; omega⟩ rfl hl.1 rfl (Nat.le_of_ble_eq_true rfl) dX12_unit_270) (fun T23 hw l_T23 H locs h => ?_)
      have f_a0 := l_T23.is f_a0
      have f_b4 := l_T23.is f_b4
      have hle := hle.tr l_T23
      refine lv_goto (tgt := 364) X.1 X.2.1 dX12_unit_273 (by decide) ?_
      exact j364  T23 _ _ ls (lv_sub hl [] rfl) h hle f_a0 hw
    have hw := hw.2 c22
    by_cases c24 : y5 = 38
    · have hw := hw.1 c24
      refine lv_lookup (off := 257) (tgt := 276) X.1 X.2.1 dX12_unit_19 (by decide) (by rw [c24]; decide) (by decide) ?_
      refine lv_aload_n X.1 X.2.1 dX12_unit_276 rfl (lv_at hl 1 rfl) ?_
      refine lv_iconst (v := 1) X.1 X.2.1 dX12_unit_277 (by decide) ?_
      refine lv_bipush (v := 21) X.1 X.2.1 dX12_unit_278 (by decide) ?_
      refine kp_callv X h (kp_runV (rm := { frames := F + 3, cells := 0, slots := 0, locals := L + 62 }) (mc := 0) (ms := 0) (rest := []) (Qc := fun A => kp_Qv D cy A T1 _) X h (c_X12_question l D cy ad F L U N hU hN hF hL T1 a0 1 21 _ h.2.2.2 f_a0 hw) f_a0 cv_12_571 ⟨by dsimp only; omega, by dsimp only; omega, rfl, rfl, by dsimp only; omega, by dsimp only; omega⟩ rfl hl.1 rfl (Nat.le_of_ble_eq_true rfl) dX12_unit_280) (fun T25 hw l_T25 H locs h => ?_)
      have f_a0 := l_T25.is f_a0
      have f_b4 := l_T25.is f_b4
      have hle := hle.tr l_T25
      refine lv_goto (tgt := 364) X.1 X.2.1 dX12_unit_283 (by decide) ?_
      exact j364  T25 _ _ ls (lv_sub hl [] rfl) h hle f_a0 hw
    have hw := hw.2 c24
    by_cases c26 : y5 = 39
    · have hw := hw.1 c26
      refine lv_lookup (off := 267) (tgt := 286) X.1 X.2.1 dX12_unit_19 (by decide) (by rw [c26]; decide) (by decide) ?_
      refine lv_aload_n X.1 X.2.1 dX12_unit_286 rfl (lv_at hl 1 rfl) ?_
      refine lv_iconst (v := 2) X.1 X.2.1 dX12_unit_287 (by decide) ?_
      refine lv_bipush (v := 22) X.1 X.2.1 dX12_unit_288 (by decide) ?_
      refine kp_callv X h (kp_runV (rm := { frames := F + 3, cells := 0, slots := 0, locals := L + 62 }) (mc := 0) (ms := 0) (rest := []) (Qc := fun A => kp_Qv D cy A T1 _) X h (c_X12_question l D cy ad F L U N hU hN hF hL T1 a0 2 22 _ h.2.2.2 f_a0 hw) f_a0 cv_12_571 ⟨by dsimp only; omega, by dsimp only; omega, rfl, rfl, by dsimp only; omega, by dsimp only; omega⟩ rfl hl.1 rfl (Nat.le_of_ble_eq_true rfl) dX12_unit_290) (fun T27 hw l_T27 H locs h => ?_)
      have f_a0 := l_T27.is f_a0
      have f_b4 := l_T27.is f_b4
      have hle := hle.tr l_T27
      refine lv_goto (tgt := 364) X.1 X.2.1 dX12_unit_293 (by decide) ?_
      exact j364  T27 _ _ ls (lv_sub hl [] rfl) h hle f_a0 hw
    have hw := hw.2 c26
    by_cases c28 : y5 = 40
    · have hw := hw.1 c28
      refine lv_lookup (off := 277) (tgt := 296) X.1 X.2.1 dX12_unit_19 (by decide) (by rw [c28]; decide) (by decide) ?_
      refine lv_aload_n X.1 X.2.1 dX12_unit_296 rfl (lv_at hl 1 rfl) ?_
      refine lv_iconst (v := 1) X.1 X.2.1 dX12_unit_297 (by decide) ?_
      refine lv_bipush (v := 23) X.1 X.2.1 dX12_unit_298 (by decide) ?_
      refine kp_callv X h (kp_runV (rm := { frames := F + 3, cells := 0, slots := 0, locals := L + 62 }) (mc := 0) (ms := 0) (rest := []) (Qc := fun A => kp_Qv D cy A T1 _) X h (c_X12_question l D cy ad F L U N hU hN hF hL T1 a0 1 23 _ h.2.2.2 f_a0 hw) f_a0 cv_12_571 ⟨by dsimp only; omega, by dsimp only; omega, rfl, rfl, by dsimp only; omega, by dsimp only; omega⟩ rfl hl.1 rfl (Nat.le_of_ble_eq_true rfl) dX12_unit_300) (fun T29 hw l_T29 H locs h => ?_)
      have f_a0 := l_T29.is f_a0
      have f_b4 := l_T29.is f_b4
      have hle := hle.tr l_T29
      refine lv_goto (tgt := 364) X.1 X.2.1 dX12_unit_303 (by decide) ?_
      exact j364  T29 _ _ ls (lv_sub hl [] rfl) h hle f_a0 hw
    have hw := hw.2 c28
    by_cases c30 : y5 = 41
    · have hw := hw.1 c30
      refine lv_lookup (off := 287) (tgt := 306) X.1 X.2.1 dX12_unit_19 (by decide) (by rw [c30]; decide) (by decide) ?_
      refine lv_aload_n X.1 X.2.1 dX12_unit_306 rfl (lv_at hl 1 rfl) ?_
      refine lv_iconst (v := 1) X.1 X.2.1 dX12_unit_307 (by decide) ?_
      refine lv_bipush (v := 24) X.1 X.2.1 dX12_unit_308 (by decide) ?_
      refine kp_callv X h (kp_runV (rm := { frames := F + 3, cells := 0, slots := 0, locals := L + 62 }) (mc := 0) (ms := 0) (rest := []) (Qc := fun A => kp_Qv D cy A T1 _) X h (c_X12_question l D cy ad F L U N hU hN hF hL T1 a0 1 24 _ h.2.2.2 f_a0 hw) f_a0 cv_12_571 ⟨by dsimp only; omega, by dsimp only; omega, rfl, rfl, by dsimp only; omega, by dsimp only; omega⟩ rfl hl.1 rfl (Nat.le_of_ble_eq_true rfl) dX12_unit_310) (fun T31 hw l_T31 H locs h => ?_)
      have f_a0 := l_T31.is f_a0
      have f_b4 := l_T31.is f_b4
      have hle := hle.tr l_T31
      refine lv_goto (tgt := 364) X.1 X.2.1 dX12_unit_313 (by decide) ?_
      exact j364  T31 _ _ ls (lv_sub hl [] rfl) h hle f_a0 hw
    have hw := hw.2 c30
    by_cases c32 : y5 = 42
    · have hw := hw.1 c32
      refine lv_lookup (off := 297) (tgt := 316) X.1 X.2.1 dX12_unit_19 (by decide) (by rw [c32]; decide) (by decide) ?_
      refine lv_aload_n X.1 X.2.1 dX12_unit_316 rfl (lv_at hl 1 rfl) ?_
      refine lv_dup X.1 X.2.1 dX12_unit_317 rfl ?_
      refine kp_get X h f_a0 fp_12_376.l (v := .int (kp_I T1 2410 a0)) rfl dX12_unit_318 ?_
      refine lv_iconst (v := 1) X.1 X.2.1 dX12_unit_321 (by decide) ?_
      refine lv_iadd X.1 X.2.1 dX12_unit_322 ?_
      refine kp_putI X h f_a0 fp_12_376 rfl ⟨rfl, rfl⟩ dX12_unit_323 (fun T33 e_T33 l_T33 H locs h => ?_)
      have hw := hw T33 e_T33
      have f_a0 := l_T33.is f_a0
      have f_b4 := l_T33.is f_b4
      have hle := hle.tr l_T33
      have e_b4 : kp_R T33 2404 a0 = some b4 := by rw [e_T33]; exact e_b4
      refine lv_aload_n X.1 X.2.1 dX12_unit_326 rfl (lv_at hl 1 rfl) ?_
      refine lv_bipush (v := 25) X.1 X.2.1 dX12_unit_327 (by decide) ?_
      refine lv_iconst (v := 0) X.1 X.2.1 dX12_unit_329 (by decide) ?_
      refine lv_iconst (v := 0) X.1 X.2.1 dX12_unit_330 (by decide) ?_
      refine kp_calli X h (kp_runV (rm := { frames := 0, cells := 0, slots := 0, locals := 0 }) (mc := 0) (ms := 0) (rest := []) (Qc := fun A => kp_Qi D cy A T33 _) X h (c_X12_emit l D cy ad T33 a0 25 0 0 _ h.2.2.2 f_a0 hw) f_a0 cv_12_451 ⟨by dsimp only; omega, by dsimp only; omega, rfl, rfl, by dsimp only; omega, by dsimp only; omega⟩ rfl hl.1 rfl (Nat.le_of_ble_eq_true rfl) dX12_unit_331) (fun y35 T34 hw l_T34 H locs h => ?_)
      have f_a0 := l_T34.is f_a0
      have f_b4 := l_T34.is f_b4
      have hle := hle.tr l_T34
      refine lv_pop X.1 X.2.1 dX12_unit_334 rfl ?_
      refine lv_goto (tgt := 364) X.1 X.2.1 dX12_unit_335 (by decide) ?_
      exact j364  T34 _ _ ls (lv_sub hl [] rfl) h hle f_a0 hw
    have hw := hw.2 c32
    by_cases c36 : y5 = 43
    · have hw := hw.1 c36
      refine lv_lookup (off := 319) (tgt := 338) X.1 X.2.1 dX12_unit_19 (by decide) (by rw [c36]; decide) (by decide) ?_
      refine lv_aload_n X.1 X.2.1 dX12_unit_338 rfl (lv_at hl 1 rfl) ?_
      refine lv_dup X.1 X.2.1 dX12_unit_339 rfl ?_
      refine kp_get X h f_a0 fp_12_376.l (v := .int (kp_I T1 2410 a0)) rfl dX12_unit_340 ?_
      refine lv_iconst (v := 1) X.1 X.2.1 dX12_unit_343 (by decide) ?_
      refine lv_iadd X.1 X.2.1 dX12_unit_344 ?_
      refine kp_putI X h f_a0 fp_12_376 rfl ⟨rfl, rfl⟩ dX12_unit_345 (fun T37 e_T37 l_T37 H locs h => ?_)
      have hw := hw T37 e_T37
      have f_a0 := l_T37.is f_a0
      have f_b4 := l_T37.is f_b4
      have hle := hle.tr l_T37
      have e_b4 : kp_R T37 2404 a0 = some b4 := by rw [e_T37]; exact e_b4
      refine lv_aload_n X.1 X.2.1 dX12_unit_348 rfl (lv_at hl 1 rfl) ?_
      refine lv_bipush (v := 26) X.1 X.2.1 dX12_unit_349 (by decide) ?_
      refine lv_iconst (v := 0) X.1 X.2.1 dX12_unit_351 (by decide) ?_
      refine lv_iconst (v := 0) X.1 X.2.1 dX12_unit_352 (by decide) ?_
      refine kp_calli X h (kp_runV (rm := { frames := 0, cells := 0, slots := 0, locals := 0 }) (mc := 0) (ms := 0) (rest := []) (Qc := fun A => kp_Qi D cy A T37 _) X h (c_X12_emit l D cy ad T37 a0 26 0 0 _ h.2.2.2 f_a0 hw) f_a0 cv_12_451 ⟨by dsimp only; omega, by dsimp only; omega, rfl, rfl, by dsimp only; omega, by dsimp only; omega⟩ rfl hl.1 rfl (Nat.le_of_ble_eq_true rfl) dX12_unit_353) (fun y39 T38 hw l_T38 H locs h => ?_)
      have f_a0 := l_T38.is f_a0
      have f_b4 := l_T38.is f_b4
      have hle := hle.tr l_T38
      refine lv_pop X.1 X.2.1 dX12_unit_356 rfl ?_
      refine lv_goto (tgt := 364) X.1 X.2.1 dX12_unit_357 (by decide) ?_
      exact j364  T38 _ _ ls (lv_sub hl [] rfl) h hle f_a0 hw
    have hw := hw.2 c36
    by_cases c40 : y5 = 140
    · have hw := hw.1 c40
      refine lv_lookup (off := 220) (tgt := 239) X.1 X.2.1 dX12_unit_19 (by decide) (by rw [c40]; decide) (by decide) ?_
      refine lv_aload_n X.1 X.2.1 dX12_unit_239 rfl (lv_at hl 1 rfl) ?_
      refine kp_callv X h (kp_runV (rm := { frames := 0, cells := 0, slots := 0, locals := 0 }) (mc := 0) (ms := 0) (rest := []) (Qc := fun A => kp_Qv D cy A T1 _) X h (c_X12_nest l D cy ad T1 a0 _ h.2.2.2 f_a0 hw) f_a0 cv_12_463 ⟨by dsimp only; omega, by dsimp only; omega, rfl, rfl, by dsimp only; omega, by dsimp only; omega⟩ rfl hl.1 rfl (Nat.le_of_ble_eq_true rfl) dX12_unit_240) (fun T41 hw l_T41 H locs h => ?_)
      have f_a0 := l_T41.is f_a0
      have f_b4 := l_T41.is f_b4
      have hle := hle.tr l_T41
      refine lv_aload_n X.1 X.2.1 dX12_unit_243 rfl (lv_at hl 1 rfl) ?_
      refine kp_callv X h (kp_runV (rm := { frames := F + 2, cells := 0, slots := 0, locals := L + 41 }) (mc := 0) (ms := 0) (rest := []) (Qc := fun A => kp_Qv D cy A T41 _) X h (c_X12_expression l D cy ad F L U N hU hN hF hL T41 a0 _ h.2.2.2 f_a0 hw) f_a0 cv_12_520 ⟨by dsimp only; omega, by dsimp only; omega, rfl, rfl, by dsimp only; omega, by dsimp only; omega⟩ rfl hl.1 rfl (Nat.le_of_ble_eq_true rfl) dX12_unit_244) (fun T42 hw l_T42 H locs h => ?_)
      have f_a0 := l_T42.is f_a0
      have f_b4 := l_T42.is f_b4
      have hle := hle.tr l_T42
      refine lv_aload_n X.1 X.2.1 dX12_unit_247 rfl (lv_at hl 1 rfl) ?_
      refine lv_bipush (v := 41) X.1 X.2.1 dX12_unit_248 (by decide) ?_
      refine kp_callv X h (kp_runV (rm := { frames := 2, cells := 0, slots := 0, locals := 42 }) (mc := 0) (ms := 0) (rest := []) (Qc := fun A => kp_Qv D cy A T42 _) X h (c_X12_takeSign l D cy ad T42 a0 41 _ h.2.2.2 f_a0 hw) f_a0 cv_12_429 ⟨by dsimp only; omega, by dsimp only; omega, rfl, rfl, by dsimp only; omega, by dsimp only; omega⟩ rfl hl.1 rfl (Nat.le_of_ble_eq_true rfl) dX12_unit_250) (fun T43 hw l_T43 H locs h => ?_)
      have f_a0 := l_T43.is f_a0
      have f_b4 := l_T43.is f_b4
      have hle := hle.tr l_T43
      refine lv_aload_n X.1 X.2.1 dX12_unit_253 rfl (lv_at hl 1 rfl) ?_
      refine lv_dup X.1 X.2.1 dX12_unit_254 rfl ?_
      refine kp_get X h f_a0 fp_12_388.l (v := .int (kp_I T43 2411 a0)) rfl dX12_unit_255 ?_
      refine lv_iconst (v := 1) X.1 X.2.1 dX12_unit_258 (by decide) ?_
      refine lv_isub X.1 X.2.1 dX12_unit_259 ?_
      refine kp_putI X h f_a0 fp_12_388 rfl ⟨rfl, rfl⟩ dX12_unit_260 (fun T44 e_T44 l_T44 H locs h => ?_)
      have hw := hw T44 e_T44
      have f_a0 := l_T44.is f_a0
      have f_b4 := l_T44.is f_b4
      have hle := hle.tr l_T44
      refine lv_goto (tgt := 364) X.1 X.2.1 dX12_unit_263 (by decide) ?_
      exact j364  T44 _ _ ls (lv_sub hl [] rfl) h hle f_a0 hw
    have hw := hw.2 c40
    by_cases c45 : y5 = 145
    · have hw := hw.1 c45
      refine lv_lookup (off := 97) (tgt := 116) X.1 X.2.1 dX12_unit_19 (by decide) (by rw [c45]; decide) (by decide) ?_
      refine lv_aload_n X.1 X.2.1 dX12_unit_116 rfl (lv_at hl 1 rfl) ?_
      refine kp_callv X h (kp_runV (rm := { frames := 0, cells := 0, slots := 0, locals := 0 }) (mc := 0) (ms := 0) (rest := []) (Qc := fun A => kp_Qv D cy A T1 _) X h (c_X12_nest l D cy ad T1 a0 _ h.2.2.2 f_a0 hw) f_a0 cv_12_463 ⟨by dsimp only; omega, by dsimp only; omega, rfl, rfl, by dsimp only; omega, by dsimp only; omega⟩ rfl hl.1 rfl (Nat.le_of_ble_eq_true rfl) dX12_unit_117) (fun T46 hw l_T46 H locs h => ?_)
      have f_a0 := l_T46.is f_a0
      have f_b4 := l_T46.is f_b4
      have hle := hle.tr l_T46
      refine lv_aload_n X.1 X.2.1 dX12_unit_120 rfl (lv_at hl 1 rfl) ?_
      refine kp_callv X h (kp_runV (rm := { frames := F, cells := 0, slots := 0, locals := L }) (mc := 0) (ms := 0) (rest := []) (Qc := fun A => kp_Qv D cy A T46 _) X h (hU T46 a0 _ h.2.2.2 f_a0 hw) f_a0 cv_12_565 ⟨by dsimp only; omega, by dsimp only; omega, rfl, rfl, by dsimp only; omega, by dsimp only; omega⟩ rfl hl.1 rfl (Nat.le_of_ble_eq_true rfl) dX12_unit_121) (fun T47 hw l_T47 H locs h => ?_)
      have f_a0 := l_T47.is f_a0
      have f_b4 := l_T47.is f_b4
      have hle := hle.tr l_T47
      refine lv_aload_n X.1 X.2.1 dX12_unit_124 rfl (lv_at hl 1 rfl) ?_
      refine lv_dup X.1 X.2.1 dX12_unit_125 rfl ?_
      refine kp_get X h f_a0 fp_12_388.l (v := .int (kp_I T47 2411 a0)) rfl dX12_unit_126 ?_
      refine lv_iconst (v := 1) X.1 X.2.1 dX12_unit_129 (by decide) ?_
      refine lv_isub X.1 X.2.1 dX12_unit_130 ?_
      refine kp_putI X h f_a0 fp_12_388 rfl ⟨rfl, rfl⟩ dX12_unit_131 (fun T48 e_T48 l_T48 H locs h => ?_)
      have hw := hw T48 e_T48
      have f_a0 := l_T48.is f_a0
      have f_b4 := l_T48.is f_b4
      have hle := hle.tr l_T48
      refine lv_aload_n X.1 X.2.1 dX12_unit_134 rfl (lv_at hl 1 rfl) ?_
      refine lv_iconst (v := 5) X.1 X.2.1 dX12_unit_135 (by decide) ?_
      refine lv_iconst (v := 0) X.1 X.2.1 dX12_unit_136 (by decide) ?_
      refine lv_iconst (v := 0) X.1 X.2.1 dX12_unit_137 (by decide) ?_
      refine kp_calli X h (kp_runV (rm := { frames := 0, cells := 0, slots := 0, locals := 0 }) (mc := 0) (ms := 0) (rest := []) (Qc := fun A => kp_Qi D cy A T48 _) X h (c_X12_emit l D cy ad T48 a0 5 0 0 _ h.2.2.2 f_a0 hw) f_a0 cv_12_451 ⟨by dsimp only; omega, by dsimp only; omega, rfl, rfl, by dsimp only; omega, by dsimp only; omega⟩ rfl hl.1 rfl (Nat.le_of_ble_eq_true rfl) dX12_unit_138) (fun y50 T49 hw l_T49 H locs h => ?_)
      have f_a0 := l_T49.is f_a0
      have f_b4 := l_T49.is f_b4
      have hle := hle.tr l_T49
      refine lv_pop X.1 X.2.1 dX12_unit_141 rfl ?_
      refine lv_goto (tgt := 364) X.1 X.2.1 dX12_unit_142 (by decide) ?_
      exact j364  T49 _ _ ls (lv_sub hl [] rfl) h hle f_a0 hw
    have hw := hw.2 c45
    refine lv_lookup (off := 341) (tgt := 360) X.1 X.2.1 dX12_unit_19 (by decide) (by show Op.lookupswitch.offset [(2, 153), (3, 126), (37, 247), (38, 257), (39, 267), (40, 277), (41, 287), (42, 297), (43, 319), (140, 220), (145, 97)] _ _ = _; rw [lv_osw (a := 2) c6 (by decide), lv_osw (a := 3) c17 (by decide), lv_osw (a := 37) c22 (by decide), lv_osw (a := 38) c24 (by decide), lv_osw (a := 39) c26 (by decide), lv_osw (a := 40) c28 (by decide), lv_osw (a := 41) c30 (by decide), lv_osw (a := 42) c32 (by decide), lv_osw (a := 43) c36 (by decide), lv_osw (a := 140) c40 (by decide), lv_osw (a := 145) c45 (by decide)]; rfl) (by decide) ?_
    refine lv_aload_n X.1 X.2.1 dX12_unit_360 rfl (lv_at hl 1 rfl) ?_
    refine kp_callv X h (kp_runV (rm := { frames := 0, cells := 0, slots := 0, locals := 0 }) (mc := 0) (ms := 0) (rest := []) (Qc := fun A => kp_Qv D cy A T1 _) X h (c_X12_wrong l D cy ad T1 a0 _ h.2.2.2 f_a0 hw) f_a0 cv_12_382 ⟨by dsimp only; omega, by dsimp only; omega, rfl, rfl, by dsimp only; omega, by dsimp only; omega⟩ rfl hl.1 rfl (Nat.le_of_ble_eq_true rfl) dX12_unit_361) (fun T51 hw l_T51 H locs h => ?_)
    have f_a0 := l_T51.is f_a0
    have f_b4 := l_T51.is f_b4
    have hle := hle.tr l_T51
    exact j364  T51 _ _ ls (lv_sub hl [] rfl) h hle f_a0 hw
  · have hw := hw.2 c52
    exact kp_retv X hr hlocks h hle hw dX12_unit_7
theorem dX12_turned_0 : decode cX12_turned 0 = .ok (.aload_n 0, 1) := by decide +kernel
theorem dX12_turned_1 : decode cX12_turned 1 = .ok (.bipush 32, 2) := by decide +kernel
theorem dX12_turned_3 : decode cX12_turned 3 = .ok (.invokevirtual 379, 3) := by decide +kernel
theorem dX12_turned_6 : decode cX12_turned 6 = .ok (.ifCond .ne 8, 3) := by decide +kernel
theorem dX12_turned_9 : decode cX12_turned 9 = .ok (.aload_n 0, 1) := by decide +kernel
theorem dX12_turned_10 : decode cX12_turned 10 = .ok (.invokevirtual 556, 3) := by decide +kernel
theorem dX12_turned_13 : decode cX12_turned 13 = .ok (.return_, 1) := by decide +kernel
theorem dX12_turned_14 : decode cX12_turned 14 = .ok (.aload_n 0, 1) := by decide +kernel
theorem dX12_turned_15 : decode cX12_turned 15 = .ok (.invokevirtual 463, 3) := by decide +kernel
theorem dX12_turned_18 : decode cX12_turned 18 = .ok (.aload_n 0, 1) := by decide +kernel
theorem dX12_turned_19 : decode cX12_turned 19 = .ok (.invokevirtual 553, 3) := by decide +kernel
theorem dX12_turned_22 : decode cX12_turned 22 = .ok (.aload_n 0, 1) := by decide +kernel
theorem dX12_turned_23 : decode cX12_turned 23 = .ok (.dup, 1) := by decide +kernel
theorem dX12_turned_24 : decode cX12_turned 24 = .ok (.getfield 388, 3) := by decide +kernel
theorem dX12_turned_27 : decode cX12_turned 27 = .ok (.iconst 1, 1) := by decide +kernel
theorem dX12_turned_28 : decode cX12_turned 28 = .ok (.isub, 1) := by decide +kernel
theorem dX12_turned_29 : decode cX12_turned 29 = .ok (.putfield 388, 3) := by decide +kernel
theorem dX12_turned_32 : decode cX12_turned 32 = .ok (.aload_n 0, 1) := by decide +kernel
theorem dX12_turned_33 : decode cX12_turned 33 = .ok (.bipush 6, 2) := by decide +kernel
theorem dX12_turned_35 : decode cX12_turned 35 = .ok (.iconst 0, 1) := by decide +kernel
theorem dX12_turned_36 : decode cX12_turned 36 = .ok (.iconst 0, 1) := by decide +kernel
theorem dX12_turned_37 : decode cX12_turned 37 = .ok (.invokevirtual 451, 3) := by decide +kernel
theorem dX12_turned_40 : decode cX12_turned 40 = .ok (.pop, 1) := by decide +kernel
theorem dX12_turned_41 : decode cX12_turned 41 = .ok (.return_, 1) := by decide +kernel
def wX12_turned (U : Nat → kp_S → (kp_S → Prop) → Prop) (N : Nat → kp_S → (kp_S → Prop) → Prop) (a0 : Nat) (S : kp_S) (post : kp_S → Prop) : Prop :=
  wX12_is a0 32 S (fun y2 T1 =>
  ((¬ y2 = 0 →
  wX12_nest a0 T1 (fun T3 =>
  N a0 T3 (fun T4 =>
  ∀ T5 : kp_S, T5 = kp_sI T4 2411 a0 ((kp_I T4 2411 a0) - 1) →
  wX12_emit a0 6 0 0 T5 (fun y7 T6 =>
  post T6)))) ∧ (y2 = 0 →
  wX12_test U N a0 T1 (fun T8 =>
  post T8))))
set_option maxHeartbeats 4000000 in
set_option maxRecDepth 100000 in
theorem c_X12_turned (l : Launch) (D : va_G) (cy : Nat → ClassId) (ad : (Nat → Nat) × (Nat → Nat)) (F L : Nat) (U : Nat → kp_S → (kp_S → Prop) → Prop) (N : Nat → kp_S → (kp_S → Prop) → Prop) (hU : ∀ (S : kp_S) (a0 : Nat) (post : kp_S → Prop), kp_ok S → kp_is S a0 12 → U a0 S post → kp_M l yX12_unit cX12_unit 2 none { frames := F, cells := 0, slots := 0, locals := L } D cy ad S [.ref a0] 0 0 (fun A => kp_Qv D cy A S post)) (hN : ∀ (S : kp_S) (a0 : Nat) (post : kp_S → Prop), kp_ok S → kp_is S a0 12 → N a0 S post → kp_M l yX12_turned cX12_turned 1 none { frames := F, cells := 0, slots := 0, locals := L } D cy ad S [.ref a0] 0 0 (fun A => kp_Qv D cy A S post)) (hF : 3 ≤ F) (hL : 63 ≤ L) (S : kp_S) (a0 : Nat) (post : kp_S → Prop) (hS : kp_ok S) (f_a0 : kp_is S a0 12) (hw : wX12_turned U N a0 S post) : kp_M l yX12_turned cX12_turned 1 none { frames := F + 4, cells := 0, slots := 0, locals := L + 85 } D cy ad S [.ref a0] 0 0 (fun A => kp_Qv D cy A S post) := by
  refine kp_start (own := RX12) (by decide) rfl (Nat.le_of_ble_eq_true rfl) hS ?_
  intro p e s m below meth c A ls X hr hlocks hname h hl
  have hle : kp_le S S := kp_le.rf
  have hl : lv_has ls 1 [(0, .ref a0)] := hl
  unfold wX12_turned at hw
  have h : kp_H D cy A S s.heap s.heap [] := h
  revert h
  intro h
  refine lv_aload_n X.1 X.2.1 dX12_turned_0 rfl (lv_at hl 0 rfl) ?_
  refine lv_bipush (v := 32) X.1 X.2.1 dX12_turned_1 (by decide) ?_
  refine kp_calli X h (kp_runV (rm := { frames := 0, cells := 0, slots := 0, locals := 0 }) (mc := 0) (ms := 0) (rest := []) (Qc := fun A => kp_Qi D cy A S _) X h (c_X12_is l D cy ad S a0 32 _ h.2.2.2 f_a0 hw) f_a0 cv_12_379 ⟨by dsimp only; omega, by dsimp only; omega, rfl, rfl, by dsimp only; omega, by dsimp only; omega⟩ rfl hl.1 rfl (Nat.le_of_ble_eq_true rfl) dX12_turned_3) (fun y2 T1 hw l_T1 H locs h => ?_)
  have f_a0 := l_T1.is f_a0
  have hle := hle.tr l_T1
  refine lv_if_ne (tgt := 14) X.1 X.2.1 dX12_turned_6 (by decide) (fun c9 => ?_) (fun c9 => ?_)
  · have hw := hw.1 c9
    refine lv_aload_n X.1 X.2.1 dX12_turned_14 rfl (lv_at hl 0 rfl) ?_
    refine kp_callv X h (kp_runV (rm := { frames := 0, cells := 0, slots := 0, locals := 0 }) (mc := 0) (ms := 0) (rest := []) (Qc := fun A => kp_Qv D cy A T1 _) X h (c_X12_nest l D cy ad T1 a0 _ h.2.2.2 f_a0 hw) f_a0 cv_12_463 ⟨by dsimp only; omega, by dsimp only; omega, rfl, rfl, by dsimp only; omega, by dsimp only; omega⟩ rfl hl.1 rfl (Nat.le_of_ble_eq_true rfl) dX12_turned_15) (fun T3 hw l_T3 H locs h => ?_)
    have f_a0 := l_T3.is f_a0
    have hle := hle.tr l_T3
    refine lv_aload_n X.1 X.2.1 dX12_turned_18 rfl (lv_at hl 0 rfl) ?_
    refine kp_callv X h (kp_runV (rm := { frames := F, cells := 0, slots := 0, locals := L }) (mc := 0) (ms := 0) (rest := []) (Qc := fun A => kp_Qv D cy A T3 _) X h (hN T3 a0 _ h.2.2.2 f_a0 hw) f_a0 cv_12_553 ⟨by dsimp only; omega, by dsimp only; omega, rfl, rfl, by dsimp only; omega, by dsimp only; omega⟩ rfl hl.1 rfl (Nat.le_of_ble_eq_true rfl) dX12_turned_19) (fun T4 hw l_T4 H locs h => ?_)
    have f_a0 := l_T4.is f_a0
    have hle := hle.tr l_T4
    refine lv_aload_n X.1 X.2.1 dX12_turned_22 rfl (lv_at hl 0 rfl) ?_
    refine lv_dup X.1 X.2.1 dX12_turned_23 rfl ?_
    refine kp_get X h f_a0 fp_12_388.l (v := .int (kp_I T4 2411 a0)) rfl dX12_turned_24 ?_
    refine lv_iconst (v := 1) X.1 X.2.1 dX12_turned_27 (by decide) ?_
    refine lv_isub X.1 X.2.1 dX12_turned_28 ?_
    refine kp_putI X h f_a0 fp_12_388 rfl ⟨rfl, rfl⟩ dX12_turned_29 (fun T5 e_T5 l_T5 H locs h => ?_)
    have hw := hw T5 e_T5
    have f_a0 := l_T5.is f_a0
    have hle := hle.tr l_T5
    refine lv_aload_n X.1 X.2.1 dX12_turned_32 rfl (lv_at hl 0 rfl) ?_
    refine lv_bipush (v := 6) X.1 X.2.1 dX12_turned_33 (by decide) ?_
    refine lv_iconst (v := 0) X.1 X.2.1 dX12_turned_35 (by decide) ?_
    refine lv_iconst (v := 0) X.1 X.2.1 dX12_turned_36 (by decide) ?_
    refine kp_calli X h (kp_runV (rm := { frames := 0, cells := 0, slots := 0, locals := 0 }) (mc := 0) (ms := 0) (rest := []) (Qc := fun A => kp_Qi D cy A T5 _) X h (c_X12_emit l D cy ad T5 a0 6 0 0 _ h.2.2.2 f_a0 hw) f_a0 cv_12_451 ⟨by dsimp only; omega, by dsimp only; omega, rfl, rfl, by dsimp only; omega, by dsimp only; omega⟩ rfl hl.1 rfl (Nat.le_of_ble_eq_true rfl) dX12_turned_37) (fun y7 T6 hw l_T6 H locs h => ?_)
    have f_a0 := l_T6.is f_a0
    have hle := hle.tr l_T6
    refine lv_pop X.1 X.2.1 dX12_turned_40 rfl ?_
    exact kp_retv X hr hlocks h hle hw dX12_turned_41
  · have hw := hw.2 c9
    refine lv_aload_n X.1 X.2.1 dX12_turned_9 rfl (lv_at hl 0 rfl) ?_
    refine kp_callv X h (kp_runV (rm := { frames := F + 3, cells := 0, slots := 0, locals := L + 64 }) (mc := 0) (ms := 0) (rest := []) (Qc := fun A => kp_Qv D cy A T1 _) X h (c_X12_test l D cy ad F L U N hU hN hF hL T1 a0 _ h.2.2.2 f_a0 hw) f_a0 cv_12_556 ⟨by dsimp only; omega, by dsimp only; omega, rfl, rfl, by dsimp only; omega, by dsimp only; omega⟩ rfl hl.1 rfl (Nat.le_of_ble_eq_true rfl) dX12_turned_10) (fun T8 hw l_T8 H locs h => ?_)
    have f_a0 := l_T8.is f_a0
    have hle := hle.tr l_T8
    exact kp_retv X hr hlocks h hle hw dX12_turned_13
def wx12e_rec : Nat → Nat → Nat → kp_S → (kp_S → Prop) → Prop
  | 0, _, _, _, _ => False
  | n + 1, 0, a0, S, post => wX12_unit (wx12e_rec n 0) (wx12e_rec n 1) a0 S post
  | n + 1, _, a0, S, post => wX12_turned (wx12e_rec n 0) (wx12e_rec n 1) a0 S post
theorem wx12e_all (l : Launch) (D : va_G) (cy : Nat → ClassId) (ad : (Nat → Nat) × (Nat → Nat)) : ∀ n : Nat, (∀ (S : kp_S) (a0 : Nat) (post : kp_S → Prop), kp_ok S → kp_is S a0 12 → wx12e_rec n 0 a0 S post → kp_M l yX12_unit cX12_unit 2 none { frames := 3 + 4 * n, cells := 0, slots := 0, locals := 63 + 85 * n } D cy ad S [.ref a0] 0 0 (fun A => kp_Qv D cy A S post)) ∧ (∀ (S : kp_S) (a0 : Nat) (post : kp_S → Prop), kp_ok S → kp_is S a0 12 → wx12e_rec n 1 a0 S post → kp_M l yX12_turned cX12_turned 1 none { frames := 3 + 4 * n, cells := 0, slots := 0, locals := 63 + 85 * n } D cy ad S [.ref a0] 0 0 (fun A => kp_Qv D cy A S post)) := by
  intro n
  induction n with
  | zero => exact ⟨fun S a0 post hS ha hw => kp_never hw, fun S a0 post hS ha hw => kp_never hw⟩
  | succ n ih =>
    exact ⟨fun S a0 post hS ha hw => by
      rw [show 3 + 4 * (n + 1) = 3 + 4 * n + 4 by omega, show 63 + 85 * (n + 1) = 63 + 85 * n + 85 by omega]
      exact c_X12_unit l D cy ad (3 + 4 * n) (63 + 85 * n) (wx12e_rec n 0) (wx12e_rec n 1) ih.1 ih.2 (by omega) (by omega) S a0 post hS ha hw, fun S a0 post hS ha hw => by
      rw [show 3 + 4 * (n + 1) = 3 + 4 * n + 4 by omega, show 63 + 85 * (n + 1) = 63 + 85 * n + 85 by omega]
      exact c_X12_turned l D cy ad (3 + 4 * n) (63 + 85 * n) (wx12e_rec n 0) (wx12e_rec n 1) ih.1 ih.2 (by omega) (by omega) S a0 post hS ha hw⟩
def wX12_expression_t (a0 : Nat) (S : kp_S) (post : kp_S → Prop) : Prop := wX12_expression (wx12e_rec 36 0) (wx12e_rec 36 1) a0 S post
theorem c_X12_expression_t (l : Launch) (D : va_G) (cy : Nat → ClassId) (ad : (Nat → Nat) × (Nat → Nat)) (S : kp_S) (a0 : Nat) (post : kp_S → Prop) (hS : kp_ok S) (f_a0 : kp_is S a0 12) (hw : wX12_expression_t a0 S post) : kp_M l yX12_expression cX12_expression 2 none { frames := 149, cells := 0, slots := 0, locals := 3164 } D cy ad S [.ref a0] 0 0 (fun A => kp_Qv D cy A S post) :=
  c_X12_expression l D cy ad (3 + 4 * 36) (63 + 85 * 36) (wx12e_rec 36 0) (wx12e_rec 36 1) (wx12e_all l D cy ad 36).1 (wx12e_all l D cy ad 36).2 (by omega) (by omega) S a0 post hS f_a0 hw
def wX12_call_t (a0 : Nat) (x1 : Int32) (S : kp_S) (post : kp_S → Prop) : Prop := wX12_call (wx12e_rec 36 0) (wx12e_rec 36 1) a0 x1 S post
theorem c_X12_call_t (l : Launch) (D : va_G) (cy : Nat → ClassId) (ad : (Nat → Nat) × (Nat → Nat)) (S : kp_S) (a0 : Nat) (x1 : Int32) (post : kp_S → Prop) (hS : kp_ok S) (f_a0 : kp_is S a0 12) (hw : wX12_call_t a0 x1 S post) : kp_M l yX12_call cX12_call 3 none { frames := 150, cells := 0, slots := 0, locals := 3185 } D cy ad S [.ref a0, .int x1] 0 0 (fun A => kp_Qv D cy A S post) :=
  c_X12_call l D cy ad (3 + 4 * 36) (63 + 85 * 36) (wx12e_rec 36 0) (wx12e_rec 36 1) (wx12e_all l D cy ad 36).1 (wx12e_all l D cy ad 36).2 (by omega) (by omega) S a0 x1 post hS f_a0 hw
