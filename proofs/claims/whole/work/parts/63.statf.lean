theorem cv_8_195 : kp_CV RX8 195 yX8_later cX8_later 5 (some .int) 1 8 := ⟨⟨kp_mem 1122 (by decide +kernel) (by decide +kernel), kp_mem 206 (by decide +kernel) (by decide +kernel), by decide +kernel⟩, kp_mem 1119 (by decide +kernel) (by decide +kernel), kp_mem 1121 (by decide +kernel) (by decide +kernel), kp_mem 54 (by decide +kernel) (by decide +kernel), by decide, TX8, 5, rfl⟩
theorem cv_8_173 : kp_CV RX8 173 yX8_stop cX8_stop 1 (some .int) 0 8 := ⟨⟨kp_mem 1081 (by decide +kernel) (by decide +kernel), kp_mem 206 (by decide +kernel) (by decide +kernel), by decide +kernel⟩, kp_mem 1078 (by decide +kernel) (by decide +kernel), kp_mem 1080 (by decide +kernel) (by decide +kernel), kp_mem 45 (by decide +kernel) (by decide +kernel), by decide, TX8, 5, rfl⟩
theorem cv_8_189 : kp_CV RX8 189 yX8_ensure cX8_ensure 4 (some .int) 1 8 := ⟨⟨kp_mem 1110 (by decide +kernel) (by decide +kernel), kp_mem 206 (by decide +kernel) (by decide +kernel), by decide +kernel⟩, kp_mem 1107 (by decide +kernel) (by decide +kernel), kp_mem 1109 (by decide +kernel) (by decide +kernel), kp_mem 51 (by decide +kernel) (by decide +kernel), by decide, TX8, 5, rfl⟩
theorem cv_8_179 : kp_CV RX8 179 yX8_choose cX8_choose 10 (some .int) 0 8 := ⟨⟨kp_mem 1089 (by decide +kernel) (by decide +kernel), kp_mem 206 (by decide +kernel) (by decide +kernel), by decide +kernel⟩, kp_mem 1086 (by decide +kernel) (by decide +kernel), kp_mem 1088 (by decide +kernel) (by decide +kernel), kp_mem 47 (by decide +kernel) (by decide +kernel), by decide, TX8, 5, rfl⟩
theorem cv_8_145 : kp_CV RX8 145 yX8_statement cX8_statement 2 (some .int) 0 8 := ⟨⟨kp_mem 861 (by decide +kernel) (by decide +kernel), kp_mem 206 (by decide +kernel) (by decide +kernel), by decide +kernel⟩, kp_mem 858 (by decide +kernel) (by decide +kernel), kp_mem 860 (by decide +kernel) (by decide +kernel), kp_mem 16 (by decide +kernel) (by decide +kernel), by decide, TX8, 5, rfl⟩
theorem dX8_alwaysPart_0 : decode cX8_alwaysPart 0 = .ok (.aload_n 0, 1) := by decide +kernel
theorem dX8_alwaysPart_1 : decode cX8_alwaysPart 1 = .ok (.getfield 14, 3) := by decide +kernel
theorem dX8_alwaysPart_4 : decode cX8_alwaysPart 4 = .ok (.getfield 66, 3) := by decide +kernel
theorem dX8_alwaysPart_7 : decode cX8_alwaysPart 7 = .ok (.sipush 317, 3) := by decide +kernel
theorem dX8_alwaysPart_10 : decode cX8_alwaysPart 10 = .ok (.if_icmp .eq 5, 3) := by decide +kernel
theorem dX8_alwaysPart_13 : decode cX8_alwaysPart 13 = .ok (.iload_n 2, 1) := by decide +kernel
theorem dX8_alwaysPart_14 : decode cX8_alwaysPart 14 = .ok (.ireturn, 1) := by decide +kernel
theorem dX8_alwaysPart_15 : decode cX8_alwaysPart 15 = .ok (.aload_n 0, 1) := by decide +kernel
theorem dX8_alwaysPart_16 : decode cX8_alwaysPart 16 = .ok (.getfield 14, 3) := by decide +kernel
theorem dX8_alwaysPart_19 : decode cX8_alwaysPart 19 = .ok (.invokevirtual 75, 3) := by decide +kernel
theorem dX8_alwaysPart_22 : decode cX8_alwaysPart 22 = .ok (.aload_n 0, 1) := by decide +kernel
theorem dX8_alwaysPart_23 : decode cX8_alwaysPart 23 = .ok (.getfield 27, 3) := by decide +kernel
theorem dX8_alwaysPart_26 : decode cX8_alwaysPart 26 = .ok (.iload_n 1, 1) := by decide +kernel
theorem dX8_alwaysPart_27 : decode cX8_alwaysPart 27 = .ok (.iconst 4, 1) := by decide +kernel
theorem dX8_alwaysPart_28 : decode cX8_alwaysPart 28 = .ok (.iadd, 1) := by decide +kernel
theorem dX8_alwaysPart_29 : decode cX8_alwaysPart 29 = .ok (.aload_n 0, 1) := by decide +kernel
theorem dX8_alwaysPart_30 : decode cX8_alwaysPart 30 = .ok (.getfield 27, 3) := by decide +kernel
theorem dX8_alwaysPart_33 : decode cX8_alwaysPart 33 = .ok (.invokevirtual 234, 3) := by decide +kernel
theorem dX8_alwaysPart_36 : decode cX8_alwaysPart 36 = .ok (.invokevirtual 237, 3) := by decide +kernel
theorem dX8_alwaysPart_39 : decode cX8_alwaysPart 39 = .ok (.aload_n 0, 1) := by decide +kernel
theorem dX8_alwaysPart_40 : decode cX8_alwaysPart 40 = .ok (.invokevirtual 120, 3) := by decide +kernel
theorem dX8_alwaysPart_43 : decode cX8_alwaysPart 43 = .ok (.istore_n 3, 1) := by decide +kernel
theorem dX8_alwaysPart_44 : decode cX8_alwaysPart 44 = .ok (.aload_n 0, 1) := by decide +kernel
theorem dX8_alwaysPart_45 : decode cX8_alwaysPart 45 = .ok (.getfield 27, 3) := by decide +kernel
theorem dX8_alwaysPart_48 : decode cX8_alwaysPart 48 = .ok (.bipush 54, 2) := by decide +kernel
theorem dX8_alwaysPart_50 : decode cX8_alwaysPart 50 = .ok (.invokevirtual 123, 3) := by decide +kernel
theorem dX8_alwaysPart_53 : decode cX8_alwaysPart 53 = .ok (.pop, 1) := by decide +kernel
theorem dX8_alwaysPart_54 : decode cX8_alwaysPart 54 = .ok (.iload_n 2, 1) := by decide +kernel
theorem dX8_alwaysPart_55 : decode cX8_alwaysPart 55 = .ok (.ifCond .ne 5, 3) := by decide +kernel
theorem dX8_alwaysPart_58 : decode cX8_alwaysPart 58 = .ok (.iconst 0, 1) := by decide +kernel
theorem dX8_alwaysPart_59 : decode cX8_alwaysPart 59 = .ok (.ireturn, 1) := by decide +kernel
theorem dX8_alwaysPart_60 : decode cX8_alwaysPart 60 = .ok (.iload_n 3, 1) := by decide +kernel
theorem dX8_alwaysPart_61 : decode cX8_alwaysPart 61 = .ok (.iconst 1, 1) := by decide +kernel
theorem dX8_alwaysPart_62 : decode cX8_alwaysPart 62 = .ok (.iand, 1) := by decide +kernel
theorem dX8_alwaysPart_63 : decode cX8_alwaysPart 63 = .ok (.ifCond .eq 12, 3) := by decide +kernel
theorem dX8_alwaysPart_66 : decode cX8_alwaysPart 66 = .ok (.iload_n 3, 1) := by decide +kernel
theorem dX8_alwaysPart_67 : decode cX8_alwaysPart 67 = .ok (.bipush (-2), 2) := by decide +kernel
theorem dX8_alwaysPart_69 : decode cX8_alwaysPart 69 = .ok (.iand, 1) := by decide +kernel
theorem dX8_alwaysPart_70 : decode cX8_alwaysPart 70 = .ok (.iload_n 2, 1) := by decide +kernel
theorem dX8_alwaysPart_71 : decode cX8_alwaysPart 71 = .ok (.ior, 1) := by decide +kernel
theorem dX8_alwaysPart_72 : decode cX8_alwaysPart 72 = .ok (.goto 4, 3) := by decide +kernel
theorem dX8_alwaysPart_75 : decode cX8_alwaysPart 75 = .ok (.iload_n 3, 1) := by decide +kernel
theorem dX8_alwaysPart_76 : decode cX8_alwaysPart 76 = .ok (.ireturn, 1) := by decide +kernel
def wX8_alwaysPart_b76 (B : Nat → kp_S → (Int32 → kp_S → Prop) → Prop) (a0 : Nat) (x1 : Int32) (x2 : Int32) (xt0 : Int32)  (Sn : kp_S) (post : Int32 → kp_S → Prop) : Prop :=
  post xt0 Sn
def wX8_alwaysPart (B : Nat → kp_S → (Int32 → kp_S → Prop) → Prop) (a0 : Nat) (x1 : Int32) (x2 : Int32) (S : kp_S) (post : Int32 → kp_S → Prop) : Prop :=
  ∃ b1 : Nat, kp_R S 1600 a0 = some b1 ∧
  (((kp_I S 1805 b1) = 317 →
  wX9_advance b1 S (fun T2 =>
  ∃ b3 : Nat, kp_R T2 1603 a0 = some b3 ∧
  wX0_size b3 T2 (fun y5 T4 =>
  wX0_set b3 (x1 + 4) y5 T4 (fun T6 =>
  B a0 T6 (fun y8 T7 =>
  ∃ b9 : Nat, kp_R T7 1603 a0 = some b9 ∧
  wX0_add b9 54 T7 (fun y11 T10 =>
  ((¬ x2 = 0 →
  (((y8 &&& 1) = 0 →
  wX8_alwaysPart_b76 B a0 x1 x2 y8  T10 post) ∧ (¬ (y8 &&& 1) = 0 →
  wX8_alwaysPart_b76 B a0 x1 x2 ((y8 &&& (-2)) ||| x2)  T10 post))) ∧ (x2 = 0 →
  post 0 T10)))))))) ∧ (¬ (kp_I S 1805 b1) = 317 →
  post x2 S))
set_option maxHeartbeats 4000000 in
set_option maxRecDepth 100000 in
theorem c_X8_alwaysPart (l : Launch) (D : va_G) (cy : Nat → ClassId) (ad : (Nat → Nat) × (Nat → Nat)) (F L : Nat) (B : Nat → kp_S → (Int32 → kp_S → Prop) → Prop) (hB : ∀ (S : kp_S) (a0 : Nat) (post : Int32 → kp_S → Prop), kp_ok S → kp_is S a0 8 → B a0 S post → kp_M l yX8_block cX8_block 5 (some .int) { frames := F, cells := 0, slots := 0, locals := L } D cy ad S [.ref a0] 0 0 (fun A => kp_Qi D cy A S post)) (hF : 191 ≤ F) (hL : 4387 ≤ L) (S : kp_S) (a0 : Nat) (x1 : Int32) (x2 : Int32) (post : Int32 → kp_S → Prop) (hS : kp_ok S) (f_a0 : kp_is S a0 8) (hw : wX8_alwaysPart B a0 x1 x2 S post) : kp_M l yX8_alwaysPart cX8_alwaysPart 4 (some .int) { frames := F + 1, cells := 0, slots := 0, locals := L + 24 } D cy ad S [.ref a0, .int x1, .int x2] 0 0 (fun A => kp_Qi D cy A S post) := by
  refine kp_start (own := RX8) (by decide) rfl (Nat.le_of_ble_eq_true rfl) hS ?_
  intro p e s m below meth c A ls X hr hlocks hname h hl
  have hle : kp_le S S := kp_le.rf
  have hl : lv_has ls 4 [(0, .ref a0), (1, .int x1), (2, .int x2)] := hl
  have j76 : ∀ (xt0 : Int32) (Sn : kp_S) (H : Heap) (locs : List Loc) (ls : Array Slot), lv_has ls 4 [] → kp_H D cy A Sn s.heap H locs → kp_le S Sn → kp_is Sn a0 8 → wX8_alwaysPart_b76 B a0 x1 x2 xt0  Sn post → W p l e { frames := F + 1, cells := 0, slots := 0, locals := L + 24 } s m ([.ref a0, .int x1, .int x2] : List Value).toArray below meth c H locs 0 0 (MQ below (kp_Qi D cy A S post) ([.ref a0, .int x1, .int x2] : List Value).toArray s 0 0 A) (F0 m 76 ls [.int xt0]) := by
    intro xt0 Sn H locs ls hl h hle f_a0 hw
    unfold wX8_alwaysPart_b76 at hw
    exact kp_reti X hr hlocks h hle rfl hw dX8_alwaysPart_76
  unfold wX8_alwaysPart at hw
  have h : kp_H D cy A S s.heap s.heap [] := h
  revert h
  intro h
  refine lv_aload_n X.1 X.2.1 dX8_alwaysPart_0 rfl (lv_at hl 0 rfl) ?_
  obtain ⟨b1, e_b1, hw⟩ := hw
  have f_b1 := h.2.2.2.rf (c := 8) (k := 0) f_a0 (by decide) (by decide) e_b1 (t := 9) rfl
  refine kp_get X h f_a0 ff_8_14.l (v := .ref b1) (congrArg va_rf e_b1) dX8_alwaysPart_1 ?_
  refine kp_get X h f_b1 fp_8_66.l (v := .int (kp_I S 1805 b1)) rfl dX8_alwaysPart_4 ?_
  refine lv_sipush (v := 317) X.1 X.2.1 dX8_alwaysPart_7 (by decide) ?_
  refine lv_icmp_eq (tgt := 15) X.1 X.2.1 dX8_alwaysPart_10 (by decide) (fun c14 => ?_) (fun c14 => ?_)
  · have hw := hw.1 c14
    refine lv_aload_n X.1 X.2.1 dX8_alwaysPart_15 rfl (lv_at hl 0 rfl) ?_
    refine kp_get X h f_a0 ff_8_14.l (v := .ref b1) (congrArg va_rf e_b1) dX8_alwaysPart_16 ?_
    refine kp_callv X h (kp_runV (rm := { frames := 5, cells := 0, slots := 0, locals := 113 }) (mc := 0) (ms := 0) (rest := []) (Qc := fun A => kp_Qv D cy A S _) X h (c_X9_advance l D cy ad S b1 _ h.2.2.2 f_b1 hw) f_b1 cv_8_75 ⟨by dsimp only; omega, by dsimp only; omega, rfl, rfl, by dsimp only; omega, by dsimp only; omega⟩ rfl hl.1 rfl (Nat.le_of_ble_eq_true rfl) dX8_alwaysPart_19) (fun T2 hw l_T2 H locs h => ?_)
    have f_a0 := l_T2.is f_a0
    have f_b1 := l_T2.is f_b1
    have hle := hle.tr l_T2
    refine lv_aload_n X.1 X.2.1 dX8_alwaysPart_22 rfl (lv_at hl 0 rfl) ?_
    obtain ⟨b3, e_b3, hw⟩ := hw
    have f_b3 := h.2.2.2.rf (c := 8) (k := 3) f_a0 (by decide) (by decide) e_b3 (t := 0) rfl
    refine kp_get X h f_a0 fp_8_27.l (v := .ref b3) (congrArg va_rf e_b3) dX8_alwaysPart_23 ?_
    refine lv_iload_n X.1 X.2.1 dX8_alwaysPart_26 rfl (lv_at hl 1 rfl) ?_
    refine lv_iconst (v := 4) X.1 X.2.1 dX8_alwaysPart_27 (by decide) ?_
    refine lv_iadd X.1 X.2.1 dX8_alwaysPart_28 ?_
    refine lv_aload_n X.1 X.2.1 dX8_alwaysPart_29 rfl (lv_at hl 0 rfl) ?_
    refine kp_get X h f_a0 fp_8_27.l (v := .ref b3) (congrArg va_rf e_b3) dX8_alwaysPart_30 ?_
    refine kp_calli X h (kp_runV (rm := { frames := 0, cells := 0, slots := 0, locals := 0 }) (mc := 0) (ms := 0) (rest := [.int (x1 + 4), .ref b3]) (Qc := fun A => kp_Qi D cy A T2 _) X h (c_X0_size l D cy ad T2 b3 _ h.2.2.2 f_b3 hw) f_b3 cv_8_234 ⟨by dsimp only; omega, by dsimp only; omega, rfl, rfl, by dsimp only; omega, by dsimp only; omega⟩ rfl hl.1 rfl (Nat.le_of_ble_eq_true rfl) dX8_alwaysPart_33) (fun y5 T4 hw l_T4 H locs h => ?_)
    have f_a0 := l_T4.is f_a0
    have f_b1 := l_T4.is f_b1
    have f_b3 := l_T4.is f_b3
    have hle := hle.tr l_T4
    refine kp_callv X h (kp_runV (rm := { frames := 0, cells := 0, slots := 0, locals := 0 }) (mc := 0) (ms := 0) (rest := []) (Qc := fun A => kp_Qv D cy A T4 _) X h (c_X0_set l D cy ad T4 b3 (x1 + 4) y5 _ h.2.2.2 f_b3 hw) f_b3 cv_8_237 ⟨by dsimp only; omega, by dsimp only; omega, rfl, rfl, by dsimp only; omega, by dsimp only; omega⟩ rfl hl.1 rfl (Nat.le_of_ble_eq_true rfl) dX8_alwaysPart_36) (fun T6 hw l_T6 H locs h => ?_)
    have f_a0 := l_T6.is f_a0
    have f_b1 := l_T6.is f_b1
    have f_b3 := l_T6.is f_b3
    have hle := hle.tr l_T6
    refine lv_aload_n X.1 X.2.1 dX8_alwaysPart_39 rfl (lv_at hl 0 rfl) ?_
    refine kp_calli X h (kp_runV (rm := { frames := F, cells := 0, slots := 0, locals := L }) (mc := 0) (ms := 0) (rest := []) (Qc := fun A => kp_Qi D cy A T6 _) X h (hB T6 a0 _ h.2.2.2 f_a0 hw) f_a0 cv_8_120 ⟨by dsimp only; omega, by dsimp only; omega, rfl, rfl, by dsimp only; omega, by dsimp only; omega⟩ rfl hl.1 rfl (Nat.le_of_ble_eq_true rfl) dX8_alwaysPart_40) (fun y8 T7 hw l_T7 H locs h => ?_)
    have f_a0 := l_T7.is f_a0
    have f_b1 := l_T7.is f_b1
    have f_b3 := l_T7.is f_b3
    have hle := hle.tr l_T7
    refine lv_istore_n (lv' := [(3, .int y8), (0, .ref a0), (1, .int x1), (2, .int x2)]) X.1 X.2.1 dX8_alwaysPart_43 rfl hl (by decide) rfl (fun ls hl => ?_)
    refine lv_aload_n X.1 X.2.1 dX8_alwaysPart_44 rfl (lv_at hl 1 rfl) ?_
    obtain ⟨b9, e_b9, hw⟩ := hw
    have f_b9 := h.2.2.2.rf (c := 8) (k := 3) f_a0 (by decide) (by decide) e_b9 (t := 0) rfl
    refine kp_get X h f_a0 fp_8_27.l (v := .ref b9) (congrArg va_rf e_b9) dX8_alwaysPart_45 ?_
    refine lv_bipush (v := 54) X.1 X.2.1 dX8_alwaysPart_48 (by decide) ?_
    refine kp_calli X h (kp_runV (rm := { frames := 0, cells := 0, slots := 0, locals := 0 }) (mc := 0) (ms := 0) (rest := []) (Qc := fun A => kp_Qi D cy A T7 _) X h (c_X0_add l D cy ad T7 b9 54 _ h.2.2.2 f_b9 hw) f_b9 cv_8_123 ⟨by dsimp only; omega, by dsimp only; omega, rfl, rfl, by dsimp only; omega, by dsimp only; omega⟩ rfl hl.1 rfl (Nat.le_of_ble_eq_true rfl) dX8_alwaysPart_50) (fun y11 T10 hw l_T10 H locs h => ?_)
    have f_a0 := l_T10.is f_a0
    have f_b1 := l_T10.is f_b1
    have f_b3 := l_T10.is f_b3
    have f_b9 := l_T10.is f_b9
    have hle := hle.tr l_T10
    refine lv_pop X.1 X.2.1 dX8_alwaysPart_53 rfl ?_
    refine lv_iload_n X.1 X.2.1 dX8_alwaysPart_54 rfl (lv_at hl 3 rfl) ?_
    refine lv_if_ne (tgt := 60) X.1 X.2.1 dX8_alwaysPart_55 (by decide) (fun c13 => ?_) (fun c13 => ?_)
    · have hw := hw.1 c13
      refine lv_iload_n X.1 X.2.1 dX8_alwaysPart_60 rfl (lv_at hl 0 rfl) ?_
      refine lv_iconst (v := 1) X.1 X.2.1 dX8_alwaysPart_61 (by decide) ?_
      refine lv_iand X.1 X.2.1 dX8_alwaysPart_62 ?_
      refine lv_if_eq (tgt := 75) X.1 X.2.1 dX8_alwaysPart_63 (by decide) (fun c12 => ?_) (fun c12 => ?_)
      · have hw := hw.1 c12
        refine lv_iload_n X.1 X.2.1 dX8_alwaysPart_75 rfl (lv_at hl 0 rfl) ?_
        exact j76 y8 T10 _ _ ls (lv_sub hl [] rfl) h hle f_a0 hw
      · have hw := hw.2 c12
        refine lv_iload_n X.1 X.2.1 dX8_alwaysPart_66 rfl (lv_at hl 0 rfl) ?_
        refine lv_bipush (v := (-2)) X.1 X.2.1 dX8_alwaysPart_67 (by decide) ?_
        refine lv_iand X.1 X.2.1 dX8_alwaysPart_69 ?_
        refine lv_iload_n X.1 X.2.1 dX8_alwaysPart_70 rfl (lv_at hl 3 rfl) ?_
        refine lv_ior X.1 X.2.1 dX8_alwaysPart_71 ?_
        refine lv_goto (tgt := 76) X.1 X.2.1 dX8_alwaysPart_72 (by decide) ?_
        exact j76 ((y8 &&& (-2)) ||| x2) T10 _ _ ls (lv_sub hl [] rfl) h hle f_a0 hw
    · have hw := hw.2 c13
      refine lv_iconst (v := 0) X.1 X.2.1 dX8_alwaysPart_58 (by decide) ?_
      exact kp_reti X hr hlocks h hle rfl hw dX8_alwaysPart_59
  · have hw := hw.2 c14
    refine lv_iload_n X.1 X.2.1 dX8_alwaysPart_13 rfl (lv_at hl 2 rfl) ?_
    exact kp_reti X hr hlocks h hle rfl hw dX8_alwaysPart_14
theorem dX8_round_0 : decode cX8_round 0 = .ok (.aload_n 0, 1) := by decide +kernel
theorem dX8_round_1 : decode cX8_round 1 = .ok (.getfield 23, 3) := by decide +kernel
theorem dX8_round_4 : decode cX8_round 4 = .ok (.lload_n 1, 1) := by decide +kernel
theorem dX8_round_5 : decode cX8_round 5 = .ok (.iload_n 3, 1) := by decide +kernel
theorem dX8_round_6 : decode cX8_round 6 = .ok (.invokevirtual 273, 3) := by decide +kernel
theorem dX8_round_9 : decode cX8_round 9 = .ok (.aload_n 0, 1) := by decide +kernel
theorem dX8_round_10 : decode cX8_round 10 = .ok (.invokevirtual 120, 3) := by decide +kernel
theorem dX8_round_13 : decode cX8_round 13 = .ok (.istore 4, 2) := by decide +kernel
theorem dX8_round_15 : decode cX8_round 15 = .ok (.aload_n 0, 1) := by decide +kernel
theorem dX8_round_16 : decode cX8_round 16 = .ok (.getfield 27, 3) := by decide +kernel
theorem dX8_round_19 : decode cX8_round 19 = .ok (.bipush 54, 2) := by decide +kernel
theorem dX8_round_21 : decode cX8_round 21 = .ok (.invokevirtual 123, 3) := by decide +kernel
theorem dX8_round_24 : decode cX8_round 24 = .ok (.pop, 1) := by decide +kernel
theorem dX8_round_25 : decode cX8_round 25 = .ok (.aload_n 0, 1) := by decide +kernel
theorem dX8_round_26 : decode cX8_round 26 = .ok (.iload_n 3, 1) := by decide +kernel
theorem dX8_round_27 : decode cX8_round 27 = .ok (.iload 4, 2) := by decide +kernel
theorem dX8_round_29 : decode cX8_round 29 = .ok (.invokevirtual 276, 3) := by decide +kernel
theorem dX8_round_32 : decode cX8_round 32 = .ok (.istore 4, 2) := by decide +kernel
theorem dX8_round_34 : decode cX8_round 34 = .ok (.aload_n 0, 1) := by decide +kernel
theorem dX8_round_35 : decode cX8_round 35 = .ok (.getfield 23, 3) := by decide +kernel
theorem dX8_round_38 : decode cX8_round 38 = .ok (.invokevirtual 279, 3) := by decide +kernel
theorem dX8_round_41 : decode cX8_round 41 = .ok (.iload 4, 2) := by decide +kernel
theorem dX8_round_43 : decode cX8_round 43 = .ok (.ireturn, 1) := by decide +kernel
def wX8_round (B : Nat → kp_S → (Int32 → kp_S → Prop) → Prop) (a0 : Nat) (w1 : Int64) (x3 : Int32) (S : kp_S) (post : Int32 → kp_S → Prop) : Prop :=
  ∃ b1 : Nat, kp_R S 1601 a0 = some b1 ∧
  wX5_enterLoop b1 w1 x3 S (fun T2 =>
  B a0 T2 (fun y4 T3 =>
  ∃ b5 : Nat, kp_R T3 1603 a0 = some b5 ∧
  wX0_add b5 54 T3 (fun y7 T6 =>
  wX8_alwaysPart B a0 x3 y4 T6 (fun y9 T8 =>
  ∃ b10 : Nat, kp_R T8 1601 a0 = some b10 ∧
  wX5_leaveLoop b10 T8 (fun T11 =>
  post y9 T11)))))
set_option maxHeartbeats 4000000 in
set_option maxRecDepth 100000 in
theorem c_X8_round (l : Launch) (D : va_G) (cy : Nat → ClassId) (ad : (Nat → Nat) × (Nat → Nat)) (F L : Nat) (B : Nat → kp_S → (Int32 → kp_S → Prop) → Prop) (hB : ∀ (S : kp_S) (a0 : Nat) (post : Int32 → kp_S → Prop), kp_ok S → kp_is S a0 8 → B a0 S post → kp_M l yX8_block cX8_block 5 (some .int) { frames := F, cells := 0, slots := 0, locals := L } D cy ad S [.ref a0] 0 0 (fun A => kp_Qi D cy A S post)) (hF : 191 ≤ F) (hL : 4387 ≤ L) (S : kp_S) (a0 : Nat) (w1 : Int64) (x3 : Int32) (post : Int32 → kp_S → Prop) (hS : kp_ok S) (f_a0 : kp_is S a0 8) (hw : wX8_round B a0 w1 x3 S post) : kp_M l yX8_round cX8_round 5 (some .int) { frames := F + 2, cells := 0, slots := 0, locals := L + 47 } D cy ad S [.ref a0, .long w1, .int x3] 0 0 (fun A => kp_Qi D cy A S post) := by
  refine kp_start (own := RX8) (by decide) rfl (Nat.le_of_ble_eq_true rfl) hS ?_
  intro p e s m below meth c A ls X hr hlocks hname h hl
  have hle : kp_le S S := kp_le.rf
  have hl : lv_has ls 5 [(0, .ref a0), (1, .long w1), (3, .int x3)] := hl
  unfold wX8_round at hw
  have h : kp_H D cy A S s.heap s.heap [] := h
  revert h
  intro h
  refine lv_aload_n X.1 X.2.1 dX8_round_0 rfl (lv_at hl 0 rfl) ?_
  obtain ⟨b1, e_b1, hw⟩ := hw
  have f_b1 := h.2.2.2.rf (c := 8) (k := 1) f_a0 (by decide) (by decide) e_b1 (t := 5) rfl
  refine kp_get X h f_a0 ff_8_23.l (v := .ref b1) (congrArg va_rf e_b1) dX8_round_1 ?_
  refine lv_lload_n X.1 X.2.1 dX8_round_4 rfl (lv_at hl 1 rfl) ?_
  refine lv_iload_n X.1 X.2.1 dX8_round_5 rfl (lv_at hl 2 rfl) ?_
  refine kp_callv X h (kp_runV (rm := { frames := 0, cells := 0, slots := 0, locals := 0 }) (mc := 0) (ms := 0) (rest := []) (Qc := fun A => kp_Qv D cy A S _) X h (c_X5_enterLoop l D cy ad S b1 w1 x3 _ h.2.2.2 f_b1 hw) f_b1 cv_8_273 ⟨by dsimp only; omega, by dsimp only; omega, rfl, rfl, by dsimp only; omega, by dsimp only; omega⟩ rfl hl.1 rfl (Nat.le_of_ble_eq_true rfl) dX8_round_6) (fun T2 hw l_T2 H locs h => ?_)
  have f_a0 := l_T2.is f_a0
  have f_b1 := l_T2.is f_b1
  have hle := hle.tr l_T2
  refine lv_aload_n X.1 X.2.1 dX8_round_9 rfl (lv_at hl 0 rfl) ?_
  refine kp_calli X h (kp_runV (rm := { frames := F, cells := 0, slots := 0, locals := L }) (mc := 0) (ms := 0) (rest := []) (Qc := fun A => kp_Qi D cy A T2 _) X h (hB T2 a0 _ h.2.2.2 f_a0 hw) f_a0 cv_8_120 ⟨by dsimp only; omega, by dsimp only; omega, rfl, rfl, by dsimp only; omega, by dsimp only; omega⟩ rfl hl.1 rfl (Nat.le_of_ble_eq_true rfl) dX8_round_10) (fun y4 T3 hw l_T3 H locs h => ?_)
  have f_a0 := l_T3.is f_a0
  have f_b1 := l_T3.is f_b1
  have hle := hle.tr l_T3
  refine lv_istore (lv' := [(4, .int y4), (0, .ref a0), (1, .long w1), (3, .int x3)]) X.1 X.2.1 dX8_round_13 hl (by decide) rfl (fun ls hl => ?_)
  refine lv_aload_n X.1 X.2.1 dX8_round_15 rfl (lv_at hl 1 rfl) ?_
  obtain ⟨b5, e_b5, hw⟩ := hw
  have f_b5 := h.2.2.2.rf (c := 8) (k := 3) f_a0 (by decide) (by decide) e_b5 (t := 0) rfl
  refine kp_get X h f_a0 fp_8_27.l (v := .ref b5) (congrArg va_rf e_b5) dX8_round_16 ?_
  refine lv_bipush (v := 54) X.1 X.2.1 dX8_round_19 (by decide) ?_
  refine kp_calli X h (kp_runV (rm := { frames := 0, cells := 0, slots := 0, locals := 0 }) (mc := 0) (ms := 0) (rest := []) (Qc := fun A => kp_Qi D cy A T3 _) X h (c_X0_add l D cy ad T3 b5 54 _ h.2.2.2 f_b5 hw) f_b5 cv_8_123 ⟨by dsimp only; omega, by dsimp only; omega, rfl, rfl, by dsimp only; omega, by dsimp only; omega⟩ rfl hl.1 rfl (Nat.le_of_ble_eq_true rfl) dX8_round_21) (fun y7 T6 hw l_T6 H locs h => ?_)
  have f_a0 := l_T6.is f_a0
  have f_b1 := l_T6.is f_b1
  have f_b5 := l_T6.is f_b5
  have hle := hle.tr l_T6
  refine lv_pop X.1 X.2.1 dX8_round_24 rfl ?_
  refine lv_aload_n X.1 X.2.1 dX8_round_25 rfl (lv_at hl 1 rfl) ?_
  refine lv_iload_n X.1 X.2.1 dX8_round_26 rfl (lv_at hl 3 rfl) ?_
  refine lv_iload X.1 X.2.1 dX8_round_27 (lv_at hl 0 rfl) ?_
  refine kp_calli X h (kp_runV (rm := { frames := F + 1, cells := 0, slots := 0, locals := L + 24 }) (mc := 0) (ms := 0) (rest := []) (Qc := fun A => kp_Qi D cy A T6 _) X h (c_X8_alwaysPart l D cy ad F L B hB hF hL T6 a0 x3 y4 _ h.2.2.2 f_a0 hw) f_a0 cv_8_276 ⟨by dsimp only; omega, by dsimp only; omega, rfl, rfl, by dsimp only; omega, by dsimp only; omega⟩ rfl hl.1 rfl (Nat.le_of_ble_eq_true rfl) dX8_round_29) (fun y9 T8 hw l_T8 H locs h => ?_)
  have f_a0 := l_T8.is f_a0
  have f_b1 := l_T8.is f_b1
  have f_b5 := l_T8.is f_b5
  have hle := hle.tr l_T8
  refine lv_istore (lv' := [(4, .int y9), (0, .ref a0), (1, .long w1), (3, .int x3)]) X.1 X.2.1 dX8_round_32 hl (by decide) rfl (fun ls hl => ?_)
  refine lv_aload_n X.1 X.2.1 dX8_round_34 rfl (lv_at hl 1 rfl) ?_
  obtain ⟨b10, e_b10, hw⟩ := hw
  have f_b10 := h.2.2.2.rf (c := 8) (k := 1) f_a0 (by decide) (by decide) e_b10 (t := 5) rfl
  refine kp_get X h f_a0 ff_8_23.l (v := .ref b10) (congrArg va_rf e_b10) dX8_round_35 ?_
  refine kp_callv X h (kp_runV (rm := { frames := 0, cells := 0, slots := 0, locals := 0 }) (mc := 0) (ms := 0) (rest := []) (Qc := fun A => kp_Qv D cy A T8 _) X h (c_X5_leaveLoop l D cy ad T8 b10 _ h.2.2.2 f_b10 hw) f_b10 cv_8_279 ⟨by dsimp only; omega, by dsimp only; omega, rfl, rfl, by dsimp only; omega, by dsimp only; omega⟩ rfl hl.1 rfl (Nat.le_of_ble_eq_true rfl) dX8_round_38) (fun T11 hw l_T11 H locs h => ?_)
  have f_a0 := l_T11.is f_a0
  have f_b1 := l_T11.is f_b1
  have f_b5 := l_T11.is f_b5
  have f_b10 := l_T11.is f_b10
  have hle := hle.tr l_T11
  refine lv_iload X.1 X.2.1 dX8_round_41 (lv_at hl 0 rfl) ?_
  exact kp_reti X hr hlocks h hle rfl hw dX8_round_43
theorem dX8_whileLoop_0 : decode cX8_whileLoop 0 = .ok (.aload_n 0, 1) := by decide +kernel
theorem dX8_whileLoop_1 : decode cX8_whileLoop 1 = .ok (.getfield 14, 3) := by decide +kernel
theorem dX8_whileLoop_4 : decode cX8_whileLoop 4 = .ok (.invokevirtual 75, 3) := by decide +kernel
theorem dX8_whileLoop_7 : decode cX8_whileLoop 7 = .ok (.aload_n 0, 1) := by decide +kernel
theorem dX8_whileLoop_8 : decode cX8_whileLoop 8 = .ok (.getfield 27, 3) := by decide +kernel
theorem dX8_whileLoop_11 : decode cX8_whileLoop 11 = .ok (.bipush 30, 2) := by decide +kernel
theorem dX8_whileLoop_13 : decode cX8_whileLoop 13 = .ok (.iload_n 3, 1) := by decide +kernel
theorem dX8_whileLoop_14 : decode cX8_whileLoop 14 = .ok (.invokevirtual 154, 3) := by decide +kernel
theorem dX8_whileLoop_17 : decode cX8_whileLoop 17 = .ok (.istore 4, 2) := by decide +kernel
theorem dX8_whileLoop_19 : decode cX8_whileLoop 19 = .ok (.aload_n 0, 1) := by decide +kernel
theorem dX8_whileLoop_20 : decode cX8_whileLoop 20 = .ok (.getfield 36, 3) := by decide +kernel
theorem dX8_whileLoop_23 : decode cX8_whileLoop 23 = .ok (.invokevirtual 210, 3) := by decide +kernel
theorem dX8_whileLoop_26 : decode cX8_whileLoop 26 = .ok (.invokestatic 213, 3) := by decide +kernel
theorem dX8_whileLoop_29 : decode cX8_whileLoop 29 = .ok (.istore 5, 2) := by decide +kernel
theorem dX8_whileLoop_31 : decode cX8_whileLoop 31 = .ok (.aload_n 0, 1) := by decide +kernel
theorem dX8_whileLoop_32 : decode cX8_whileLoop 32 = .ok (.getfield 27, 3) := by decide +kernel
theorem dX8_whileLoop_35 : decode cX8_whileLoop 35 = .ok (.bipush 23, 2) := by decide +kernel
theorem dX8_whileLoop_37 : decode cX8_whileLoop 37 = .ok (.iconst 0, 1) := by decide +kernel
theorem dX8_whileLoop_38 : decode cX8_whileLoop 38 = .ok (.invokevirtual 154, 3) := by decide +kernel
theorem dX8_whileLoop_41 : decode cX8_whileLoop 41 = .ok (.istore 6, 2) := by decide +kernel
theorem dX8_whileLoop_43 : decode cX8_whileLoop 43 = .ok (.aload_n 0, 1) := by decide +kernel
theorem dX8_whileLoop_44 : decode cX8_whileLoop 44 = .ok (.getfield 27, 3) := by decide +kernel
theorem dX8_whileLoop_47 : decode cX8_whileLoop 47 = .ok (.bipush 46, 2) := by decide +kernel
theorem dX8_whileLoop_49 : decode cX8_whileLoop 49 = .ok (.iload_n 3, 1) := by decide +kernel
theorem dX8_whileLoop_50 : decode cX8_whileLoop 50 = .ok (.invokevirtual 258, 3) := by decide +kernel
theorem dX8_whileLoop_53 : decode cX8_whileLoop 53 = .ok (.istore 7, 2) := by decide +kernel
theorem dX8_whileLoop_55 : decode cX8_whileLoop 55 = .ok (.aload_n 0, 1) := by decide +kernel
theorem dX8_whileLoop_56 : decode cX8_whileLoop 56 = .ok (.lload_n 1, 1) := by decide +kernel
theorem dX8_whileLoop_57 : decode cX8_whileLoop 57 = .ok (.iload 7, 2) := by decide +kernel
theorem dX8_whileLoop_59 : decode cX8_whileLoop 59 = .ok (.invokevirtual 261, 3) := by decide +kernel
theorem dX8_whileLoop_62 : decode cX8_whileLoop 62 = .ok (.istore 8, 2) := by decide +kernel
theorem dX8_whileLoop_64 : decode cX8_whileLoop 64 = .ok (.aload_n 0, 1) := by decide +kernel
theorem dX8_whileLoop_65 : decode cX8_whileLoop 65 = .ok (.getfield 27, 3) := by decide +kernel
theorem dX8_whileLoop_68 : decode cX8_whileLoop 68 = .ok (.iload 6, 2) := by decide +kernel
theorem dX8_whileLoop_70 : decode cX8_whileLoop 70 = .ok (.iconst 1, 1) := by decide +kernel
theorem dX8_whileLoop_71 : decode cX8_whileLoop 71 = .ok (.iadd, 1) := by decide +kernel
theorem dX8_whileLoop_72 : decode cX8_whileLoop 72 = .ok (.aload_n 0, 1) := by decide +kernel
theorem dX8_whileLoop_73 : decode cX8_whileLoop 73 = .ok (.getfield 27, 3) := by decide +kernel
theorem dX8_whileLoop_76 : decode cX8_whileLoop 76 = .ok (.invokevirtual 234, 3) := by decide +kernel
theorem dX8_whileLoop_79 : decode cX8_whileLoop 79 = .ok (.invokevirtual 237, 3) := by decide +kernel
theorem dX8_whileLoop_82 : decode cX8_whileLoop 82 = .ok (.aload_n 0, 1) := by decide +kernel
theorem dX8_whileLoop_83 : decode cX8_whileLoop 83 = .ok (.iload 7, 2) := by decide +kernel
theorem dX8_whileLoop_85 : decode cX8_whileLoop 85 = .ok (.iload 4, 2) := by decide +kernel
theorem dX8_whileLoop_87 : decode cX8_whileLoop 87 = .ok (.aload_n 0, 1) := by decide +kernel
theorem dX8_whileLoop_88 : decode cX8_whileLoop 88 = .ok (.getfield 27, 3) := by decide +kernel
theorem dX8_whileLoop_91 : decode cX8_whileLoop 91 = .ok (.invokevirtual 234, 3) := by decide +kernel
theorem dX8_whileLoop_94 : decode cX8_whileLoop 94 = .ok (.invokevirtual 264, 3) := by decide +kernel
theorem dX8_whileLoop_97 : decode cX8_whileLoop 97 = .ok (.iload 8, 2) := by decide +kernel
theorem dX8_whileLoop_99 : decode cX8_whileLoop 99 = .ok (.aload_n 0, 1) := by decide +kernel
theorem dX8_whileLoop_100 : decode cX8_whileLoop 100 = .ok (.invokevirtual 267, 3) := by decide +kernel
theorem dX8_whileLoop_103 : decode cX8_whileLoop 103 = .ok (.iconst (-1), 1) := by decide +kernel
theorem dX8_whileLoop_104 : decode cX8_whileLoop 104 = .ok (.ixor, 1) := by decide +kernel
theorem dX8_whileLoop_105 : decode cX8_whileLoop 105 = .ok (.iand, 1) := by decide +kernel
theorem dX8_whileLoop_106 : decode cX8_whileLoop 106 = .ok (.bipush (-2), 2) := by decide +kernel
theorem dX8_whileLoop_108 : decode cX8_whileLoop 108 = .ok (.iand, 1) := by decide +kernel
theorem dX8_whileLoop_109 : decode cX8_whileLoop 109 = .ok (.iconst 1, 1) := by decide +kernel
theorem dX8_whileLoop_110 : decode cX8_whileLoop 110 = .ok (.ior, 1) := by decide +kernel
theorem dX8_whileLoop_111 : decode cX8_whileLoop 111 = .ok (.iload 5, 2) := by decide +kernel
theorem dX8_whileLoop_113 : decode cX8_whileLoop 113 = .ok (.ior, 1) := by decide +kernel
theorem dX8_whileLoop_114 : decode cX8_whileLoop 114 = .ok (.ireturn, 1) := by decide +kernel
def wX8_whileLoop (B : Nat → kp_S → (Int32 → kp_S → Prop) → Prop) (a0 : Nat) (w1 : Int64) (x3 : Int32) (S : kp_S) (post : Int32 → kp_S → Prop) : Prop :=
  ∃ b1 : Nat, kp_R S 1600 a0 = some b1 ∧
  wX9_advance b1 S (fun T2 =>
  ∃ b3 : Nat, kp_R T2 1603 a0 = some b3 ∧
  wX0_add_ b3 30 x3 T2 (fun y5 T4 =>
  ∃ b6 : Nat, kp_R T4 1602 a0 = some b6 ∧
  wX2_whole_t b6 T4 (fun y8 T7 =>
  wX8_troubleOf y8 T7 (fun y10 T9 =>
  ∃ b11 : Nat, kp_R T9 1603 a0 = some b11 ∧
  wX0_add_ b11 23 0 T9 (fun y13 T12 =>
  ∃ b14 : Nat, kp_R T12 1603 a0 = some b14 ∧
  wX0_addPart b14 46 x3 T12 (fun y16 T15 =>
  wX8_round B a0 w1 y16 T15 (fun y18 T17 =>
  ∃ b19 : Nat, kp_R T17 1603 a0 = some b19 ∧
  wX0_size b19 T17 (fun y21 T20 =>
  wX0_set b19 (y13 + 1) y21 T20 (fun T22 =>
  ∃ b23 : Nat, kp_R T22 1603 a0 = some b23 ∧
  wX0_size b23 T22 (fun y25 T24 =>
  wX8_setRound a0 y16 y5 y25 T24 (fun T26 =>
  wX8_ownWays a0 T26 (fun y28 T27 =>
  post ((((y18 &&& (y28 ^^^ (-1))) &&& (-2)) ||| 1) ||| y10) T27))))))))))))
set_option maxHeartbeats 4000000 in
set_option maxRecDepth 100000 in
theorem c_X8_whileLoop (l : Launch) (D : va_G) (cy : Nat → ClassId) (ad : (Nat → Nat) × (Nat → Nat)) (F L : Nat) (B : Nat → kp_S → (Int32 → kp_S → Prop) → Prop) (hB : ∀ (S : kp_S) (a0 : Nat) (post : Int32 → kp_S → Prop), kp_ok S → kp_is S a0 8 → B a0 S post → kp_M l yX8_block cX8_block 5 (some .int) { frames := F, cells := 0, slots := 0, locals := L } D cy ad S [.ref a0] 0 0 (fun A => kp_Qi D cy A S post)) (hF : 191 ≤ F) (hL : 4387 ≤ L) (S : kp_S) (a0 : Nat) (w1 : Int64) (x3 : Int32) (post : Int32 → kp_S → Prop) (hS : kp_ok S) (f_a0 : kp_is S a0 8) (hw : wX8_whileLoop B a0 w1 x3 S post) : kp_M l yX8_whileLoop cX8_whileLoop 9 (some .int) { frames := F + 3, cells := 0, slots := 0, locals := L + 71 } D cy ad S [.ref a0, .long w1, .int x3] 0 0 (fun A => kp_Qi D cy A S post) := by
  refine kp_start (own := RX8) (by decide) rfl (Nat.le_of_ble_eq_true rfl) hS ?_
  intro p e s m below meth c A ls X hr hlocks hname h hl
  have hle : kp_le S S := kp_le.rf
  have hl : lv_has ls 9 [(0, .ref a0), (1, .long w1), (3, .int x3)] := hl
  unfold wX8_whileLoop at hw
  have h : kp_H D cy A S s.heap s.heap [] := h
  revert h
  intro h
  refine lv_aload_n X.1 X.2.1 dX8_whileLoop_0 rfl (lv_at hl 0 rfl) ?_
  obtain ⟨b1, e_b1, hw⟩ := hw
  have f_b1 := h.2.2.2.rf (c := 8) (k := 0) f_a0 (by decide) (by decide) e_b1 (t := 9) rfl
  refine kp_get X h f_a0 ff_8_14.l (v := .ref b1) (congrArg va_rf e_b1) dX8_whileLoop_1 ?_
  refine kp_callv X h (kp_runV (rm := { frames := 5, cells := 0, slots := 0, locals := 113 }) (mc := 0) (ms := 0) (rest := []) (Qc := fun A => kp_Qv D cy A S _) X h (c_X9_advance l D cy ad S b1 _ h.2.2.2 f_b1 hw) f_b1 cv_8_75 ⟨by dsimp only; omega, by dsimp only; omega, rfl, rfl, by dsimp only; omega, by dsimp only; omega⟩ rfl hl.1 rfl (Nat.le_of_ble_eq_true rfl) dX8_whileLoop_4) (fun T2 hw l_T2 H locs h => ?_)
  have f_a0 := l_T2.is f_a0
  have f_b1 := l_T2.is f_b1
  have hle := hle.tr l_T2
  refine lv_aload_n X.1 X.2.1 dX8_whileLoop_7 rfl (lv_at hl 0 rfl) ?_
  obtain ⟨b3, e_b3, hw⟩ := hw
  have f_b3 := h.2.2.2.rf (c := 8) (k := 3) f_a0 (by decide) (by decide) e_b3 (t := 0) rfl
  refine kp_get X h f_a0 fp_8_27.l (v := .ref b3) (congrArg va_rf e_b3) dX8_whileLoop_8 ?_
  refine lv_bipush (v := 30) X.1 X.2.1 dX8_whileLoop_11 (by decide) ?_
  refine lv_iload_n X.1 X.2.1 dX8_whileLoop_13 rfl (lv_at hl 2 rfl) ?_
  refine kp_calli X h (kp_runV (rm := { frames := 1, cells := 0, slots := 0, locals := 22 }) (mc := 0) (ms := 0) (rest := []) (Qc := fun A => kp_Qi D cy A T2 _) X h (c_X0_add_ l D cy ad T2 b3 30 x3 _ h.2.2.2 f_b3 hw) f_b3 cv_8_154 ⟨by dsimp only; omega, by dsimp only; omega, rfl, rfl, by dsimp only; omega, by dsimp only; omega⟩ rfl hl.1 rfl (Nat.le_of_ble_eq_true rfl) dX8_whileLoop_14) (fun y5 T4 hw l_T4 H locs h => ?_)
  have f_a0 := l_T4.is f_a0
  have f_b1 := l_T4.is f_b1
  have f_b3 := l_T4.is f_b3
  have hle := hle.tr l_T4
  refine lv_istore (lv' := [(4, .int y5), (0, .ref a0), (1, .long w1), (3, .int x3)]) X.1 X.2.1 dX8_whileLoop_17 hl (by decide) rfl (fun ls hl => ?_)
  refine lv_aload_n X.1 X.2.1 dX8_whileLoop_19 rfl (lv_at hl 1 rfl) ?_
  obtain ⟨b6, e_b6, hw⟩ := hw
  have f_b6 := h.2.2.2.rf (c := 8) (k := 2) f_a0 (by decide) (by decide) e_b6 (t := 2) rfl
  refine kp_get X h f_a0 ff_8_36.l (v := .ref b6) (congrArg va_rf e_b6) dX8_whileLoop_20 ?_
  refine kp_calli X h (kp_runV (rm := { frames := 189, cells := 0, slots := 0, locals := 4339 }) (mc := 0) (ms := 0) (rest := []) (Qc := fun A => kp_Qi D cy A T4 _) X h (c_X2_whole_t l D cy ad T4 b6 _ h.2.2.2 f_b6 hw) f_b6 cv_8_210 ⟨by dsimp only; omega, by dsimp only; omega, rfl, rfl, by dsimp only; omega, by dsimp only; omega⟩ rfl hl.1 rfl (Nat.le_of_ble_eq_true rfl) dX8_whileLoop_23) (fun y8 T7 hw l_T7 H locs h => ?_)
  have f_a0 := l_T7.is f_a0
  have f_b1 := l_T7.is f_b1
  have f_b3 := l_T7.is f_b3
  have f_b6 := l_T7.is f_b6
  have hle := hle.tr l_T7
  refine kp_calli X h (kp_runS (rm := { frames := 0, cells := 0, slots := 0, locals := 0 }) (mc := 0) (ms := 0) (rest := []) (Qc := fun A => kp_Qi D cy A T7 _) X h (c_X8_troubleOf l D cy ad T7 y8 _ h.2.2.2  hw) cs_8_213 ⟨by dsimp only; omega, by dsimp only; omega, rfl, rfl, by dsimp only; omega, by dsimp only; omega⟩ rfl hl.1 rfl (Nat.le_of_ble_eq_true rfl) dX8_whileLoop_26) (fun y10 T9 hw l_T9 H locs h => ?_)
  have f_a0 := l_T9.is f_a0
  have f_b1 := l_T9.is f_b1
  have f_b3 := l_T9.is f_b3
  have f_b6 := l_T9.is f_b6
  have hle := hle.tr l_T9
  refine lv_istore (lv' := [(5, .int y10), (4, .int y5), (0, .ref a0), (1, .long w1), (3, .int x3)]) X.1 X.2.1 dX8_whileLoop_29 hl (by decide) rfl (fun ls hl => ?_)
  refine lv_aload_n X.1 X.2.1 dX8_whileLoop_31 rfl (lv_at hl 2 rfl) ?_
  obtain ⟨b11, e_b11, hw⟩ := hw
  have f_b11 := h.2.2.2.rf (c := 8) (k := 3) f_a0 (by decide) (by decide) e_b11 (t := 0) rfl
  refine kp_get X h f_a0 fp_8_27.l (v := .ref b11) (congrArg va_rf e_b11) dX8_whileLoop_32 ?_
  refine lv_bipush (v := 23) X.1 X.2.1 dX8_whileLoop_35 (by decide) ?_
  refine lv_iconst (v := 0) X.1 X.2.1 dX8_whileLoop_37 (by decide) ?_
  refine kp_calli X h (kp_runV (rm := { frames := 1, cells := 0, slots := 0, locals := 22 }) (mc := 0) (ms := 0) (rest := []) (Qc := fun A => kp_Qi D cy A T9 _) X h (c_X0_add_ l D cy ad T9 b11 23 0 _ h.2.2.2 f_b11 hw) f_b11 cv_8_154 ⟨by dsimp only; omega, by dsimp only; omega, rfl, rfl, by dsimp only; omega, by dsimp only; omega⟩ rfl hl.1 rfl (Nat.le_of_ble_eq_true rfl) dX8_whileLoop_38) (fun y13 T12 hw l_T12 H locs h => ?_)
  have f_a0 := l_T12.is f_a0
  have f_b1 := l_T12.is f_b1
  have f_b3 := l_T12.is f_b3
  have f_b6 := l_T12.is f_b6
  have f_b11 := l_T12.is f_b11
  have hle := hle.tr l_T12
  refine lv_istore (lv' := [(6, .int y13), (5, .int y10), (4, .int y5), (0, .ref a0), (1, .long w1), (3, .int x3)]) X.1 X.2.1 dX8_whileLoop_41 hl (by decide) rfl (fun ls hl => ?_)
  refine lv_aload_n X.1 X.2.1 dX8_whileLoop_43 rfl (lv_at hl 3 rfl) ?_
  obtain ⟨b14, e_b14, hw⟩ := hw
  have f_b14 := h.2.2.2.rf (c := 8) (k := 3) f_a0 (by decide) (by decide) e_b14 (t := 0) rfl
  refine kp_get X h f_a0 fp_8_27.l (v := .ref b14) (congrArg va_rf e_b14) dX8_whileLoop_44 ?_
  refine lv_bipush (v := 46) X.1 X.2.1 dX8_whileLoop_47 (by decide) ?_
  refine lv_iload_n X.1 X.2.1 dX8_whileLoop_49 rfl (lv_at hl 5 rfl) ?_
  refine kp_calli X h (kp_runV (rm := { frames := 2, cells := 0, slots := 0, locals := 45 }) (mc := 0) (ms := 0) (rest := []) (Qc := fun A => kp_Qi D cy A T12 _) X h (c_X0_addPart l D cy ad T12 b14 46 x3 _ h.2.2.2 f_b14 hw) f_b14 cv_8_258 ⟨by dsimp only; omega, by dsimp only; omega, rfl, rfl, by dsimp only; omega, by dsimp only; omega⟩ rfl hl.1 rfl (Nat.le_of_ble_eq_true rfl) dX8_whileLoop_50) (fun y16 T15 hw l_T15 H locs h => ?_)
  have f_a0 := l_T15.is f_a0
  have f_b1 := l_T15.is f_b1
  have f_b3 := l_T15.is f_b3
  have f_b6 := l_T15.is f_b6
  have f_b11 := l_T15.is f_b11
  have f_b14 := l_T15.is f_b14
  have hle := hle.tr l_T15
  refine lv_istore (lv' := [(7, .int y16), (6, .int y13), (5, .int y10), (4, .int y5), (0, .ref a0), (1, .long w1), (3, .int x3)]) X.1 X.2.1 dX8_whileLoop_53 hl (by decide) rfl (fun ls hl => ?_)
  refine lv_aload_n X.1 X.2.1 dX8_whileLoop_55 rfl (lv_at hl 4 rfl) ?_
  refine lv_lload_n X.1 X.2.1 dX8_whileLoop_56 rfl (lv_at hl 5 rfl) ?_
  refine lv_iload X.1 X.2.1 dX8_whileLoop_57 (lv_at hl 0 rfl) ?_
  refine kp_calli X h (kp_runV (rm := { frames := F + 2, cells := 0, slots := 0, locals := L + 47 }) (mc := 0) (ms := 0) (rest := []) (Qc := fun A => kp_Qi D cy A T15 _) X h (c_X8_round l D cy ad F L B hB hF hL T15 a0 w1 y16 _ h.2.2.2 f_a0 hw) f_a0 cv_8_261 ⟨by dsimp only; omega, by dsimp only; omega, rfl, rfl, by dsimp only; omega, by dsimp only; omega⟩ rfl hl.1 rfl (Nat.le_of_ble_eq_true rfl) dX8_whileLoop_59) (fun y18 T17 hw l_T17 H locs h => ?_)
  have f_a0 := l_T17.is f_a0
  have f_b1 := l_T17.is f_b1
  have f_b3 := l_T17.is f_b3
  have f_b6 := l_T17.is f_b6
  have f_b11 := l_T17.is f_b11
  have f_b14 := l_T17.is f_b14
  have hle := hle.tr l_T17
  refine lv_istore (lv' := [(8, .int y18), (7, .int y16), (6, .int y13), (5, .int y10), (4, .int y5), (0, .ref a0), (1, .long w1), (3, .int x3)]) X.1 X.2.1 dX8_whileLoop_62 hl (by decide) rfl (fun ls hl => ?_)
  refine lv_aload_n X.1 X.2.1 dX8_whileLoop_64 rfl (lv_at hl 5 rfl) ?_
  obtain ⟨b19, e_b19, hw⟩ := hw
  have f_b19 := h.2.2.2.rf (c := 8) (k := 3) f_a0 (by decide) (by decide) e_b19 (t := 0) rfl
  refine kp_get X h f_a0 fp_8_27.l (v := .ref b19) (congrArg va_rf e_b19) dX8_whileLoop_65 ?_
  refine lv_iload X.1 X.2.1 dX8_whileLoop_68 (lv_at hl 2 rfl) ?_
  refine lv_iconst (v := 1) X.1 X.2.1 dX8_whileLoop_70 (by decide) ?_
  refine lv_iadd X.1 X.2.1 dX8_whileLoop_71 ?_
  refine lv_aload_n X.1 X.2.1 dX8_whileLoop_72 rfl (lv_at hl 5 rfl) ?_
  refine kp_get X h f_a0 fp_8_27.l (v := .ref b19) (congrArg va_rf e_b19) dX8_whileLoop_73 ?_
  refine kp_calli X h (kp_runV (rm := { frames := 0, cells := 0, slots := 0, locals := 0 }) (mc := 0) (ms := 0) (rest := [.int (y13 + 1), .ref b19]) (Qc := fun A => kp_Qi D cy A T17 _) X h (c_X0_size l D cy ad T17 b19 _ h.2.2.2 f_b19 hw) f_b19 cv_8_234 ⟨by dsimp only; omega, by dsimp only; omega, rfl, rfl, by dsimp only; omega, by dsimp only; omega⟩ rfl hl.1 rfl (Nat.le_of_ble_eq_true rfl) dX8_whileLoop_76) (fun y21 T20 hw l_T20 H locs h => ?_)
  have f_a0 := l_T20.is f_a0
  have f_b1 := l_T20.is f_b1
  have f_b3 := l_T20.is f_b3
  have f_b6 := l_T20.is f_b6
  have f_b11 := l_T20.is f_b11
  have f_b14 := l_T20.is f_b14
  have f_b19 := l_T20.is f_b19
  have hle := hle.tr l_T20
  refine kp_callv X h (kp_runV (rm := { frames := 0, cells := 0, slots := 0, locals := 0 }) (mc := 0) (ms := 0) (rest := []) (Qc := fun A => kp_Qv D cy A T20 _) X h (c_X0_set l D cy ad T20 b19 (y13 + 1) y21 _ h.2.2.2 f_b19 hw) f_b19 cv_8_237 ⟨by dsimp only; omega, by dsimp only; omega, rfl, rfl, by dsimp only; omega, by dsimp only; omega⟩ rfl hl.1 rfl (Nat.le_of_ble_eq_true rfl) dX8_whileLoop_79) (fun T22 hw l_T22 H locs h => ?_)
  have f_a0 := l_T22.is f_a0
  have f_b1 := l_T22.is f_b1
  have f_b3 := l_T22.is f_b3
  have f_b6 := l_T22.is f_b6
  have f_b11 := l_T22.is f_b11
  have f_b14 := l_T22.is f_b14
  have f_b19 := l_T22.is f_b19
  have hle := hle.tr l_T22
  refine lv_aload_n X.1 X.2.1 dX8_whileLoop_82 rfl (lv_at hl 5 rfl) ?_
  refine lv_iload X.1 X.2.1 dX8_whileLoop_83 (lv_at hl 1 rfl) ?_
  refine lv_iload X.1 X.2.1 dX8_whileLoop_85 (lv_at hl 4 rfl) ?_
  refine lv_aload_n X.1 X.2.1 dX8_whileLoop_87 rfl (lv_at hl 5 rfl) ?_
  obtain ⟨b23, e_b23, hw⟩ := hw
  have f_b23 := h.2.2.2.rf (c := 8) (k := 3) f_a0 (by decide) (by decide) e_b23 (t := 0) rfl
  refine kp_get X h f_a0 fp_8_27.l (v := .ref b23) (congrArg va_rf e_b23) dX8_whileLoop_88 ?_
  refine kp_calli X h (kp_runV (rm := { frames := 0, cells := 0, slots := 0, locals := 0 }) (mc := 0) (ms := 0) (rest := [.int y5, .int y16, .ref a0]) (Qc := fun A => kp_Qi D cy A T22 _) X h (c_X0_size l D cy ad T22 b23 _ h.2.2.2 f_b23 hw) f_b23 cv_8_234 ⟨by dsimp only; omega, by dsimp only; omega, rfl, rfl, by dsimp only; omega, by dsimp only; omega⟩ rfl hl.1 rfl (Nat.le_of_ble_eq_true rfl) dX8_whileLoop_91) (fun y25 T24 hw l_T24 H locs h => ?_)
  have f_a0 := l_T24.is f_a0
  have f_b1 := l_T24.is f_b1
  have f_b3 := l_T24.is f_b3
  have f_b6 := l_T24.is f_b6
  have f_b11 := l_T24.is f_b11
  have f_b14 := l_T24.is f_b14
  have f_b19 := l_T24.is f_b19
  have f_b23 := l_T24.is f_b23
  have hle := hle.tr l_T24
  refine kp_callv X h (kp_runV (rm := { frames := 1, cells := 0, slots := 0, locals := 22 }) (mc := 0) (ms := 0) (rest := []) (Qc := fun A => kp_Qv D cy A T24 _) X h (c_X8_setRound l D cy ad T24 a0 y16 y5 y25 _ h.2.2.2 f_a0 hw) f_a0 cv_8_264 ⟨by dsimp only; omega, by dsimp only; omega, rfl, rfl, by dsimp only; omega, by dsimp only; omega⟩ rfl hl.1 rfl (Nat.le_of_ble_eq_true rfl) dX8_whileLoop_94) (fun T26 hw l_T26 H locs h => ?_)
  have f_a0 := l_T26.is f_a0
  have f_b1 := l_T26.is f_b1
  have f_b3 := l_T26.is f_b3
  have f_b6 := l_T26.is f_b6
  have f_b11 := l_T26.is f_b11
  have f_b14 := l_T26.is f_b14
  have f_b19 := l_T26.is f_b19
  have f_b23 := l_T26.is f_b23
  have hle := hle.tr l_T26
  refine lv_iload X.1 X.2.1 dX8_whileLoop_97 (lv_at hl 0 rfl) ?_
  refine lv_aload_n X.1 X.2.1 dX8_whileLoop_99 rfl (lv_at hl 5 rfl) ?_
  refine kp_calli X h (kp_runV (rm := { frames := 1, cells := 0, slots := 0, locals := 20 }) (mc := 0) (ms := 0) (rest := [.int y18]) (Qc := fun A => kp_Qi D cy A T26 _) X h (c_X8_ownWays l D cy ad T26 a0 _ h.2.2.2 f_a0 hw) f_a0 cv_8_267 ⟨by dsimp only; omega, by dsimp only; omega, rfl, rfl, by dsimp only; omega, by dsimp only; omega⟩ rfl hl.1 rfl (Nat.le_of_ble_eq_true rfl) dX8_whileLoop_100) (fun y28 T27 hw l_T27 H locs h => ?_)
  have f_a0 := l_T27.is f_a0
  have f_b1 := l_T27.is f_b1
  have f_b3 := l_T27.is f_b3
  have f_b6 := l_T27.is f_b6
  have f_b11 := l_T27.is f_b11
  have f_b14 := l_T27.is f_b14
  have f_b19 := l_T27.is f_b19
  have f_b23 := l_T27.is f_b23
  have hle := hle.tr l_T27
  refine lv_iconst (v := (-1)) X.1 X.2.1 dX8_whileLoop_103 (by decide) ?_
  refine lv_ixor X.1 X.2.1 dX8_whileLoop_104 ?_
  refine lv_iand X.1 X.2.1 dX8_whileLoop_105 ?_
  refine lv_bipush (v := (-2)) X.1 X.2.1 dX8_whileLoop_106 (by decide) ?_
  refine lv_iand X.1 X.2.1 dX8_whileLoop_108 ?_
  refine lv_iconst (v := 1) X.1 X.2.1 dX8_whileLoop_109 (by decide) ?_
  refine lv_ior X.1 X.2.1 dX8_whileLoop_110 ?_
  refine lv_iload X.1 X.2.1 dX8_whileLoop_111 (lv_at hl 3 rfl) ?_
  refine lv_ior X.1 X.2.1 dX8_whileLoop_113 ?_
  exact kp_reti X hr hlocks h hle rfl hw dX8_whileLoop_114
theorem dX8_eachLoop_0 : decode cX8_eachLoop 0 = .ok (.aload_n 0, 1) := by decide +kernel
theorem dX8_eachLoop_1 : decode cX8_eachLoop 1 = .ok (.getfield 14, 3) := by decide +kernel
theorem dX8_eachLoop_4 : decode cX8_eachLoop 4 = .ok (.invokevirtual 75, 3) := by decide +kernel
theorem dX8_eachLoop_7 : decode cX8_eachLoop 7 = .ok (.aload_n 0, 1) := by decide +kernel
theorem dX8_eachLoop_8 : decode cX8_eachLoop 8 = .ok (.getfield 14, 3) := by decide +kernel
theorem dX8_eachLoop_11 : decode cX8_eachLoop 11 = .ok (.getfield 78, 3) := by decide +kernel
theorem dX8_eachLoop_14 : decode cX8_eachLoop 14 = .ok (.lstore 4, 2) := by decide +kernel
theorem dX8_eachLoop_16 : decode cX8_eachLoop 16 = .ok (.aload_n 0, 1) := by decide +kernel
theorem dX8_eachLoop_17 : decode cX8_eachLoop 17 = .ok (.getfield 14, 3) := by decide +kernel
theorem dX8_eachLoop_20 : decode cX8_eachLoop 20 = .ok (.getfield 93, 3) := by decide +kernel
theorem dX8_eachLoop_23 : decode cX8_eachLoop 23 = .ok (.istore 6, 2) := by decide +kernel
theorem dX8_eachLoop_25 : decode cX8_eachLoop 25 = .ok (.aload_n 0, 1) := by decide +kernel
theorem dX8_eachLoop_26 : decode cX8_eachLoop 26 = .ok (.getfield 14, 3) := by decide +kernel
theorem dX8_eachLoop_29 : decode cX8_eachLoop 29 = .ok (.sipush 259, 3) := by decide +kernel
theorem dX8_eachLoop_32 : decode cX8_eachLoop 32 = .ok (.invokevirtual 90, 3) := by decide +kernel
theorem dX8_eachLoop_35 : decode cX8_eachLoop 35 = .ok (.aload_n 0, 1) := by decide +kernel
theorem dX8_eachLoop_36 : decode cX8_eachLoop 36 = .ok (.getfield 14, 3) := by decide +kernel
theorem dX8_eachLoop_39 : decode cX8_eachLoop 39 = .ok (.sipush 307, 3) := by decide +kernel
theorem dX8_eachLoop_42 : decode cX8_eachLoop 42 = .ok (.invokevirtual 90, 3) := by decide +kernel
theorem dX8_eachLoop_45 : decode cX8_eachLoop 45 = .ok (.aload_n 0, 1) := by decide +kernel
theorem dX8_eachLoop_46 : decode cX8_eachLoop 46 = .ok (.getfield 36, 3) := by decide +kernel
theorem dX8_eachLoop_49 : decode cX8_eachLoop 49 = .ok (.invokevirtual 210, 3) := by decide +kernel
theorem dX8_eachLoop_52 : decode cX8_eachLoop 52 = .ok (.istore 7, 2) := by decide +kernel
theorem dX8_eachLoop_54 : decode cX8_eachLoop 54 = .ok (.aload_n 0, 1) := by decide +kernel
theorem dX8_eachLoop_55 : decode cX8_eachLoop 55 = .ok (.getfield 14, 3) := by decide +kernel
theorem dX8_eachLoop_58 : decode cX8_eachLoop 58 = .ok (.sipush 308, 3) := by decide +kernel
theorem dX8_eachLoop_61 : decode cX8_eachLoop 61 = .ok (.invokevirtual 90, 3) := by decide +kernel
theorem dX8_eachLoop_64 : decode cX8_eachLoop 64 = .ok (.iload 7, 2) := by decide +kernel
theorem dX8_eachLoop_66 : decode cX8_eachLoop 66 = .ok (.aload_n 0, 1) := by decide +kernel
theorem dX8_eachLoop_67 : decode cX8_eachLoop 67 = .ok (.getfield 36, 3) := by decide +kernel
theorem dX8_eachLoop_70 : decode cX8_eachLoop 70 = .ok (.invokevirtual 210, 3) := by decide +kernel
theorem dX8_eachLoop_73 : decode cX8_eachLoop 73 = .ok (.ior, 1) := by decide +kernel
theorem dX8_eachLoop_74 : decode cX8_eachLoop 74 = .ok (.istore 7, 2) := by decide +kernel
theorem dX8_eachLoop_76 : decode cX8_eachLoop 76 = .ok (.aload_n 0, 1) := by decide +kernel
theorem dX8_eachLoop_77 : decode cX8_eachLoop 77 = .ok (.getfield 23, 3) := by decide +kernel
theorem dX8_eachLoop_80 : decode cX8_eachLoop 80 = .ok (.invokevirtual 140, 3) := by decide +kernel
theorem dX8_eachLoop_83 : decode cX8_eachLoop 83 = .ok (.istore 8, 2) := by decide +kernel
theorem dX8_eachLoop_85 : decode cX8_eachLoop 85 = .ok (.aload_n 0, 1) := by decide +kernel
theorem dX8_eachLoop_86 : decode cX8_eachLoop 86 = .ok (.getfield 14, 3) := by decide +kernel
theorem dX8_eachLoop_89 : decode cX8_eachLoop 89 = .ok (.invokevirtual 96, 3) := by decide +kernel
theorem dX8_eachLoop_92 : decode cX8_eachLoop 92 = .ok (.ifCond .eq 7, 3) := by decide +kernel
theorem dX8_eachLoop_95 : decode cX8_eachLoop 95 = .ok (.iconst 0, 1) := by decide +kernel
theorem dX8_eachLoop_96 : decode cX8_eachLoop 96 = .ok (.goto 14, 3) := by decide +kernel
theorem dX8_eachLoop_99 : decode cX8_eachLoop 99 = .ok (.aload_n 0, 1) := by decide +kernel
theorem dX8_eachLoop_100 : decode cX8_eachLoop 100 = .ok (.getfield 23, 3) := by decide +kernel
theorem dX8_eachLoop_103 : decode cX8_eachLoop 103 = .ok (.lload 4, 2) := by decide +kernel
theorem dX8_eachLoop_105 : decode cX8_eachLoop 105 = .ok (.iload 6, 2) := by decide +kernel
theorem dX8_eachLoop_107 : decode cX8_eachLoop 107 = .ok (.invokevirtual 216, 3) := by decide +kernel
theorem dX8_eachLoop_110 : decode cX8_eachLoop 110 = .ok (.istore 9, 2) := by decide +kernel
theorem dX8_eachLoop_112 : decode cX8_eachLoop 112 = .ok (.aload_n 0, 1) := by decide +kernel
theorem dX8_eachLoop_113 : decode cX8_eachLoop 113 = .ok (.getfield 27, 3) := by decide +kernel
theorem dX8_eachLoop_116 : decode cX8_eachLoop 116 = .ok (.bipush 33, 2) := by decide +kernel
theorem dX8_eachLoop_118 : decode cX8_eachLoop 118 = .ok (.iload 9, 2) := by decide +kernel
theorem dX8_eachLoop_120 : decode cX8_eachLoop 120 = .ok (.invokevirtual 154, 3) := by decide +kernel
theorem dX8_eachLoop_123 : decode cX8_eachLoop 123 = .ok (.istore 10, 2) := by decide +kernel
theorem dX8_eachLoop_125 : decode cX8_eachLoop 125 = .ok (.aload_n 0, 1) := by decide +kernel
theorem dX8_eachLoop_126 : decode cX8_eachLoop 126 = .ok (.getfield 27, 3) := by decide +kernel
theorem dX8_eachLoop_129 : decode cX8_eachLoop 129 = .ok (.iconst 0, 1) := by decide +kernel
theorem dX8_eachLoop_130 : decode cX8_eachLoop 130 = .ok (.invokevirtual 123, 3) := by decide +kernel
theorem dX8_eachLoop_133 : decode cX8_eachLoop 133 = .ok (.istore 11, 2) := by decide +kernel
theorem dX8_eachLoop_135 : decode cX8_eachLoop 135 = .ok (.aload_n 0, 1) := by decide +kernel
theorem dX8_eachLoop_136 : decode cX8_eachLoop 136 = .ok (.getfield 27, 3) := by decide +kernel
theorem dX8_eachLoop_139 : decode cX8_eachLoop 139 = .ok (.bipush 46, 2) := by decide +kernel
theorem dX8_eachLoop_141 : decode cX8_eachLoop 141 = .ok (.iload_n 3, 1) := by decide +kernel
theorem dX8_eachLoop_142 : decode cX8_eachLoop 142 = .ok (.invokevirtual 258, 3) := by decide +kernel
theorem dX8_eachLoop_145 : decode cX8_eachLoop 145 = .ok (.istore 12, 2) := by decide +kernel
theorem dX8_eachLoop_147 : decode cX8_eachLoop 147 = .ok (.aload_n 0, 1) := by decide +kernel
theorem dX8_eachLoop_148 : decode cX8_eachLoop 148 = .ok (.lload_n 1, 1) := by decide +kernel
theorem dX8_eachLoop_149 : decode cX8_eachLoop 149 = .ok (.iload 12, 2) := by decide +kernel
theorem dX8_eachLoop_151 : decode cX8_eachLoop 151 = .ok (.invokevirtual 261, 3) := by decide +kernel
theorem dX8_eachLoop_154 : decode cX8_eachLoop 154 = .ok (.istore 13, 2) := by decide +kernel
theorem dX8_eachLoop_156 : decode cX8_eachLoop 156 = .ok (.aload_n 0, 1) := by decide +kernel
theorem dX8_eachLoop_157 : decode cX8_eachLoop 157 = .ok (.getfield 23, 3) := by decide +kernel
theorem dX8_eachLoop_160 : decode cX8_eachLoop 160 = .ok (.iload 8, 2) := by decide +kernel
theorem dX8_eachLoop_162 : decode cX8_eachLoop 162 = .ok (.invokevirtual 148, 3) := by decide +kernel
theorem dX8_eachLoop_165 : decode cX8_eachLoop 165 = .ok (.aload_n 0, 1) := by decide +kernel
theorem dX8_eachLoop_166 : decode cX8_eachLoop 166 = .ok (.getfield 27, 3) := by decide +kernel
theorem dX8_eachLoop_169 : decode cX8_eachLoop 169 = .ok (.bipush 34, 2) := by decide +kernel
theorem dX8_eachLoop_171 : decode cX8_eachLoop 171 = .ok (.iload 10, 2) := by decide +kernel
theorem dX8_eachLoop_173 : decode cX8_eachLoop 173 = .ok (.invokevirtual 154, 3) := by decide +kernel
theorem dX8_eachLoop_176 : decode cX8_eachLoop 176 = .ok (.istore 14, 2) := by decide +kernel
theorem dX8_eachLoop_178 : decode cX8_eachLoop 178 = .ok (.aload_n 0, 1) := by decide +kernel
theorem dX8_eachLoop_179 : decode cX8_eachLoop 179 = .ok (.getfield 27, 3) := by decide +kernel
theorem dX8_eachLoop_182 : decode cX8_eachLoop 182 = .ok (.iload 11, 2) := by decide +kernel
theorem dX8_eachLoop_184 : decode cX8_eachLoop 184 = .ok (.aload_n 0, 1) := by decide +kernel
theorem dX8_eachLoop_185 : decode cX8_eachLoop 185 = .ok (.getfield 27, 3) := by decide +kernel
theorem dX8_eachLoop_188 : decode cX8_eachLoop 188 = .ok (.invokevirtual 234, 3) := by decide +kernel
theorem dX8_eachLoop_191 : decode cX8_eachLoop 191 = .ok (.invokevirtual 237, 3) := by decide +kernel
theorem dX8_eachLoop_194 : decode cX8_eachLoop 194 = .ok (.aload_n 0, 1) := by decide +kernel
theorem dX8_eachLoop_195 : decode cX8_eachLoop 195 = .ok (.iload 12, 2) := by decide +kernel
theorem dX8_eachLoop_197 : decode cX8_eachLoop 197 = .ok (.iload 14, 2) := by decide +kernel
theorem dX8_eachLoop_199 : decode cX8_eachLoop 199 = .ok (.aload_n 0, 1) := by decide +kernel
theorem dX8_eachLoop_200 : decode cX8_eachLoop 200 = .ok (.getfield 27, 3) := by decide +kernel
theorem dX8_eachLoop_203 : decode cX8_eachLoop 203 = .ok (.invokevirtual 234, 3) := by decide +kernel
theorem dX8_eachLoop_206 : decode cX8_eachLoop 206 = .ok (.invokevirtual 264, 3) := by decide +kernel
theorem dX8_eachLoop_209 : decode cX8_eachLoop 209 = .ok (.aload_n 0, 1) := by decide +kernel
theorem dX8_eachLoop_210 : decode cX8_eachLoop 210 = .ok (.getfield 27, 3) := by decide +kernel
theorem dX8_eachLoop_213 : decode cX8_eachLoop 213 = .ok (.bipush 26, 2) := by decide +kernel
theorem dX8_eachLoop_215 : decode cX8_eachLoop 215 = .ok (.iconst 2, 1) := by decide +kernel
theorem dX8_eachLoop_216 : decode cX8_eachLoop 216 = .ok (.invokevirtual 154, 3) := by decide +kernel
theorem dX8_eachLoop_219 : decode cX8_eachLoop 219 = .ok (.pop, 1) := by decide +kernel
theorem dX8_eachLoop_220 : decode cX8_eachLoop 220 = .ok (.iload 13, 2) := by decide +kernel
theorem dX8_eachLoop_222 : decode cX8_eachLoop 222 = .ok (.aload_n 0, 1) := by decide +kernel
theorem dX8_eachLoop_223 : decode cX8_eachLoop 223 = .ok (.invokevirtual 267, 3) := by decide +kernel
theorem dX8_eachLoop_226 : decode cX8_eachLoop 226 = .ok (.iconst (-1), 1) := by decide +kernel
theorem dX8_eachLoop_227 : decode cX8_eachLoop 227 = .ok (.ixor, 1) := by decide +kernel
theorem dX8_eachLoop_228 : decode cX8_eachLoop 228 = .ok (.iand, 1) := by decide +kernel
theorem dX8_eachLoop_229 : decode cX8_eachLoop 229 = .ok (.bipush (-2), 2) := by decide +kernel
theorem dX8_eachLoop_231 : decode cX8_eachLoop 231 = .ok (.iand, 1) := by decide +kernel
theorem dX8_eachLoop_232 : decode cX8_eachLoop 232 = .ok (.iconst 1, 1) := by decide +kernel
theorem dX8_eachLoop_233 : decode cX8_eachLoop 233 = .ok (.ior, 1) := by decide +kernel
theorem dX8_eachLoop_234 : decode cX8_eachLoop 234 = .ok (.iload 7, 2) := by decide +kernel
theorem dX8_eachLoop_236 : decode cX8_eachLoop 236 = .ok (.invokestatic 213, 3) := by decide +kernel
theorem dX8_eachLoop_239 : decode cX8_eachLoop 239 = .ok (.ior, 1) := by decide +kernel
theorem dX8_eachLoop_240 : decode cX8_eachLoop 240 = .ok (.ireturn, 1) := by decide +kernel
def wX8_eachLoop_b110 (B : Nat → kp_S → (Int32 → kp_S → Prop) → Prop) (a0 : Nat) (w1 : Int64) (x3 : Int32) (xn7 : Int32) (xn8 : Int32) (xt0 : Int32)  (Sn : kp_S) (post : Int32 → kp_S → Prop) : Prop :=
  ∃ b1001 : Nat, kp_R Sn 1603 a0 = some b1001 ∧
  wX0_add_ b1001 33 xt0 Sn (fun y1003 T1002 =>
  ∃ b1004 : Nat, kp_R T1002 1603 a0 = some b1004 ∧
  wX0_add b1004 0 T1002 (fun y1006 T1005 =>
  ∃ b1007 : Nat, kp_R T1005 1603 a0 = some b1007 ∧
  wX0_addPart b1007 46 x3 T1005 (fun y1009 T1008 =>
  wX8_round B a0 w1 y1009 T1008 (fun y1011 T1010 =>
  ∃ b1012 : Nat, kp_R T1010 1601 a0 = some b1012 ∧
  wX5_forgetBehind b1012 xn8 T1010 (fun T1013 =>
  ∃ b1014 : Nat, kp_R T1013 1603 a0 = some b1014 ∧
  wX0_add_ b1014 34 y1003 T1013 (fun y1016 T1015 =>
  ∃ b1017 : Nat, kp_R T1015 1603 a0 = some b1017 ∧
  wX0_size b1017 T1015 (fun y1019 T1018 =>
  wX0_set b1017 y1006 y1019 T1018 (fun T1020 =>
  ∃ b1021 : Nat, kp_R T1020 1603 a0 = some b1021 ∧
  wX0_size b1021 T1020 (fun y1023 T1022 =>
  wX8_setRound a0 y1009 y1016 y1023 T1022 (fun T1024 =>
  ∃ b1025 : Nat, kp_R T1024 1603 a0 = some b1025 ∧
  wX0_add_ b1025 26 2 T1024 (fun y1027 T1026 =>
  wX8_ownWays a0 T1026 (fun y1029 T1028 =>
  wX8_troubleOf xn7 T1028 (fun y1031 T1030 =>
  post ((((y1011 &&& (y1029 ^^^ (-1))) &&& (-2)) ||| 1) ||| y1031) T1030)))))))))))))
def wX8_eachLoop (B : Nat → kp_S → (Int32 → kp_S → Prop) → Prop) (a0 : Nat) (w1 : Int64) (x3 : Int32) (S : kp_S) (post : Int32 → kp_S → Prop) : Prop :=
  ∃ b1 : Nat, kp_R S 1600 a0 = some b1 ∧
  wX9_advance b1 S (fun T2 =>
  ∃ b3 : Nat, kp_R T2 1600 a0 = some b3 ∧
  ∀ z4 : Int64, z4 = (kp_J T2 1808 b3) →
  ∀ y5 : Int32, y5 = (kp_I T2 1806 b3) →
  wX9_expect b3 259 T2 (fun T6 =>
  ∃ b7 : Nat, kp_R T6 1600 a0 = some b7 ∧
  wX9_expect b7 307 T6 (fun T8 =>
  ∃ b9 : Nat, kp_R T8 1602 a0 = some b9 ∧
  wX2_whole_t b9 T8 (fun y11 T10 =>
  ∃ b12 : Nat, kp_R T10 1600 a0 = some b12 ∧
  wX9_expect b12 308 T10 (fun T13 =>
  ∃ b14 : Nat, kp_R T13 1602 a0 = some b14 ∧
  wX2_whole_t b14 T13 (fun y16 T15 =>
  ∀ y17 : Int32, y17 = (y11 ||| y16) →
  ∃ b18 : Nat, kp_R T15 1601 a0 = some b18 ∧
  wX5_knownNow b18 T15 (fun y20 T19 =>
  ∃ b21 : Nat, kp_R T19 1600 a0 = some b21 ∧
  wX9_isStopped b21 T19 (fun y23 T22 =>
  ((y23 = 0 →
  ∃ b24 : Nat, kp_R T22 1601 a0 = some b24 ∧
  wX5_tellVariable b24 z4 y5 T22 (fun y26 T25 =>
  wX8_eachLoop_b110 B a0 w1 x3 y17 y20 y26  T25 post)) ∧ (¬ y23 = 0 →
  wX8_eachLoop_b110 B a0 w1 x3 y17 y20 0  T22 post))))))))))
set_option maxHeartbeats 4000000 in
set_option maxRecDepth 100000 in
theorem c_X8_eachLoop (l : Launch) (D : va_G) (cy : Nat → ClassId) (ad : (Nat → Nat) × (Nat → Nat)) (F L : Nat) (B : Nat → kp_S → (Int32 → kp_S → Prop) → Prop) (hB : ∀ (S : kp_S) (a0 : Nat) (post : Int32 → kp_S → Prop), kp_ok S → kp_is S a0 8 → B a0 S post → kp_M l yX8_block cX8_block 5 (some .int) { frames := F, cells := 0, slots := 0, locals := L } D cy ad S [.ref a0] 0 0 (fun A => kp_Qi D cy A S post)) (hF : 191 ≤ F) (hL : 4387 ≤ L) (S : kp_S) (a0 : Nat) (w1 : Int64) (x3 : Int32) (post : Int32 → kp_S → Prop) (hS : kp_ok S) (f_a0 : kp_is S a0 8) (hw : wX8_eachLoop B a0 w1 x3 S post) : kp_M l yX8_eachLoop cX8_eachLoop 15 (some .int) { frames := F + 3, cells := 0, slots := 0, locals := L + 71 } D cy ad S [.ref a0, .long w1, .int x3] 0 0 (fun A => kp_Qi D cy A S post) := by
  refine kp_start (own := RX8) (by decide) rfl (Nat.le_of_ble_eq_true rfl) hS ?_
  intro p e s m below meth c A ls X hr hlocks hname h hl
  have hle : kp_le S S := kp_le.rf
  have hl : lv_has ls 15 [(0, .ref a0), (1, .long w1), (3, .int x3)] := hl
  have j110 : ∀ (xn7 : Int32) (xn8 : Int32) (xt0 : Int32) (Sn : kp_S) (H : Heap) (locs : List Loc) (ls : Array Slot), lv_has ls 15 [(0, .ref a0), (1, .long w1), (3, .int x3), (7, .int xn7), (8, .int xn8)] → kp_H D cy A Sn s.heap H locs → kp_le S Sn → kp_is Sn a0 8 → wX8_eachLoop_b110 B a0 w1 x3 xn7 xn8 xt0  Sn post → W p l e { frames := F + 3, cells := 0, slots := 0, locals := L + 71 } s m ([.ref a0, .long w1, .int x3] : List Value).toArray below meth c H locs 0 0 (MQ below (kp_Qi D cy A S post) ([.ref a0, .long w1, .int x3] : List Value).toArray s 0 0 A) (F0 m 110 ls [.int xt0]) := by
    intro xn7 xn8 xt0 Sn H locs ls hl h hle f_a0 hw
    unfold wX8_eachLoop_b110 at hw
    refine lv_istore (lv' := [(9, .int xt0), (0, .ref a0), (1, .long w1), (3, .int x3), (7, .int xn7), (8, .int xn8)]) X.1 X.2.1 dX8_eachLoop_110 hl (by decide) rfl (fun ls hl => ?_)
    refine lv_aload_n X.1 X.2.1 dX8_eachLoop_112 rfl (lv_at hl 1 rfl) ?_
    obtain ⟨b1001, e_b1001, hw⟩ := hw
    have f_b1001 := h.2.2.2.rf (c := 8) (k := 3) f_a0 (by decide) (by decide) e_b1001 (t := 0) rfl
    refine kp_get X h f_a0 fp_8_27.l (v := .ref b1001) (congrArg va_rf e_b1001) dX8_eachLoop_113 ?_
    refine lv_bipush (v := 33) X.1 X.2.1 dX8_eachLoop_116 (by decide) ?_
    refine lv_iload X.1 X.2.1 dX8_eachLoop_118 (lv_at hl 0 rfl) ?_
    refine kp_calli X h (kp_runV (rm := { frames := 1, cells := 0, slots := 0, locals := 22 }) (mc := 0) (ms := 0) (rest := []) (Qc := fun A => kp_Qi D cy A Sn _) X h (c_X0_add_ l D cy ad Sn b1001 33 xt0 _ h.2.2.2 f_b1001 hw) f_b1001 cv_8_154 ⟨by dsimp only; omega, by dsimp only; omega, rfl, rfl, by dsimp only; omega, by dsimp only; omega⟩ rfl hl.1 rfl (Nat.le_of_ble_eq_true rfl) dX8_eachLoop_120) (fun y1003 T1002 hw l_T1002 H locs h => ?_)
    have f_a0 := l_T1002.is f_a0
    have f_b1001 := l_T1002.is f_b1001
    have hle := hle.tr l_T1002
    refine lv_istore (lv' := [(10, .int y1003), (9, .int xt0), (0, .ref a0), (1, .long w1), (3, .int x3), (7, .int xn7), (8, .int xn8)]) X.1 X.2.1 dX8_eachLoop_123 hl (by decide) rfl (fun ls hl => ?_)
    refine lv_aload_n X.1 X.2.1 dX8_eachLoop_125 rfl (lv_at hl 2 rfl) ?_
    obtain ⟨b1004, e_b1004, hw⟩ := hw
    have f_b1004 := h.2.2.2.rf (c := 8) (k := 3) f_a0 (by decide) (by decide) e_b1004 (t := 0) rfl
    refine kp_get X h f_a0 fp_8_27.l (v := .ref b1004) (congrArg va_rf e_b1004) dX8_eachLoop_126 ?_
    refine lv_iconst (v := 0) X.1 X.2.1 dX8_eachLoop_129 (by decide) ?_
    refine kp_calli X h (kp_runV (rm := { frames := 0, cells := 0, slots := 0, locals := 0 }) (mc := 0) (ms := 0) (rest := []) (Qc := fun A => kp_Qi D cy A T1002 _) X h (c_X0_add l D cy ad T1002 b1004 0 _ h.2.2.2 f_b1004 hw) f_b1004 cv_8_123 ⟨by dsimp only; omega, by dsimp only; omega, rfl, rfl, by dsimp only; omega, by dsimp only; omega⟩ rfl hl.1 rfl (Nat.le_of_ble_eq_true rfl) dX8_eachLoop_130) (fun y1006 T1005 hw l_T1005 H locs h => ?_)
    have f_a0 := l_T1005.is f_a0
    have f_b1001 := l_T1005.is f_b1001
    have f_b1004 := l_T1005.is f_b1004
    have hle := hle.tr l_T1005
    refine lv_istore (lv' := [(11, .int y1006), (10, .int y1003), (9, .int xt0), (0, .ref a0), (1, .long w1), (3, .int x3), (7, .int xn7), (8, .int xn8)]) X.1 X.2.1 dX8_eachLoop_133 hl (by decide) rfl (fun ls hl => ?_)
    refine lv_aload_n X.1 X.2.1 dX8_eachLoop_135 rfl (lv_at hl 3 rfl) ?_
    obtain ⟨b1007, e_b1007, hw⟩ := hw
    have f_b1007 := h.2.2.2.rf (c := 8) (k := 3) f_a0 (by decide) (by decide) e_b1007 (t := 0) rfl
    refine kp_get X h f_a0 fp_8_27.l (v := .ref b1007) (congrArg va_rf e_b1007) dX8_eachLoop_136 ?_
    refine lv_bipush (v := 46) X.1 X.2.1 dX8_eachLoop_139 (by decide) ?_
    refine lv_iload_n X.1 X.2.1 dX8_eachLoop_141 rfl (lv_at hl 5 rfl) ?_
    refine kp_calli X h (kp_runV (rm := { frames := 2, cells := 0, slots := 0, locals := 45 }) (mc := 0) (ms := 0) (rest := []) (Qc := fun A => kp_Qi D cy A T1005 _) X h (c_X0_addPart l D cy ad T1005 b1007 46 x3 _ h.2.2.2 f_b1007 hw) f_b1007 cv_8_258 ⟨by dsimp only; omega, by dsimp only; omega, rfl, rfl, by dsimp only; omega, by dsimp only; omega⟩ rfl hl.1 rfl (Nat.le_of_ble_eq_true rfl) dX8_eachLoop_142) (fun y1009 T1008 hw l_T1008 H locs h => ?_)
    have f_a0 := l_T1008.is f_a0
    have f_b1001 := l_T1008.is f_b1001
    have f_b1004 := l_T1008.is f_b1004
    have f_b1007 := l_T1008.is f_b1007
    have hle := hle.tr l_T1008
    refine lv_istore (lv' := [(12, .int y1009), (11, .int y1006), (10, .int y1003), (9, .int xt0), (0, .ref a0), (1, .long w1), (3, .int x3), (7, .int xn7), (8, .int xn8)]) X.1 X.2.1 dX8_eachLoop_145 hl (by decide) rfl (fun ls hl => ?_)
    refine lv_aload_n X.1 X.2.1 dX8_eachLoop_147 rfl (lv_at hl 4 rfl) ?_
    refine lv_lload_n X.1 X.2.1 dX8_eachLoop_148 rfl (lv_at hl 5 rfl) ?_
    refine lv_iload X.1 X.2.1 dX8_eachLoop_149 (lv_at hl 0 rfl) ?_
    refine kp_calli X h (kp_runV (rm := { frames := F + 2, cells := 0, slots := 0, locals := L + 47 }) (mc := 0) (ms := 0) (rest := []) (Qc := fun A => kp_Qi D cy A T1008 _) X h (c_X8_round l D cy ad F L B hB hF hL T1008 a0 w1 y1009 _ h.2.2.2 f_a0 hw) f_a0 cv_8_261 ⟨by dsimp only; omega, by dsimp only; omega, rfl, rfl, by dsimp only; omega, by dsimp only; omega⟩ rfl hl.1 rfl (Nat.le_of_ble_eq_true rfl) dX8_eachLoop_151) (fun y1011 T1010 hw l_T1010 H locs h => ?_)
    have f_a0 := l_T1010.is f_a0
    have f_b1001 := l_T1010.is f_b1001
    have f_b1004 := l_T1010.is f_b1004
    have f_b1007 := l_T1010.is f_b1007
    have hle := hle.tr l_T1010
    refine lv_istore (lv' := [(13, .int y1011), (12, .int y1009), (11, .int y1006), (10, .int y1003), (9, .int xt0), (0, .ref a0), (1, .long w1), (3, .int x3), (7, .int xn7), (8, .int xn8)]) X.1 X.2.1 dX8_eachLoop_154 hl (by decide) rfl (fun ls hl => ?_)
    refine lv_aload_n X.1 X.2.1 dX8_eachLoop_156 rfl (lv_at hl 5 rfl) ?_
    obtain ⟨b1012, e_b1012, hw⟩ := hw
    have f_b1012 := h.2.2.2.rf (c := 8) (k := 1) f_a0 (by decide) (by decide) e_b1012 (t := 5) rfl
    refine kp_get X h f_a0 ff_8_23.l (v := .ref b1012) (congrArg va_rf e_b1012) dX8_eachLoop_157 ?_
    refine lv_iload X.1 X.2.1 dX8_eachLoop_160 (lv_at hl 9 rfl) ?_
    refine kp_callv X h (kp_runV (rm := { frames := 0, cells := 0, slots := 0, locals := 0 }) (mc := 0) (ms := 0) (rest := []) (Qc := fun A => kp_Qv D cy A T1010 _) X h (c_X5_forgetBehind l D cy ad T1010 b1012 xn8 _ h.2.2.2 f_b1012 hw) f_b1012 cv_8_148 ⟨by dsimp only; omega, by dsimp only; omega, rfl, rfl, by dsimp only; omega, by dsimp only; omega⟩ rfl hl.1 rfl (Nat.le_of_ble_eq_true rfl) dX8_eachLoop_162) (fun T1013 hw l_T1013 H locs h => ?_)
    have f_a0 := l_T1013.is f_a0
    have f_b1001 := l_T1013.is f_b1001
    have f_b1004 := l_T1013.is f_b1004
    have f_b1007 := l_T1013.is f_b1007
    have f_b1012 := l_T1013.is f_b1012
    have hle := hle.tr l_T1013
    refine lv_aload_n X.1 X.2.1 dX8_eachLoop_165 rfl (lv_at hl 5 rfl) ?_
    obtain ⟨b1014, e_b1014, hw⟩ := hw
    have f_b1014 := h.2.2.2.rf (c := 8) (k := 3) f_a0 (by decide) (by decide) e_b1014 (t := 0) rfl
    refine kp_get X h f_a0 fp_8_27.l (v := .ref b1014) (congrArg va_rf e_b1014) dX8_eachLoop_166 ?_
    refine lv_bipush (v := 34) X.1 X.2.1 dX8_eachLoop_169 (by decide) ?_
    refine lv_iload X.1 X.2.1 dX8_eachLoop_171 (lv_at hl 3 rfl) ?_
    refine kp_calli X h (kp_runV (rm := { frames := 1, cells := 0, slots := 0, locals := 22 }) (mc := 0) (ms := 0) (rest := []) (Qc := fun A => kp_Qi D cy A T1013 _) X h (c_X0_add_ l D cy ad T1013 b1014 34 y1003 _ h.2.2.2 f_b1014 hw) f_b1014 cv_8_154 ⟨by dsimp only; omega, by dsimp only; omega, rfl, rfl, by dsimp only; omega, by dsimp only; omega⟩ rfl hl.1 rfl (Nat.le_of_ble_eq_true rfl) dX8_eachLoop_173) (fun y1016 T1015 hw l_T1015 H locs h => ?_)
    have f_a0 := l_T1015.is f_a0
    have f_b1001 := l_T1015.is f_b1001
    have f_b1004 := l_T1015.is f_b1004
    have f_b1007 := l_T1015.is f_b1007
    have f_b1012 := l_T1015.is f_b1012
    have f_b1014 := l_T1015.is f_b1014
    have hle := hle.tr l_T1015
    refine lv_istore (lv' := [(14, .int y1016), (13, .int y1011), (12, .int y1009), (11, .int y1006), (10, .int y1003), (9, .int xt0), (0, .ref a0), (1, .long w1), (3, .int x3), (7, .int xn7), (8, .int xn8)]) X.1 X.2.1 dX8_eachLoop_176 hl (by decide) rfl (fun ls hl => ?_)
    refine lv_aload_n X.1 X.2.1 dX8_eachLoop_178 rfl (lv_at hl 6 rfl) ?_
    obtain ⟨b1017, e_b1017, hw⟩ := hw
    have f_b1017 := h.2.2.2.rf (c := 8) (k := 3) f_a0 (by decide) (by decide) e_b1017 (t := 0) rfl
    refine kp_get X h f_a0 fp_8_27.l (v := .ref b1017) (congrArg va_rf e_b1017) dX8_eachLoop_179 ?_
    refine lv_iload X.1 X.2.1 dX8_eachLoop_182 (lv_at hl 3 rfl) ?_
    refine lv_aload_n X.1 X.2.1 dX8_eachLoop_184 rfl (lv_at hl 6 rfl) ?_
    refine kp_get X h f_a0 fp_8_27.l (v := .ref b1017) (congrArg va_rf e_b1017) dX8_eachLoop_185 ?_
    refine kp_calli X h (kp_runV (rm := { frames := 0, cells := 0, slots := 0, locals := 0 }) (mc := 0) (ms := 0) (rest := [.int y1006, .ref b1017]) (Qc := fun A => kp_Qi D cy A T1015 _) X h (c_X0_size l D cy ad T1015 b1017 _ h.2.2.2 f_b1017 hw) f_b1017 cv_8_234 ⟨by dsimp only; omega, by dsimp only; omega, rfl, rfl, by dsimp only; omega, by dsimp only; omega⟩ rfl hl.1 rfl (Nat.le_of_ble_eq_true rfl) dX8_eachLoop_188) (fun y1019 T1018 hw l_T1018 H locs h => ?_)
    have f_a0 := l_T1018.is f_a0
    have f_b1001 := l_T1018.is f_b1001
    have f_b1004 := l_T1018.is f_b1004
    have f_b1007 := l_T1018.is f_b1007
    have f_b1012 := l_T1018.is f_b1012
    have f_b1014 := l_T1018.is f_b1014
    have f_b1017 := l_T1018.is f_b1017
    have hle := hle.tr l_T1018
    refine kp_callv X h (kp_runV (rm := { frames := 0, cells := 0, slots := 0, locals := 0 }) (mc := 0) (ms := 0) (rest := []) (Qc := fun A => kp_Qv D cy A T1018 _) X h (c_X0_set l D cy ad T1018 b1017 y1006 y1019 _ h.2.2.2 f_b1017 hw) f_b1017 cv_8_237 ⟨by dsimp only; omega, by dsimp only; omega, rfl, rfl, by dsimp only; omega, by dsimp only; omega⟩ rfl hl.1 rfl (Nat.le_of_ble_eq_true rfl) dX8_eachLoop_191) (fun T1020 hw l_T1020 H locs h => ?_)
    have f_a0 := l_T1020.is f_a0
    have f_b1001 := l_T1020.is f_b1001
    have f_b1004 := l_T1020.is f_b1004
    have f_b1007 := l_T1020.is f_b1007
    have f_b1012 := l_T1020.is f_b1012
    have f_b1014 := l_T1020.is f_b1014
    have f_b1017 := l_T1020.is f_b1017
    have hle := hle.tr l_T1020
    refine lv_aload_n X.1 X.2.1 dX8_eachLoop_194 rfl (lv_at hl 6 rfl) ?_
    refine lv_iload X.1 X.2.1 dX8_eachLoop_195 (lv_at hl 2 rfl) ?_
    refine lv_iload X.1 X.2.1 dX8_eachLoop_197 (lv_at hl 0 rfl) ?_
    refine lv_aload_n X.1 X.2.1 dX8_eachLoop_199 rfl (lv_at hl 6 rfl) ?_
    obtain ⟨b1021, e_b1021, hw⟩ := hw
    have f_b1021 := h.2.2.2.rf (c := 8) (k := 3) f_a0 (by decide) (by decide) e_b1021 (t := 0) rfl
    refine kp_get X h f_a0 fp_8_27.l (v := .ref b1021) (congrArg va_rf e_b1021) dX8_eachLoop_200 ?_
    refine kp_calli X h (kp_runV (rm := { frames := 0, cells := 0, slots := 0, locals := 0 }) (mc := 0) (ms := 0) (rest := [.int y1016, .int y1009, .ref a0]) (Qc := fun A => kp_Qi D cy A T1020 _) X h (c_X0_size l D cy ad T1020 b1021 _ h.2.2.2 f_b1021 hw) f_b1021 cv_8_234 ⟨by dsimp only; omega, by dsimp only; omega, rfl, rfl, by dsimp only; omega, by dsimp only; omega⟩ rfl hl.1 rfl (Nat.le_of_ble_eq_true rfl) dX8_eachLoop_203) (fun y1023 T1022 hw l_T1022 H locs h => ?_)
    have f_a0 := l_T1022.is f_a0
    have f_b1001 := l_T1022.is f_b1001
    have f_b1004 := l_T1022.is f_b1004
    have f_b1007 := l_T1022.is f_b1007
    have f_b1012 := l_T1022.is f_b1012
    have f_b1014 := l_T1022.is f_b1014
    have f_b1017 := l_T1022.is f_b1017
    have f_b1021 := l_T1022.is f_b1021
    have hle := hle.tr l_T1022
    refine kp_callv X h (kp_runV (rm := { frames := 1, cells := 0, slots := 0, locals := 22 }) (mc := 0) (ms := 0) (rest := []) (Qc := fun A => kp_Qv D cy A T1022 _) X h (c_X8_setRound l D cy ad T1022 a0 y1009 y1016 y1023 _ h.2.2.2 f_a0 hw) f_a0 cv_8_264 ⟨by dsimp only; omega, by dsimp only; omega, rfl, rfl, by dsimp only; omega, by dsimp only; omega⟩ rfl hl.1 rfl (Nat.le_of_ble_eq_true rfl) dX8_eachLoop_206) (fun T1024 hw l_T1024 H locs h => ?_)
    have f_a0 := l_T1024.is f_a0
    have f_b1001 := l_T1024.is f_b1001
    have f_b1004 := l_T1024.is f_b1004
    have f_b1007 := l_T1024.is f_b1007
    have f_b1012 := l_T1024.is f_b1012
    have f_b1014 := l_T1024.is f_b1014
    have f_b1017 := l_T1024.is f_b1017
    have f_b1021 := l_T1024.is f_b1021
    have hle := hle.tr l_T1024
    refine lv_aload_n X.1 X.2.1 dX8_eachLoop_209 rfl (lv_at hl 6 rfl) ?_
    obtain ⟨b1025, e_b1025, hw⟩ := hw
    have f_b1025 := h.2.2.2.rf (c := 8) (k := 3) f_a0 (by decide) (by decide) e_b1025 (t := 0) rfl
    refine kp_get X h f_a0 fp_8_27.l (v := .ref b1025) (congrArg va_rf e_b1025) dX8_eachLoop_210 ?_
    refine lv_bipush (v := 26) X.1 X.2.1 dX8_eachLoop_213 (by decide) ?_
    refine lv_iconst (v := 2) X.1 X.2.1 dX8_eachLoop_215 (by decide) ?_
    refine kp_calli X h (kp_runV (rm := { frames := 1, cells := 0, slots := 0, locals := 22 }) (mc := 0) (ms := 0) (rest := []) (Qc := fun A => kp_Qi D cy A T1024 _) X h (c_X0_add_ l D cy ad T1024 b1025 26 2 _ h.2.2.2 f_b1025 hw) f_b1025 cv_8_154 ⟨by dsimp only; omega, by dsimp only; omega, rfl, rfl, by dsimp only; omega, by dsimp only; omega⟩ rfl hl.1 rfl (Nat.le_of_ble_eq_true rfl) dX8_eachLoop_216) (fun y1027 T1026 hw l_T1026 H locs h => ?_)
    have f_a0 := l_T1026.is f_a0
    have f_b1001 := l_T1026.is f_b1001
    have f_b1004 := l_T1026.is f_b1004
    have f_b1007 := l_T1026.is f_b1007
    have f_b1012 := l_T1026.is f_b1012
    have f_b1014 := l_T1026.is f_b1014
    have f_b1017 := l_T1026.is f_b1017
    have f_b1021 := l_T1026.is f_b1021
    have f_b1025 := l_T1026.is f_b1025
    have hle := hle.tr l_T1026
    refine lv_pop X.1 X.2.1 dX8_eachLoop_219 rfl ?_
    refine lv_iload X.1 X.2.1 dX8_eachLoop_220 (lv_at hl 1 rfl) ?_
    refine lv_aload_n X.1 X.2.1 dX8_eachLoop_222 rfl (lv_at hl 6 rfl) ?_
    refine kp_calli X h (kp_runV (rm := { frames := 1, cells := 0, slots := 0, locals := 20 }) (mc := 0) (ms := 0) (rest := [.int y1011]) (Qc := fun A => kp_Qi D cy A T1026 _) X h (c_X8_ownWays l D cy ad T1026 a0 _ h.2.2.2 f_a0 hw) f_a0 cv_8_267 ⟨by dsimp only; omega, by dsimp only; omega, rfl, rfl, by dsimp only; omega, by dsimp only; omega⟩ rfl hl.1 rfl (Nat.le_of_ble_eq_true rfl) dX8_eachLoop_223) (fun y1029 T1028 hw l_T1028 H locs h => ?_)
    have f_a0 := l_T1028.is f_a0
    have f_b1001 := l_T1028.is f_b1001
    have f_b1004 := l_T1028.is f_b1004
    have f_b1007 := l_T1028.is f_b1007
    have f_b1012 := l_T1028.is f_b1012
    have f_b1014 := l_T1028.is f_b1014
    have f_b1017 := l_T1028.is f_b1017
    have f_b1021 := l_T1028.is f_b1021
    have f_b1025 := l_T1028.is f_b1025
    have hle := hle.tr l_T1028
    refine lv_iconst (v := (-1)) X.1 X.2.1 dX8_eachLoop_226 (by decide) ?_
    refine lv_ixor X.1 X.2.1 dX8_eachLoop_227 ?_
    refine lv_iand X.1 X.2.1 dX8_eachLoop_228 ?_
    refine lv_bipush (v := (-2)) X.1 X.2.1 dX8_eachLoop_229 (by decide) ?_
    refine lv_iand X.1 X.2.1 dX8_eachLoop_231 ?_
    refine lv_iconst (v := 1) X.1 X.2.1 dX8_eachLoop_232 (by decide) ?_
    refine lv_ior X.1 X.2.1 dX8_eachLoop_233 ?_
    refine lv_iload X.1 X.2.1 dX8_eachLoop_234 (lv_at hl 9 rfl) ?_
    refine kp_calli X h (kp_runS (rm := { frames := 0, cells := 0, slots := 0, locals := 0 }) (mc := 0) (ms := 0) (rest := [.int (((y1011 &&& (y1029 ^^^ (-1))) &&& (-2)) ||| 1)]) (Qc := fun A => kp_Qi D cy A T1028 _) X h (c_X8_troubleOf l D cy ad T1028 xn7 _ h.2.2.2  hw) cs_8_213 ⟨by dsimp only; omega, by dsimp only; omega, rfl, rfl, by dsimp only; omega, by dsimp only; omega⟩ rfl hl.1 rfl (Nat.le_of_ble_eq_true rfl) dX8_eachLoop_236) (fun y1031 T1030 hw l_T1030 H locs h => ?_)
    have f_a0 := l_T1030.is f_a0
    have f_b1001 := l_T1030.is f_b1001
    have f_b1004 := l_T1030.is f_b1004
    have f_b1007 := l_T1030.is f_b1007
    have f_b1012 := l_T1030.is f_b1012
    have f_b1014 := l_T1030.is f_b1014
    have f_b1017 := l_T1030.is f_b1017
    have f_b1021 := l_T1030.is f_b1021
    have f_b1025 := l_T1030.is f_b1025
    have hle := hle.tr l_T1030
    refine lv_ior X.1 X.2.1 dX8_eachLoop_239 ?_
    exact kp_reti X hr hlocks h hle rfl hw dX8_eachLoop_240
  unfold wX8_eachLoop at hw
  have h : kp_H D cy A S s.heap s.heap [] := h
  revert h
  intro h
  refine lv_aload_n X.1 X.2.1 dX8_eachLoop_0 rfl (lv_at hl 0 rfl) ?_
  obtain ⟨b1, e_b1, hw⟩ := hw
  have f_b1 := h.2.2.2.rf (c := 8) (k := 0) f_a0 (by decide) (by decide) e_b1 (t := 9) rfl
  refine kp_get X h f_a0 ff_8_14.l (v := .ref b1) (congrArg va_rf e_b1) dX8_eachLoop_1 ?_
  refine kp_callv X h (kp_runV (rm := { frames := 5, cells := 0, slots := 0, locals := 113 }) (mc := 0) (ms := 0) (rest := []) (Qc := fun A => kp_Qv D cy A S _) X h (c_X9_advance l D cy ad S b1 _ h.2.2.2 f_b1 hw) f_b1 cv_8_75 ⟨by dsimp only; omega, by dsimp only; omega, rfl, rfl, by dsimp only; omega, by dsimp only; omega⟩ rfl hl.1 rfl (Nat.le_of_ble_eq_true rfl) dX8_eachLoop_4) (fun T2 hw l_T2 H locs h => ?_)
  have f_a0 := l_T2.is f_a0
  have f_b1 := l_T2.is f_b1
  have hle := hle.tr l_T2
  refine lv_aload_n X.1 X.2.1 dX8_eachLoop_7 rfl (lv_at hl 0 rfl) ?_
  obtain ⟨b3, e_b3, hw⟩ := hw
  have f_b3 := h.2.2.2.rf (c := 8) (k := 0) f_a0 (by decide) (by decide) e_b3 (t := 9) rfl
  refine kp_get X h f_a0 ff_8_14.l (v := .ref b3) (congrArg va_rf e_b3) dX8_eachLoop_8 ?_
  refine kp_get X h f_b3 fp_8_78.l (v := .long (kp_J T2 1808 b3)) rfl dX8_eachLoop_11 ?_
  refine lv_topl (fun z4 e_z4 => ?_)
  have hw := hw z4 e_z4
  refine lv_lstore (lv' := [(4, .long z4), (0, .ref a0), (1, .long w1), (3, .int x3)]) X.1 X.2.1 dX8_eachLoop_14 hl (by decide) rfl (fun ls hl => ?_)
  refine lv_aload_n X.1 X.2.1 dX8_eachLoop_16 rfl (lv_at hl 1 rfl) ?_
  refine kp_get X h f_a0 ff_8_14.l (v := .ref b3) (congrArg va_rf e_b3) dX8_eachLoop_17 ?_
  refine kp_get X h f_b3 fp_8_93.l (v := .int (kp_I T2 1806 b3)) rfl dX8_eachLoop_20 ?_
  refine lv_topi (fun y5 e_y5 => ?_)
  have hw := hw y5 e_y5
  refine lv_istore (lv' := [(6, .int y5), (4, .long z4), (0, .ref a0), (1, .long w1), (3, .int x3)]) X.1 X.2.1 dX8_eachLoop_23 hl (by decide) rfl (fun ls hl => ?_)
  refine lv_aload_n X.1 X.2.1 dX8_eachLoop_25 rfl (lv_at hl 2 rfl) ?_
  refine kp_get X h f_a0 ff_8_14.l (v := .ref b3) (congrArg va_rf e_b3) dX8_eachLoop_26 ?_
  refine lv_sipush (v := 259) X.1 X.2.1 dX8_eachLoop_29 (by decide) ?_
  refine kp_callv X h (kp_runV (rm := { frames := 6, cells := 0, slots := 0, locals := 134 }) (mc := 0) (ms := 0) (rest := []) (Qc := fun A => kp_Qv D cy A T2 _) X h (c_X9_expect l D cy ad T2 b3 259 _ h.2.2.2 f_b3 hw) f_b3 cv_8_90 ⟨by dsimp only; omega, by dsimp only; omega, rfl, rfl, by dsimp only; omega, by dsimp only; omega⟩ rfl hl.1 rfl (Nat.le_of_ble_eq_true rfl) dX8_eachLoop_32) (fun T6 hw l_T6 H locs h => ?_)
  have f_a0 := l_T6.is f_a0
  have f_b1 := l_T6.is f_b1
  have f_b3 := l_T6.is f_b3
  have hle := hle.tr l_T6
  refine lv_aload_n X.1 X.2.1 dX8_eachLoop_35 rfl (lv_at hl 2 rfl) ?_
  obtain ⟨b7, e_b7, hw⟩ := hw
  have f_b7 := h.2.2.2.rf (c := 8) (k := 0) f_a0 (by decide) (by decide) e_b7 (t := 9) rfl
  refine kp_get X h f_a0 ff_8_14.l (v := .ref b7) (congrArg va_rf e_b7) dX8_eachLoop_36 ?_
  refine lv_sipush (v := 307) X.1 X.2.1 dX8_eachLoop_39 (by decide) ?_
  refine kp_callv X h (kp_runV (rm := { frames := 6, cells := 0, slots := 0, locals := 134 }) (mc := 0) (ms := 0) (rest := []) (Qc := fun A => kp_Qv D cy A T6 _) X h (c_X9_expect l D cy ad T6 b7 307 _ h.2.2.2 f_b7 hw) f_b7 cv_8_90 ⟨by dsimp only; omega, by dsimp only; omega, rfl, rfl, by dsimp only; omega, by dsimp only; omega⟩ rfl hl.1 rfl (Nat.le_of_ble_eq_true rfl) dX8_eachLoop_42) (fun T8 hw l_T8 H locs h => ?_)
  have f_a0 := l_T8.is f_a0
  have f_b1 := l_T8.is f_b1
  have f_b3 := l_T8.is f_b3
  have f_b7 := l_T8.is f_b7
  have hle := hle.tr l_T8
  refine lv_aload_n X.1 X.2.1 dX8_eachLoop_45 rfl (lv_at hl 2 rfl) ?_
  obtain ⟨b9, e_b9, hw⟩ := hw
  have f_b9 := h.2.2.2.rf (c := 8) (k := 2) f_a0 (by decide) (by decide) e_b9 (t := 2) rfl
  refine kp_get X h f_a0 ff_8_36.l (v := .ref b9) (congrArg va_rf e_b9) dX8_eachLoop_46 ?_
  refine kp_calli X h (kp_runV (rm := { frames := 189, cells := 0, slots := 0, locals := 4339 }) (mc := 0) (ms := 0) (rest := []) (Qc := fun A => kp_Qi D cy A T8 _) X h (c_X2_whole_t l D cy ad T8 b9 _ h.2.2.2 f_b9 hw) f_b9 cv_8_210 ⟨by dsimp only; omega, by dsimp only; omega, rfl, rfl, by dsimp only; omega, by dsimp only; omega⟩ rfl hl.1 rfl (Nat.le_of_ble_eq_true rfl) dX8_eachLoop_49) (fun y11 T10 hw l_T10 H locs h => ?_)
  have f_a0 := l_T10.is f_a0
  have f_b1 := l_T10.is f_b1
  have f_b3 := l_T10.is f_b3
  have f_b7 := l_T10.is f_b7
  have f_b9 := l_T10.is f_b9
  have hle := hle.tr l_T10
  refine lv_istore (lv' := [(7, .int y11), (6, .int y5), (4, .long z4), (0, .ref a0), (1, .long w1), (3, .int x3)]) X.1 X.2.1 dX8_eachLoop_52 hl (by decide) rfl (fun ls hl => ?_)
  refine lv_aload_n X.1 X.2.1 dX8_eachLoop_54 rfl (lv_at hl 3 rfl) ?_
  obtain ⟨b12, e_b12, hw⟩ := hw
  have f_b12 := h.2.2.2.rf (c := 8) (k := 0) f_a0 (by decide) (by decide) e_b12 (t := 9) rfl
  refine kp_get X h f_a0 ff_8_14.l (v := .ref b12) (congrArg va_rf e_b12) dX8_eachLoop_55 ?_
  refine lv_sipush (v := 308) X.1 X.2.1 dX8_eachLoop_58 (by decide) ?_
  refine kp_callv X h (kp_runV (rm := { frames := 6, cells := 0, slots := 0, locals := 134 }) (mc := 0) (ms := 0) (rest := []) (Qc := fun A => kp_Qv D cy A T10 _) X h (c_X9_expect l D cy ad T10 b12 308 _ h.2.2.2 f_b12 hw) f_b12 cv_8_90 ⟨by dsimp only; omega, by dsimp only; omega, rfl, rfl, by dsimp only; omega, by dsimp only; omega⟩ rfl hl.1 rfl (Nat.le_of_ble_eq_true rfl) dX8_eachLoop_61) (fun T13 hw l_T13 H locs h => ?_)
  have f_a0 := l_T13.is f_a0
  have f_b1 := l_T13.is f_b1
  have f_b3 := l_T13.is f_b3
  have f_b7 := l_T13.is f_b7
  have f_b9 := l_T13.is f_b9
  have f_b12 := l_T13.is f_b12
  have hle := hle.tr l_T13
  refine lv_iload X.1 X.2.1 dX8_eachLoop_64 (lv_at hl 0 rfl) ?_
  refine lv_aload_n X.1 X.2.1 dX8_eachLoop_66 rfl (lv_at hl 3 rfl) ?_
  obtain ⟨b14, e_b14, hw⟩ := hw
  have f_b14 := h.2.2.2.rf (c := 8) (k := 2) f_a0 (by decide) (by decide) e_b14 (t := 2) rfl
  refine kp_get X h f_a0 ff_8_36.l (v := .ref b14) (congrArg va_rf e_b14) dX8_eachLoop_67 ?_
  refine kp_calli X h (kp_runV (rm := { frames := 189, cells := 0, slots := 0, locals := 4339 }) (mc := 0) (ms := 0) (rest := [.int y11]) (Qc := fun A => kp_Qi D cy A T13 _) X h (c_X2_whole_t l D cy ad T13 b14 _ h.2.2.2 f_b14 hw) f_b14 cv_8_210 ⟨by dsimp only; omega, by dsimp only; omega, rfl, rfl, by dsimp only; omega, by dsimp only; omega⟩ rfl hl.1 rfl (Nat.le_of_ble_eq_true rfl) dX8_eachLoop_70) (fun y16 T15 hw l_T15 H locs h => ?_)
  have f_a0 := l_T15.is f_a0
  have f_b1 := l_T15.is f_b1
  have f_b3 := l_T15.is f_b3
  have f_b7 := l_T15.is f_b7
  have f_b9 := l_T15.is f_b9
  have f_b12 := l_T15.is f_b12
  have f_b14 := l_T15.is f_b14
  have hle := hle.tr l_T15
  refine lv_ior X.1 X.2.1 dX8_eachLoop_73 ?_
  refine lv_topi (fun y17 e_y17 => ?_)
  have hw := hw y17 e_y17
  refine lv_istore (lv' := [(7, .int y17), (6, .int y5), (4, .long z4), (0, .ref a0), (1, .long w1), (3, .int x3)]) X.1 X.2.1 dX8_eachLoop_74 hl (by decide) rfl (fun ls hl => ?_)
  refine lv_aload_n X.1 X.2.1 dX8_eachLoop_76 rfl (lv_at hl 3 rfl) ?_
  obtain ⟨b18, e_b18, hw⟩ := hw
  have f_b18 := h.2.2.2.rf (c := 8) (k := 1) f_a0 (by decide) (by decide) e_b18 (t := 5) rfl
  refine kp_get X h f_a0 ff_8_23.l (v := .ref b18) (congrArg va_rf e_b18) dX8_eachLoop_77 ?_
  refine kp_calli X h (kp_runV (rm := { frames := 0, cells := 0, slots := 0, locals := 0 }) (mc := 0) (ms := 0) (rest := []) (Qc := fun A => kp_Qi D cy A T15 _) X h (c_X5_knownNow l D cy ad T15 b18 _ h.2.2.2 f_b18 hw) f_b18 cv_8_140 ⟨by dsimp only; omega, by dsimp only; omega, rfl, rfl, by dsimp only; omega, by dsimp only; omega⟩ rfl hl.1 rfl (Nat.le_of_ble_eq_true rfl) dX8_eachLoop_80) (fun y20 T19 hw l_T19 H locs h => ?_)
  have f_a0 := l_T19.is f_a0
  have f_b1 := l_T19.is f_b1
  have f_b3 := l_T19.is f_b3
  have f_b7 := l_T19.is f_b7
  have f_b9 := l_T19.is f_b9
  have f_b12 := l_T19.is f_b12
  have f_b14 := l_T19.is f_b14
  have f_b18 := l_T19.is f_b18
  have hle := hle.tr l_T19
  refine lv_istore (lv' := [(8, .int y20), (7, .int y17), (6, .int y5), (4, .long z4), (0, .ref a0), (1, .long w1), (3, .int x3)]) X.1 X.2.1 dX8_eachLoop_83 hl (by decide) rfl (fun ls hl => ?_)
  refine lv_aload_n X.1 X.2.1 dX8_eachLoop_85 rfl (lv_at hl 4 rfl) ?_
  obtain ⟨b21, e_b21, hw⟩ := hw
  have f_b21 := h.2.2.2.rf (c := 8) (k := 0) f_a0 (by decide) (by decide) e_b21 (t := 9) rfl
  refine kp_get X h f_a0 ff_8_14.l (v := .ref b21) (congrArg va_rf e_b21) dX8_eachLoop_86 ?_
  refine kp_calli X h (kp_runV (rm := { frames := 0, cells := 0, slots := 0, locals := 0 }) (mc := 0) (ms := 0) (rest := []) (Qc := fun A => kp_Qi D cy A T19 _) X h (c_X9_isStopped l D cy ad T19 b21 _ h.2.2.2 f_b21 hw) f_b21 cv_8_96 ⟨by dsimp only; omega, by dsimp only; omega, rfl, rfl, by dsimp only; omega, by dsimp only; omega⟩ rfl hl.1 rfl (Nat.le_of_ble_eq_true rfl) dX8_eachLoop_89) (fun y23 T22 hw l_T22 H locs h => ?_)
  have f_a0 := l_T22.is f_a0
  have f_b1 := l_T22.is f_b1
  have f_b3 := l_T22.is f_b3
  have f_b7 := l_T22.is f_b7
  have f_b9 := l_T22.is f_b9
  have f_b12 := l_T22.is f_b12
  have f_b14 := l_T22.is f_b14
  have f_b18 := l_T22.is f_b18
  have f_b21 := l_T22.is f_b21
  have hle := hle.tr l_T22
  refine lv_if_eq (tgt := 99) X.1 X.2.1 dX8_eachLoop_92 (by decide) (fun c27 => ?_) (fun c27 => ?_)
  · have hw := hw.1 c27
    refine lv_aload_n X.1 X.2.1 dX8_eachLoop_99 rfl (lv_at hl 4 rfl) ?_
    obtain ⟨b24, e_b24, hw⟩ := hw
    have f_b24 := h.2.2.2.rf (c := 8) (k := 1) f_a0 (by decide) (by decide) e_b24 (t := 5) rfl
    refine kp_get X h f_a0 ff_8_23.l (v := .ref b24) (congrArg va_rf e_b24) dX8_eachLoop_100 ?_
    refine lv_lload X.1 X.2.1 dX8_eachLoop_103 (lv_at hl 3 rfl) ?_
    refine lv_iload X.1 X.2.1 dX8_eachLoop_105 (lv_at hl 2 rfl) ?_
    refine kp_calli X h (kp_runV (rm := { frames := 1, cells := 0, slots := 0, locals := 23 }) (mc := 0) (ms := 0) (rest := []) (Qc := fun A => kp_Qi D cy A T22 _) X h (c_X5_tellVariable l D cy ad T22 b24 z4 y5 _ h.2.2.2 f_b24 hw) f_b24 cv_8_216 ⟨by dsimp only; omega, by dsimp only; omega, rfl, rfl, by dsimp only; omega, by dsimp only; omega⟩ rfl hl.1 rfl (Nat.le_of_ble_eq_true rfl) dX8_eachLoop_107) (fun y26 T25 hw l_T25 H locs h => ?_)
    have f_a0 := l_T25.is f_a0
    have f_b1 := l_T25.is f_b1
    have f_b3 := l_T25.is f_b3
    have f_b7 := l_T25.is f_b7
    have f_b9 := l_T25.is f_b9
    have f_b12 := l_T25.is f_b12
    have f_b14 := l_T25.is f_b14
    have f_b18 := l_T25.is f_b18
    have f_b21 := l_T25.is f_b21
    have f_b24 := l_T25.is f_b24
    have hle := hle.tr l_T25
    exact j110 y17 y20 y26 T25 _ _ ls (lv_sub hl [4, 5, 6, 1, 0] rfl) h hle f_a0 hw
  · have hw := hw.2 c27
    refine lv_iconst (v := 0) X.1 X.2.1 dX8_eachLoop_95 (by decide) ?_
    refine lv_goto (tgt := 110) X.1 X.2.1 dX8_eachLoop_96 (by decide) ?_
    exact j110 y17 y20 0 T22 _ _ ls (lv_sub hl [4, 5, 6, 1, 0] rfl) h hle f_a0 hw
theorem dX8_repeatLoop_0 : decode cX8_repeatLoop 0 = .ok (.aload_n 0, 1) := by decide +kernel
theorem dX8_repeatLoop_1 : decode cX8_repeatLoop 1 = .ok (.getfield 14, 3) := by decide +kernel
theorem dX8_repeatLoop_4 : decode cX8_repeatLoop 4 = .ok (.invokevirtual 75, 3) := by decide +kernel
theorem dX8_repeatLoop_7 : decode cX8_repeatLoop 7 = .ok (.aload_n 0, 1) := by decide +kernel
theorem dX8_repeatLoop_8 : decode cX8_repeatLoop 8 = .ok (.getfield 27, 3) := by decide +kernel
theorem dX8_repeatLoop_11 : decode cX8_repeatLoop 11 = .ok (.bipush 32, 2) := by decide +kernel
theorem dX8_repeatLoop_13 : decode cX8_repeatLoop 13 = .ok (.invokevirtual 123, 3) := by decide +kernel
theorem dX8_repeatLoop_16 : decode cX8_repeatLoop 16 = .ok (.istore 4, 2) := by decide +kernel
theorem dX8_repeatLoop_18 : decode cX8_repeatLoop 18 = .ok (.aload_n 0, 1) := by decide +kernel
theorem dX8_repeatLoop_19 : decode cX8_repeatLoop 19 = .ok (.getfield 27, 3) := by decide +kernel
theorem dX8_repeatLoop_22 : decode cX8_repeatLoop 22 = .ok (.bipush 46, 2) := by decide +kernel
theorem dX8_repeatLoop_24 : decode cX8_repeatLoop 24 = .ok (.iload_n 3, 1) := by decide +kernel
theorem dX8_repeatLoop_25 : decode cX8_repeatLoop 25 = .ok (.invokevirtual 258, 3) := by decide +kernel
theorem dX8_repeatLoop_28 : decode cX8_repeatLoop 28 = .ok (.istore 5, 2) := by decide +kernel
theorem dX8_repeatLoop_30 : decode cX8_repeatLoop 30 = .ok (.aload_n 0, 1) := by decide +kernel
theorem dX8_repeatLoop_31 : decode cX8_repeatLoop 31 = .ok (.lload_n 1, 1) := by decide +kernel
theorem dX8_repeatLoop_32 : decode cX8_repeatLoop 32 = .ok (.iload 5, 2) := by decide +kernel
theorem dX8_repeatLoop_34 : decode cX8_repeatLoop 34 = .ok (.invokevirtual 261, 3) := by decide +kernel
theorem dX8_repeatLoop_37 : decode cX8_repeatLoop 37 = .ok (.istore 6, 2) := by decide +kernel
theorem dX8_repeatLoop_39 : decode cX8_repeatLoop 39 = .ok (.aload_n 0, 1) := by decide +kernel
theorem dX8_repeatLoop_40 : decode cX8_repeatLoop 40 = .ok (.invokevirtual 267, 3) := by decide +kernel
theorem dX8_repeatLoop_43 : decode cX8_repeatLoop 43 = .ok (.istore 7, 2) := by decide +kernel
theorem dX8_repeatLoop_45 : decode cX8_repeatLoop 45 = .ok (.aload_n 0, 1) := by decide +kernel
theorem dX8_repeatLoop_46 : decode cX8_repeatLoop 46 = .ok (.getfield 23, 3) := by decide +kernel
theorem dX8_repeatLoop_49 : decode cX8_repeatLoop 49 = .ok (.invokevirtual 270, 3) := by decide +kernel
theorem dX8_repeatLoop_52 : decode cX8_repeatLoop 52 = .ok (.invokestatic 231, 3) := by decide +kernel
theorem dX8_repeatLoop_55 : decode cX8_repeatLoop 55 = .ok (.istore 8, 2) := by decide +kernel
theorem dX8_repeatLoop_57 : decode cX8_repeatLoop 57 = .ok (.aload_n 0, 1) := by decide +kernel
theorem dX8_repeatLoop_58 : decode cX8_repeatLoop 58 = .ok (.getfield 14, 3) := by decide +kernel
theorem dX8_repeatLoop_61 : decode cX8_repeatLoop 61 = .ok (.sipush 322, 3) := by decide +kernel
theorem dX8_repeatLoop_64 : decode cX8_repeatLoop 64 = .ok (.invokevirtual 90, 3) := by decide +kernel
theorem dX8_repeatLoop_67 : decode cX8_repeatLoop 67 = .ok (.aload_n 0, 1) := by decide +kernel
theorem dX8_repeatLoop_68 : decode cX8_repeatLoop 68 = .ok (.getfield 27, 3) := by decide +kernel
theorem dX8_repeatLoop_71 : decode cX8_repeatLoop 71 = .ok (.bipush 31, 2) := by decide +kernel
theorem dX8_repeatLoop_73 : decode cX8_repeatLoop 73 = .ok (.iload_n 3, 1) := by decide +kernel
theorem dX8_repeatLoop_74 : decode cX8_repeatLoop 74 = .ok (.invokevirtual 154, 3) := by decide +kernel
theorem dX8_repeatLoop_77 : decode cX8_repeatLoop 77 = .ok (.istore 9, 2) := by decide +kernel
theorem dX8_repeatLoop_79 : decode cX8_repeatLoop 79 = .ok (.aload_n 0, 1) := by decide +kernel
theorem dX8_repeatLoop_80 : decode cX8_repeatLoop 80 = .ok (.getfield 36, 3) := by decide +kernel
theorem dX8_repeatLoop_83 : decode cX8_repeatLoop 83 = .ok (.invokevirtual 210, 3) := by decide +kernel
theorem dX8_repeatLoop_86 : decode cX8_repeatLoop 86 = .ok (.invokestatic 213, 3) := by decide +kernel
theorem dX8_repeatLoop_89 : decode cX8_repeatLoop 89 = .ok (.istore 10, 2) := by decide +kernel
theorem dX8_repeatLoop_91 : decode cX8_repeatLoop 91 = .ok (.aload_n 0, 1) := by decide +kernel
theorem dX8_repeatLoop_92 : decode cX8_repeatLoop 92 = .ok (.getfield 27, 3) := by decide +kernel
theorem dX8_repeatLoop_95 : decode cX8_repeatLoop 95 = .ok (.bipush 23, 2) := by decide +kernel
theorem dX8_repeatLoop_97 : decode cX8_repeatLoop 97 = .ok (.iload 4, 2) := by decide +kernel
theorem dX8_repeatLoop_99 : decode cX8_repeatLoop 99 = .ok (.invokevirtual 154, 3) := by decide +kernel
theorem dX8_repeatLoop_102 : decode cX8_repeatLoop 102 = .ok (.pop, 1) := by decide +kernel
theorem dX8_repeatLoop_103 : decode cX8_repeatLoop 103 = .ok (.aload_n 0, 1) := by decide +kernel
theorem dX8_repeatLoop_104 : decode cX8_repeatLoop 104 = .ok (.iload 5, 2) := by decide +kernel
theorem dX8_repeatLoop_106 : decode cX8_repeatLoop 106 = .ok (.iload 9, 2) := by decide +kernel
theorem dX8_repeatLoop_108 : decode cX8_repeatLoop 108 = .ok (.aload_n 0, 1) := by decide +kernel
theorem dX8_repeatLoop_109 : decode cX8_repeatLoop 109 = .ok (.getfield 27, 3) := by decide +kernel
theorem dX8_repeatLoop_112 : decode cX8_repeatLoop 112 = .ok (.invokevirtual 234, 3) := by decide +kernel
theorem dX8_repeatLoop_115 : decode cX8_repeatLoop 115 = .ok (.invokevirtual 264, 3) := by decide +kernel
theorem dX8_repeatLoop_118 : decode cX8_repeatLoop 118 = .ok (.aload_n 0, 1) := by decide +kernel
theorem dX8_repeatLoop_119 : decode cX8_repeatLoop 119 = .ok (.getfield 14, 3) := by decide +kernel
theorem dX8_repeatLoop_122 : decode cX8_repeatLoop 122 = .ok (.bipush 59, 2) := by decide +kernel
theorem dX8_repeatLoop_124 : decode cX8_repeatLoop 124 = .ok (.invokevirtual 90, 3) := by decide +kernel
theorem dX8_repeatLoop_127 : decode cX8_repeatLoop 127 = .ok (.iload 6, 2) := by decide +kernel
theorem dX8_repeatLoop_129 : decode cX8_repeatLoop 129 = .ok (.iload 7, 2) := by decide +kernel
theorem dX8_repeatLoop_131 : decode cX8_repeatLoop 131 = .ok (.iconst (-1), 1) := by decide +kernel
theorem dX8_repeatLoop_132 : decode cX8_repeatLoop 132 = .ok (.ixor, 1) := by decide +kernel
theorem dX8_repeatLoop_133 : decode cX8_repeatLoop 133 = .ok (.iand, 1) := by decide +kernel
theorem dX8_repeatLoop_134 : decode cX8_repeatLoop 134 = .ok (.bipush (-2), 2) := by decide +kernel
theorem dX8_repeatLoop_136 : decode cX8_repeatLoop 136 = .ok (.iand, 1) := by decide +kernel
theorem dX8_repeatLoop_137 : decode cX8_repeatLoop 137 = .ok (.istore 11, 2) := by decide +kernel
theorem dX8_repeatLoop_139 : decode cX8_repeatLoop 139 = .ok (.iload 6, 2) := by decide +kernel
theorem dX8_repeatLoop_141 : decode cX8_repeatLoop 141 = .ok (.iconst 1, 1) := by decide +kernel
theorem dX8_repeatLoop_142 : decode cX8_repeatLoop 142 = .ok (.iload 8, 2) := by decide +kernel
theorem dX8_repeatLoop_144 : decode cX8_repeatLoop 144 = .ok (.ior, 1) := by decide +kernel
theorem dX8_repeatLoop_145 : decode cX8_repeatLoop 145 = .ok (.iand, 1) := by decide +kernel
theorem dX8_repeatLoop_146 : decode cX8_repeatLoop 146 = .ok (.ifCond .eq 10, 3) := by decide +kernel
theorem dX8_repeatLoop_149 : decode cX8_repeatLoop 149 = .ok (.iload 11, 2) := by decide +kernel
theorem dX8_repeatLoop_151 : decode cX8_repeatLoop 151 = .ok (.iload 10, 2) := by decide +kernel
theorem dX8_repeatLoop_153 : decode cX8_repeatLoop 153 = .ok (.ior, 1) := by decide +kernel
theorem dX8_repeatLoop_154 : decode cX8_repeatLoop 154 = .ok (.istore 11, 2) := by decide +kernel
theorem dX8_repeatLoop_156 : decode cX8_repeatLoop 156 = .ok (.iload 6, 2) := by decide +kernel
theorem dX8_repeatLoop_158 : decode cX8_repeatLoop 158 = .ok (.iconst 1, 1) := by decide +kernel
theorem dX8_repeatLoop_159 : decode cX8_repeatLoop 159 = .ok (.iload 7, 2) := by decide +kernel
theorem dX8_repeatLoop_161 : decode cX8_repeatLoop 161 = .ok (.ior, 1) := by decide +kernel
theorem dX8_repeatLoop_162 : decode cX8_repeatLoop 162 = .ok (.iand, 1) := by decide +kernel
theorem dX8_repeatLoop_163 : decode cX8_repeatLoop 163 = .ok (.ifCond .eq 10, 3) := by decide +kernel
theorem dX8_repeatLoop_166 : decode cX8_repeatLoop 166 = .ok (.iload 11, 2) := by decide +kernel
theorem dX8_repeatLoop_168 : decode cX8_repeatLoop 168 = .ok (.iconst 1, 1) := by decide +kernel
theorem dX8_repeatLoop_169 : decode cX8_repeatLoop 169 = .ok (.ior, 1) := by decide +kernel
theorem dX8_repeatLoop_170 : decode cX8_repeatLoop 170 = .ok (.goto 5, 3) := by decide +kernel
theorem dX8_repeatLoop_173 : decode cX8_repeatLoop 173 = .ok (.iload 11, 2) := by decide +kernel
theorem dX8_repeatLoop_175 : decode cX8_repeatLoop 175 = .ok (.ireturn, 1) := by decide +kernel
def wX8_repeatLoop_b175 (B : Nat → kp_S → (Int32 → kp_S → Prop) → Prop) (a0 : Nat) (w1 : Int64) (x3 : Int32) (xt0 : Int32)  (Sn : kp_S) (post : Int32 → kp_S → Prop) : Prop :=
  post xt0 Sn
def wX8_repeatLoop_b156 (B : Nat → kp_S → (Int32 → kp_S → Prop) → Prop) (a0 : Nat) (w1 : Int64) (x3 : Int32) (xn6 : Int32) (xn7 : Int32) (xn11 : Int32)  (Sn : kp_S) (post : Int32 → kp_S → Prop) : Prop :=
  (((xn6 &&& (1 ||| xn7)) = 0 →
  wX8_repeatLoop_b175 B a0 w1 x3 xn11  Sn post) ∧ (¬ (xn6 &&& (1 ||| xn7)) = 0 →
  wX8_repeatLoop_b175 B a0 w1 x3 (xn11 ||| 1)  Sn post))
def wX8_repeatLoop (B : Nat → kp_S → (Int32 → kp_S → Prop) → Prop) (a0 : Nat) (w1 : Int64) (x3 : Int32) (S : kp_S) (post : Int32 → kp_S → Prop) : Prop :=
  ∃ b1 : Nat, kp_R S 1600 a0 = some b1 ∧
  wX9_advance b1 S (fun T2 =>
  ∃ b3 : Nat, kp_R T2 1603 a0 = some b3 ∧
  wX0_add b3 32 T2 (fun y5 T4 =>
  ∃ b6 : Nat, kp_R T4 1603 a0 = some b6 ∧
  wX0_addPart b6 46 x3 T4 (fun y8 T7 =>
  wX8_round B a0 w1 y8 T7 (fun y10 T9 =>
  wX8_ownWays a0 T9 (fun y12 T11 =>
  ∃ b13 : Nat, kp_R T11 1601 a0 = some b13 ∧
  wX5_loopsNow b13 T11 (fun y15 T14 =>
  wX10_againOf y15 T14 (fun y17 T16 =>
  ∃ b18 : Nat, kp_R T16 1600 a0 = some b18 ∧
  wX9_expect b18 322 T16 (fun T19 =>
  ∃ b20 : Nat, kp_R T19 1603 a0 = some b20 ∧
  wX0_add_ b20 31 x3 T19 (fun y22 T21 =>
  ∃ b23 : Nat, kp_R T21 1602 a0 = some b23 ∧
  wX2_whole_t b23 T21 (fun y25 T24 =>
  wX8_troubleOf y25 T24 (fun y27 T26 =>
  ∃ b28 : Nat, kp_R T26 1603 a0 = some b28 ∧
  wX0_add_ b28 23 y5 T26 (fun y30 T29 =>
  ∃ b31 : Nat, kp_R T29 1603 a0 = some b31 ∧
  wX0_size b31 T29 (fun y33 T32 =>
  wX8_setRound a0 y8 y22 y33 T32 (fun T34 =>
  ∃ b35 : Nat, kp_R T34 1600 a0 = some b35 ∧
  wX9_expect b35 59 T34 (fun T36 =>
  ∀ y37 : Int32, y37 = ((y10 &&& (y12 ^^^ (-1))) &&& (-2)) →
  (((y10 &&& (1 ||| y17)) = 0 →
  wX8_repeatLoop_b156 B a0 w1 x3 y10 y12 y37  T36 post) ∧ (¬ (y10 &&& (1 ||| y17)) = 0 →
  ∀ y38 : Int32, y38 = (y37 ||| y27) →
  wX8_repeatLoop_b156 B a0 w1 x3 y10 y12 y38  T36 post)))))))))))))))))
set_option maxHeartbeats 4000000 in
set_option maxRecDepth 100000 in
theorem c_X8_repeatLoop (l : Launch) (D : va_G) (cy : Nat → ClassId) (ad : (Nat → Nat) × (Nat → Nat)) (F L : Nat) (B : Nat → kp_S → (Int32 → kp_S → Prop) → Prop) (hB : ∀ (S : kp_S) (a0 : Nat) (post : Int32 → kp_S → Prop), kp_ok S → kp_is S a0 8 → B a0 S post → kp_M l yX8_block cX8_block 5 (some .int) { frames := F, cells := 0, slots := 0, locals := L } D cy ad S [.ref a0] 0 0 (fun A => kp_Qi D cy A S post)) (hF : 191 ≤ F) (hL : 4387 ≤ L) (S : kp_S) (a0 : Nat) (w1 : Int64) (x3 : Int32) (post : Int32 → kp_S → Prop) (hS : kp_ok S) (f_a0 : kp_is S a0 8) (hw : wX8_repeatLoop B a0 w1 x3 S post) : kp_M l yX8_repeatLoop cX8_repeatLoop 12 (some .int) { frames := F + 3, cells := 0, slots := 0, locals := L + 71 } D cy ad S [.ref a0, .long w1, .int x3] 0 0 (fun A => kp_Qi D cy A S post) := by
  refine kp_start (own := RX8) (by decide) rfl (Nat.le_of_ble_eq_true rfl) hS ?_
  intro p e s m below meth c A ls X hr hlocks hname h hl
  have hle : kp_le S S := kp_le.rf
  have hl : lv_has ls 12 [(0, .ref a0), (1, .long w1), (3, .int x3)] := hl
  have j175 : ∀ (xt0 : Int32) (Sn : kp_S) (H : Heap) (locs : List Loc) (ls : Array Slot), lv_has ls 12 [] → kp_H D cy A Sn s.heap H locs → kp_le S Sn → kp_is Sn a0 8 → wX8_repeatLoop_b175 B a0 w1 x3 xt0  Sn post → W p l e { frames := F + 3, cells := 0, slots := 0, locals := L + 71 } s m ([.ref a0, .long w1, .int x3] : List Value).toArray below meth c H locs 0 0 (MQ below (kp_Qi D cy A S post) ([.ref a0, .long w1, .int x3] : List Value).toArray s 0 0 A) (F0 m 175 ls [.int xt0]) := by
    intro xt0 Sn H locs ls hl h hle f_a0 hw
    unfold wX8_repeatLoop_b175 at hw
    exact kp_reti X hr hlocks h hle rfl hw dX8_repeatLoop_175
  have j156 : ∀ (xn6 : Int32) (xn7 : Int32) (xn11 : Int32) (Sn : kp_S) (H : Heap) (locs : List Loc) (ls : Array Slot), lv_has ls 12 [(6, .int xn6), (7, .int xn7), (11, .int xn11)] → kp_H D cy A Sn s.heap H locs → kp_le S Sn → kp_is Sn a0 8 → wX8_repeatLoop_b156 B a0 w1 x3 xn6 xn7 xn11  Sn post → W p l e { frames := F + 3, cells := 0, slots := 0, locals := L + 71 } s m ([.ref a0, .long w1, .int x3] : List Value).toArray below meth c H locs 0 0 (MQ below (kp_Qi D cy A S post) ([.ref a0, .long w1, .int x3] : List Value).toArray s 0 0 A) (F0 m 156 ls []) := by
    intro xn6 xn7 xn11 Sn H locs ls hl h hle f_a0 hw
    unfold wX8_repeatLoop_b156 at hw
    refine lv_iload X.1 X.2.1 dX8_repeatLoop_156 (lv_at hl 0 rfl) ?_
    refine lv_iconst (v := 1) X.1 X.2.1 dX8_repeatLoop_158 (by decide) ?_
    refine lv_iload X.1 X.2.1 dX8_repeatLoop_159 (lv_at hl 1 rfl) ?_
    refine lv_ior X.1 X.2.1 dX8_repeatLoop_161 ?_
    refine lv_iand X.1 X.2.1 dX8_repeatLoop_162 ?_
    refine lv_if_eq (tgt := 173) X.1 X.2.1 dX8_repeatLoop_163 (by decide) (fun c2001 => ?_) (fun c2001 => ?_)
    · have hw := hw.1 c2001
      refine lv_iload X.1 X.2.1 dX8_repeatLoop_173 (lv_at hl 2 rfl) ?_
      exact j175 xn11 Sn H locs ls (lv_sub hl [] rfl) h hle f_a0 hw
    · have hw := hw.2 c2001
      refine lv_iload X.1 X.2.1 dX8_repeatLoop_166 (lv_at hl 2 rfl) ?_
      refine lv_iconst (v := 1) X.1 X.2.1 dX8_repeatLoop_168 (by decide) ?_
      refine lv_ior X.1 X.2.1 dX8_repeatLoop_169 ?_
      refine lv_goto (tgt := 175) X.1 X.2.1 dX8_repeatLoop_170 (by decide) ?_
      exact j175 (xn11 ||| 1) Sn H locs ls (lv_sub hl [] rfl) h hle f_a0 hw
  unfold wX8_repeatLoop at hw
  have h : kp_H D cy A S s.heap s.heap [] := h
  revert h
  intro h
  refine lv_aload_n X.1 X.2.1 dX8_repeatLoop_0 rfl (lv_at hl 0 rfl) ?_
  obtain ⟨b1, e_b1, hw⟩ := hw
  have f_b1 := h.2.2.2.rf (c := 8) (k := 0) f_a0 (by decide) (by decide) e_b1 (t := 9) rfl
  refine kp_get X h f_a0 ff_8_14.l (v := .ref b1) (congrArg va_rf e_b1) dX8_repeatLoop_1 ?_
  refine kp_callv X h (kp_runV (rm := { frames := 5, cells := 0, slots := 0, locals := 113 }) (mc := 0) (ms := 0) (rest := []) (Qc := fun A => kp_Qv D cy A S _) X h (c_X9_advance l D cy ad S b1 _ h.2.2.2 f_b1 hw) f_b1 cv_8_75 ⟨by dsimp only; omega, by dsimp only; omega, rfl, rfl, by dsimp only; omega, by dsimp only; omega⟩ rfl hl.1 rfl (Nat.le_of_ble_eq_true rfl) dX8_repeatLoop_4) (fun T2 hw l_T2 H locs h => ?_)
  have f_a0 := l_T2.is f_a0
  have f_b1 := l_T2.is f_b1
  have hle := hle.tr l_T2
  refine lv_aload_n X.1 X.2.1 dX8_repeatLoop_7 rfl (lv_at hl 0 rfl) ?_
  obtain ⟨b3, e_b3, hw⟩ := hw
  have f_b3 := h.2.2.2.rf (c := 8) (k := 3) f_a0 (by decide) (by decide) e_b3 (t := 0) rfl
  refine kp_get X h f_a0 fp_8_27.l (v := .ref b3) (congrArg va_rf e_b3) dX8_repeatLoop_8 ?_
  refine lv_bipush (v := 32) X.1 X.2.1 dX8_repeatLoop_11 (by decide) ?_
  refine kp_calli X h (kp_runV (rm := { frames := 0, cells := 0, slots := 0, locals := 0 }) (mc := 0) (ms := 0) (rest := []) (Qc := fun A => kp_Qi D cy A T2 _) X h (c_X0_add l D cy ad T2 b3 32 _ h.2.2.2 f_b3 hw) f_b3 cv_8_123 ⟨by dsimp only; omega, by dsimp only; omega, rfl, rfl, by dsimp only; omega, by dsimp only; omega⟩ rfl hl.1 rfl (Nat.le_of_ble_eq_true rfl) dX8_repeatLoop_13) (fun y5 T4 hw l_T4 H locs h => ?_)
  have f_a0 := l_T4.is f_a0
  have f_b1 := l_T4.is f_b1
  have f_b3 := l_T4.is f_b3
  have hle := hle.tr l_T4
  refine lv_istore (lv' := [(4, .int y5), (0, .ref a0), (1, .long w1), (3, .int x3)]) X.1 X.2.1 dX8_repeatLoop_16 hl (by decide) rfl (fun ls hl => ?_)
  refine lv_aload_n X.1 X.2.1 dX8_repeatLoop_18 rfl (lv_at hl 1 rfl) ?_
  obtain ⟨b6, e_b6, hw⟩ := hw
  have f_b6 := h.2.2.2.rf (c := 8) (k := 3) f_a0 (by decide) (by decide) e_b6 (t := 0) rfl
  refine kp_get X h f_a0 fp_8_27.l (v := .ref b6) (congrArg va_rf e_b6) dX8_repeatLoop_19 ?_
  refine lv_bipush (v := 46) X.1 X.2.1 dX8_repeatLoop_22 (by decide) ?_
  refine lv_iload_n X.1 X.2.1 dX8_repeatLoop_24 rfl (lv_at hl 3 rfl) ?_
  refine kp_calli X h (kp_runV (rm := { frames := 2, cells := 0, slots := 0, locals := 45 }) (mc := 0) (ms := 0) (rest := []) (Qc := fun A => kp_Qi D cy A T4 _) X h (c_X0_addPart l D cy ad T4 b6 46 x3 _ h.2.2.2 f_b6 hw) f_b6 cv_8_258 ⟨by dsimp only; omega, by dsimp only; omega, rfl, rfl, by dsimp only; omega, by dsimp only; omega⟩ rfl hl.1 rfl (Nat.le_of_ble_eq_true rfl) dX8_repeatLoop_25) (fun y8 T7 hw l_T7 H locs h => ?_)
  have f_a0 := l_T7.is f_a0
  have f_b1 := l_T7.is f_b1
  have f_b3 := l_T7.is f_b3
  have f_b6 := l_T7.is f_b6
  have hle := hle.tr l_T7
  refine lv_istore (lv' := [(5, .int y8), (4, .int y5), (0, .ref a0), (1, .long w1), (3, .int x3)]) X.1 X.2.1 dX8_repeatLoop_28 hl (by decide) rfl (fun ls hl => ?_)
  refine lv_aload_n X.1 X.2.1 dX8_repeatLoop_30 rfl (lv_at hl 2 rfl) ?_
  refine lv_lload_n X.1 X.2.1 dX8_repeatLoop_31 rfl (lv_at hl 3 rfl) ?_
  refine lv_iload X.1 X.2.1 dX8_repeatLoop_32 (lv_at hl 0 rfl) ?_
  refine kp_calli X h (kp_runV (rm := { frames := F + 2, cells := 0, slots := 0, locals := L + 47 }) (mc := 0) (ms := 0) (rest := []) (Qc := fun A => kp_Qi D cy A T7 _) X h (c_X8_round l D cy ad F L B hB hF hL T7 a0 w1 y8 _ h.2.2.2 f_a0 hw) f_a0 cv_8_261 ⟨by dsimp only; omega, by dsimp only; omega, rfl, rfl, by dsimp only; omega, by dsimp only; omega⟩ rfl hl.1 rfl (Nat.le_of_ble_eq_true rfl) dX8_repeatLoop_34) (fun y10 T9 hw l_T9 H locs h => ?_)
  have f_a0 := l_T9.is f_a0
  have f_b1 := l_T9.is f_b1
  have f_b3 := l_T9.is f_b3
  have f_b6 := l_T9.is f_b6
  have hle := hle.tr l_T9
  refine lv_istore (lv' := [(6, .int y10), (5, .int y8), (4, .int y5), (0, .ref a0), (1, .long w1), (3, .int x3)]) X.1 X.2.1 dX8_repeatLoop_37 hl (by decide) rfl (fun ls hl => ?_)
  refine lv_aload_n X.1 X.2.1 dX8_repeatLoop_39 rfl (lv_at hl 3 rfl) ?_
  refine kp_calli X h (kp_runV (rm := { frames := 1, cells := 0, slots := 0, locals := 20 }) (mc := 0) (ms := 0) (rest := []) (Qc := fun A => kp_Qi D cy A T9 _) X h (c_X8_ownWays l D cy ad T9 a0 _ h.2.2.2 f_a0 hw) f_a0 cv_8_267 ⟨by dsimp only; omega, by dsimp only; omega, rfl, rfl, by dsimp only; omega, by dsimp only; omega⟩ rfl hl.1 rfl (Nat.le_of_ble_eq_true rfl) dX8_repeatLoop_40) (fun y12 T11 hw l_T11 H locs h => ?_)
  have f_a0 := l_T11.is f_a0
  have f_b1 := l_T11.is f_b1
  have f_b3 := l_T11.is f_b3
  have f_b6 := l_T11.is f_b6
  have hle := hle.tr l_T11
  refine lv_istore (lv' := [(7, .int y12), (6, .int y10), (5, .int y8), (4, .int y5), (0, .ref a0), (1, .long w1), (3, .int x3)]) X.1 X.2.1 dX8_repeatLoop_43 hl (by decide) rfl (fun ls hl => ?_)
  refine lv_aload_n X.1 X.2.1 dX8_repeatLoop_45 rfl (lv_at hl 4 rfl) ?_
  obtain ⟨b13, e_b13, hw⟩ := hw
  have f_b13 := h.2.2.2.rf (c := 8) (k := 1) f_a0 (by decide) (by decide) e_b13 (t := 5) rfl
  refine kp_get X h f_a0 ff_8_23.l (v := .ref b13) (congrArg va_rf e_b13) dX8_repeatLoop_46 ?_
  refine kp_calli X h (kp_runV (rm := { frames := 0, cells := 0, slots := 0, locals := 0 }) (mc := 0) (ms := 0) (rest := []) (Qc := fun A => kp_Qi D cy A T11 _) X h (c_X5_loopsNow l D cy ad T11 b13 _ h.2.2.2 f_b13 hw) f_b13 cv_8_270 ⟨by dsimp only; omega, by dsimp only; omega, rfl, rfl, by dsimp only; omega, by dsimp only; omega⟩ rfl hl.1 rfl (Nat.le_of_ble_eq_true rfl) dX8_repeatLoop_49) (fun y15 T14 hw l_T14 H locs h => ?_)
  have f_a0 := l_T14.is f_a0
  have f_b1 := l_T14.is f_b1
  have f_b3 := l_T14.is f_b3
  have f_b6 := l_T14.is f_b6
  have f_b13 := l_T14.is f_b13
  have hle := hle.tr l_T14
  refine kp_calli X h (kp_runS (rm := { frames := 0, cells := 0, slots := 0, locals := 0 }) (mc := 0) (ms := 0) (rest := []) (Qc := fun A => kp_Qi D cy A T14 _) X h (c_X10_againOf l D cy ad T14 y15 _ h.2.2.2  hw) cs_8_231 ⟨by dsimp only; omega, by dsimp only; omega, rfl, rfl, by dsimp only; omega, by dsimp only; omega⟩ rfl hl.1 rfl (Nat.le_of_ble_eq_true rfl) dX8_repeatLoop_52) (fun y17 T16 hw l_T16 H locs h => ?_)
  have f_a0 := l_T16.is f_a0
  have f_b1 := l_T16.is f_b1
  have f_b3 := l_T16.is f_b3
  have f_b6 := l_T16.is f_b6
  have f_b13 := l_T16.is f_b13
  have hle := hle.tr l_T16
  refine lv_istore (lv' := [(8, .int y17), (7, .int y12), (6, .int y10), (5, .int y8), (4, .int y5), (0, .ref a0), (1, .long w1), (3, .int x3)]) X.1 X.2.1 dX8_repeatLoop_55 hl (by decide) rfl (fun ls hl => ?_)
  refine lv_aload_n X.1 X.2.1 dX8_repeatLoop_57 rfl (lv_at hl 5 rfl) ?_
  obtain ⟨b18, e_b18, hw⟩ := hw
  have f_b18 := h.2.2.2.rf (c := 8) (k := 0) f_a0 (by decide) (by decide) e_b18 (t := 9) rfl
  refine kp_get X h f_a0 ff_8_14.l (v := .ref b18) (congrArg va_rf e_b18) dX8_repeatLoop_58 ?_
  refine lv_sipush (v := 322) X.1 X.2.1 dX8_repeatLoop_61 (by decide) ?_
  refine kp_callv X h (kp_runV (rm := { frames := 6, cells := 0, slots := 0, locals := 134 }) (mc := 0) (ms := 0) (rest := []) (Qc := fun A => kp_Qv D cy A T16 _) X h (c_X9_expect l D cy ad T16 b18 322 _ h.2.2.2 f_b18 hw) f_b18 cv_8_90 ⟨by dsimp only; omega, by dsimp only; omega, rfl, rfl, by dsimp only; omega, by dsimp only; omega⟩ rfl hl.1 rfl (Nat.le_of_ble_eq_true rfl) dX8_repeatLoop_64) (fun T19 hw l_T19 H locs h => ?_)
  have f_a0 := l_T19.is f_a0
  have f_b1 := l_T19.is f_b1
  have f_b3 := l_T19.is f_b3
  have f_b6 := l_T19.is f_b6
  have f_b13 := l_T19.is f_b13
  have f_b18 := l_T19.is f_b18
  have hle := hle.tr l_T19
  refine lv_aload_n X.1 X.2.1 dX8_repeatLoop_67 rfl (lv_at hl 5 rfl) ?_
  obtain ⟨b20, e_b20, hw⟩ := hw
  have f_b20 := h.2.2.2.rf (c := 8) (k := 3) f_a0 (by decide) (by decide) e_b20 (t := 0) rfl
  refine kp_get X h f_a0 fp_8_27.l (v := .ref b20) (congrArg va_rf e_b20) dX8_repeatLoop_68 ?_
  refine lv_bipush (v := 31) X.1 X.2.1 dX8_repeatLoop_71 (by decide) ?_
  refine lv_iload_n X.1 X.2.1 dX8_repeatLoop_73 rfl (lv_at hl 7 rfl) ?_
  refine kp_calli X h (kp_runV (rm := { frames := 1, cells := 0, slots := 0, locals := 22 }) (mc := 0) (ms := 0) (rest := []) (Qc := fun A => kp_Qi D cy A T19 _) X h (c_X0_add_ l D cy ad T19 b20 31 x3 _ h.2.2.2 f_b20 hw) f_b20 cv_8_154 ⟨by dsimp only; omega, by dsimp only; omega, rfl, rfl, by dsimp only; omega, by dsimp only; omega⟩ rfl hl.1 rfl (Nat.le_of_ble_eq_true rfl) dX8_repeatLoop_74) (fun y22 T21 hw l_T21 H locs h => ?_)
  have f_a0 := l_T21.is f_a0
  have f_b1 := l_T21.is f_b1
  have f_b3 := l_T21.is f_b3
  have f_b6 := l_T21.is f_b6
  have f_b13 := l_T21.is f_b13
  have f_b18 := l_T21.is f_b18
  have f_b20 := l_T21.is f_b20
  have hle := hle.tr l_T21
  refine lv_istore (lv' := [(9, .int y22), (8, .int y17), (7, .int y12), (6, .int y10), (5, .int y8), (4, .int y5), (0, .ref a0), (1, .long w1), (3, .int x3)]) X.1 X.2.1 dX8_repeatLoop_77 hl (by decide) rfl (fun ls hl => ?_)
  refine lv_aload_n X.1 X.2.1 dX8_repeatLoop_79 rfl (lv_at hl 6 rfl) ?_
  obtain ⟨b23, e_b23, hw⟩ := hw
  have f_b23 := h.2.2.2.rf (c := 8) (k := 2) f_a0 (by decide) (by decide) e_b23 (t := 2) rfl
  refine kp_get X h f_a0 ff_8_36.l (v := .ref b23) (congrArg va_rf e_b23) dX8_repeatLoop_80 ?_
  refine kp_calli X h (kp_runV (rm := { frames := 189, cells := 0, slots := 0, locals := 4339 }) (mc := 0) (ms := 0) (rest := []) (Qc := fun A => kp_Qi D cy A T21 _) X h (c_X2_whole_t l D cy ad T21 b23 _ h.2.2.2 f_b23 hw) f_b23 cv_8_210 ⟨by dsimp only; omega, by dsimp only; omega, rfl, rfl, by dsimp only; omega, by dsimp only; omega⟩ rfl hl.1 rfl (Nat.le_of_ble_eq_true rfl) dX8_repeatLoop_83) (fun y25 T24 hw l_T24 H locs h => ?_)
  have f_a0 := l_T24.is f_a0
  have f_b1 := l_T24.is f_b1
  have f_b3 := l_T24.is f_b3
  have f_b6 := l_T24.is f_b6
  have f_b13 := l_T24.is f_b13
  have f_b18 := l_T24.is f_b18
  have f_b20 := l_T24.is f_b20
  have f_b23 := l_T24.is f_b23
  have hle := hle.tr l_T24
  refine kp_calli X h (kp_runS (rm := { frames := 0, cells := 0, slots := 0, locals := 0 }) (mc := 0) (ms := 0) (rest := []) (Qc := fun A => kp_Qi D cy A T24 _) X h (c_X8_troubleOf l D cy ad T24 y25 _ h.2.2.2  hw) cs_8_213 ⟨by dsimp only; omega, by dsimp only; omega, rfl, rfl, by dsimp only; omega, by dsimp only; omega⟩ rfl hl.1 rfl (Nat.le_of_ble_eq_true rfl) dX8_repeatLoop_86) (fun y27 T26 hw l_T26 H locs h => ?_)
  have f_a0 := l_T26.is f_a0
  have f_b1 := l_T26.is f_b1
  have f_b3 := l_T26.is f_b3
  have f_b6 := l_T26.is f_b6
  have f_b13 := l_T26.is f_b13
  have f_b18 := l_T26.is f_b18
  have f_b20 := l_T26.is f_b20
  have f_b23 := l_T26.is f_b23
  have hle := hle.tr l_T26
  refine lv_istore (lv' := [(10, .int y27), (9, .int y22), (8, .int y17), (7, .int y12), (6, .int y10), (5, .int y8), (4, .int y5), (0, .ref a0), (1, .long w1), (3, .int x3)]) X.1 X.2.1 dX8_repeatLoop_89 hl (by decide) rfl (fun ls hl => ?_)
  refine lv_aload_n X.1 X.2.1 dX8_repeatLoop_91 rfl (lv_at hl 7 rfl) ?_
  obtain ⟨b28, e_b28, hw⟩ := hw
  have f_b28 := h.2.2.2.rf (c := 8) (k := 3) f_a0 (by decide) (by decide) e_b28 (t := 0) rfl
  refine kp_get X h f_a0 fp_8_27.l (v := .ref b28) (congrArg va_rf e_b28) dX8_repeatLoop_92 ?_
  refine lv_bipush (v := 23) X.1 X.2.1 dX8_repeatLoop_95 (by decide) ?_
  refine lv_iload X.1 X.2.1 dX8_repeatLoop_97 (lv_at hl 6 rfl) ?_
  refine kp_calli X h (kp_runV (rm := { frames := 1, cells := 0, slots := 0, locals := 22 }) (mc := 0) (ms := 0) (rest := []) (Qc := fun A => kp_Qi D cy A T26 _) X h (c_X0_add_ l D cy ad T26 b28 23 y5 _ h.2.2.2 f_b28 hw) f_b28 cv_8_154 ⟨by dsimp only; omega, by dsimp only; omega, rfl, rfl, by dsimp only; omega, by dsimp only; omega⟩ rfl hl.1 rfl (Nat.le_of_ble_eq_true rfl) dX8_repeatLoop_99) (fun y30 T29 hw l_T29 H locs h => ?_)
  have f_a0 := l_T29.is f_a0
  have f_b1 := l_T29.is f_b1
  have f_b3 := l_T29.is f_b3
  have f_b6 := l_T29.is f_b6
  have f_b13 := l_T29.is f_b13
  have f_b18 := l_T29.is f_b18
  have f_b20 := l_T29.is f_b20
  have f_b23 := l_T29.is f_b23
  have f_b28 := l_T29.is f_b28
  have hle := hle.tr l_T29
  refine lv_pop X.1 X.2.1 dX8_repeatLoop_102 rfl ?_
  refine lv_aload_n X.1 X.2.1 dX8_repeatLoop_103 rfl (lv_at hl 7 rfl) ?_
  refine lv_iload X.1 X.2.1 dX8_repeatLoop_104 (lv_at hl 5 rfl) ?_
  refine lv_iload X.1 X.2.1 dX8_repeatLoop_106 (lv_at hl 1 rfl) ?_
  refine lv_aload_n X.1 X.2.1 dX8_repeatLoop_108 rfl (lv_at hl 7 rfl) ?_
  obtain ⟨b31, e_b31, hw⟩ := hw
  have f_b31 := h.2.2.2.rf (c := 8) (k := 3) f_a0 (by decide) (by decide) e_b31 (t := 0) rfl
  refine kp_get X h f_a0 fp_8_27.l (v := .ref b31) (congrArg va_rf e_b31) dX8_repeatLoop_109 ?_
  refine kp_calli X h (kp_runV (rm := { frames := 0, cells := 0, slots := 0, locals := 0 }) (mc := 0) (ms := 0) (rest := [.int y22, .int y8, .ref a0]) (Qc := fun A => kp_Qi D cy A T29 _) X h (c_X0_size l D cy ad T29 b31 _ h.2.2.2 f_b31 hw) f_b31 cv_8_234 ⟨by dsimp only; omega, by dsimp only; omega, rfl, rfl, by dsimp only; omega, by dsimp only; omega⟩ rfl hl.1 rfl (Nat.le_of_ble_eq_true rfl) dX8_repeatLoop_112) (fun y33 T32 hw l_T32 H locs h => ?_)
  have f_a0 := l_T32.is f_a0
  have f_b1 := l_T32.is f_b1
  have f_b3 := l_T32.is f_b3
  have f_b6 := l_T32.is f_b6
  have f_b13 := l_T32.is f_b13
  have f_b18 := l_T32.is f_b18
  have f_b20 := l_T32.is f_b20
  have f_b23 := l_T32.is f_b23
  have f_b28 := l_T32.is f_b28
  have f_b31 := l_T32.is f_b31
  have hle := hle.tr l_T32
  refine kp_callv X h (kp_runV (rm := { frames := 1, cells := 0, slots := 0, locals := 22 }) (mc := 0) (ms := 0) (rest := []) (Qc := fun A => kp_Qv D cy A T32 _) X h (c_X8_setRound l D cy ad T32 a0 y8 y22 y33 _ h.2.2.2 f_a0 hw) f_a0 cv_8_264 ⟨by dsimp only; omega, by dsimp only; omega, rfl, rfl, by dsimp only; omega, by dsimp only; omega⟩ rfl hl.1 rfl (Nat.le_of_ble_eq_true rfl) dX8_repeatLoop_115) (fun T34 hw l_T34 H locs h => ?_)
  have f_a0 := l_T34.is f_a0
  have f_b1 := l_T34.is f_b1
  have f_b3 := l_T34.is f_b3
  have f_b6 := l_T34.is f_b6
  have f_b13 := l_T34.is f_b13
  have f_b18 := l_T34.is f_b18
  have f_b20 := l_T34.is f_b20
  have f_b23 := l_T34.is f_b23
  have f_b28 := l_T34.is f_b28
  have f_b31 := l_T34.is f_b31
  have hle := hle.tr l_T34
  refine lv_aload_n X.1 X.2.1 dX8_repeatLoop_118 rfl (lv_at hl 7 rfl) ?_
  obtain ⟨b35, e_b35, hw⟩ := hw
  have f_b35 := h.2.2.2.rf (c := 8) (k := 0) f_a0 (by decide) (by decide) e_b35 (t := 9) rfl
  refine kp_get X h f_a0 ff_8_14.l (v := .ref b35) (congrArg va_rf e_b35) dX8_repeatLoop_119 ?_
  refine lv_bipush (v := 59) X.1 X.2.1 dX8_repeatLoop_122 (by decide) ?_
  refine kp_callv X h (kp_runV (rm := { frames := 6, cells := 0, slots := 0, locals := 134 }) (mc := 0) (ms := 0) (rest := []) (Qc := fun A => kp_Qv D cy A T34 _) X h (c_X9_expect l D cy ad T34 b35 59 _ h.2.2.2 f_b35 hw) f_b35 cv_8_90 ⟨by dsimp only; omega, by dsimp only; omega, rfl, rfl, by dsimp only; omega, by dsimp only; omega⟩ rfl hl.1 rfl (Nat.le_of_ble_eq_true rfl) dX8_repeatLoop_124) (fun T36 hw l_T36 H locs h => ?_)
  have f_a0 := l_T36.is f_a0
  have f_b1 := l_T36.is f_b1
  have f_b3 := l_T36.is f_b3
  have f_b6 := l_T36.is f_b6
  have f_b13 := l_T36.is f_b13
  have f_b18 := l_T36.is f_b18
  have f_b20 := l_T36.is f_b20
  have f_b23 := l_T36.is f_b23
  have f_b28 := l_T36.is f_b28
  have f_b31 := l_T36.is f_b31
  have f_b35 := l_T36.is f_b35
  have hle := hle.tr l_T36
  refine lv_iload X.1 X.2.1 dX8_repeatLoop_127 (lv_at hl 4 rfl) ?_
  refine lv_iload X.1 X.2.1 dX8_repeatLoop_129 (lv_at hl 3 rfl) ?_
  refine lv_iconst (v := (-1)) X.1 X.2.1 dX8_repeatLoop_131 (by decide) ?_
  refine lv_ixor X.1 X.2.1 dX8_repeatLoop_132 ?_
  refine lv_iand X.1 X.2.1 dX8_repeatLoop_133 ?_
  refine lv_bipush (v := (-2)) X.1 X.2.1 dX8_repeatLoop_134 (by decide) ?_
  refine lv_iand X.1 X.2.1 dX8_repeatLoop_136 ?_
  refine lv_topi (fun y37 e_y37 => ?_)
  have hw := hw y37 e_y37
  refine lv_istore (lv' := [(11, .int y37), (10, .int y27), (9, .int y22), (8, .int y17), (7, .int y12), (6, .int y10), (5, .int y8), (4, .int y5), (0, .ref a0), (1, .long w1), (3, .int x3)]) X.1 X.2.1 dX8_repeatLoop_137 hl (by decide) rfl (fun ls hl => ?_)
  refine lv_iload X.1 X.2.1 dX8_repeatLoop_139 (lv_at hl 5 rfl) ?_
  refine lv_iconst (v := 1) X.1 X.2.1 dX8_repeatLoop_141 (by decide) ?_
  refine lv_iload X.1 X.2.1 dX8_repeatLoop_142 (lv_at hl 3 rfl) ?_
  refine lv_ior X.1 X.2.1 dX8_repeatLoop_144 ?_
  refine lv_iand X.1 X.2.1 dX8_repeatLoop_145 ?_
  refine lv_if_eq (tgt := 156) X.1 X.2.1 dX8_repeatLoop_146 (by decide) (fun c39 => ?_) (fun c39 => ?_)
  · have hw := hw.1 c39
    exact j156 y10 y12 y37 T36 _ _ ls (lv_sub hl [5, 4, 0] rfl) h hle f_a0 hw
  · have hw := hw.2 c39
    refine lv_iload X.1 X.2.1 dX8_repeatLoop_149 (lv_at hl 0 rfl) ?_
    refine lv_iload X.1 X.2.1 dX8_repeatLoop_151 (lv_at hl 1 rfl) ?_
    refine lv_ior X.1 X.2.1 dX8_repeatLoop_153 ?_
    refine lv_topi (fun y38 e_y38 => ?_)
    have hw := hw y38 e_y38
    refine lv_istore (lv' := [(11, .int y38), (10, .int y27), (9, .int y22), (8, .int y17), (7, .int y12), (6, .int y10), (5, .int y8), (4, .int y5), (0, .ref a0), (1, .long w1), (3, .int x3)]) X.1 X.2.1 dX8_repeatLoop_154 hl (by decide) rfl (fun ls hl => ?_)
    exact j156 y10 y12 y38 T36 _ _ ls (lv_sub hl [5, 4, 0] rfl) h hle f_a0 hw
theorem dX8_loop_0 : decode cX8_loop 0 = .ok (.aload_n 0, 1) := by decide +kernel
theorem dX8_loop_1 : decode cX8_loop 1 = .ok (.getfield 14, 3) := by decide +kernel
theorem dX8_loop_4 : decode cX8_loop 4 = .ok (.getfield 66, 3) := by decide +kernel
theorem dX8_loop_7 : decode cX8_loop 7 = .ok (.lookupswitch 54 #[(305, 33), (306, 40), (321, 47)], 33) := by decide +kernel
theorem dX8_loop_40 : decode cX8_loop 40 = .ok (.aload_n 0, 1) := by decide +kernel
theorem dX8_loop_41 : decode cX8_loop 41 = .ok (.lload_n 1, 1) := by decide +kernel
theorem dX8_loop_42 : decode cX8_loop 42 = .ok (.iload_n 3, 1) := by decide +kernel
theorem dX8_loop_43 : decode cX8_loop 43 = .ok (.invokevirtual 249, 3) := by decide +kernel
theorem dX8_loop_46 : decode cX8_loop 46 = .ok (.ireturn, 1) := by decide +kernel
theorem dX8_loop_47 : decode cX8_loop 47 = .ok (.aload_n 0, 1) := by decide +kernel
theorem dX8_loop_48 : decode cX8_loop 48 = .ok (.lload_n 1, 1) := by decide +kernel
theorem dX8_loop_49 : decode cX8_loop 49 = .ok (.iload_n 3, 1) := by decide +kernel
theorem dX8_loop_50 : decode cX8_loop 50 = .ok (.invokevirtual 252, 3) := by decide +kernel
theorem dX8_loop_53 : decode cX8_loop 53 = .ok (.ireturn, 1) := by decide +kernel
theorem dX8_loop_54 : decode cX8_loop 54 = .ok (.aload_n 0, 1) := by decide +kernel
theorem dX8_loop_55 : decode cX8_loop 55 = .ok (.lload_n 1, 1) := by decide +kernel
theorem dX8_loop_56 : decode cX8_loop 56 = .ok (.iload_n 3, 1) := by decide +kernel
theorem dX8_loop_57 : decode cX8_loop 57 = .ok (.invokevirtual 255, 3) := by decide +kernel
theorem dX8_loop_60 : decode cX8_loop 60 = .ok (.ireturn, 1) := by decide +kernel
theorem dX8_loop_61 : decode cX8_loop 61 = .ok (.aload_n 0, 1) := by decide +kernel
theorem dX8_loop_62 : decode cX8_loop 62 = .ok (.getfield 14, 3) := by decide +kernel
theorem dX8_loop_65 : decode cX8_loop 65 = .ok (.invokevirtual 69, 3) := by decide +kernel
theorem dX8_loop_68 : decode cX8_loop 68 = .ok (.iconst 0, 1) := by decide +kernel
theorem dX8_loop_69 : decode cX8_loop 69 = .ok (.ireturn, 1) := by decide +kernel
