theorem dX12_ensure_24 : decode cX12_ensure 24 = .ok (.pop, 1) := by decide +kernel
theorem dX12_ensure_25 : decode cX12_ensure 25 = .ok (.aload_n 0, 1) := by decide +kernel
theorem dX12_ensure_26 : decode cX12_ensure 26 = .ok (.bipush 41, 2) := by decide +kernel
theorem dX12_ensure_28 : decode cX12_ensure 28 = .ok (.iconst 0, 1) := by decide +kernel
theorem dX12_ensure_29 : decode cX12_ensure 29 = .ok (.iconst 0, 1) := by decide +kernel
theorem dX12_ensure_30 : decode cX12_ensure 30 = .ok (.invokevirtual 451, 3) := by decide +kernel
theorem dX12_ensure_33 : decode cX12_ensure 33 = .ok (.istore_n 3, 1) := by decide +kernel
theorem dX12_ensure_34 : decode cX12_ensure 34 = .ok (.aload_n 0, 1) := by decide +kernel
theorem dX12_ensure_35 : decode cX12_ensure 35 = .ok (.getfield 52, 3) := by decide +kernel
theorem dX12_ensure_38 : decode cX12_ensure 38 = .ok (.iload_n 2, 1) := by decide +kernel
theorem dX12_ensure_39 : decode cX12_ensure 39 = .ok (.aload_n 0, 1) := by decide +kernel
theorem dX12_ensure_40 : decode cX12_ensure 40 = .ok (.getfield 370, 3) := by decide +kernel
theorem dX12_ensure_43 : decode cX12_ensure 43 = .ok (.iastore, 1) := by decide +kernel
theorem dX12_ensure_44 : decode cX12_ensure 44 = .ok (.aload_n 0, 1) := by decide +kernel
theorem dX12_ensure_45 : decode cX12_ensure 45 = .ok (.invokevirtual 520, 3) := by decide +kernel
theorem dX12_ensure_48 : decode cX12_ensure 48 = .ok (.aload_n 0, 1) := by decide +kernel
theorem dX12_ensure_49 : decode cX12_ensure 49 = .ok (.bipush 61, 2) := by decide +kernel
theorem dX12_ensure_51 : decode cX12_ensure 51 = .ok (.iconst 0, 1) := by decide +kernel
theorem dX12_ensure_52 : decode cX12_ensure 52 = .ok (.iconst 0, 1) := by decide +kernel
theorem dX12_ensure_53 : decode cX12_ensure 53 = .ok (.invokevirtual 451, 3) := by decide +kernel
theorem dX12_ensure_56 : decode cX12_ensure 56 = .ok (.pop, 1) := by decide +kernel
theorem dX12_ensure_57 : decode cX12_ensure 57 = .ok (.aload_n 0, 1) := by decide +kernel
theorem dX12_ensure_58 : decode cX12_ensure 58 = .ok (.getfield 46, 3) := by decide +kernel
theorem dX12_ensure_61 : decode cX12_ensure 61 = .ok (.iload_n 3, 1) := by decide +kernel
theorem dX12_ensure_62 : decode cX12_ensure 62 = .ok (.aload_n 0, 1) := by decide +kernel
theorem dX12_ensure_63 : decode cX12_ensure 63 = .ok (.getfield 370, 3) := by decide +kernel
theorem dX12_ensure_66 : decode cX12_ensure 66 = .ok (.iastore, 1) := by decide +kernel
theorem dX12_ensure_67 : decode cX12_ensure 67 = .ok (.aload_n 0, 1) := by decide +kernel
theorem dX12_ensure_68 : decode cX12_ensure 68 = .ok (.invokevirtual 447, 3) := by decide +kernel
theorem dX12_ensure_71 : decode cX12_ensure 71 = .ok (.lstore 4, 2) := by decide +kernel
theorem dX12_ensure_73 : decode cX12_ensure 73 = .ok (.aload_n 0, 1) := by decide +kernel
theorem dX12_ensure_74 : decode cX12_ensure 74 = .ok (.bipush 48, 2) := by decide +kernel
theorem dX12_ensure_76 : decode cX12_ensure 76 = .ok (.iconst 0, 1) := by decide +kernel
theorem dX12_ensure_77 : decode cX12_ensure 77 = .ok (.iconst 0, 1) := by decide +kernel
theorem dX12_ensure_78 : decode cX12_ensure 78 = .ok (.invokevirtual 451, 3) := by decide +kernel
theorem dX12_ensure_81 : decode cX12_ensure 81 = .ok (.pop, 1) := by decide +kernel
theorem dX12_ensure_82 : decode cX12_ensure 82 = .ok (.aload_n 0, 1) := by decide +kernel
theorem dX12_ensure_83 : decode cX12_ensure 83 = .ok (.getfield 58, 3) := by decide +kernel
theorem dX12_ensure_86 : decode cX12_ensure 86 = .ok (.iload_n 2, 1) := by decide +kernel
theorem dX12_ensure_87 : decode cX12_ensure 87 = .ok (.aload_n 0, 1) := by decide +kernel
theorem dX12_ensure_88 : decode cX12_ensure 88 = .ok (.getfield 370, 3) := by decide +kernel
theorem dX12_ensure_91 : decode cX12_ensure 91 = .ok (.iastore, 1) := by decide +kernel
theorem dX12_ensure_92 : decode cX12_ensure 92 = .ok (.lload 4, 2) := by decide +kernel
theorem dX12_ensure_94 : decode cX12_ensure 94 = .ok (.lconst 0, 1) := by decide +kernel
theorem dX12_ensure_95 : decode cX12_ensure 95 = .ok (.lcmp, 1) := by decide +kernel
theorem dX12_ensure_96 : decode cX12_ensure 96 = .ok (.ifCond .ne 7, 3) := by decide +kernel
theorem dX12_ensure_99 : decode cX12_ensure 99 = .ok (.lconst 0, 1) := by decide +kernel
theorem dX12_ensure_100 : decode cX12_ensure 100 = .ok (.goto 9, 3) := by decide +kernel
theorem dX12_ensure_103 : decode cX12_ensure 103 = .ok (.lload 4, 2) := by decide +kernel
theorem dX12_ensure_105 : decode cX12_ensure 105 = .ok (.ldc2_w 475, 3) := by decide +kernel
theorem dX12_ensure_108 : decode cX12_ensure 108 = .ok (.lor, 1) := by decide +kernel
theorem dX12_ensure_109 : decode cX12_ensure 109 = .ok (.lreturn, 1) := by decide +kernel
def wX12_ensure_b109 (B : Nat → kp_S → (Int64 → kp_S → Prop) → Prop) (a0 : Nat) (x1 : Int32) (wt0 : Int64)  (Sn : kp_S) (post : Int64 → kp_S → Prop) : Prop :=
  post wt0 Sn
def wX12_ensure (B : Nat → kp_S → (Int64 → kp_S → Prop) → Prop) (a0 : Nat) (x1 : Int32) (S : kp_S) (post : Int64 → kp_S → Prop) : Prop :=
  wX12_describe a0 x1 S (fun y2 T1 =>
  ∀ T3 : kp_S, T3 = kp_sI T1 2410 a0 ((kp_I T1 2410 a0) + 1) →
  wX12_emit a0 60 y2 0 T3 (fun y5 T4 =>
  wX12_emit a0 41 0 0 T4 (fun y7 T6 =>
  ∃ b8 : Nat, kp_R T6 2418 a0 = some b8 ∧
  vp_in y2 (kp_N T6 b8) ∧ ∀ T9 : kp_S, T9 = kp_sA T6 b8 (upd (kp_A T6 b8) (y2.toNatClampNeg) (kp_I T6 2417 a0)) →
  wX12_expression_t a0 T9 (fun T10 =>
  wX12_emit a0 61 0 0 T10 (fun y12 T11 =>
  ∃ b13 : Nat, kp_R T11 2415 a0 = some b13 ∧
  vp_in y7 (kp_N T11 b13) ∧ ∀ T14 : kp_S, T14 = kp_sA T11 b13 (upd (kp_A T11 b13) (y7.toNatClampNeg) (kp_I T11 2417 a0)) →
  B a0 T14 (fun z16 T15 =>
  wX12_emit a0 48 0 0 T15 (fun y18 T17 =>
  ∃ b19 : Nat, kp_R T17 2420 a0 = some b19 ∧
  vp_in y2 (kp_N T17 b19) ∧ ∀ T20 : kp_S, T20 = kp_sA T17 b19 (upd (kp_A T17 b19) (y2.toNatClampNeg) (kp_I T17 2417 a0)) →
  ((¬ (lg_cmp z16 0) = 0 →
  wX12_ensure_b109 B a0 x1 (z16 ||| 4)  T20 post) ∧ ((lg_cmp z16 0) = 0 →
  wX12_ensure_b109 B a0 x1 0  T20 post)))))))))
set_option maxHeartbeats 4000000 in
set_option maxRecDepth 100000 in
theorem c_X12_ensure (l : Launch) (D : va_G) (cy : Nat → ClassId) (ad : (Nat → Nat) × (Nat → Nat)) (F L : Nat) (B : Nat → kp_S → (Int64 → kp_S → Prop) → Prop) (hB : ∀ (S : kp_S) (a0 : Nat) (post : Int64 → kp_S → Prop), kp_ok S → kp_is S a0 12 → B a0 S post → kp_M l yX12_block cX12_block 6 (some .long) { frames := F, cells := 0, slots := 0, locals := L } D cy ad S [.ref a0] 0 0 (fun A => kp_Ql D cy A S post)) (hF : 151 ≤ F) (hL : 3211 ≤ L) (S : kp_S) (a0 : Nat) (x1 : Int32) (post : Int64 → kp_S → Prop) (hS : kp_ok S) (f_a0 : kp_is S a0 12) (hw : wX12_ensure B a0 x1 S post) : kp_M l yX12_ensure cX12_ensure 6 (some .long) { frames := F + 1, cells := 0, slots := 0, locals := L + 25 } D cy ad S [.ref a0, .int x1] 0 0 (fun A => kp_Ql D cy A S post) := by
  refine kp_start (own := RX12) (by decide) rfl (Nat.le_of_ble_eq_true rfl) hS ?_
  intro p e s m below meth c A ls X hr hlocks hname h hl
  have hle : kp_le S S := kp_le.rf
  have hl : lv_has ls 6 [(0, .ref a0), (1, .int x1)] := hl
  have j109 : ∀ (wt0 : Int64) (Sn : kp_S) (H : Heap) (locs : List Loc) (ls : Array Slot), lv_has ls 6 [] → kp_H D cy A Sn s.heap H locs → kp_le S Sn → kp_is Sn a0 12 → wX12_ensure_b109 B a0 x1 wt0  Sn post → W p l e { frames := F + 1, cells := 0, slots := 0, locals := L + 25 } s m ([.ref a0, .int x1] : List Value).toArray below meth c H locs 0 0 (MQ below (kp_Ql D cy A S post) ([.ref a0, .int x1] : List Value).toArray s 0 0 A) (F0 m 109 ls [.long wt0]) := by
    intro wt0 Sn H locs ls hl h hle f_a0 hw
    unfold wX12_ensure_b109 at hw
    exact kp_retl X hr hlocks h hle hw dX12_ensure_109
  unfold wX12_ensure at hw
  have h : kp_H D cy A S s.heap s.heap [] := h
  revert h
  intro h
  refine lv_aload_n X.1 X.2.1 dX12_ensure_0 rfl (lv_at hl 0 rfl) ?_
  refine lv_iload_n X.1 X.2.1 dX12_ensure_1 rfl (lv_at hl 1 rfl) ?_
  refine kp_calli X h (kp_runV (rm := { frames := 0, cells := 0, slots := 0, locals := 0 }) (mc := 0) (ms := 0) (rest := []) (Qc := fun A => kp_Qi D cy A S _) X h (c_X12_describe l D cy ad S a0 x1 _ h.2.2.2 f_a0 hw) f_a0 cv_12_538 ⟨by dsimp only; omega, by dsimp only; omega, rfl, rfl, by dsimp only; omega, by dsimp only; omega⟩ rfl hl.1 rfl (Nat.le_of_ble_eq_true rfl) dX12_ensure_2) (fun y2 T1 hw l_T1 H locs h => ?_)
  have f_a0 := l_T1.is f_a0
  have hle := hle.tr l_T1
  refine lv_istore_n (lv' := [(2, .int y2), (0, .ref a0), (1, .int x1)]) X.1 X.2.1 dX12_ensure_5 rfl hl (by decide) rfl (fun ls hl => ?_)
  refine lv_aload_n X.1 X.2.1 dX12_ensure_6 rfl (lv_at hl 1 rfl) ?_
  refine lv_dup X.1 X.2.1 dX12_ensure_7 rfl ?_
  refine kp_get X h f_a0 fp_12_376.l (v := .int (kp_I T1 2410 a0)) rfl dX12_ensure_8 ?_
  refine lv_iconst (v := 1) X.1 X.2.1 dX12_ensure_11 (by decide) ?_
  refine lv_iadd X.1 X.2.1 dX12_ensure_12 ?_
  refine kp_putI X h f_a0 fp_12_376 rfl ⟨rfl, rfl⟩ dX12_ensure_13 (fun T3 e_T3 l_T3 H locs h => ?_)
  have hw := hw T3 e_T3
  have f_a0 := l_T3.is f_a0
  have hle := hle.tr l_T3
  refine lv_aload_n X.1 X.2.1 dX12_ensure_16 rfl (lv_at hl 1 rfl) ?_
  refine lv_bipush (v := 60) X.1 X.2.1 dX12_ensure_17 (by decide) ?_
  refine lv_iload_n X.1 X.2.1 dX12_ensure_19 rfl (lv_at hl 0 rfl) ?_
  refine lv_iconst (v := 0) X.1 X.2.1 dX12_ensure_20 (by decide) ?_
  refine kp_calli X h (kp_runV (rm := { frames := 0, cells := 0, slots := 0, locals := 0 }) (mc := 0) (ms := 0) (rest := []) (Qc := fun A => kp_Qi D cy A T3 _) X h (c_X12_emit l D cy ad T3 a0 60 y2 0 _ h.2.2.2 f_a0 hw) f_a0 cv_12_451 ⟨by dsimp only; omega, by dsimp only; omega, rfl, rfl, by dsimp only; omega, by dsimp only; omega⟩ rfl hl.1 rfl (Nat.le_of_ble_eq_true rfl) dX12_ensure_21) (fun y5 T4 hw l_T4 H locs h => ?_)
  have f_a0 := l_T4.is f_a0
  have hle := hle.tr l_T4
  refine lv_pop X.1 X.2.1 dX12_ensure_24 rfl ?_
  refine lv_aload_n X.1 X.2.1 dX12_ensure_25 rfl (lv_at hl 1 rfl) ?_
  refine lv_bipush (v := 41) X.1 X.2.1 dX12_ensure_26 (by decide) ?_
  refine lv_iconst (v := 0) X.1 X.2.1 dX12_ensure_28 (by decide) ?_
  refine lv_iconst (v := 0) X.1 X.2.1 dX12_ensure_29 (by decide) ?_
  refine kp_calli X h (kp_runV (rm := { frames := 0, cells := 0, slots := 0, locals := 0 }) (mc := 0) (ms := 0) (rest := []) (Qc := fun A => kp_Qi D cy A T4 _) X h (c_X12_emit l D cy ad T4 a0 41 0 0 _ h.2.2.2 f_a0 hw) f_a0 cv_12_451 ⟨by dsimp only; omega, by dsimp only; omega, rfl, rfl, by dsimp only; omega, by dsimp only; omega⟩ rfl hl.1 rfl (Nat.le_of_ble_eq_true rfl) dX12_ensure_30) (fun y7 T6 hw l_T6 H locs h => ?_)
  have f_a0 := l_T6.is f_a0
  have hle := hle.tr l_T6
  refine lv_istore_n (lv' := [(3, .int y7), (2, .int y2), (0, .ref a0), (1, .int x1)]) X.1 X.2.1 dX12_ensure_33 rfl hl (by decide) rfl (fun ls hl => ?_)
  refine lv_aload_n X.1 X.2.1 dX12_ensure_34 rfl (lv_at hl 2 rfl) ?_
  obtain ⟨b8, e_b8, hw⟩ := hw
  have f_b8 := h.2.2.2.rf (c := 12) (k := 18) f_a0 (by decide) (by decide) e_b8 (t := 14) rfl
  refine kp_get X h f_a0 ff_12_52.l (v := .ref b8) (congrArg va_rf e_b8) dX12_ensure_35 ?_
  refine lv_iload_n X.1 X.2.1 dX12_ensure_38 rfl (lv_at hl 1 rfl) ?_
  refine lv_aload_n X.1 X.2.1 dX12_ensure_39 rfl (lv_at hl 2 rfl) ?_
  refine kp_get X h f_a0 fp_12_370.l (v := .int (kp_I T6 2417 a0)) rfl dX12_ensure_40 ?_
  obtain ⟨hi, hw⟩ := hw
  refine kp_iast X h f_b8 hi dX12_ensure_43 (fun T9 e_T9 l_T9 H locs h => ?_)
  have hw := hw T9 e_T9
  have f_a0 := l_T9.is f_a0
  have f_b8 := l_T9.is f_b8
  have hle := hle.tr l_T9
  have e_b8 : kp_R T9 2418 a0 = some b8 := by rw [e_T9]; exact e_b8
  refine lv_aload_n X.1 X.2.1 dX12_ensure_44 rfl (lv_at hl 2 rfl) ?_
  refine kp_callv X h (kp_runV (rm := { frames := 149, cells := 0, slots := 0, locals := 3164 }) (mc := 0) (ms := 0) (rest := []) (Qc := fun A => kp_Qv D cy A T9 _) X h (c_X12_expression_t l D cy ad T9 a0 _ h.2.2.2 f_a0 hw) f_a0 cv_12_520 ⟨by dsimp only; omega, by dsimp only; omega, rfl, rfl, by dsimp only; omega, by dsimp only; omega⟩ rfl hl.1 rfl (Nat.le_of_ble_eq_true rfl) dX12_ensure_45) (fun T10 hw l_T10 H locs h => ?_)
  have f_a0 := l_T10.is f_a0
  have f_b8 := l_T10.is f_b8
  have hle := hle.tr l_T10
  refine lv_aload_n X.1 X.2.1 dX12_ensure_48 rfl (lv_at hl 2 rfl) ?_
  refine lv_bipush (v := 61) X.1 X.2.1 dX12_ensure_49 (by decide) ?_
  refine lv_iconst (v := 0) X.1 X.2.1 dX12_ensure_51 (by decide) ?_
  refine lv_iconst (v := 0) X.1 X.2.1 dX12_ensure_52 (by decide) ?_
  refine kp_calli X h (kp_runV (rm := { frames := 0, cells := 0, slots := 0, locals := 0 }) (mc := 0) (ms := 0) (rest := []) (Qc := fun A => kp_Qi D cy A T10 _) X h (c_X12_emit l D cy ad T10 a0 61 0 0 _ h.2.2.2 f_a0 hw) f_a0 cv_12_451 ⟨by dsimp only; omega, by dsimp only; omega, rfl, rfl, by dsimp only; omega, by dsimp only; omega⟩ rfl hl.1 rfl (Nat.le_of_ble_eq_true rfl) dX12_ensure_53) (fun y12 T11 hw l_T11 H locs h => ?_)
  have f_a0 := l_T11.is f_a0
  have f_b8 := l_T11.is f_b8
  have hle := hle.tr l_T11
  refine lv_pop X.1 X.2.1 dX12_ensure_56 rfl ?_
  refine lv_aload_n X.1 X.2.1 dX12_ensure_57 rfl (lv_at hl 2 rfl) ?_
  obtain ⟨b13, e_b13, hw⟩ := hw
  have f_b13 := h.2.2.2.rf (c := 12) (k := 15) f_a0 (by decide) (by decide) e_b13 (t := 14) rfl
  refine kp_get X h f_a0 ff_12_46.l (v := .ref b13) (congrArg va_rf e_b13) dX12_ensure_58 ?_
  refine lv_iload_n X.1 X.2.1 dX12_ensure_61 rfl (lv_at hl 0 rfl) ?_
  refine lv_aload_n X.1 X.2.1 dX12_ensure_62 rfl (lv_at hl 2 rfl) ?_
  refine kp_get X h f_a0 fp_12_370.l (v := .int (kp_I T11 2417 a0)) rfl dX12_ensure_63 ?_
  obtain ⟨hi, hw⟩ := hw
  refine kp_iast X h f_b13 hi dX12_ensure_66 (fun T14 e_T14 l_T14 H locs h => ?_)
  have hw := hw T14 e_T14
  have f_a0 := l_T14.is f_a0
  have f_b8 := l_T14.is f_b8
  have f_b13 := l_T14.is f_b13
  have hle := hle.tr l_T14
  have e_b13 : kp_R T14 2415 a0 = some b13 := by rw [e_T14]; exact e_b13
  refine lv_aload_n X.1 X.2.1 dX12_ensure_67 rfl (lv_at hl 2 rfl) ?_
  refine kp_calll X h (kp_runV (rm := { frames := F, cells := 0, slots := 0, locals := L }) (mc := 0) (ms := 0) (rest := []) (Qc := fun A => kp_Ql D cy A T14 _) X h (hB T14 a0 _ h.2.2.2 f_a0 hw) f_a0 cv_12_447 ⟨by dsimp only; omega, by dsimp only; omega, rfl, rfl, by dsimp only; omega, by dsimp only; omega⟩ rfl hl.1 rfl (Nat.le_of_ble_eq_true rfl) dX12_ensure_68) (fun z16 T15 hw l_T15 H locs h => ?_)
  have f_a0 := l_T15.is f_a0
  have f_b8 := l_T15.is f_b8
  have f_b13 := l_T15.is f_b13
  have hle := hle.tr l_T15
  refine lv_lstore (lv' := [(4, .long z16), (3, .int y7), (2, .int y2), (0, .ref a0), (1, .int x1)]) X.1 X.2.1 dX12_ensure_71 hl (by decide) rfl (fun ls hl => ?_)
  refine lv_aload_n X.1 X.2.1 dX12_ensure_73 rfl (lv_at hl 3 rfl) ?_
  refine lv_bipush (v := 48) X.1 X.2.1 dX12_ensure_74 (by decide) ?_
  refine lv_iconst (v := 0) X.1 X.2.1 dX12_ensure_76 (by decide) ?_
  refine lv_iconst (v := 0) X.1 X.2.1 dX12_ensure_77 (by decide) ?_
  refine kp_calli X h (kp_runV (rm := { frames := 0, cells := 0, slots := 0, locals := 0 }) (mc := 0) (ms := 0) (rest := []) (Qc := fun A => kp_Qi D cy A T15 _) X h (c_X12_emit l D cy ad T15 a0 48 0 0 _ h.2.2.2 f_a0 hw) f_a0 cv_12_451 ⟨by dsimp only; omega, by dsimp only; omega, rfl, rfl, by dsimp only; omega, by dsimp only; omega⟩ rfl hl.1 rfl (Nat.le_of_ble_eq_true rfl) dX12_ensure_78) (fun y18 T17 hw l_T17 H locs h => ?_)
  have f_a0 := l_T17.is f_a0
  have f_b8 := l_T17.is f_b8
  have f_b13 := l_T17.is f_b13
  have hle := hle.tr l_T17
  refine lv_pop X.1 X.2.1 dX12_ensure_81 rfl ?_
  refine lv_aload_n X.1 X.2.1 dX12_ensure_82 rfl (lv_at hl 3 rfl) ?_
  obtain ⟨b19, e_b19, hw⟩ := hw
  have f_b19 := h.2.2.2.rf (c := 12) (k := 20) f_a0 (by decide) (by decide) e_b19 (t := 14) rfl
  refine kp_get X h f_a0 ff_12_58.l (v := .ref b19) (congrArg va_rf e_b19) dX12_ensure_83 ?_
  refine lv_iload_n X.1 X.2.1 dX12_ensure_86 rfl (lv_at hl 2 rfl) ?_
  refine lv_aload_n X.1 X.2.1 dX12_ensure_87 rfl (lv_at hl 3 rfl) ?_
  refine kp_get X h f_a0 fp_12_370.l (v := .int (kp_I T17 2417 a0)) rfl dX12_ensure_88 ?_
  obtain ⟨hi, hw⟩ := hw
  refine kp_iast X h f_b19 hi dX12_ensure_91 (fun T20 e_T20 l_T20 H locs h => ?_)
  have hw := hw T20 e_T20
  have f_a0 := l_T20.is f_a0
  have f_b8 := l_T20.is f_b8
  have f_b13 := l_T20.is f_b13
  have f_b19 := l_T20.is f_b19
  have hle := hle.tr l_T20
  have e_b19 : kp_R T20 2420 a0 = some b19 := by rw [e_T20]; exact e_b19
  refine lv_lload X.1 X.2.1 dX12_ensure_92 (lv_at hl 0 rfl) ?_
  refine lv_lconst (v := 0) X.1 X.2.1 dX12_ensure_94 (by decide) ?_
  refine W.lcmp X.1 X.2.1 dX12_ensure_95 ?_
  refine lv_if_ne (tgt := 103) X.1 X.2.1 dX12_ensure_96 (by decide) (fun c21 => ?_) (fun c21 => ?_)
  · have hw := hw.1 c21
    refine lv_lload X.1 X.2.1 dX12_ensure_103 (lv_at hl 0 rfl) ?_
    refine lv_ldc2 (v := 4) X.1 X.2.1 X.2.2.2.1 (X.2.2.2.2.1 _ kl_12_475) dX12_ensure_105 ?_
    refine lv_lor X.1 X.2.1 dX12_ensure_108 ?_
    exact j109 (z16 ||| 4) T20 _ _ ls (lv_sub hl [] rfl) h hle f_a0 hw
  · have hw := hw.2 c21
    refine lv_lconst (v := 0) X.1 X.2.1 dX12_ensure_99 (by decide) ?_
    refine lv_goto (tgt := 109) X.1 X.2.1 dX12_ensure_100 (by decide) ?_
    exact j109 0 T20 _ _ ls (lv_sub hl [] rfl) h hle f_a0 hw
theorem dX12_later_0 : decode cX12_later 0 = .ok (.aload_n 0, 1) := by decide +kernel
theorem dX12_later_1 : decode cX12_later 1 = .ok (.dup, 1) := by decide +kernel
theorem dX12_later_2 : decode cX12_later 2 = .ok (.getfield 376, 3) := by decide +kernel
theorem dX12_later_5 : decode cX12_later 5 = .ok (.iconst 1, 1) := by decide +kernel
theorem dX12_later_6 : decode cX12_later 6 = .ok (.iadd, 1) := by decide +kernel
theorem dX12_later_7 : decode cX12_later 7 = .ok (.putfield 376, 3) := by decide +kernel
theorem dX12_later_10 : decode cX12_later 10 = .ok (.aload_n 0, 1) := by decide +kernel
theorem dX12_later_11 : decode cX12_later 11 = .ok (.bipush 54, 2) := by decide +kernel
theorem dX12_later_13 : decode cX12_later 13 = .ok (.iconst 0, 1) := by decide +kernel
theorem dX12_later_14 : decode cX12_later 14 = .ok (.aload_n 0, 1) := by decide +kernel
theorem dX12_later_15 : decode cX12_later 15 = .ok (.getfield 34, 3) := by decide +kernel
theorem dX12_later_18 : decode cX12_later 18 = .ok (.iload_n 1, 1) := by decide +kernel
theorem dX12_later_19 : decode cX12_later 19 = .ok (.iaload, 1) := by decide +kernel
theorem dX12_later_20 : decode cX12_later 20 = .ok (.invokevirtual 451, 3) := by decide +kernel
theorem dX12_later_23 : decode cX12_later 23 = .ok (.istore_n 2, 1) := by decide +kernel
theorem dX12_later_24 : decode cX12_later 24 = .ok (.aload_n 0, 1) := by decide +kernel
theorem dX12_later_25 : decode cX12_later 25 = .ok (.bipush 41, 2) := by decide +kernel
theorem dX12_later_27 : decode cX12_later 27 = .ok (.iconst 0, 1) := by decide +kernel
theorem dX12_later_28 : decode cX12_later 28 = .ok (.iconst 0, 1) := by decide +kernel
theorem dX12_later_29 : decode cX12_later 29 = .ok (.invokevirtual 451, 3) := by decide +kernel
theorem dX12_later_32 : decode cX12_later 32 = .ok (.istore_n 3, 1) := by decide +kernel
theorem dX12_later_33 : decode cX12_later 33 = .ok (.aload_n 0, 1) := by decide +kernel
theorem dX12_later_34 : decode cX12_later 34 = .ok (.getfield 46, 3) := by decide +kernel
theorem dX12_later_37 : decode cX12_later 37 = .ok (.iload_n 2, 1) := by decide +kernel
theorem dX12_later_38 : decode cX12_later 38 = .ok (.aload_n 0, 1) := by decide +kernel
theorem dX12_later_39 : decode cX12_later 39 = .ok (.getfield 370, 3) := by decide +kernel
theorem dX12_later_42 : decode cX12_later 42 = .ok (.iastore, 1) := by decide +kernel
theorem dX12_later_43 : decode cX12_later 43 = .ok (.aload_n 0, 1) := by decide +kernel
theorem dX12_later_44 : decode cX12_later 44 = .ok (.getfield 426, 3) := by decide +kernel
theorem dX12_later_47 : decode cX12_later 47 = .ok (.istore 4, 2) := by decide +kernel
theorem dX12_later_49 : decode cX12_later 49 = .ok (.aload_n 0, 1) := by decide +kernel
theorem dX12_later_50 : decode cX12_later 50 = .ok (.aload_n 0, 1) := by decide +kernel
theorem dX12_later_51 : decode cX12_later 51 = .ok (.getfield 423, 3) := by decide +kernel
theorem dX12_later_54 : decode cX12_later 54 = .ok (.putfield 426, 3) := by decide +kernel
theorem dX12_later_57 : decode cX12_later 57 = .ok (.aload_n 0, 1) := by decide +kernel
theorem dX12_later_58 : decode cX12_later 58 = .ok (.invokevirtual 447, 3) := by decide +kernel
theorem dX12_later_61 : decode cX12_later 61 = .ok (.lstore 5, 2) := by decide +kernel
theorem dX12_later_63 : decode cX12_later 63 = .ok (.aload_n 0, 1) := by decide +kernel
theorem dX12_later_64 : decode cX12_later 64 = .ok (.dup, 1) := by decide +kernel
theorem dX12_later_65 : decode cX12_later 65 = .ok (.getfield 443, 3) := by decide +kernel
theorem dX12_later_68 : decode cX12_later 68 = .ok (.lload 5, 2) := by decide +kernel
theorem dX12_later_70 : decode cX12_later 70 = .ok (.lor, 1) := by decide +kernel
theorem dX12_later_71 : decode cX12_later 71 = .ok (.putfield 443, 3) := by decide +kernel
theorem dX12_later_74 : decode cX12_later 74 = .ok (.aload_n 0, 1) := by decide +kernel
theorem dX12_later_75 : decode cX12_later 75 = .ok (.iload 4, 2) := by decide +kernel
theorem dX12_later_77 : decode cX12_later 77 = .ok (.putfield 426, 3) := by decide +kernel
theorem dX12_later_80 : decode cX12_later 80 = .ok (.aload_n 0, 1) := by decide +kernel
theorem dX12_later_81 : decode cX12_later 81 = .ok (.bipush 48, 2) := by decide +kernel
theorem dX12_later_83 : decode cX12_later 83 = .ok (.iconst 0, 1) := by decide +kernel
theorem dX12_later_84 : decode cX12_later 84 = .ok (.iconst 0, 1) := by decide +kernel
theorem dX12_later_85 : decode cX12_later 85 = .ok (.invokevirtual 451, 3) := by decide +kernel
theorem dX12_later_88 : decode cX12_later 88 = .ok (.pop, 1) := by decide +kernel
theorem dX12_later_89 : decode cX12_later 89 = .ok (.aload_n 0, 1) := by decide +kernel
theorem dX12_later_90 : decode cX12_later 90 = .ok (.getfield 46, 3) := by decide +kernel
theorem dX12_later_93 : decode cX12_later 93 = .ok (.iload_n 3, 1) := by decide +kernel
theorem dX12_later_94 : decode cX12_later 94 = .ok (.aload_n 0, 1) := by decide +kernel
theorem dX12_later_95 : decode cX12_later 95 = .ok (.getfield 370, 3) := by decide +kernel
theorem dX12_later_98 : decode cX12_later 98 = .ok (.iastore, 1) := by decide +kernel
theorem dX12_later_99 : decode cX12_later 99 = .ok (.ldc2_w 487, 3) := by decide +kernel
theorem dX12_later_102 : decode cX12_later 102 = .ok (.lreturn, 1) := by decide +kernel
def wX12_later (B : Nat → kp_S → (Int64 → kp_S → Prop) → Prop) (a0 : Nat) (x1 : Int32) (S : kp_S) (post : Int64 → kp_S → Prop) : Prop :=
  ∀ T1 : kp_S, T1 = kp_sI S 2410 a0 ((kp_I S 2410 a0) + 1) →
  ∃ b2 : Nat, kp_R T1 2405 a0 = some b2 ∧
  vp_in x1 (kp_N T1 b2) ∧
  wX12_emit a0 54 0 (kp_A T1 b2 x1.toNatClampNeg) T1 (fun y4 T3 =>
  wX12_emit a0 41 0 0 T3 (fun y6 T5 =>
  ∃ b7 : Nat, kp_R T5 2415 a0 = some b7 ∧
  vp_in y4 (kp_N T5 b7) ∧ ∀ T8 : kp_S, T8 = kp_sA T5 b7 (upd (kp_A T5 b7) (y4.toNatClampNeg) (kp_I T5 2417 a0)) →
  ∀ y9 : Int32, y9 = (kp_I T8 2446 a0) →
  ∀ T10 : kp_S, T10 = kp_sI T8 2446 a0 (kp_I T8 2445 a0) →
  B a0 T10 (fun z12 T11 =>
  ∀ T13 : kp_S, T13 = kp_sJ T11 2426 a0 ((kp_J T11 2426 a0) ||| z12) →
  ∀ T14 : kp_S, T14 = kp_sI T13 2446 a0 y9 →
  wX12_emit a0 48 0 0 T14 (fun y16 T15 =>
  ∃ b17 : Nat, kp_R T15 2415 a0 = some b17 ∧
  vp_in y6 (kp_N T15 b17) ∧ ∀ T18 : kp_S, T18 = kp_sA T15 b17 (upd (kp_A T15 b17) (y6.toNatClampNeg) (kp_I T15 2417 a0)) →
  post 5 T18))))
set_option maxHeartbeats 4000000 in
set_option maxRecDepth 100000 in
theorem c_X12_later (l : Launch) (D : va_G) (cy : Nat → ClassId) (ad : (Nat → Nat) × (Nat → Nat)) (F L : Nat) (B : Nat → kp_S → (Int64 → kp_S → Prop) → Prop) (hB : ∀ (S : kp_S) (a0 : Nat) (post : Int64 → kp_S → Prop), kp_ok S → kp_is S a0 12 → B a0 S post → kp_M l yX12_block cX12_block 6 (some .long) { frames := F, cells := 0, slots := 0, locals := L } D cy ad S [.ref a0] 0 0 (fun A => kp_Ql D cy A S post)) (hF : 151 ≤ F) (hL : 3211 ≤ L) (S : kp_S) (a0 : Nat) (x1 : Int32) (post : Int64 → kp_S → Prop) (hS : kp_ok S) (f_a0 : kp_is S a0 12) (hw : wX12_later B a0 x1 S post) : kp_M l yX12_later cX12_later 7 (some .long) { frames := F + 1, cells := 0, slots := 0, locals := L + 25 } D cy ad S [.ref a0, .int x1] 0 0 (fun A => kp_Ql D cy A S post) := by
  refine kp_start (own := RX12) (by decide) rfl (Nat.le_of_ble_eq_true rfl) hS ?_
  intro p e s m below meth c A ls X hr hlocks hname h hl
  have hle : kp_le S S := kp_le.rf
  have hl : lv_has ls 7 [(0, .ref a0), (1, .int x1)] := hl
  unfold wX12_later at hw
  have h : kp_H D cy A S s.heap s.heap [] := h
  revert h
  intro h
  refine lv_aload_n X.1 X.2.1 dX12_later_0 rfl (lv_at hl 0 rfl) ?_
  refine lv_dup X.1 X.2.1 dX12_later_1 rfl ?_
  refine kp_get X h f_a0 fp_12_376.l (v := .int (kp_I S 2410 a0)) rfl dX12_later_2 ?_
  refine lv_iconst (v := 1) X.1 X.2.1 dX12_later_5 (by decide) ?_
  refine lv_iadd X.1 X.2.1 dX12_later_6 ?_
  refine kp_putI X h f_a0 fp_12_376 rfl ⟨rfl, rfl⟩ dX12_later_7 (fun T1 e_T1 l_T1 H locs h => ?_)
  have hw := hw T1 e_T1
  have f_a0 := l_T1.is f_a0
  have hle := hle.tr l_T1
  refine lv_aload_n X.1 X.2.1 dX12_later_10 rfl (lv_at hl 0 rfl) ?_
  refine lv_bipush (v := 54) X.1 X.2.1 dX12_later_11 (by decide) ?_
  refine lv_iconst (v := 0) X.1 X.2.1 dX12_later_13 (by decide) ?_
  refine lv_aload_n X.1 X.2.1 dX12_later_14 rfl (lv_at hl 0 rfl) ?_
  obtain ⟨b2, e_b2, hw⟩ := hw
  have f_b2 := h.2.2.2.rf (c := 12) (k := 5) f_a0 (by decide) (by decide) e_b2 (t := 14) rfl
  refine kp_get X h f_a0 ff_12_34.l (v := .ref b2) (congrArg va_rf e_b2) dX12_later_15 ?_
  refine lv_iload_n X.1 X.2.1 dX12_later_18 rfl (lv_at hl 1 rfl) ?_
  obtain ⟨hi, hw⟩ := hw
  refine kp_iald X h f_b2 hi dX12_later_19 ?_
  refine kp_calli X h (kp_runV (rm := { frames := 0, cells := 0, slots := 0, locals := 0 }) (mc := 0) (ms := 0) (rest := []) (Qc := fun A => kp_Qi D cy A T1 _) X h (c_X12_emit l D cy ad T1 a0 54 0 (kp_A T1 b2 x1.toNatClampNeg) _ h.2.2.2 f_a0 hw) f_a0 cv_12_451 ⟨by dsimp only; omega, by dsimp only; omega, rfl, rfl, by dsimp only; omega, by dsimp only; omega⟩ rfl hl.1 rfl (Nat.le_of_ble_eq_true rfl) dX12_later_20) (fun y4 T3 hw l_T3 H locs h => ?_)
  have f_a0 := l_T3.is f_a0
  have f_b2 := l_T3.is f_b2
  have hle := hle.tr l_T3
  refine lv_istore_n (lv' := [(2, .int y4), (0, .ref a0), (1, .int x1)]) X.1 X.2.1 dX12_later_23 rfl hl (by decide) rfl (fun ls hl => ?_)
  refine lv_aload_n X.1 X.2.1 dX12_later_24 rfl (lv_at hl 1 rfl) ?_
  refine lv_bipush (v := 41) X.1 X.2.1 dX12_later_25 (by decide) ?_
  refine lv_iconst (v := 0) X.1 X.2.1 dX12_later_27 (by decide) ?_
  refine lv_iconst (v := 0) X.1 X.2.1 dX12_later_28 (by decide) ?_
  refine kp_calli X h (kp_runV (rm := { frames := 0, cells := 0, slots := 0, locals := 0 }) (mc := 0) (ms := 0) (rest := []) (Qc := fun A => kp_Qi D cy A T3 _) X h (c_X12_emit l D cy ad T3 a0 41 0 0 _ h.2.2.2 f_a0 hw) f_a0 cv_12_451 ⟨by dsimp only; omega, by dsimp only; omega, rfl, rfl, by dsimp only; omega, by dsimp only; omega⟩ rfl hl.1 rfl (Nat.le_of_ble_eq_true rfl) dX12_later_29) (fun y6 T5 hw l_T5 H locs h => ?_)
  have f_a0 := l_T5.is f_a0
  have f_b2 := l_T5.is f_b2
  have hle := hle.tr l_T5
  refine lv_istore_n (lv' := [(3, .int y6), (2, .int y4), (0, .ref a0), (1, .int x1)]) X.1 X.2.1 dX12_later_32 rfl hl (by decide) rfl (fun ls hl => ?_)
  refine lv_aload_n X.1 X.2.1 dX12_later_33 rfl (lv_at hl 2 rfl) ?_
  obtain ⟨b7, e_b7, hw⟩ := hw
  have f_b7 := h.2.2.2.rf (c := 12) (k := 15) f_a0 (by decide) (by decide) e_b7 (t := 14) rfl
  refine kp_get X h f_a0 ff_12_46.l (v := .ref b7) (congrArg va_rf e_b7) dX12_later_34 ?_
  refine lv_iload_n X.1 X.2.1 dX12_later_37 rfl (lv_at hl 1 rfl) ?_
  refine lv_aload_n X.1 X.2.1 dX12_later_38 rfl (lv_at hl 2 rfl) ?_
  refine kp_get X h f_a0 fp_12_370.l (v := .int (kp_I T5 2417 a0)) rfl dX12_later_39 ?_
  obtain ⟨hi, hw⟩ := hw
  refine kp_iast X h f_b7 hi dX12_later_42 (fun T8 e_T8 l_T8 H locs h => ?_)
  have hw := hw T8 e_T8
  have f_a0 := l_T8.is f_a0
  have f_b2 := l_T8.is f_b2
  have f_b7 := l_T8.is f_b7
  have hle := hle.tr l_T8
  have e_b7 : kp_R T8 2415 a0 = some b7 := by rw [e_T8]; exact e_b7
  refine lv_aload_n X.1 X.2.1 dX12_later_43 rfl (lv_at hl 2 rfl) ?_
  refine kp_get X h f_a0 fp_12_426.l (v := .int (kp_I T8 2446 a0)) rfl dX12_later_44 ?_
  refine lv_topi (fun y9 e_y9 => ?_)
  have hw := hw y9 e_y9
  refine lv_istore (lv' := [(4, .int y9), (3, .int y6), (2, .int y4), (0, .ref a0), (1, .int x1)]) X.1 X.2.1 dX12_later_47 hl (by decide) rfl (fun ls hl => ?_)
  refine lv_aload_n X.1 X.2.1 dX12_later_49 rfl (lv_at hl 3 rfl) ?_
  refine lv_aload_n X.1 X.2.1 dX12_later_50 rfl (lv_at hl 3 rfl) ?_
  refine kp_get X h f_a0 fp_12_423.l (v := .int (kp_I T8 2445 a0)) rfl dX12_later_51 ?_
  refine kp_putI X h f_a0 fp_12_426 rfl ⟨rfl, rfl⟩ dX12_later_54 (fun T10 e_T10 l_T10 H locs h => ?_)
  have hw := hw T10 e_T10
  have f_a0 := l_T10.is f_a0
  have f_b2 := l_T10.is f_b2
  have f_b7 := l_T10.is f_b7
  have hle := hle.tr l_T10
  have e_b7 : kp_R T10 2415 a0 = some b7 := by rw [e_T10]; exact e_b7
  refine lv_aload_n X.1 X.2.1 dX12_later_57 rfl (lv_at hl 3 rfl) ?_
  refine kp_calll X h (kp_runV (rm := { frames := F, cells := 0, slots := 0, locals := L }) (mc := 0) (ms := 0) (rest := []) (Qc := fun A => kp_Ql D cy A T10 _) X h (hB T10 a0 _ h.2.2.2 f_a0 hw) f_a0 cv_12_447 ⟨by dsimp only; omega, by dsimp only; omega, rfl, rfl, by dsimp only; omega, by dsimp only; omega⟩ rfl hl.1 rfl (Nat.le_of_ble_eq_true rfl) dX12_later_58) (fun z12 T11 hw l_T11 H locs h => ?_)
  have f_a0 := l_T11.is f_a0
  have f_b2 := l_T11.is f_b2
  have f_b7 := l_T11.is f_b7
  have hle := hle.tr l_T11
  refine lv_lstore (lv' := [(5, .long z12), (4, .int y9), (3, .int y6), (2, .int y4), (0, .ref a0), (1, .int x1)]) X.1 X.2.1 dX12_later_61 hl (by decide) rfl (fun ls hl => ?_)
  refine lv_aload_n X.1 X.2.1 dX12_later_63 rfl (lv_at hl 4 rfl) ?_
  refine lv_dup X.1 X.2.1 dX12_later_64 rfl ?_
  refine kp_get X h f_a0 fp_12_443.l (v := .long (kp_J T11 2426 a0)) rfl dX12_later_65 ?_
  refine lv_lload X.1 X.2.1 dX12_later_68 (lv_at hl 0 rfl) ?_
  refine lv_lor X.1 X.2.1 dX12_later_70 ?_
  refine kp_putJ X h f_a0 fp_12_443 rfl ⟨rfl, rfl⟩ dX12_later_71 (fun T13 e_T13 l_T13 H locs h => ?_)
  have hw := hw T13 e_T13
  have f_a0 := l_T13.is f_a0
  have f_b2 := l_T13.is f_b2
  have f_b7 := l_T13.is f_b7
  have hle := hle.tr l_T13
  refine lv_aload_n X.1 X.2.1 dX12_later_74 rfl (lv_at hl 4 rfl) ?_
  refine lv_iload X.1 X.2.1 dX12_later_75 (lv_at hl 1 rfl) ?_
  refine kp_putI X h f_a0 fp_12_426 rfl ⟨rfl, rfl⟩ dX12_later_77 (fun T14 e_T14 l_T14 H locs h => ?_)
  have hw := hw T14 e_T14
  have f_a0 := l_T14.is f_a0
  have f_b2 := l_T14.is f_b2
  have f_b7 := l_T14.is f_b7
  have hle := hle.tr l_T14
  refine lv_aload_n X.1 X.2.1 dX12_later_80 rfl (lv_at hl 4 rfl) ?_
  refine lv_bipush (v := 48) X.1 X.2.1 dX12_later_81 (by decide) ?_
  refine lv_iconst (v := 0) X.1 X.2.1 dX12_later_83 (by decide) ?_
  refine lv_iconst (v := 0) X.1 X.2.1 dX12_later_84 (by decide) ?_
  refine kp_calli X h (kp_runV (rm := { frames := 0, cells := 0, slots := 0, locals := 0 }) (mc := 0) (ms := 0) (rest := []) (Qc := fun A => kp_Qi D cy A T14 _) X h (c_X12_emit l D cy ad T14 a0 48 0 0 _ h.2.2.2 f_a0 hw) f_a0 cv_12_451 ⟨by dsimp only; omega, by dsimp only; omega, rfl, rfl, by dsimp only; omega, by dsimp only; omega⟩ rfl hl.1 rfl (Nat.le_of_ble_eq_true rfl) dX12_later_85) (fun y16 T15 hw l_T15 H locs h => ?_)
  have f_a0 := l_T15.is f_a0
  have f_b2 := l_T15.is f_b2
  have f_b7 := l_T15.is f_b7
  have hle := hle.tr l_T15
  refine lv_pop X.1 X.2.1 dX12_later_88 rfl ?_
  refine lv_aload_n X.1 X.2.1 dX12_later_89 rfl (lv_at hl 4 rfl) ?_
  obtain ⟨b17, e_b17, hw⟩ := hw
  have f_b17 := h.2.2.2.rf (c := 12) (k := 15) f_a0 (by decide) (by decide) e_b17 (t := 14) rfl
  refine kp_get X h f_a0 ff_12_46.l (v := .ref b17) (congrArg va_rf e_b17) dX12_later_90 ?_
  refine lv_iload_n X.1 X.2.1 dX12_later_93 rfl (lv_at hl 2 rfl) ?_
  refine lv_aload_n X.1 X.2.1 dX12_later_94 rfl (lv_at hl 4 rfl) ?_
  refine kp_get X h f_a0 fp_12_370.l (v := .int (kp_I T15 2417 a0)) rfl dX12_later_95 ?_
  obtain ⟨hi, hw⟩ := hw
  refine kp_iast X h f_b17 hi dX12_later_98 (fun T18 e_T18 l_T18 H locs h => ?_)
  have hw := hw T18 e_T18
  have f_a0 := l_T18.is f_a0
  have f_b2 := l_T18.is f_b2
  have f_b7 := l_T18.is f_b7
  have f_b17 := l_T18.is f_b17
  have hle := hle.tr l_T18
  have e_b17 : kp_R T18 2415 a0 = some b17 := by rw [e_T18]; exact e_b17
  refine lv_ldc2 (v := 5) X.1 X.2.1 X.2.2.2.1 (X.2.2.2.2.1 _ kl_12_487) dX12_later_99 ?_
  exact kp_retl X hr hlocks h hle hw dX12_later_102
theorem dX12_statement_0 : decode cX12_statement 0 = .ok (.aload_n 0, 1) := by decide +kernel
theorem dX12_statement_1 : decode cX12_statement 1 = .ok (.bipush 123, 2) := by decide +kernel
theorem dX12_statement_3 : decode cX12_statement 3 = .ok (.invokevirtual 433, 3) := by decide +kernel
theorem dX12_statement_6 : decode cX12_statement 6 = .ok (.ifCond .eq 8, 3) := by decide +kernel
theorem dX12_statement_9 : decode cX12_statement 9 = .ok (.aload_n 0, 1) := by decide +kernel
theorem dX12_statement_10 : decode cX12_statement 10 = .ok (.invokevirtual 447, 3) := by decide +kernel
theorem dX12_statement_13 : decode cX12_statement 13 = .ok (.lreturn, 1) := by decide +kernel
theorem dX12_statement_14 : decode cX12_statement 14 = .ok (.aload_n 0, 1) := by decide +kernel
theorem dX12_statement_15 : decode cX12_statement 15 = .ok (.getfield 376, 3) := by decide +kernel
theorem dX12_statement_18 : decode cX12_statement 18 = .ok (.istore_n 1, 1) := by decide +kernel
theorem dX12_statement_19 : decode cX12_statement 19 = .ok (.aload_n 0, 1) := by decide +kernel
theorem dX12_statement_20 : decode cX12_statement 20 = .ok (.bipush 30, 2) := by decide +kernel
theorem dX12_statement_22 : decode cX12_statement 22 = .ok (.aload_n 0, 1) := by decide +kernel
theorem dX12_statement_23 : decode cX12_statement 23 = .ok (.getfield 34, 3) := by decide +kernel
theorem dX12_statement_26 : decode cX12_statement 26 = .ok (.iload_n 1, 1) := by decide +kernel
theorem dX12_statement_27 : decode cX12_statement 27 = .ok (.iaload, 1) := by decide +kernel
theorem dX12_statement_28 : decode cX12_statement 28 = .ok (.iconst 0, 1) := by decide +kernel
theorem dX12_statement_29 : decode cX12_statement 29 = .ok (.invokevirtual 451, 3) := by decide +kernel
theorem dX12_statement_32 : decode cX12_statement 32 = .ok (.pop, 1) := by decide +kernel
theorem dX12_statement_33 : decode cX12_statement 33 = .ok (.aload_n 0, 1) := by decide +kernel
theorem dX12_statement_34 : decode cX12_statement 34 = .ok (.iconst 0, 1) := by decide +kernel
theorem dX12_statement_35 : decode cX12_statement 35 = .ok (.putfield 471, 3) := by decide +kernel
theorem dX12_statement_38 : decode cX12_statement 38 = .ok (.aload_n 0, 1) := by decide +kernel
theorem dX12_statement_39 : decode cX12_statement 39 = .ok (.getfield 31, 3) := by decide +kernel
theorem dX12_statement_42 : decode cX12_statement 42 = .ok (.iload_n 1, 1) := by decide +kernel
theorem dX12_statement_43 : decode cX12_statement 43 = .ok (.iaload, 1) := by decide +kernel
theorem dX12_statement_44 : decode cX12_statement 44 = .ok (.tableswitch 353 2 47 #[347, 353, 353, 353, 353, 353, 353, 353, 353, 200, 205, 282, 353, 292, 292, 353, 353, 299, 309, 319, 262, 324, 335, 353, 353, 353, 341, 273, 353, 353, 353, 218, 229, 240, 251, 353, 353, 353, 353, 353, 353, 353, 329, 292, 353, 287], 200) := by decide +kernel
theorem dX12_statement_244 : decode cX12_statement 244 = .ok (.aload_n 0, 1) := by decide +kernel
theorem dX12_statement_245 : decode cX12_statement 245 = .ok (.invokevirtual 477, 3) := by decide +kernel
theorem dX12_statement_248 : decode cX12_statement 248 = .ok (.lreturn, 1) := by decide +kernel
theorem dX12_statement_249 : decode cX12_statement 249 = .ok (.aload_n 0, 1) := by decide +kernel
theorem dX12_statement_250 : decode cX12_statement 250 = .ok (.aload_n 0, 1) := by decide +kernel
theorem dX12_statement_251 : decode cX12_statement 251 = .ok (.iconst 1, 1) := by decide +kernel
theorem dX12_statement_252 : decode cX12_statement 252 = .ok (.bipush 31, 2) := by decide +kernel
theorem dX12_statement_254 : decode cX12_statement 254 = .ok (.lconst 1, 1) := by decide +kernel
theorem dX12_statement_255 : decode cX12_statement 255 = .ok (.invokevirtual 479, 3) := by decide +kernel
theorem dX12_statement_258 : decode cX12_statement 258 = .ok (.invokevirtual 483, 3) := by decide +kernel
theorem dX12_statement_261 : decode cX12_statement 261 = .ok (.lreturn, 1) := by decide +kernel
theorem dX12_statement_262 : decode cX12_statement 262 = .ok (.aload_n 0, 1) := by decide +kernel
theorem dX12_statement_263 : decode cX12_statement 263 = .ok (.iconst 2, 1) := by decide +kernel
theorem dX12_statement_264 : decode cX12_statement 264 = .ok (.bipush 32, 2) := by decide +kernel
theorem dX12_statement_266 : decode cX12_statement 266 = .ok (.ldc2_w 487, 3) := by decide +kernel
theorem dX12_statement_269 : decode cX12_statement 269 = .ok (.invokevirtual 479, 3) := by decide +kernel
theorem dX12_statement_272 : decode cX12_statement 272 = .ok (.lreturn, 1) := by decide +kernel
theorem dX12_statement_273 : decode cX12_statement 273 = .ok (.aload_n 0, 1) := by decide +kernel
theorem dX12_statement_274 : decode cX12_statement 274 = .ok (.iconst 2, 1) := by decide +kernel
theorem dX12_statement_275 : decode cX12_statement 275 = .ok (.bipush 33, 2) := by decide +kernel
theorem dX12_statement_277 : decode cX12_statement 277 = .ok (.ldc2_w 487, 3) := by decide +kernel
theorem dX12_statement_280 : decode cX12_statement 280 = .ok (.invokevirtual 479, 3) := by decide +kernel
theorem dX12_statement_283 : decode cX12_statement 283 = .ok (.lreturn, 1) := by decide +kernel
theorem dX12_statement_284 : decode cX12_statement 284 = .ok (.aload_n 0, 1) := by decide +kernel
theorem dX12_statement_285 : decode cX12_statement 285 = .ok (.iconst 3, 1) := by decide +kernel
theorem dX12_statement_286 : decode cX12_statement 286 = .ok (.bipush 34, 2) := by decide +kernel
theorem dX12_statement_288 : decode cX12_statement 288 = .ok (.ldc2_w 487, 3) := by decide +kernel
theorem dX12_statement_291 : decode cX12_statement 291 = .ok (.invokevirtual 479, 3) := by decide +kernel
theorem dX12_statement_294 : decode cX12_statement 294 = .ok (.lreturn, 1) := by decide +kernel
theorem dX12_statement_295 : decode cX12_statement 295 = .ok (.aload_n 0, 1) := by decide +kernel
theorem dX12_statement_296 : decode cX12_statement 296 = .ok (.iconst 2, 1) := by decide +kernel
theorem dX12_statement_297 : decode cX12_statement 297 = .ok (.bipush 35, 2) := by decide +kernel
theorem dX12_statement_299 : decode cX12_statement 299 = .ok (.ldc2_w 487, 3) := by decide +kernel
theorem dX12_statement_302 : decode cX12_statement 302 = .ok (.invokevirtual 479, 3) := by decide +kernel
theorem dX12_statement_305 : decode cX12_statement 305 = .ok (.lreturn, 1) := by decide +kernel
theorem dX12_statement_306 : decode cX12_statement 306 = .ok (.aload_n 0, 1) := by decide +kernel
theorem dX12_statement_307 : decode cX12_statement 307 = .ok (.iconst 1, 1) := by decide +kernel
theorem dX12_statement_308 : decode cX12_statement 308 = .ok (.bipush 36, 2) := by decide +kernel
theorem dX12_statement_310 : decode cX12_statement 310 = .ok (.ldc2_w 475, 3) := by decide +kernel
theorem dX12_statement_313 : decode cX12_statement 313 = .ok (.invokevirtual 479, 3) := by decide +kernel
theorem dX12_statement_316 : decode cX12_statement 316 = .ok (.lreturn, 1) := by decide +kernel
theorem dX12_statement_317 : decode cX12_statement 317 = .ok (.aload_n 0, 1) := by decide +kernel
theorem dX12_statement_318 : decode cX12_statement 318 = .ok (.iconst 0, 1) := by decide +kernel
theorem dX12_statement_319 : decode cX12_statement 319 = .ok (.bipush 37, 2) := by decide +kernel
theorem dX12_statement_321 : decode cX12_statement 321 = .ok (.lconst 0, 1) := by decide +kernel
theorem dX12_statement_322 : decode cX12_statement 322 = .ok (.invokevirtual 479, 3) := by decide +kernel
theorem dX12_statement_325 : decode cX12_statement 325 = .ok (.lreturn, 1) := by decide +kernel
theorem dX12_statement_326 : decode cX12_statement 326 = .ok (.aload_n 0, 1) := by decide +kernel
theorem dX12_statement_327 : decode cX12_statement 327 = .ok (.invokevirtual 489, 3) := by decide +kernel
theorem dX12_statement_330 : decode cX12_statement 330 = .ok (.lreturn, 1) := by decide +kernel
theorem dX12_statement_331 : decode cX12_statement 331 = .ok (.aload_n 0, 1) := by decide +kernel
theorem dX12_statement_332 : decode cX12_statement 332 = .ok (.invokevirtual 492, 3) := by decide +kernel
theorem dX12_statement_335 : decode cX12_statement 335 = .ok (.lreturn, 1) := by decide +kernel
theorem dX12_statement_336 : decode cX12_statement 336 = .ok (.aload_n 0, 1) := by decide +kernel
theorem dX12_statement_337 : decode cX12_statement 337 = .ok (.iload_n 1, 1) := by decide +kernel
theorem dX12_statement_338 : decode cX12_statement 338 = .ok (.lconst 0, 1) := by decide +kernel
theorem dX12_statement_339 : decode cX12_statement 339 = .ok (.invokevirtual 494, 3) := by decide +kernel
theorem dX12_statement_342 : decode cX12_statement 342 = .ok (.lreturn, 1) := by decide +kernel
theorem dX12_statement_343 : decode cX12_statement 343 = .ok (.aload_n 0, 1) := by decide +kernel
theorem dX12_statement_344 : decode cX12_statement 344 = .ok (.bipush 39, 2) := by decide +kernel
theorem dX12_statement_346 : decode cX12_statement 346 = .ok (.ldc2_w 498, 3) := by decide +kernel
theorem dX12_statement_349 : decode cX12_statement 349 = .ok (.invokevirtual 500, 3) := by decide +kernel
theorem dX12_statement_352 : decode cX12_statement 352 = .ok (.lreturn, 1) := by decide +kernel
theorem dX12_statement_353 : decode cX12_statement 353 = .ok (.aload_n 0, 1) := by decide +kernel
theorem dX12_statement_354 : decode cX12_statement 354 = .ok (.bipush 40, 2) := by decide +kernel
theorem dX12_statement_356 : decode cX12_statement 356 = .ok (.ldc2_w 503, 3) := by decide +kernel
theorem dX12_statement_359 : decode cX12_statement 359 = .ok (.invokevirtual 500, 3) := by decide +kernel
theorem dX12_statement_362 : decode cX12_statement 362 = .ok (.lreturn, 1) := by decide +kernel
theorem dX12_statement_363 : decode cX12_statement 363 = .ok (.aload_n 0, 1) := by decide +kernel
theorem dX12_statement_364 : decode cX12_statement 364 = .ok (.invokevirtual 505, 3) := by decide +kernel
theorem dX12_statement_367 : decode cX12_statement 367 = .ok (.lreturn, 1) := by decide +kernel
theorem dX12_statement_368 : decode cX12_statement 368 = .ok (.aload_n 0, 1) := by decide +kernel
theorem dX12_statement_369 : decode cX12_statement 369 = .ok (.invokevirtual 507, 3) := by decide +kernel
theorem dX12_statement_372 : decode cX12_statement 372 = .ok (.lreturn, 1) := by decide +kernel
theorem dX12_statement_373 : decode cX12_statement 373 = .ok (.aload_n 0, 1) := by decide +kernel
theorem dX12_statement_374 : decode cX12_statement 374 = .ok (.iload_n 1, 1) := by decide +kernel
theorem dX12_statement_375 : decode cX12_statement 375 = .ok (.invokevirtual 509, 3) := by decide +kernel
theorem dX12_statement_378 : decode cX12_statement 378 = .ok (.lreturn, 1) := by decide +kernel
theorem dX12_statement_379 : decode cX12_statement 379 = .ok (.aload_n 0, 1) := by decide +kernel
theorem dX12_statement_380 : decode cX12_statement 380 = .ok (.iload_n 1, 1) := by decide +kernel
theorem dX12_statement_381 : decode cX12_statement 381 = .ok (.invokevirtual 512, 3) := by decide +kernel
theorem dX12_statement_384 : decode cX12_statement 384 = .ok (.lreturn, 1) := by decide +kernel
theorem dX12_statement_385 : decode cX12_statement 385 = .ok (.aload_n 0, 1) := by decide +kernel
theorem dX12_statement_386 : decode cX12_statement 386 = .ok (.iload_n 1, 1) := by decide +kernel
theorem dX12_statement_387 : decode cX12_statement 387 = .ok (.invokevirtual 515, 3) := by decide +kernel
theorem dX12_statement_390 : decode cX12_statement 390 = .ok (.lreturn, 1) := by decide +kernel
theorem dX12_statement_391 : decode cX12_statement 391 = .ok (.aload_n 0, 1) := by decide +kernel
theorem dX12_statement_392 : decode cX12_statement 392 = .ok (.iload_n 1, 1) := by decide +kernel
theorem dX12_statement_393 : decode cX12_statement 393 = .ok (.invokevirtual 517, 3) := by decide +kernel
theorem dX12_statement_396 : decode cX12_statement 396 = .ok (.lreturn, 1) := by decide +kernel
theorem dX12_statement_397 : decode cX12_statement 397 = .ok (.aload_n 0, 1) := by decide +kernel
theorem dX12_statement_398 : decode cX12_statement 398 = .ok (.invokevirtual 382, 3) := by decide +kernel
theorem dX12_statement_401 : decode cX12_statement 401 = .ok (.lconst 0, 1) := by decide +kernel
theorem dX12_statement_402 : decode cX12_statement 402 = .ok (.lreturn, 1) := by decide +kernel
def wX12_statement_b397 (B : Nat → kp_S → (Int64 → kp_S → Prop) → Prop) (a0 : Nat)  (Sn : kp_S) (post : Int64 → kp_S → Prop) : Prop :=
  wX12_wrong a0 Sn (fun T1001 =>
  post 0 T1001)
def wX12_statement_b336 (B : Nat → kp_S → (Int64 → kp_S → Prop) → Prop) (a0 : Nat) (xn1 : Int32)  (Sn : kp_S) (post : Int64 → kp_S → Prop) : Prop :=
  wX12_loop B a0 xn1 0 Sn (fun z2002 T2001 =>
  post z2002 T2001)
def wX12_statement (B : Nat → kp_S → (Int64 → kp_S → Prop) → Prop) (a0 : Nat) (S : kp_S) (post : Int64 → kp_S → Prop) : Prop :=
  wX12_isSign a0 123 S (fun y2 T1 =>
  ((y2 = 0 →
  ∀ y3 : Int32, y3 = (kp_I T1 2410 a0) →
  ∃ b4 : Nat, kp_R T1 2405 a0 = some b4 ∧
  vp_in y3 (kp_N T1 b4) ∧
  wX12_emit a0 30 (kp_A T1 b4 y3.toNatClampNeg) 0 T1 (fun y6 T5 =>
  ∀ T7 : kp_S, T7 = kp_sI T5 2425 a0 0 →
  ∃ b8 : Nat, kp_R T7 2404 a0 = some b8 ∧
  vp_in y3 (kp_N T7 b8) ∧
  ∀ y9 : Int32, y9 = (kp_A T7 b8 y3.toNatClampNeg) →
  ((y9 = 2 →
  wX12_named B a0 y3 T7 (fun z12 T11 =>
  post z12 T11)) ∧ (¬ y9 = 2 →
  ((y9 = 3 →
  wX12_statement_b397 B a0   T7 post) ∧ (¬ y9 = 3 →
  ((y9 = 4 →
  wX12_statement_b397 B a0   T7 post) ∧ (¬ y9 = 4 →
  ((y9 = 5 →
  wX12_statement_b397 B a0   T7 post) ∧ (¬ y9 = 5 →
  ((y9 = 6 →
  wX12_statement_b397 B a0   T7 post) ∧ (¬ y9 = 6 →
  ((y9 = 7 →
  wX12_statement_b397 B a0   T7 post) ∧ (¬ y9 = 7 →
  ((y9 = 8 →
  wX12_statement_b397 B a0   T7 post) ∧ (¬ y9 = 8 →
  ((y9 = 9 →
  wX12_statement_b397 B a0   T7 post) ∧ (¬ y9 = 9 →
  ((y9 = 10 →
  wX12_statement_b397 B a0   T7 post) ∧ (¬ y9 = 10 →
  ((y9 = 11 →
  wX12_variable a0 T7 (fun z23 T22 =>
  post z23 T22)) ∧ (¬ y9 = 11 →
  ((y9 = 12 →
  wX12_order a0 1 31 1 T7 (fun z26 T25 =>
  wX12_risky a0 z26 T25 (fun z28 T27 =>
  post z28 T27))) ∧ (¬ y9 = 12 →
  ((y9 = 13 →
  wX12_choice B a0 T7 (fun z31 T30 =>
  post z31 T30)) ∧ (¬ y9 = 13 →
  ((y9 = 14 →
  wX12_statement_b397 B a0   T7 post) ∧ (¬ y9 = 14 →
  ((y9 = 15 →
  wX12_statement_b336 B a0 y3  T7 post) ∧ (¬ y9 = 15 →
  ((y9 = 16 →
  wX12_statement_b336 B a0 y3  T7 post) ∧ (¬ y9 = 16 →
  ((y9 = 17 →
  wX12_statement_b397 B a0   T7 post) ∧ (¬ y9 = 17 →
  ((y9 = 18 →
  wX12_statement_b397 B a0   T7 post) ∧ (¬ y9 = 18 →
  ((y9 = 19 →
  wX12_away a0 39 8 T7 (fun z39 T38 =>
  post z39 T38)) ∧ (¬ y9 = 19 →
  ((y9 = 20 →
  wX12_away a0 40 1048576 T7 (fun z42 T41 =>
  post z42 T41)) ∧ (¬ y9 = 20 →
  ((y9 = 21 →
  wX12_answer a0 T7 (fun z45 T44 =>
  post z45 T44)) ∧ (¬ y9 = 21 →
  ((y9 = 22 →
  wX12_order a0 1 36 4 T7 (fun z48 T47 =>
  post z48 T47)) ∧ (¬ y9 = 22 →
  ((y9 = 23 →
  wX12_hold B a0 T7 (fun z51 T50 =>
  post z51 T50)) ∧ (¬ y9 = 23 →
  ((y9 = 24 →
  wX12_trial B a0 y3 T7 (fun z54 T53 =>
  post z54 T53)) ∧ (¬ y9 = 24 →
  ((y9 = 25 →
  wX12_statement_b397 B a0   T7 post) ∧ (¬ y9 = 25 →
  ((y9 = 26 →
  wX12_statement_b397 B a0   T7 post) ∧ (¬ y9 = 26 →
  ((y9 = 27 →
  wX12_statement_b397 B a0   T7 post) ∧ (¬ y9 = 27 →
  ((y9 = 28 →
  wX12_later B a0 y3 T7 (fun z60 T59 =>
  post z60 T59)) ∧ (¬ y9 = 28 →
  ((y9 = 29 →
  wX12_order a0 0 37 0 T7 (fun z63 T62 =>
  post z63 T62)) ∧ (¬ y9 = 29 →
  ((y9 = 30 →
  wX12_statement_b397 B a0   T7 post) ∧ (¬ y9 = 30 →
  ((y9 = 31 →
  wX12_statement_b397 B a0   T7 post) ∧ (¬ y9 = 31 →
  ((y9 = 32 →
  wX12_statement_b397 B a0   T7 post) ∧ (¬ y9 = 32 →
  ((y9 = 33 →
  wX12_order a0 2 32 5 T7 (fun z69 T68 =>
  post z69 T68)) ∧ (¬ y9 = 33 →
  ((y9 = 34 →
  wX12_order a0 2 33 5 T7 (fun z72 T71 =>
  post z72 T71)) ∧ (¬ y9 = 34 →
  ((y9 = 35 →
  wX12_order a0 3 34 5 T7 (fun z75 T74 =>
  post z75 T74)) ∧ (¬ y9 = 35 →
  ((y9 = 36 →
  wX12_order a0 2 35 5 T7 (fun z78 T77 =>
  post z78 T77)) ∧ (¬ y9 = 36 →
  ((y9 = 37 →
  wX12_statement_b397 B a0   T7 post) ∧ (¬ y9 = 37 →
  ((y9 = 38 →
  wX12_statement_b397 B a0   T7 post) ∧ (¬ y9 = 38 →
  ((y9 = 39 →
  wX12_statement_b397 B a0   T7 post) ∧ (¬ y9 = 39 →
  ((y9 = 40 →
  wX12_statement_b397 B a0   T7 post) ∧ (¬ y9 = 40 →
  ((y9 = 41 →
  wX12_statement_b397 B a0   T7 post) ∧ (¬ y9 = 41 →
  ((y9 = 42 →
  wX12_statement_b397 B a0   T7 post) ∧ (¬ y9 = 42 →
  ((y9 = 43 →
  wX12_statement_b397 B a0   T7 post) ∧ (¬ y9 = 43 →
  ((y9 = 44 →
  wX12_ensure B a0 y3 T7 (fun z88 T87 =>
  post z88 T87)) ∧ (¬ y9 = 44 →
  ((y9 = 45 →
  wX12_statement_b336 B a0 y3  T7 post) ∧ (¬ y9 = 45 →
  ((y9 = 46 →
  wX12_statement_b397 B a0   T7 post) ∧ (¬ y9 = 46 →
  ((y9 = 47 →
  wX12_choose B a0 T7 (fun z93 T92 =>
  post z93 T92)) ∧ (¬ y9 = 47 →
  wX12_statement_b397 B a0   T7 post)))))))))))))))))))))))))))))))))))))))))))))))))))))))))))))))))))))))))))))))))))))))))))))) ∧ (¬ y2 = 0 →
  B a0 T1 (fun z95 T94 =>
  post z95 T94))))
set_option maxHeartbeats 4000000 in
set_option maxRecDepth 100000 in
theorem c_X12_statement (l : Launch) (D : va_G) (cy : Nat → ClassId) (ad : (Nat → Nat) × (Nat → Nat)) (F L : Nat) (B : Nat → kp_S → (Int64 → kp_S → Prop) → Prop) (hB : ∀ (S : kp_S) (a0 : Nat) (post : Int64 → kp_S → Prop), kp_ok S → kp_is S a0 12 → B a0 S post → kp_M l yX12_block cX12_block 6 (some .long) { frames := F, cells := 0, slots := 0, locals := L } D cy ad S [.ref a0] 0 0 (fun A => kp_Ql D cy A S post)) (hF : 151 ≤ F) (hL : 3211 ≤ L) (S : kp_S) (a0 : Nat) (post : Int64 → kp_S → Prop) (hS : kp_ok S) (f_a0 : kp_is S a0 12) (hw : wX12_statement B a0 S post) : kp_M l yX12_statement cX12_statement 2 (some .long) { frames := F + 4, cells := 0, slots := 0, locals := L + 107 } D cy ad S [.ref a0] 0 0 (fun A => kp_Ql D cy A S post) := by
  refine kp_start (own := RX12) (by decide) rfl (Nat.le_of_ble_eq_true rfl) hS ?_
  intro p e s m below meth c A ls X hr hlocks hname h hl
  have hle : kp_le S S := kp_le.rf
  have hl : lv_has ls 2 [(0, .ref a0)] := hl
  have j397 : ∀  (Sn : kp_S) (H : Heap) (locs : List Loc) (ls : Array Slot), lv_has ls 2 [(0, .ref a0)] → kp_H D cy A Sn s.heap H locs → kp_le S Sn → kp_is Sn a0 12 → wX12_statement_b397 B a0   Sn post → W p l e { frames := F + 4, cells := 0, slots := 0, locals := L + 107 } s m ([.ref a0] : List Value).toArray below meth c H locs 0 0 (MQ below (kp_Ql D cy A S post) ([.ref a0] : List Value).toArray s 0 0 A) (F0 m 397 ls []) := by
    intro  Sn H locs ls hl h hle f_a0 hw
    unfold wX12_statement_b397 at hw
    refine lv_aload_n X.1 X.2.1 dX12_statement_397 rfl (lv_at hl 0 rfl) ?_
    refine kp_callv X h (kp_runV (rm := { frames := 0, cells := 0, slots := 0, locals := 0 }) (mc := 0) (ms := 0) (rest := []) (Qc := fun A => kp_Qv D cy A Sn _) X h (c_X12_wrong l D cy ad Sn a0 _ h.2.2.2 f_a0 hw) f_a0 cv_12_382 ⟨by dsimp only; omega, by dsimp only; omega, rfl, rfl, by dsimp only; omega, by dsimp only; omega⟩ rfl hl.1 rfl (Nat.le_of_ble_eq_true rfl) dX12_statement_398) (fun T1001 hw l_T1001 H locs h => ?_)
    have f_a0 := l_T1001.is f_a0
    have hle := hle.tr l_T1001
    refine lv_lconst (v := 0) X.1 X.2.1 dX12_statement_401 (by decide) ?_
    exact kp_retl X hr hlocks h hle hw dX12_statement_402
  have j336 : ∀ (xn1 : Int32) (Sn : kp_S) (H : Heap) (locs : List Loc) (ls : Array Slot), lv_has ls 2 [(0, .ref a0), (1, .int xn1)] → kp_H D cy A Sn s.heap H locs → kp_le S Sn → kp_is Sn a0 12 → wX12_statement_b336 B a0 xn1  Sn post → W p l e { frames := F + 4, cells := 0, slots := 0, locals := L + 107 } s m ([.ref a0] : List Value).toArray below meth c H locs 0 0 (MQ below (kp_Ql D cy A S post) ([.ref a0] : List Value).toArray s 0 0 A) (F0 m 336 ls []) := by
    intro xn1 Sn H locs ls hl h hle f_a0 hw
    unfold wX12_statement_b336 at hw
    refine lv_aload_n X.1 X.2.1 dX12_statement_336 rfl (lv_at hl 0 rfl) ?_
    refine lv_iload_n X.1 X.2.1 dX12_statement_337 rfl (lv_at hl 1 rfl) ?_
    refine lv_lconst (v := 0) X.1 X.2.1 dX12_statement_338 (by decide) ?_
    refine kp_calll X h (kp_runV (rm := { frames := F + 2, cells := 0, slots := 0, locals := L + 50 }) (mc := 0) (ms := 0) (rest := []) (Qc := fun A => kp_Ql D cy A Sn _) X h (c_X12_loop l D cy ad F L B hB hF hL Sn a0 xn1 0 _ h.2.2.2 f_a0 hw) f_a0 cv_12_494 ⟨by dsimp only; omega, by dsimp only; omega, rfl, rfl, by dsimp only; omega, by dsimp only; omega⟩ rfl hl.1 rfl (Nat.le_of_ble_eq_true rfl) dX12_statement_339) (fun z2002 T2001 hw l_T2001 H locs h => ?_)
    have f_a0 := l_T2001.is f_a0
    have hle := hle.tr l_T2001
    exact kp_retl X hr hlocks h hle hw dX12_statement_342
  unfold wX12_statement at hw
  have h : kp_H D cy A S s.heap s.heap [] := h
  revert h
  intro h
  refine lv_aload_n X.1 X.2.1 dX12_statement_0 rfl (lv_at hl 0 rfl) ?_
  refine lv_bipush (v := 123) X.1 X.2.1 dX12_statement_1 (by decide) ?_
  refine kp_calli X h (kp_runV (rm := { frames := 1, cells := 0, slots := 0, locals := 21 }) (mc := 0) (ms := 0) (rest := []) (Qc := fun A => kp_Qi D cy A S _) X h (c_X12_isSign l D cy ad S a0 123 _ h.2.2.2 f_a0 hw) f_a0 cv_12_433 ⟨by dsimp only; omega, by dsimp only; omega, rfl, rfl, by dsimp only; omega, by dsimp only; omega⟩ rfl hl.1 rfl (Nat.le_of_ble_eq_true rfl) dX12_statement_3) (fun y2 T1 hw l_T1 H locs h => ?_)
  have f_a0 := l_T1.is f_a0
  have hle := hle.tr l_T1
  refine lv_if_eq (tgt := 14) X.1 X.2.1 dX12_statement_6 (by decide) (fun c96 => ?_) (fun c96 => ?_)
  · have hw := hw.1 c96
    refine lv_aload_n X.1 X.2.1 dX12_statement_14 rfl (lv_at hl 0 rfl) ?_
    refine kp_get X h f_a0 fp_12_376.l (v := .int (kp_I T1 2410 a0)) rfl dX12_statement_15 ?_
    refine lv_topi (fun y3 e_y3 => ?_)
    have hw := hw y3 e_y3
    refine lv_istore_n (lv' := [(1, .int y3), (0, .ref a0)]) X.1 X.2.1 dX12_statement_18 rfl hl (by decide) rfl (fun ls hl => ?_)
    refine lv_aload_n X.1 X.2.1 dX12_statement_19 rfl (lv_at hl 1 rfl) ?_
    refine lv_bipush (v := 30) X.1 X.2.1 dX12_statement_20 (by decide) ?_
    refine lv_aload_n X.1 X.2.1 dX12_statement_22 rfl (lv_at hl 1 rfl) ?_
    obtain ⟨b4, e_b4, hw⟩ := hw
    have f_b4 := h.2.2.2.rf (c := 12) (k := 5) f_a0 (by decide) (by decide) e_b4 (t := 14) rfl
    refine kp_get X h f_a0 ff_12_34.l (v := .ref b4) (congrArg va_rf e_b4) dX12_statement_23 ?_
    refine lv_iload_n X.1 X.2.1 dX12_statement_26 rfl (lv_at hl 0 rfl) ?_
    obtain ⟨hi, hw⟩ := hw
    refine kp_iald X h f_b4 hi dX12_statement_27 ?_
    refine lv_iconst (v := 0) X.1 X.2.1 dX12_statement_28 (by decide) ?_
    refine kp_calli X h (kp_runV (rm := { frames := 0, cells := 0, slots := 0, locals := 0 }) (mc := 0) (ms := 0) (rest := []) (Qc := fun A => kp_Qi D cy A T1 _) X h (c_X12_emit l D cy ad T1 a0 30 (kp_A T1 b4 y3.toNatClampNeg) 0 _ h.2.2.2 f_a0 hw) f_a0 cv_12_451 ⟨by dsimp only; omega, by dsimp only; omega, rfl, rfl, by dsimp only; omega, by dsimp only; omega⟩ rfl hl.1 rfl (Nat.le_of_ble_eq_true rfl) dX12_statement_29) (fun y6 T5 hw l_T5 H locs h => ?_)
    have f_a0 := l_T5.is f_a0
    have f_b4 := l_T5.is f_b4
    have hle := hle.tr l_T5
    refine lv_pop X.1 X.2.1 dX12_statement_32 rfl ?_
    refine lv_aload_n X.1 X.2.1 dX12_statement_33 rfl (lv_at hl 1 rfl) ?_
    refine lv_iconst (v := 0) X.1 X.2.1 dX12_statement_34 (by decide) ?_
    refine kp_putI X h f_a0 fp_12_471 rfl ⟨by decide, by decide⟩ dX12_statement_35 (fun T7 e_T7 l_T7 H locs h => ?_)
    have hw := hw T7 e_T7
    have f_a0 := l_T7.is f_a0
    have f_b4 := l_T7.is f_b4
    have hle := hle.tr l_T7
    refine lv_aload_n X.1 X.2.1 dX12_statement_38 rfl (lv_at hl 1 rfl) ?_
    obtain ⟨b8, e_b8, hw⟩ := hw
    have f_b8 := h.2.2.2.rf (c := 12) (k := 4) f_a0 (by decide) (by decide) e_b8 (t := 14) rfl
    refine kp_get X h f_a0 ff_12_31.l (v := .ref b8) (congrArg va_rf e_b8) dX12_statement_39 ?_
    refine lv_iload_n X.1 X.2.1 dX12_statement_42 rfl (lv_at hl 0 rfl) ?_
    obtain ⟨hi, hw⟩ := hw
    refine kp_iald X h f_b8 hi dX12_statement_43 ?_
    refine lv_topi (fun y9 e_y9 => ?_)
    have hw := hw y9 e_y9
    by_cases c10 : y9 = 2
    · have hw := hw.1 c10
      refine lv_tableIn (off := 347) (tgt := 391) X.1 X.2.1 dX12_statement_44 (by rw [c10]; decide) (by rw [c10]; decide) (by rw [c10]; decide) (by decide) ?_
      refine lv_aload_n X.1 X.2.1 dX12_statement_391 rfl (lv_at hl 1 rfl) ?_
      refine lv_iload_n X.1 X.2.1 dX12_statement_392 rfl (lv_at hl 0 rfl) ?_
      refine kp_calll X h (kp_runV (rm := { frames := F + 3, cells := 0, slots := 0, locals := L + 85 }) (mc := 0) (ms := 0) (rest := []) (Qc := fun A => kp_Ql D cy A T7 _) X h (c_X12_named l D cy ad F L B hB hF hL T7 a0 y3 _ h.2.2.2 f_a0 hw) f_a0 cv_12_517 ⟨by dsimp only; omega, by dsimp only; omega, rfl, rfl, by dsimp only; omega, by dsimp only; omega⟩ rfl hl.1 rfl (Nat.le_of_ble_eq_true rfl) dX12_statement_393) (fun z12 T11 hw l_T11 H locs h => ?_)
      have f_a0 := l_T11.is f_a0
      have f_b4 := l_T11.is f_b4
      have f_b8 := l_T11.is f_b8
      have hle := hle.tr l_T11
      exact kp_retl X hr hlocks h hle hw dX12_statement_396
    have hw := hw.2 c10
    by_cases c13 : y9 = 3
    · have hw := hw.1 c13
      refine lv_tableIn (off := 353) (tgt := 397) X.1 X.2.1 dX12_statement_44 (by rw [c13]; decide) (by rw [c13]; decide) (by rw [c13]; decide) (by decide) ?_
      exact j397  T7 _ _ ls (lv_sub hl [1] rfl) h hle f_a0 hw
    have hw := hw.2 c13
    by_cases c14 : y9 = 4
    · have hw := hw.1 c14
      refine lv_tableIn (off := 353) (tgt := 397) X.1 X.2.1 dX12_statement_44 (by rw [c14]; decide) (by rw [c14]; decide) (by rw [c14]; decide) (by decide) ?_
      exact j397  T7 _ _ ls (lv_sub hl [1] rfl) h hle f_a0 hw
    have hw := hw.2 c14
    by_cases c15 : y9 = 5
    · have hw := hw.1 c15
      refine lv_tableIn (off := 353) (tgt := 397) X.1 X.2.1 dX12_statement_44 (by rw [c15]; decide) (by rw [c15]; decide) (by rw [c15]; decide) (by decide) ?_
      exact j397  T7 _ _ ls (lv_sub hl [1] rfl) h hle f_a0 hw
    have hw := hw.2 c15
    by_cases c16 : y9 = 6
    · have hw := hw.1 c16
      refine lv_tableIn (off := 353) (tgt := 397) X.1 X.2.1 dX12_statement_44 (by rw [c16]; decide) (by rw [c16]; decide) (by rw [c16]; decide) (by decide) ?_
      exact j397  T7 _ _ ls (lv_sub hl [1] rfl) h hle f_a0 hw
    have hw := hw.2 c16
    by_cases c17 : y9 = 7
    · have hw := hw.1 c17
      refine lv_tableIn (off := 353) (tgt := 397) X.1 X.2.1 dX12_statement_44 (by rw [c17]; decide) (by rw [c17]; decide) (by rw [c17]; decide) (by decide) ?_
      exact j397  T7 _ _ ls (lv_sub hl [1] rfl) h hle f_a0 hw
    have hw := hw.2 c17
    by_cases c18 : y9 = 8
    · have hw := hw.1 c18
      refine lv_tableIn (off := 353) (tgt := 397) X.1 X.2.1 dX12_statement_44 (by rw [c18]; decide) (by rw [c18]; decide) (by rw [c18]; decide) (by decide) ?_
      exact j397  T7 _ _ ls (lv_sub hl [1] rfl) h hle f_a0 hw
    have hw := hw.2 c18
    by_cases c19 : y9 = 9
    · have hw := hw.1 c19
      refine lv_tableIn (off := 353) (tgt := 397) X.1 X.2.1 dX12_statement_44 (by rw [c19]; decide) (by rw [c19]; decide) (by rw [c19]; decide) (by decide) ?_
      exact j397  T7 _ _ ls (lv_sub hl [1] rfl) h hle f_a0 hw
    have hw := hw.2 c19
    by_cases c20 : y9 = 10
    · have hw := hw.1 c20
      refine lv_tableIn (off := 353) (tgt := 397) X.1 X.2.1 dX12_statement_44 (by rw [c20]; decide) (by rw [c20]; decide) (by rw [c20]; decide) (by decide) ?_
      exact j397  T7 _ _ ls (lv_sub hl [1] rfl) h hle f_a0 hw
    have hw := hw.2 c20
    by_cases c21 : y9 = 11
    · have hw := hw.1 c21
      refine lv_tableIn (off := 200) (tgt := 244) X.1 X.2.1 dX12_statement_44 (by rw [c21]; decide) (by rw [c21]; decide) (by rw [c21]; decide) (by decide) ?_
      refine lv_aload_n X.1 X.2.1 dX12_statement_244 rfl (lv_at hl 1 rfl) ?_
      refine kp_calll X h (kp_runV (rm := { frames := 150, cells := 0, slots := 0, locals := 3185 }) (mc := 0) (ms := 0) (rest := []) (Qc := fun A => kp_Ql D cy A T7 _) X h (c_X12_variable l D cy ad T7 a0 _ h.2.2.2 f_a0 hw) f_a0 cv_12_477 ⟨by dsimp only; omega, by dsimp only; omega, rfl, rfl, by dsimp only; omega, by dsimp only; omega⟩ rfl hl.1 rfl (Nat.le_of_ble_eq_true rfl) dX12_statement_245) (fun z23 T22 hw l_T22 H locs h => ?_)
      have f_a0 := l_T22.is f_a0
      have f_b4 := l_T22.is f_b4
      have f_b8 := l_T22.is f_b8
      have hle := hle.tr l_T22
      exact kp_retl X hr hlocks h hle hw dX12_statement_248
    have hw := hw.2 c21
    by_cases c24 : y9 = 12
    · have hw := hw.1 c24
      refine lv_tableIn (off := 205) (tgt := 249) X.1 X.2.1 dX12_statement_44 (by rw [c24]; decide) (by rw [c24]; decide) (by rw [c24]; decide) (by decide) ?_
      refine lv_aload_n X.1 X.2.1 dX12_statement_249 rfl (lv_at hl 1 rfl) ?_
      refine lv_aload_n X.1 X.2.1 dX12_statement_250 rfl (lv_at hl 1 rfl) ?_
      refine lv_iconst (v := 1) X.1 X.2.1 dX12_statement_251 (by decide) ?_
      refine lv_bipush (v := 31) X.1 X.2.1 dX12_statement_252 (by decide) ?_
      refine lv_lconst (v := 1) X.1 X.2.1 dX12_statement_254 (by decide) ?_
      refine kp_calll X h (kp_runV (rm := { frames := 150, cells := 0, slots := 0, locals := 3185 }) (mc := 0) (ms := 0) (rest := [.ref a0]) (Qc := fun A => kp_Ql D cy A T7 _) X h (c_X12_order l D cy ad T7 a0 1 31 1 _ h.2.2.2 f_a0 hw) f_a0 cv_12_479 ⟨by dsimp only; omega, by dsimp only; omega, rfl, rfl, by dsimp only; omega, by dsimp only; omega⟩ rfl hl.1 rfl (Nat.le_of_ble_eq_true rfl) dX12_statement_255) (fun z26 T25 hw l_T25 H locs h => ?_)
      have f_a0 := l_T25.is f_a0
      have f_b4 := l_T25.is f_b4
      have f_b8 := l_T25.is f_b8
      have hle := hle.tr l_T25
      refine kp_calll X h (kp_runV (rm := { frames := 0, cells := 0, slots := 0, locals := 0 }) (mc := 0) (ms := 0) (rest := []) (Qc := fun A => kp_Ql D cy A T25 _) X h (c_X12_risky l D cy ad T25 a0 z26 _ h.2.2.2 f_a0 hw) f_a0 cv_12_483 ⟨by dsimp only; omega, by dsimp only; omega, rfl, rfl, by dsimp only; omega, by dsimp only; omega⟩ rfl hl.1 rfl (Nat.le_of_ble_eq_true rfl) dX12_statement_258) (fun z28 T27 hw l_T27 H locs h => ?_)
      have f_a0 := l_T27.is f_a0
      have f_b4 := l_T27.is f_b4
      have f_b8 := l_T27.is f_b8
      have hle := hle.tr l_T27
      exact kp_retl X hr hlocks h hle hw dX12_statement_261
    have hw := hw.2 c24
    by_cases c29 : y9 = 13
    · have hw := hw.1 c29
      refine lv_tableIn (off := 282) (tgt := 326) X.1 X.2.1 dX12_statement_44 (by rw [c29]; decide) (by rw [c29]; decide) (by rw [c29]; decide) (by decide) ?_
      refine lv_aload_n X.1 X.2.1 dX12_statement_326 rfl (lv_at hl 1 rfl) ?_
      refine kp_calll X h (kp_runV (rm := { frames := F + 1, cells := 0, slots := 0, locals := L + 25 }) (mc := 0) (ms := 0) (rest := []) (Qc := fun A => kp_Ql D cy A T7 _) X h (c_X12_choice l D cy ad F L B hB hF hL T7 a0 _ h.2.2.2 f_a0 hw) f_a0 cv_12_489 ⟨by dsimp only; omega, by dsimp only; omega, rfl, rfl, by dsimp only; omega, by dsimp only; omega⟩ rfl hl.1 rfl (Nat.le_of_ble_eq_true rfl) dX12_statement_327) (fun z31 T30 hw l_T30 H locs h => ?_)
      have f_a0 := l_T30.is f_a0
      have f_b4 := l_T30.is f_b4
      have f_b8 := l_T30.is f_b8
      have hle := hle.tr l_T30
      exact kp_retl X hr hlocks h hle hw dX12_statement_330
    have hw := hw.2 c29
    by_cases c32 : y9 = 14
    · have hw := hw.1 c32
      refine lv_tableIn (off := 353) (tgt := 397) X.1 X.2.1 dX12_statement_44 (by rw [c32]; decide) (by rw [c32]; decide) (by rw [c32]; decide) (by decide) ?_
      exact j397  T7 _ _ ls (lv_sub hl [1] rfl) h hle f_a0 hw
    have hw := hw.2 c32
    by_cases c33 : y9 = 15
    · have hw := hw.1 c33
      refine lv_tableIn (off := 292) (tgt := 336) X.1 X.2.1 dX12_statement_44 (by rw [c33]; decide) (by rw [c33]; decide) (by rw [c33]; decide) (by decide) ?_
      exact j336 y3 T7 _ _ ls (lv_sub hl [1, 0] rfl) h hle f_a0 hw
    have hw := hw.2 c33
    by_cases c34 : y9 = 16
    · have hw := hw.1 c34
      refine lv_tableIn (off := 292) (tgt := 336) X.1 X.2.1 dX12_statement_44 (by rw [c34]; decide) (by rw [c34]; decide) (by rw [c34]; decide) (by decide) ?_
      exact j336 y3 T7 _ _ ls (lv_sub hl [1, 0] rfl) h hle f_a0 hw
    have hw := hw.2 c34
    by_cases c35 : y9 = 17
    · have hw := hw.1 c35
      refine lv_tableIn (off := 353) (tgt := 397) X.1 X.2.1 dX12_statement_44 (by rw [c35]; decide) (by rw [c35]; decide) (by rw [c35]; decide) (by decide) ?_
      exact j397  T7 _ _ ls (lv_sub hl [1] rfl) h hle f_a0 hw
    have hw := hw.2 c35
    by_cases c36 : y9 = 18
    · have hw := hw.1 c36
      refine lv_tableIn (off := 353) (tgt := 397) X.1 X.2.1 dX12_statement_44 (by rw [c36]; decide) (by rw [c36]; decide) (by rw [c36]; decide) (by decide) ?_
      exact j397  T7 _ _ ls (lv_sub hl [1] rfl) h hle f_a0 hw
    have hw := hw.2 c36
    by_cases c37 : y9 = 19
    · have hw := hw.1 c37
      refine lv_tableIn (off := 299) (tgt := 343) X.1 X.2.1 dX12_statement_44 (by rw [c37]; decide) (by rw [c37]; decide) (by rw [c37]; decide) (by decide) ?_
      refine lv_aload_n X.1 X.2.1 dX12_statement_343 rfl (lv_at hl 1 rfl) ?_
      refine lv_bipush (v := 39) X.1 X.2.1 dX12_statement_344 (by decide) ?_
      refine lv_ldc2 (v := 8) X.1 X.2.1 X.2.2.2.1 (X.2.2.2.2.1 _ kl_12_498) dX12_statement_346 ?_
      refine kp_calll X h (kp_runV (rm := { frames := 3, cells := 0, slots := 0, locals := 63 }) (mc := 0) (ms := 0) (rest := []) (Qc := fun A => kp_Ql D cy A T7 _) X h (c_X12_away l D cy ad T7 a0 39 8 _ h.2.2.2 f_a0 hw) f_a0 cv_12_500 ⟨by dsimp only; omega, by dsimp only; omega, rfl, rfl, by dsimp only; omega, by dsimp only; omega⟩ rfl hl.1 rfl (Nat.le_of_ble_eq_true rfl) dX12_statement_349) (fun z39 T38 hw l_T38 H locs h => ?_)
      have f_a0 := l_T38.is f_a0
      have f_b4 := l_T38.is f_b4
      have f_b8 := l_T38.is f_b8
      have hle := hle.tr l_T38
      exact kp_retl X hr hlocks h hle hw dX12_statement_352
    have hw := hw.2 c37
    by_cases c40 : y9 = 20
    · have hw := hw.1 c40
      refine lv_tableIn (off := 309) (tgt := 353) X.1 X.2.1 dX12_statement_44 (by rw [c40]; decide) (by rw [c40]; decide) (by rw [c40]; decide) (by decide) ?_
      refine lv_aload_n X.1 X.2.1 dX12_statement_353 rfl (lv_at hl 1 rfl) ?_
      refine lv_bipush (v := 40) X.1 X.2.1 dX12_statement_354 (by decide) ?_
      refine lv_ldc2 (v := 1048576) X.1 X.2.1 X.2.2.2.1 (X.2.2.2.2.1 _ kl_12_503) dX12_statement_356 ?_
      refine kp_calll X h (kp_runV (rm := { frames := 3, cells := 0, slots := 0, locals := 63 }) (mc := 0) (ms := 0) (rest := []) (Qc := fun A => kp_Ql D cy A T7 _) X h (c_X12_away l D cy ad T7 a0 40 1048576 _ h.2.2.2 f_a0 hw) f_a0 cv_12_500 ⟨by dsimp only; omega, by dsimp only; omega, rfl, rfl, by dsimp only; omega, by dsimp only; omega⟩ rfl hl.1 rfl (Nat.le_of_ble_eq_true rfl) dX12_statement_359) (fun z42 T41 hw l_T41 H locs h => ?_)
      have f_a0 := l_T41.is f_a0
      have f_b4 := l_T41.is f_b4
      have f_b8 := l_T41.is f_b8
      have hle := hle.tr l_T41
      exact kp_retl X hr hlocks h hle hw dX12_statement_362
    have hw := hw.2 c40
    by_cases c43 : y9 = 21
    · have hw := hw.1 c43
      refine lv_tableIn (off := 319) (tgt := 363) X.1 X.2.1 dX12_statement_44 (by rw [c43]; decide) (by rw [c43]; decide) (by rw [c43]; decide) (by decide) ?_
      refine lv_aload_n X.1 X.2.1 dX12_statement_363 rfl (lv_at hl 1 rfl) ?_
      refine kp_calll X h (kp_runV (rm := { frames := 150, cells := 0, slots := 0, locals := 3185 }) (mc := 0) (ms := 0) (rest := []) (Qc := fun A => kp_Ql D cy A T7 _) X h (c_X12_answer l D cy ad T7 a0 _ h.2.2.2 f_a0 hw) f_a0 cv_12_505 ⟨by dsimp only; omega, by dsimp only; omega, rfl, rfl, by dsimp only; omega, by dsimp only; omega⟩ rfl hl.1 rfl (Nat.le_of_ble_eq_true rfl) dX12_statement_364) (fun z45 T44 hw l_T44 H locs h => ?_)
      have f_a0 := l_T44.is f_a0
      have f_b4 := l_T44.is f_b4
      have f_b8 := l_T44.is f_b8
      have hle := hle.tr l_T44
      exact kp_retl X hr hlocks h hle hw dX12_statement_367
    have hw := hw.2 c43
    by_cases c46 : y9 = 22
    · have hw := hw.1 c46
      refine lv_tableIn (off := 262) (tgt := 306) X.1 X.2.1 dX12_statement_44 (by rw [c46]; decide) (by rw [c46]; decide) (by rw [c46]; decide) (by decide) ?_
      refine lv_aload_n X.1 X.2.1 dX12_statement_306 rfl (lv_at hl 1 rfl) ?_
      refine lv_iconst (v := 1) X.1 X.2.1 dX12_statement_307 (by decide) ?_
      refine lv_bipush (v := 36) X.1 X.2.1 dX12_statement_308 (by decide) ?_
      refine lv_ldc2 (v := 4) X.1 X.2.1 X.2.2.2.1 (X.2.2.2.2.1 _ kl_12_475) dX12_statement_310 ?_
      refine kp_calll X h (kp_runV (rm := { frames := 150, cells := 0, slots := 0, locals := 3185 }) (mc := 0) (ms := 0) (rest := []) (Qc := fun A => kp_Ql D cy A T7 _) X h (c_X12_order l D cy ad T7 a0 1 36 4 _ h.2.2.2 f_a0 hw) f_a0 cv_12_479 ⟨by dsimp only; omega, by dsimp only; omega, rfl, rfl, by dsimp only; omega, by dsimp only; omega⟩ rfl hl.1 rfl (Nat.le_of_ble_eq_true rfl) dX12_statement_313) (fun z48 T47 hw l_T47 H locs h => ?_)
      have f_a0 := l_T47.is f_a0
      have f_b4 := l_T47.is f_b4
      have f_b8 := l_T47.is f_b8
      have hle := hle.tr l_T47
      exact kp_retl X hr hlocks h hle hw dX12_statement_316
    have hw := hw.2 c46
    by_cases c49 : y9 = 23
    · have hw := hw.1 c49
      refine lv_tableIn (off := 324) (tgt := 368) X.1 X.2.1 dX12_statement_44 (by rw [c49]; decide) (by rw [c49]; decide) (by rw [c49]; decide) (by decide) ?_
      refine lv_aload_n X.1 X.2.1 dX12_statement_368 rfl (lv_at hl 1 rfl) ?_
      refine kp_calll X h (kp_runV (rm := { frames := F + 1, cells := 0, slots := 0, locals := L + 25 }) (mc := 0) (ms := 0) (rest := []) (Qc := fun A => kp_Ql D cy A T7 _) X h (c_X12_hold l D cy ad F L B hB hF hL T7 a0 _ h.2.2.2 f_a0 hw) f_a0 cv_12_507 ⟨by dsimp only; omega, by dsimp only; omega, rfl, rfl, by dsimp only; omega, by dsimp only; omega⟩ rfl hl.1 rfl (Nat.le_of_ble_eq_true rfl) dX12_statement_369) (fun z51 T50 hw l_T50 H locs h => ?_)
      have f_a0 := l_T50.is f_a0
      have f_b4 := l_T50.is f_b4
      have f_b8 := l_T50.is f_b8
      have hle := hle.tr l_T50
      exact kp_retl X hr hlocks h hle hw dX12_statement_372
    have hw := hw.2 c49
    by_cases c52 : y9 = 24
    · have hw := hw.1 c52
      refine lv_tableIn (off := 335) (tgt := 379) X.1 X.2.1 dX12_statement_44 (by rw [c52]; decide) (by rw [c52]; decide) (by rw [c52]; decide) (by decide) ?_
      refine lv_aload_n X.1 X.2.1 dX12_statement_379 rfl (lv_at hl 1 rfl) ?_
      refine lv_iload_n X.1 X.2.1 dX12_statement_380 rfl (lv_at hl 0 rfl) ?_
      refine kp_calll X h (kp_runV (rm := { frames := F + 2, cells := 0, slots := 0, locals := L + 50 }) (mc := 0) (ms := 0) (rest := []) (Qc := fun A => kp_Ql D cy A T7 _) X h (c_X12_trial l D cy ad F L B hB hF hL T7 a0 y3 _ h.2.2.2 f_a0 hw) f_a0 cv_12_512 ⟨by dsimp only; omega, by dsimp only; omega, rfl, rfl, by dsimp only; omega, by dsimp only; omega⟩ rfl hl.1 rfl (Nat.le_of_ble_eq_true rfl) dX12_statement_381) (fun z54 T53 hw l_T53 H locs h => ?_)
      have f_a0 := l_T53.is f_a0
      have f_b4 := l_T53.is f_b4
      have f_b8 := l_T53.is f_b8
      have hle := hle.tr l_T53
      exact kp_retl X hr hlocks h hle hw dX12_statement_384
    have hw := hw.2 c52
    by_cases c55 : y9 = 25
    · have hw := hw.1 c55
      refine lv_tableIn (off := 353) (tgt := 397) X.1 X.2.1 dX12_statement_44 (by rw [c55]; decide) (by rw [c55]; decide) (by rw [c55]; decide) (by decide) ?_
      exact j397  T7 _ _ ls (lv_sub hl [1] rfl) h hle f_a0 hw
    have hw := hw.2 c55
    by_cases c56 : y9 = 26
    · have hw := hw.1 c56
      refine lv_tableIn (off := 353) (tgt := 397) X.1 X.2.1 dX12_statement_44 (by rw [c56]; decide) (by rw [c56]; decide) (by rw [c56]; decide) (by decide) ?_
      exact j397  T7 _ _ ls (lv_sub hl [1] rfl) h hle f_a0 hw
    have hw := hw.2 c56
    by_cases c57 : y9 = 27
    · have hw := hw.1 c57
      refine lv_tableIn (off := 353) (tgt := 397) X.1 X.2.1 dX12_statement_44 (by rw [c57]; decide) (by rw [c57]; decide) (by rw [c57]; decide) (by decide) ?_
      exact j397  T7 _ _ ls (lv_sub hl [1] rfl) h hle f_a0 hw
    have hw := hw.2 c57
    by_cases c58 : y9 = 28
    · have hw := hw.1 c58
      refine lv_tableIn (off := 341) (tgt := 385) X.1 X.2.1 dX12_statement_44 (by rw [c58]; decide) (by rw [c58]; decide) (by rw [c58]; decide) (by decide) ?_
      refine lv_aload_n X.1 X.2.1 dX12_statement_385 rfl (lv_at hl 1 rfl) ?_
      refine lv_iload_n X.1 X.2.1 dX12_statement_386 rfl (lv_at hl 0 rfl) ?_
      refine kp_calll X h (kp_runV (rm := { frames := F + 1, cells := 0, slots := 0, locals := L + 25 }) (mc := 0) (ms := 0) (rest := []) (Qc := fun A => kp_Ql D cy A T7 _) X h (c_X12_later l D cy ad F L B hB hF hL T7 a0 y3 _ h.2.2.2 f_a0 hw) f_a0 cv_12_515 ⟨by dsimp only; omega, by dsimp only; omega, rfl, rfl, by dsimp only; omega, by dsimp only; omega⟩ rfl hl.1 rfl (Nat.le_of_ble_eq_true rfl) dX12_statement_387) (fun z60 T59 hw l_T59 H locs h => ?_)
      have f_a0 := l_T59.is f_a0
      have f_b4 := l_T59.is f_b4
      have f_b8 := l_T59.is f_b8
      have hle := hle.tr l_T59
      exact kp_retl X hr hlocks h hle hw dX12_statement_390
    have hw := hw.2 c58
    by_cases c61 : y9 = 29
    · have hw := hw.1 c61
      refine lv_tableIn (off := 273) (tgt := 317) X.1 X.2.1 dX12_statement_44 (by rw [c61]; decide) (by rw [c61]; decide) (by rw [c61]; decide) (by decide) ?_
      refine lv_aload_n X.1 X.2.1 dX12_statement_317 rfl (lv_at hl 1 rfl) ?_
      refine lv_iconst (v := 0) X.1 X.2.1 dX12_statement_318 (by decide) ?_
      refine lv_bipush (v := 37) X.1 X.2.1 dX12_statement_319 (by decide) ?_
      refine lv_lconst (v := 0) X.1 X.2.1 dX12_statement_321 (by decide) ?_
      refine kp_calll X h (kp_runV (rm := { frames := 150, cells := 0, slots := 0, locals := 3185 }) (mc := 0) (ms := 0) (rest := []) (Qc := fun A => kp_Ql D cy A T7 _) X h (c_X12_order l D cy ad T7 a0 0 37 0 _ h.2.2.2 f_a0 hw) f_a0 cv_12_479 ⟨by dsimp only; omega, by dsimp only; omega, rfl, rfl, by dsimp only; omega, by dsimp only; omega⟩ rfl hl.1 rfl (Nat.le_of_ble_eq_true rfl) dX12_statement_322) (fun z63 T62 hw l_T62 H locs h => ?_)
      have f_a0 := l_T62.is f_a0
      have f_b4 := l_T62.is f_b4
      have f_b8 := l_T62.is f_b8
      have hle := hle.tr l_T62
      exact kp_retl X hr hlocks h hle hw dX12_statement_325
    have hw := hw.2 c61
    by_cases c64 : y9 = 30
    · have hw := hw.1 c64
      refine lv_tableIn (off := 353) (tgt := 397) X.1 X.2.1 dX12_statement_44 (by rw [c64]; decide) (by rw [c64]; decide) (by rw [c64]; decide) (by decide) ?_
      exact j397  T7 _ _ ls (lv_sub hl [1] rfl) h hle f_a0 hw
    have hw := hw.2 c64
    by_cases c65 : y9 = 31
    · have hw := hw.1 c65
      refine lv_tableIn (off := 353) (tgt := 397) X.1 X.2.1 dX12_statement_44 (by rw [c65]; decide) (by rw [c65]; decide) (by rw [c65]; decide) (by decide) ?_
      exact j397  T7 _ _ ls (lv_sub hl [1] rfl) h hle f_a0 hw
    have hw := hw.2 c65
    by_cases c66 : y9 = 32
    · have hw := hw.1 c66
      refine lv_tableIn (off := 353) (tgt := 397) X.1 X.2.1 dX12_statement_44 (by rw [c66]; decide) (by rw [c66]; decide) (by rw [c66]; decide) (by decide) ?_
      exact j397  T7 _ _ ls (lv_sub hl [1] rfl) h hle f_a0 hw
    have hw := hw.2 c66
    by_cases c67 : y9 = 33
    · have hw := hw.1 c67
      refine lv_tableIn (off := 218) (tgt := 262) X.1 X.2.1 dX12_statement_44 (by rw [c67]; decide) (by rw [c67]; decide) (by rw [c67]; decide) (by decide) ?_
      refine lv_aload_n X.1 X.2.1 dX12_statement_262 rfl (lv_at hl 1 rfl) ?_
      refine lv_iconst (v := 2) X.1 X.2.1 dX12_statement_263 (by decide) ?_
      refine lv_bipush (v := 32) X.1 X.2.1 dX12_statement_264 (by decide) ?_
      refine lv_ldc2 (v := 5) X.1 X.2.1 X.2.2.2.1 (X.2.2.2.2.1 _ kl_12_487) dX12_statement_266 ?_
      refine kp_calll X h (kp_runV (rm := { frames := 150, cells := 0, slots := 0, locals := 3185 }) (mc := 0) (ms := 0) (rest := []) (Qc := fun A => kp_Ql D cy A T7 _) X h (c_X12_order l D cy ad T7 a0 2 32 5 _ h.2.2.2 f_a0 hw) f_a0 cv_12_479 ⟨by dsimp only; omega, by dsimp only; omega, rfl, rfl, by dsimp only; omega, by dsimp only; omega⟩ rfl hl.1 rfl (Nat.le_of_ble_eq_true rfl) dX12_statement_269) (fun z69 T68 hw l_T68 H locs h => ?_)
      have f_a0 := l_T68.is f_a0
      have f_b4 := l_T68.is f_b4
      have f_b8 := l_T68.is f_b8
      have hle := hle.tr l_T68
      exact kp_retl X hr hlocks h hle hw dX12_statement_272
    have hw := hw.2 c67
    by_cases c70 : y9 = 34
    · have hw := hw.1 c70
      refine lv_tableIn (off := 229) (tgt := 273) X.1 X.2.1 dX12_statement_44 (by rw [c70]; decide) (by rw [c70]; decide) (by rw [c70]; decide) (by decide) ?_
      refine lv_aload_n X.1 X.2.1 dX12_statement_273 rfl (lv_at hl 1 rfl) ?_
      refine lv_iconst (v := 2) X.1 X.2.1 dX12_statement_274 (by decide) ?_
      refine lv_bipush (v := 33) X.1 X.2.1 dX12_statement_275 (by decide) ?_
      refine lv_ldc2 (v := 5) X.1 X.2.1 X.2.2.2.1 (X.2.2.2.2.1 _ kl_12_487) dX12_statement_277 ?_
      refine kp_calll X h (kp_runV (rm := { frames := 150, cells := 0, slots := 0, locals := 3185 }) (mc := 0) (ms := 0) (rest := []) (Qc := fun A => kp_Ql D cy A T7 _) X h (c_X12_order l D cy ad T7 a0 2 33 5 _ h.2.2.2 f_a0 hw) f_a0 cv_12_479 ⟨by dsimp only; omega, by dsimp only; omega, rfl, rfl, by dsimp only; omega, by dsimp only; omega⟩ rfl hl.1 rfl (Nat.le_of_ble_eq_true rfl) dX12_statement_280) (fun z72 T71 hw l_T71 H locs h => ?_)
      have f_a0 := l_T71.is f_a0
      have f_b4 := l_T71.is f_b4
      have f_b8 := l_T71.is f_b8
      have hle := hle.tr l_T71
      exact kp_retl X hr hlocks h hle hw dX12_statement_283
    have hw := hw.2 c70
    by_cases c73 : y9 = 35
    · have hw := hw.1 c73
      refine lv_tableIn (off := 240) (tgt := 284) X.1 X.2.1 dX12_statement_44 (by rw [c73]; decide) (by rw [c73]; decide) (by rw [c73]; decide) (by decide) ?_
      refine lv_aload_n X.1 X.2.1 dX12_statement_284 rfl (lv_at hl 1 rfl) ?_
      refine lv_iconst (v := 3) X.1 X.2.1 dX12_statement_285 (by decide) ?_
      refine lv_bipush (v := 34) X.1 X.2.1 dX12_statement_286 (by decide) ?_
      refine lv_ldc2 (v := 5) X.1 X.2.1 X.2.2.2.1 (X.2.2.2.2.1 _ kl_12_487) dX12_statement_288 ?_
      refine kp_calll X h (kp_runV (rm := { frames := 150, cells := 0, slots := 0, locals := 3185 }) (mc := 0) (ms := 0) (rest := []) (Qc := fun A => kp_Ql D cy A T7 _) X h (c_X12_order l D cy ad T7 a0 3 34 5 _ h.2.2.2 f_a0 hw) f_a0 cv_12_479 ⟨by dsimp only; omega, by dsimp only; omega, rfl, rfl, by dsimp only; omega, by dsimp only; omega⟩ rfl hl.1 rfl (Nat.le_of_ble_eq_true rfl) dX12_statement_291) (fun z75 T74 hw l_T74 H locs h => ?_)
      have f_a0 := l_T74.is f_a0
      have f_b4 := l_T74.is f_b4
      have f_b8 := l_T74.is f_b8
      have hle := hle.tr l_T74
      exact kp_retl X hr hlocks h hle hw dX12_statement_294
    have hw := hw.2 c73
    by_cases c76 : y9 = 36
    · have hw := hw.1 c76
      refine lv_tableIn (off := 251) (tgt := 295) X.1 X.2.1 dX12_statement_44 (by rw [c76]; decide) (by rw [c76]; decide) (by rw [c76]; decide) (by decide) ?_
      refine lv_aload_n X.1 X.2.1 dX12_statement_295 rfl (lv_at hl 1 rfl) ?_
      refine lv_iconst (v := 2) X.1 X.2.1 dX12_statement_296 (by decide) ?_
      refine lv_bipush (v := 35) X.1 X.2.1 dX12_statement_297 (by decide) ?_
      refine lv_ldc2 (v := 5) X.1 X.2.1 X.2.2.2.1 (X.2.2.2.2.1 _ kl_12_487) dX12_statement_299 ?_
      refine kp_calll X h (kp_runV (rm := { frames := 150, cells := 0, slots := 0, locals := 3185 }) (mc := 0) (ms := 0) (rest := []) (Qc := fun A => kp_Ql D cy A T7 _) X h (c_X12_order l D cy ad T7 a0 2 35 5 _ h.2.2.2 f_a0 hw) f_a0 cv_12_479 ⟨by dsimp only; omega, by dsimp only; omega, rfl, rfl, by dsimp only; omega, by dsimp only; omega⟩ rfl hl.1 rfl (Nat.le_of_ble_eq_true rfl) dX12_statement_302) (fun z78 T77 hw l_T77 H locs h => ?_)
      have f_a0 := l_T77.is f_a0
      have f_b4 := l_T77.is f_b4
      have f_b8 := l_T77.is f_b8
      have hle := hle.tr l_T77
      exact kp_retl X hr hlocks h hle hw dX12_statement_305
    have hw := hw.2 c76
    by_cases c79 : y9 = 37
    · have hw := hw.1 c79
      refine lv_tableIn (off := 353) (tgt := 397) X.1 X.2.1 dX12_statement_44 (by rw [c79]; decide) (by rw [c79]; decide) (by rw [c79]; decide) (by decide) ?_
      exact j397  T7 _ _ ls (lv_sub hl [1] rfl) h hle f_a0 hw
    have hw := hw.2 c79
    by_cases c80 : y9 = 38
    · have hw := hw.1 c80
      refine lv_tableIn (off := 353) (tgt := 397) X.1 X.2.1 dX12_statement_44 (by rw [c80]; decide) (by rw [c80]; decide) (by rw [c80]; decide) (by decide) ?_
      exact j397  T7 _ _ ls (lv_sub hl [1] rfl) h hle f_a0 hw
    have hw := hw.2 c80
    by_cases c81 : y9 = 39
    · have hw := hw.1 c81
      refine lv_tableIn (off := 353) (tgt := 397) X.1 X.2.1 dX12_statement_44 (by rw [c81]; decide) (by rw [c81]; decide) (by rw [c81]; decide) (by decide) ?_
      exact j397  T7 _ _ ls (lv_sub hl [1] rfl) h hle f_a0 hw
    have hw := hw.2 c81
    by_cases c82 : y9 = 40
    · have hw := hw.1 c82
      refine lv_tableIn (off := 353) (tgt := 397) X.1 X.2.1 dX12_statement_44 (by rw [c82]; decide) (by rw [c82]; decide) (by rw [c82]; decide) (by decide) ?_
      exact j397  T7 _ _ ls (lv_sub hl [1] rfl) h hle f_a0 hw
    have hw := hw.2 c82
    by_cases c83 : y9 = 41
    · have hw := hw.1 c83
      refine lv_tableIn (off := 353) (tgt := 397) X.1 X.2.1 dX12_statement_44 (by rw [c83]; decide) (by rw [c83]; decide) (by rw [c83]; decide) (by decide) ?_
      exact j397  T7 _ _ ls (lv_sub hl [1] rfl) h hle f_a0 hw
    have hw := hw.2 c83
    by_cases c84 : y9 = 42
    · have hw := hw.1 c84
      refine lv_tableIn (off := 353) (tgt := 397) X.1 X.2.1 dX12_statement_44 (by rw [c84]; decide) (by rw [c84]; decide) (by rw [c84]; decide) (by decide) ?_
      exact j397  T7 _ _ ls (lv_sub hl [1] rfl) h hle f_a0 hw
    have hw := hw.2 c84
    by_cases c85 : y9 = 43
    · have hw := hw.1 c85
      refine lv_tableIn (off := 353) (tgt := 397) X.1 X.2.1 dX12_statement_44 (by rw [c85]; decide) (by rw [c85]; decide) (by rw [c85]; decide) (by decide) ?_
      exact j397  T7 _ _ ls (lv_sub hl [1] rfl) h hle f_a0 hw
    have hw := hw.2 c85
    by_cases c86 : y9 = 44
    · have hw := hw.1 c86
      refine lv_tableIn (off := 329) (tgt := 373) X.1 X.2.1 dX12_statement_44 (by rw [c86]; decide) (by rw [c86]; decide) (by rw [c86]; decide) (by decide) ?_
      refine lv_aload_n X.1 X.2.1 dX12_statement_373 rfl (lv_at hl 1 rfl) ?_
      refine lv_iload_n X.1 X.2.1 dX12_statement_374 rfl (lv_at hl 0 rfl) ?_
      refine kp_calll X h (kp_runV (rm := { frames := F + 1, cells := 0, slots := 0, locals := L + 25 }) (mc := 0) (ms := 0) (rest := []) (Qc := fun A => kp_Ql D cy A T7 _) X h (c_X12_ensure l D cy ad F L B hB hF hL T7 a0 y3 _ h.2.2.2 f_a0 hw) f_a0 cv_12_509 ⟨by dsimp only; omega, by dsimp only; omega, rfl, rfl, by dsimp only; omega, by dsimp only; omega⟩ rfl hl.1 rfl (Nat.le_of_ble_eq_true rfl) dX12_statement_375) (fun z88 T87 hw l_T87 H locs h => ?_)
      have f_a0 := l_T87.is f_a0
      have f_b4 := l_T87.is f_b4
      have f_b8 := l_T87.is f_b8
      have hle := hle.tr l_T87
      exact kp_retl X hr hlocks h hle hw dX12_statement_378
    have hw := hw.2 c86
    by_cases c89 : y9 = 45
    · have hw := hw.1 c89
      refine lv_tableIn (off := 292) (tgt := 336) X.1 X.2.1 dX12_statement_44 (by rw [c89]; decide) (by rw [c89]; decide) (by rw [c89]; decide) (by decide) ?_
      exact j336 y3 T7 _ _ ls (lv_sub hl [1, 0] rfl) h hle f_a0 hw
    have hw := hw.2 c89
    by_cases c90 : y9 = 46
    · have hw := hw.1 c90
      refine lv_tableIn (off := 353) (tgt := 397) X.1 X.2.1 dX12_statement_44 (by rw [c90]; decide) (by rw [c90]; decide) (by rw [c90]; decide) (by decide) ?_
      exact j397  T7 _ _ ls (lv_sub hl [1] rfl) h hle f_a0 hw
    have hw := hw.2 c90
    by_cases c91 : y9 = 47
    · have hw := hw.1 c91
      refine lv_tableIn (off := 287) (tgt := 331) X.1 X.2.1 dX12_statement_44 (by rw [c91]; decide) (by rw [c91]; decide) (by rw [c91]; decide) (by decide) ?_
      refine lv_aload_n X.1 X.2.1 dX12_statement_331 rfl (lv_at hl 1 rfl) ?_
      refine kp_calll X h (kp_runV (rm := { frames := F + 1, cells := 0, slots := 0, locals := L + 25 }) (mc := 0) (ms := 0) (rest := []) (Qc := fun A => kp_Ql D cy A T7 _) X h (c_X12_choose l D cy ad F L B hB hF hL T7 a0 _ h.2.2.2 f_a0 hw) f_a0 cv_12_492 ⟨by dsimp only; omega, by dsimp only; omega, rfl, rfl, by dsimp only; omega, by dsimp only; omega⟩ rfl hl.1 rfl (Nat.le_of_ble_eq_true rfl) dX12_statement_332) (fun z93 T92 hw l_T92 H locs h => ?_)
      have f_a0 := l_T92.is f_a0
      have f_b4 := l_T92.is f_b4
      have f_b8 := l_T92.is f_b8
      have hle := hle.tr l_T92
      exact kp_retl X hr hlocks h hle hw dX12_statement_335
    have hw := hw.2 c91
    have t_c10 := lv_neT (a := 2) c10 (by decide)
    have t_c13 := lv_neT (a := 3) c13 (by decide)
    have t_c14 := lv_neT (a := 4) c14 (by decide)
    have t_c15 := lv_neT (a := 5) c15 (by decide)
    have t_c16 := lv_neT (a := 6) c16 (by decide)
    have t_c17 := lv_neT (a := 7) c17 (by decide)
    have t_c18 := lv_neT (a := 8) c18 (by decide)
    have t_c19 := lv_neT (a := 9) c19 (by decide)
    have t_c20 := lv_neT (a := 10) c20 (by decide)
    have t_c21 := lv_neT (a := 11) c21 (by decide)
    have t_c24 := lv_neT (a := 12) c24 (by decide)
    have t_c29 := lv_neT (a := 13) c29 (by decide)
    have t_c32 := lv_neT (a := 14) c32 (by decide)
    have t_c33 := lv_neT (a := 15) c33 (by decide)
    have t_c34 := lv_neT (a := 16) c34 (by decide)
    have t_c35 := lv_neT (a := 17) c35 (by decide)
    have t_c36 := lv_neT (a := 18) c36 (by decide)
    have t_c37 := lv_neT (a := 19) c37 (by decide)
    have t_c40 := lv_neT (a := 20) c40 (by decide)
    have t_c43 := lv_neT (a := 21) c43 (by decide)
    have t_c46 := lv_neT (a := 22) c46 (by decide)
    have t_c49 := lv_neT (a := 23) c49 (by decide)
    have t_c52 := lv_neT (a := 24) c52 (by decide)
    have t_c55 := lv_neT (a := 25) c55 (by decide)
    have t_c56 := lv_neT (a := 26) c56 (by decide)
    have t_c57 := lv_neT (a := 27) c57 (by decide)
    have t_c58 := lv_neT (a := 28) c58 (by decide)
    have t_c61 := lv_neT (a := 29) c61 (by decide)
    have t_c64 := lv_neT (a := 30) c64 (by decide)
    have t_c65 := lv_neT (a := 31) c65 (by decide)
    have t_c66 := lv_neT (a := 32) c66 (by decide)
    have t_c67 := lv_neT (a := 33) c67 (by decide)
    have t_c70 := lv_neT (a := 34) c70 (by decide)
    have t_c73 := lv_neT (a := 35) c73 (by decide)
    have t_c76 := lv_neT (a := 36) c76 (by decide)
    have t_c79 := lv_neT (a := 37) c79 (by decide)
    have t_c80 := lv_neT (a := 38) c80 (by decide)
    have t_c81 := lv_neT (a := 39) c81 (by decide)
    have t_c82 := lv_neT (a := 40) c82 (by decide)
    have t_c83 := lv_neT (a := 41) c83 (by decide)
    have t_c84 := lv_neT (a := 42) c84 (by decide)
    have t_c85 := lv_neT (a := 43) c85 (by decide)
    have t_c86 := lv_neT (a := 44) c86 (by decide)
    have t_c89 := lv_neT (a := 45) c89 (by decide)
    have t_c90 := lv_neT (a := 46) c90 (by decide)
    have t_c91 := lv_neT (a := 47) c91 (by decide)
    refine lv_tableOut (tgt := 397) X.1 X.2.1 dX12_statement_44 (by omega) (by decide) ?_
    exact j397  T7 _ _ ls (lv_sub hl [1] rfl) h hle f_a0 hw
  · have hw := hw.2 c96
    refine lv_aload_n X.1 X.2.1 dX12_statement_9 rfl (lv_at hl 0 rfl) ?_
    refine kp_calll X h (kp_runV (rm := { frames := F, cells := 0, slots := 0, locals := L }) (mc := 0) (ms := 0) (rest := []) (Qc := fun A => kp_Ql D cy A T1 _) X h (hB T1 a0 _ h.2.2.2 f_a0 hw) f_a0 cv_12_447 ⟨by dsimp only; omega, by dsimp only; omega, rfl, rfl, by dsimp only; omega, by dsimp only; omega⟩ rfl hl.1 rfl (Nat.le_of_ble_eq_true rfl) dX12_statement_10) (fun z95 T94 hw l_T94 H locs h => ?_)
    have f_a0 := l_T94.is f_a0
    have hle := hle.tr l_T94
    exact kp_retl X hr hlocks h hle hw dX12_statement_13
theorem dX12_block_0 : decode cX12_block 0 = .ok (.aload_n 0, 1) := by decide +kernel
theorem dX12_block_1 : decode cX12_block 1 = .ok (.bipush 123, 2) := by decide +kernel
theorem dX12_block_3 : decode cX12_block 3 = .ok (.invokevirtual 433, 3) := by decide +kernel
theorem dX12_block_6 : decode cX12_block 6 = .ok (.ifCond .ne 9, 3) := by decide +kernel
theorem dX12_block_9 : decode cX12_block 9 = .ok (.aload_n 0, 1) := by decide +kernel
theorem dX12_block_10 : decode cX12_block 10 = .ok (.invokevirtual 382, 3) := by decide +kernel
theorem dX12_block_13 : decode cX12_block 13 = .ok (.lconst 0, 1) := by decide +kernel
theorem dX12_block_14 : decode cX12_block 14 = .ok (.lreturn, 1) := by decide +kernel
theorem dX12_block_15 : decode cX12_block 15 = .ok (.aload_n 0, 1) := by decide +kernel
theorem dX12_block_16 : decode cX12_block 16 = .ok (.invokevirtual 463, 3) := by decide +kernel
theorem dX12_block_19 : decode cX12_block 19 = .ok (.aload_n 0, 1) := by decide +kernel
theorem dX12_block_20 : decode cX12_block 20 = .ok (.getfield 397, 3) := by decide +kernel
theorem dX12_block_23 : decode cX12_block 23 = .ok (.istore_n 1, 1) := by decide +kernel
theorem dX12_block_24 : decode cX12_block 24 = .ok (.lconst 1, 1) := by decide +kernel
theorem dX12_block_25 : decode cX12_block 25 = .ok (.lstore_n 2, 1) := by decide +kernel
theorem dX12_block_26 : decode cX12_block 26 = .ok (.aload_n 0, 1) := by decide +kernel
theorem dX12_block_27 : decode cX12_block 27 = .ok (.invokevirtual 408, 3) := by decide +kernel
theorem dX12_block_30 : decode cX12_block 30 = .ok (.ifCond .eq 42, 3) := by decide +kernel
theorem dX12_block_33 : decode cX12_block 33 = .ok (.aload_n 0, 1) := by decide +kernel
theorem dX12_block_34 : decode cX12_block 34 = .ok (.bipush 125, 2) := by decide +kernel
theorem dX12_block_36 : decode cX12_block 36 = .ok (.invokevirtual 433, 3) := by decide +kernel
theorem dX12_block_39 : decode cX12_block 39 = .ok (.ifCond .ne 33, 3) := by decide +kernel
theorem dX12_block_42 : decode cX12_block 42 = .ok (.aload_n 0, 1) := by decide +kernel
theorem dX12_block_43 : decode cX12_block 43 = .ok (.invokevirtual 466, 3) := by decide +kernel
theorem dX12_block_46 : decode cX12_block 46 = .ok (.lstore 4, 2) := by decide +kernel
theorem dX12_block_48 : decode cX12_block 48 = .ok (.lload_n 2, 1) := by decide +kernel
theorem dX12_block_49 : decode cX12_block 49 = .ok (.lconst 1, 1) := by decide +kernel
theorem dX12_block_50 : decode cX12_block 50 = .ok (.land, 1) := by decide +kernel
theorem dX12_block_51 : decode cX12_block 51 = .ok (.lconst 0, 1) := by decide +kernel
theorem dX12_block_52 : decode cX12_block 52 = .ok (.lcmp, 1) := by decide +kernel
theorem dX12_block_53 : decode cX12_block 53 = .ok (.ifCond .ne 7, 3) := by decide +kernel
theorem dX12_block_56 : decode cX12_block 56 = .ok (.lload_n 2, 1) := by decide +kernel
theorem dX12_block_57 : decode cX12_block 57 = .ok (.goto 11, 3) := by decide +kernel
theorem dX12_block_60 : decode cX12_block 60 = .ok (.lload_n 2, 1) := by decide +kernel
theorem dX12_block_61 : decode cX12_block 61 = .ok (.ldc2_w 469, 3) := by decide +kernel
theorem dX12_block_64 : decode cX12_block 64 = .ok (.land, 1) := by decide +kernel
theorem dX12_block_65 : decode cX12_block 65 = .ok (.lload 4, 2) := by decide +kernel
theorem dX12_block_67 : decode cX12_block 67 = .ok (.lor, 1) := by decide +kernel
theorem dX12_block_68 : decode cX12_block 68 = .ok (.lstore_n 2, 1) := by decide +kernel
theorem dX12_block_69 : decode cX12_block 69 = .ok (.goto (-43), 3) := by decide +kernel
theorem dX12_block_72 : decode cX12_block 72 = .ok (.aload_n 0, 1) := by decide +kernel
theorem dX12_block_73 : decode cX12_block 73 = .ok (.bipush 125, 2) := by decide +kernel
theorem dX12_block_75 : decode cX12_block 75 = .ok (.invokevirtual 429, 3) := by decide +kernel
theorem dX12_block_78 : decode cX12_block 78 = .ok (.aload_n 0, 1) := by decide +kernel
theorem dX12_block_79 : decode cX12_block 79 = .ok (.dup, 1) := by decide +kernel
theorem dX12_block_80 : decode cX12_block 80 = .ok (.getfield 388, 3) := by decide +kernel
theorem dX12_block_83 : decode cX12_block 83 = .ok (.iconst 1, 1) := by decide +kernel
theorem dX12_block_84 : decode cX12_block 84 = .ok (.isub, 1) := by decide +kernel
theorem dX12_block_85 : decode cX12_block 85 = .ok (.putfield 388, 3) := by decide +kernel
theorem dX12_block_88 : decode cX12_block 88 = .ok (.aload_n 0, 1) := by decide +kernel
theorem dX12_block_89 : decode cX12_block 89 = .ok (.iload_n 1, 1) := by decide +kernel
theorem dX12_block_90 : decode cX12_block 90 = .ok (.putfield 397, 3) := by decide +kernel
theorem dX12_block_93 : decode cX12_block 93 = .ok (.lload_n 2, 1) := by decide +kernel
theorem dX12_block_94 : decode cX12_block 94 = .ok (.lreturn, 1) := by decide +kernel
def wX12_block_b72 (B : Nat → kp_S → (Int64 → kp_S → Prop) → Prop) (a0 : Nat) (xn1 : Int32) (wn2 : Int64)  (Sn : kp_S) (post : Int64 → kp_S → Prop) : Prop :=
  wX12_takeSign a0 125 Sn (fun T1001 =>
  ∀ T1002 : kp_S, T1002 = kp_sI T1001 2411 a0 ((kp_I T1001 2411 a0) - 1) →
  ∀ T1003 : kp_S, T1003 = kp_sI T1002 2441 a0 xn1 →
  post wn2 T1003)
def wX12_block_b68 (B : Nat → kp_S → (Int64 → kp_S → Prop) → Prop) (a0 : Nat) (xn1 : Int32) (wt0 : Int64) (K26 : Int32 → Int64 → kp_S → Prop) (Sn : kp_S) (post : Int64 → kp_S → Prop) : Prop :=
  K26 xn1 wt0 Sn
def wX12_block_L26 (B : Nat → kp_S → (Int64 → kp_S → Prop) → Prop) (a0 : Nat)  (post : Int64 → kp_S → Prop) : Nat → Int32 → Int64 → kp_S → Prop
  | 0, _, _, _ => False
  | n + 1, xn1, wn2, Sn =>
  wX12_fine a0 Sn (fun y3002 T3001 =>
  ((y3002 = 0 →
  wX12_block_b72 B a0 xn1 wn2  T3001 post) ∧ (¬ y3002 = 0 →
  wX12_isSign a0 125 T3001 (fun y3004 T3003 =>
  ((¬ y3004 = 0 →
  wX12_block_b72 B a0 xn1 wn2  T3003 post) ∧ (y3004 = 0 →
  wX12_statement B a0 T3003 (fun z3006 T3005 =>
  ((¬ (lg_cmp (wn2 &&& 1) 0) = 0 →
  wX12_block_b68 B a0 xn1 ((wn2 &&& (-2)) ||| z3006) (fun xn1_ wn2_ S_ => wX12_block_L26 B a0  post n xn1_ wn2_ S_) T3005 post) ∧ ((lg_cmp (wn2 &&& 1) 0) = 0 →
  wX12_block_b68 B a0 xn1 wn2 (fun xn1_ wn2_ S_ => wX12_block_L26 B a0  post n xn1_ wn2_ S_) T3005 post)))))))))
def wX12_block (B : Nat → kp_S → (Int64 → kp_S → Prop) → Prop) (a0 : Nat) (S : kp_S) (post : Int64 → kp_S → Prop) : Prop :=
  wX12_isSign a0 123 S (fun y2 T1 =>
  ((¬ y2 = 0 →
  wX12_nest a0 T1 (fun T3 =>
  ∀ y4 : Int32, y4 = (kp_I T3 2441 a0) →
  ∃ n0 : Nat, wX12_block_L26 B a0  post n0 y4 1 T3)) ∧ (y2 = 0 →
  wX12_wrong a0 T1 (fun T5 =>
  post 0 T5))))
set_option maxHeartbeats 4000000 in
set_option maxRecDepth 100000 in
theorem c_X12_block (l : Launch) (D : va_G) (cy : Nat → ClassId) (ad : (Nat → Nat) × (Nat → Nat)) (F L : Nat) (B : Nat → kp_S → (Int64 → kp_S → Prop) → Prop) (hB : ∀ (S : kp_S) (a0 : Nat) (post : Int64 → kp_S → Prop), kp_ok S → kp_is S a0 12 → B a0 S post → kp_M l yX12_block cX12_block 6 (some .long) { frames := F, cells := 0, slots := 0, locals := L } D cy ad S [.ref a0] 0 0 (fun A => kp_Ql D cy A S post)) (hF : 151 ≤ F) (hL : 3211 ≤ L) (S : kp_S) (a0 : Nat) (post : Int64 → kp_S → Prop) (hS : kp_ok S) (f_a0 : kp_is S a0 12) (hw : wX12_block B a0 S post) : kp_M l yX12_block cX12_block 6 (some .long) { frames := F + 5, cells := 0, slots := 0, locals := L + 128 } D cy ad S [.ref a0] 0 0 (fun A => kp_Ql D cy A S post) := by
  refine kp_start (own := RX12) (by decide) rfl (Nat.le_of_ble_eq_true rfl) hS ?_
  intro p e s m below meth c A ls X hr hlocks hname h hl
  have hle : kp_le S S := kp_le.rf
  have hl : lv_has ls 6 [(0, .ref a0)] := hl
  have j72 : ∀ (xn1 : Int32) (wn2 : Int64) (Sn : kp_S) (H : Heap) (locs : List Loc) (ls : Array Slot), lv_has ls 6 [(0, .ref a0), (1, .int xn1), (2, .long wn2)] → kp_H D cy A Sn s.heap H locs → kp_le S Sn → kp_is Sn a0 12 → wX12_block_b72 B a0 xn1 wn2  Sn post → W p l e { frames := F + 5, cells := 0, slots := 0, locals := L + 128 } s m ([.ref a0] : List Value).toArray below meth c H locs 0 0 (MQ below (kp_Ql D cy A S post) ([.ref a0] : List Value).toArray s 0 0 A) (F0 m 72 ls []) := by
    intro xn1 wn2 Sn H locs ls hl h hle f_a0 hw
    unfold wX12_block_b72 at hw
    refine lv_aload_n X.1 X.2.1 dX12_block_72 rfl (lv_at hl 0 rfl) ?_
    refine lv_bipush (v := 125) X.1 X.2.1 dX12_block_73 (by decide) ?_
    refine kp_callv X h (kp_runV (rm := { frames := 2, cells := 0, slots := 0, locals := 42 }) (mc := 0) (ms := 0) (rest := []) (Qc := fun A => kp_Qv D cy A Sn _) X h (c_X12_takeSign l D cy ad Sn a0 125 _ h.2.2.2 f_a0 hw) f_a0 cv_12_429 ⟨by dsimp only; omega, by dsimp only; omega, rfl, rfl, by dsimp only; omega, by dsimp only; omega⟩ rfl hl.1 rfl (Nat.le_of_ble_eq_true rfl) dX12_block_75) (fun T1001 hw l_T1001 H locs h => ?_)
    have f_a0 := l_T1001.is f_a0
    have hle := hle.tr l_T1001
    refine lv_aload_n X.1 X.2.1 dX12_block_78 rfl (lv_at hl 0 rfl) ?_
    refine lv_dup X.1 X.2.1 dX12_block_79 rfl ?_
    refine kp_get X h f_a0 fp_12_388.l (v := .int (kp_I T1001 2411 a0)) rfl dX12_block_80 ?_
    refine lv_iconst (v := 1) X.1 X.2.1 dX12_block_83 (by decide) ?_
    refine lv_isub X.1 X.2.1 dX12_block_84 ?_
    refine kp_putI X h f_a0 fp_12_388 rfl ⟨rfl, rfl⟩ dX12_block_85 (fun T1002 e_T1002 l_T1002 H locs h => ?_)
    have hw := hw T1002 e_T1002
    have f_a0 := l_T1002.is f_a0
    have hle := hle.tr l_T1002
    refine lv_aload_n X.1 X.2.1 dX12_block_88 rfl (lv_at hl 0 rfl) ?_
    refine lv_iload_n X.1 X.2.1 dX12_block_89 rfl (lv_at hl 1 rfl) ?_
    refine kp_putI X h f_a0 fp_12_397 rfl ⟨rfl, rfl⟩ dX12_block_90 (fun T1003 e_T1003 l_T1003 H locs h => ?_)
    have hw := hw T1003 e_T1003
    have f_a0 := l_T1003.is f_a0
    have hle := hle.tr l_T1003
    refine lv_lload_n X.1 X.2.1 dX12_block_93 rfl (lv_at hl 2 rfl) ?_
    exact kp_retl X hr hlocks h hle hw dX12_block_94
  have L26 : ∀ n26 : Nat, ∀ (xn1 : Int32) (wn2 : Int64) (Sn : kp_S) (H : Heap) (locs : List Loc) (ls : Array Slot), lv_has ls 6 [(0, .ref a0), (1, .int xn1), (2, .long wn2)] → kp_H D cy A Sn s.heap H locs → kp_le S Sn → kp_is Sn a0 12 → wX12_block_L26 B a0  post n26 xn1 wn2 Sn → W p l e { frames := F + 5, cells := 0, slots := 0, locals := L + 128 } s m ([.ref a0] : List Value).toArray below meth c H locs 0 0 (MQ below (kp_Ql D cy A S post) ([.ref a0] : List Value).toArray s 0 0 A) (F0 m 26 ls []) := by
    intro n26
    induction n26 with
    | zero => intro xn1 wn2 Sn H locs ls hl h hle f_a0 hw; exact hw.elim
    | succ n26 ih26 =>
      have j68 : ∀ (xn1 : Int32) (wt0 : Int64) (Sn : kp_S) (H : Heap) (locs : List Loc) (ls : Array Slot), lv_has ls 6 [(0, .ref a0), (1, .int xn1)] → kp_H D cy A Sn s.heap H locs → kp_le S Sn → kp_is Sn a0 12 → wX12_block_b68 B a0 xn1 wt0 (fun xn1_ wn2_ S_ => wX12_block_L26 B a0  post n26 xn1_ wn2_ S_) Sn post → W p l e { frames := F + 5, cells := 0, slots := 0, locals := L + 128 } s m ([.ref a0] : List Value).toArray below meth c H locs 0 0 (MQ below (kp_Ql D cy A S post) ([.ref a0] : List Value).toArray s 0 0 A) (F0 m 68 ls [.long wt0]) := by
        intro xn1 wt0 Sn H locs ls hl h hle f_a0 hw
        unfold wX12_block_b68 at hw
        refine lv_lstore_n (lv' := [(2, .long wt0), (0, .ref a0), (1, .int xn1)]) X.1 X.2.1 dX12_block_68 rfl hl (by decide) rfl (fun ls hl => ?_)
        refine lv_goto (tgt := 26) X.1 X.2.1 dX12_block_69 (by decide) ?_
        exact ih26 xn1 wt0 Sn H locs ls (lv_sub hl [1, 2, 0] rfl) h hle f_a0 hw
      intro xn1 wn2 Sn H locs ls hl h hle f_a0 hw
      unfold wX12_block_L26 at hw
      refine lv_aload_n X.1 X.2.1 dX12_block_26 rfl (lv_at hl 0 rfl) ?_
      refine kp_calli X h (kp_runV (rm := { frames := 0, cells := 0, slots := 0, locals := 0 }) (mc := 0) (ms := 0) (rest := []) (Qc := fun A => kp_Qi D cy A Sn _) X h (c_X12_fine l D cy ad Sn a0 _ h.2.2.2 f_a0 hw) f_a0 cv_12_408 ⟨by dsimp only; omega, by dsimp only; omega, rfl, rfl, by dsimp only; omega, by dsimp only; omega⟩ rfl hl.1 rfl (Nat.le_of_ble_eq_true rfl) dX12_block_27) (fun y3002 T3001 hw l_T3001 H locs h => ?_)
      have f_a0 := l_T3001.is f_a0
      have hle := hle.tr l_T3001
      refine lv_if_eq (tgt := 72) X.1 X.2.1 dX12_block_30 (by decide) (fun c3009 => ?_) (fun c3009 => ?_)
      · have hw := hw.1 c3009
        exact j72 xn1 wn2 T3001 H locs ls (lv_sub hl [0, 1, 2] rfl) h hle f_a0 hw
      · have hw := hw.2 c3009
        refine lv_aload_n X.1 X.2.1 dX12_block_33 rfl (lv_at hl 0 rfl) ?_
        refine lv_bipush (v := 125) X.1 X.2.1 dX12_block_34 (by decide) ?_
        refine kp_calli X h (kp_runV (rm := { frames := 1, cells := 0, slots := 0, locals := 21 }) (mc := 0) (ms := 0) (rest := []) (Qc := fun A => kp_Qi D cy A T3001 _) X h (c_X12_isSign l D cy ad T3001 a0 125 _ h.2.2.2 f_a0 hw) f_a0 cv_12_433 ⟨by dsimp only; omega, by dsimp only; omega, rfl, rfl, by dsimp only; omega, by dsimp only; omega⟩ rfl hl.1 rfl (Nat.le_of_ble_eq_true rfl) dX12_block_36) (fun y3004 T3003 hw l_T3003 H locs h => ?_)
        have f_a0 := l_T3003.is f_a0
        have hle := hle.tr l_T3003
        refine lv_if_ne (tgt := 72) X.1 X.2.1 dX12_block_39 (by decide) (fun c3008 => ?_) (fun c3008 => ?_)
        · have hw := hw.1 c3008
          exact j72 xn1 wn2 T3003 H locs ls (lv_sub hl [0, 1, 2] rfl) h hle f_a0 hw
        · have hw := hw.2 c3008
          refine lv_aload_n X.1 X.2.1 dX12_block_42 rfl (lv_at hl 0 rfl) ?_
          refine kp_calll X h (kp_runV (rm := { frames := F + 4, cells := 0, slots := 0, locals := L + 107 }) (mc := 0) (ms := 0) (rest := []) (Qc := fun A => kp_Ql D cy A T3003 _) X h (c_X12_statement l D cy ad F L B hB hF hL T3003 a0 _ h.2.2.2 f_a0 hw) f_a0 cv_12_466 ⟨by dsimp only; omega, by dsimp only; omega, rfl, rfl, by dsimp only; omega, by dsimp only; omega⟩ rfl hl.1 rfl (Nat.le_of_ble_eq_true rfl) dX12_block_43) (fun z3006 T3005 hw l_T3005 H locs h => ?_)
          have f_a0 := l_T3005.is f_a0
          have hle := hle.tr l_T3005
          refine lv_lstore (lv' := [(4, .long z3006), (0, .ref a0), (1, .int xn1), (2, .long wn2)]) X.1 X.2.1 dX12_block_46 hl (by decide) rfl (fun ls hl => ?_)
          refine lv_lload_n X.1 X.2.1 dX12_block_48 rfl (lv_at hl 3 rfl) ?_
          refine lv_lconst (v := 1) X.1 X.2.1 dX12_block_49 (by decide) ?_
          refine lv_land X.1 X.2.1 dX12_block_50 ?_
          refine lv_lconst (v := 0) X.1 X.2.1 dX12_block_51 (by decide) ?_
          refine W.lcmp X.1 X.2.1 dX12_block_52 ?_
          refine lv_if_ne (tgt := 60) X.1 X.2.1 dX12_block_53 (by decide) (fun c3007 => ?_) (fun c3007 => ?_)
          · have hw := hw.1 c3007
            refine lv_lload_n X.1 X.2.1 dX12_block_60 rfl (lv_at hl 3 rfl) ?_
            refine lv_ldc2 (v := (-2)) X.1 X.2.1 X.2.2.2.1 (X.2.2.2.2.1 _ kl_12_469) dX12_block_61 ?_
            refine lv_land X.1 X.2.1 dX12_block_64 ?_
            refine lv_lload X.1 X.2.1 dX12_block_65 (lv_at hl 0 rfl) ?_
            refine lv_lor X.1 X.2.1 dX12_block_67 ?_
            exact j68 xn1 ((wn2 &&& (-2)) ||| z3006) T3005 H locs ls (lv_sub hl [1, 2] rfl) h hle f_a0 hw
          · have hw := hw.2 c3007
            refine lv_lload_n X.1 X.2.1 dX12_block_56 rfl (lv_at hl 3 rfl) ?_
            refine lv_goto (tgt := 68) X.1 X.2.1 dX12_block_57 (by decide) ?_
            exact j68 xn1 wn2 T3005 H locs ls (lv_sub hl [1, 2] rfl) h hle f_a0 hw
  unfold wX12_block at hw
  have h : kp_H D cy A S s.heap s.heap [] := h
  revert h
  intro h
  refine lv_aload_n X.1 X.2.1 dX12_block_0 rfl (lv_at hl 0 rfl) ?_
  refine lv_bipush (v := 123) X.1 X.2.1 dX12_block_1 (by decide) ?_
  refine kp_calli X h (kp_runV (rm := { frames := 1, cells := 0, slots := 0, locals := 21 }) (mc := 0) (ms := 0) (rest := []) (Qc := fun A => kp_Qi D cy A S _) X h (c_X12_isSign l D cy ad S a0 123 _ h.2.2.2 f_a0 hw) f_a0 cv_12_433 ⟨by dsimp only; omega, by dsimp only; omega, rfl, rfl, by dsimp only; omega, by dsimp only; omega⟩ rfl hl.1 rfl (Nat.le_of_ble_eq_true rfl) dX12_block_3) (fun y2 T1 hw l_T1 H locs h => ?_)
  have f_a0 := l_T1.is f_a0
  have hle := hle.tr l_T1
  refine lv_if_ne (tgt := 15) X.1 X.2.1 dX12_block_6 (by decide) (fun c6 => ?_) (fun c6 => ?_)
  · have hw := hw.1 c6
    refine lv_aload_n X.1 X.2.1 dX12_block_15 rfl (lv_at hl 0 rfl) ?_
    refine kp_callv X h (kp_runV (rm := { frames := 0, cells := 0, slots := 0, locals := 0 }) (mc := 0) (ms := 0) (rest := []) (Qc := fun A => kp_Qv D cy A T1 _) X h (c_X12_nest l D cy ad T1 a0 _ h.2.2.2 f_a0 hw) f_a0 cv_12_463 ⟨by dsimp only; omega, by dsimp only; omega, rfl, rfl, by dsimp only; omega, by dsimp only; omega⟩ rfl hl.1 rfl (Nat.le_of_ble_eq_true rfl) dX12_block_16) (fun T3 hw l_T3 H locs h => ?_)
    have f_a0 := l_T3.is f_a0
    have hle := hle.tr l_T3
    refine lv_aload_n X.1 X.2.1 dX12_block_19 rfl (lv_at hl 0 rfl) ?_
    refine kp_get X h f_a0 fp_12_397.l (v := .int (kp_I T3 2441 a0)) rfl dX12_block_20 ?_
    refine lv_topi (fun y4 e_y4 => ?_)
    have hw := hw y4 e_y4
    refine lv_istore_n (lv' := [(1, .int y4), (0, .ref a0)]) X.1 X.2.1 dX12_block_23 rfl hl (by decide) rfl (fun ls hl => ?_)
    refine lv_lconst (v := 1) X.1 X.2.1 dX12_block_24 (by decide) ?_
    refine lv_lstore_n (lv' := [(2, .long 1), (1, .int y4), (0, .ref a0)]) X.1 X.2.1 dX12_block_25 rfl hl (by decide) rfl (fun ls hl => ?_)
    obtain ⟨n0, hw⟩ := hw
    exact L26 n0 y4 1 T3 _ _ ls (lv_sub hl [2, 1, 0] rfl) h hle f_a0 hw
  · have hw := hw.2 c6
    refine lv_aload_n X.1 X.2.1 dX12_block_9 rfl (lv_at hl 0 rfl) ?_
    refine kp_callv X h (kp_runV (rm := { frames := 0, cells := 0, slots := 0, locals := 0 }) (mc := 0) (ms := 0) (rest := []) (Qc := fun A => kp_Qv D cy A T1 _) X h (c_X12_wrong l D cy ad T1 a0 _ h.2.2.2 f_a0 hw) f_a0 cv_12_382 ⟨by dsimp only; omega, by dsimp only; omega, rfl, rfl, by dsimp only; omega, by dsimp only; omega⟩ rfl hl.1 rfl (Nat.le_of_ble_eq_true rfl) dX12_block_10) (fun T5 hw l_T5 H locs h => ?_)
    have f_a0 := l_T5.is f_a0
    have hle := hle.tr l_T5
    refine lv_lconst (v := 0) X.1 X.2.1 dX12_block_13 (by decide) ?_
    exact kp_retl X hr hlocks h hle hw dX12_block_14
def wx12s_rec : Nat → Nat → Nat → kp_S → (Int64 → kp_S → Prop) → Prop
  | 0, _, _, _, _ => False
  | n + 1, _, a0, S, post => wX12_block (wx12s_rec n 0) a0 S post
theorem wx12s_all (l : Launch) (D : va_G) (cy : Nat → ClassId) (ad : (Nat → Nat) × (Nat → Nat)) : ∀ n : Nat, (∀ (S : kp_S) (a0 : Nat) (post : Int64 → kp_S → Prop), kp_ok S → kp_is S a0 12 → wx12s_rec n 0 a0 S post → kp_M l yX12_block cX12_block 6 (some .long) { frames := 151 + 5 * n, cells := 0, slots := 0, locals := 3211 + 128 * n } D cy ad S [.ref a0] 0 0 (fun A => kp_Ql D cy A S post)) := by
  intro n
  induction n with
  | zero => exact fun S a0 post hS ha hw => kp_never hw
  | succ n ih =>
    exact fun S a0 post hS ha hw => by
      rw [show 151 + 5 * (n + 1) = 151 + 5 * n + 5 by omega, show 3211 + 128 * (n + 1) = 3211 + 128 * n + 128 by omega]
      exact c_X12_block l D cy ad (151 + 5 * n) (3211 + 128 * n) (wx12s_rec n 0) ih (by omega) (by omega) S a0 post hS ha hw
def wX12_block_t (a0 : Nat) (S : kp_S) (post : Int64 → kp_S → Prop) : Prop := wX12_block (wx12s_rec 16 0) a0 S post
theorem c_X12_block_t (l : Launch) (D : va_G) (cy : Nat → ClassId) (ad : (Nat → Nat) × (Nat → Nat)) (S : kp_S) (a0 : Nat) (post : Int64 → kp_S → Prop) (hS : kp_ok S) (f_a0 : kp_is S a0 12) (hw : wX12_block_t a0 S post) : kp_M l yX12_block cX12_block 6 (some .long) { frames := 236, cells := 0, slots := 0, locals := 5387 } D cy ad S [.ref a0] 0 0 (fun A => kp_Ql D cy A S post) :=
  c_X12_block l D cy ad (151 + 5 * 16) (3211 + 128 * 16) (wx12s_rec 16 0) (wx12s_all l D cy ad 16) (by omega) (by omega) S a0 post hS f_a0 hw
