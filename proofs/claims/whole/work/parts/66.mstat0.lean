theorem cv_12_483 : kp_CV RX12 483 yX12_risky cX12_risky 3 (some .long) 1 12 := ⟨⟨kp_mem 2244 (by decide +kernel) (by decide +kernel), kp_mem 220 (by decide +kernel) (by decide +kernel), by decide +kernel⟩, kp_mem 2241 (by decide +kernel) (by decide +kernel), kp_mem 2243 (by decide +kernel) (by decide +kernel), kp_mem 142 (by decide +kernel) (by decide +kernel), by decide, TX12, 125, rfl⟩
theorem cv_12_523 : kp_CV RX12 523 yX12_tell cX12_tell 2 (some .int) 1 12 := ⟨⟨kp_mem 2240 (by decide +kernel) (by decide +kernel), kp_mem 220 (by decide +kernel) (by decide +kernel), by decide +kernel⟩, kp_mem 2237 (by decide +kernel) (by decide +kernel), kp_mem 2239 (by decide +kernel) (by decide +kernel), kp_mem 141 (by decide +kernel) (by decide +kernel), by decide, TX12, 125, rfl⟩
theorem kl_12_530 : Cond.constantLong RX12 530 2 ∈ kp_tb := kp_mem 2291 (by decide +kernel) (by decide +kernel)
theorem ff_12_109 : kp_FF RX12 109 12 44 := ⟨RX12, TX12, 125, cl_12, by decide, kp_mem 1736 (by decide +kernel) (by decide +kernel), rfl, rfl⟩
theorem fp_12_423 : kp_FP RX12 423 12 45 := ⟨RX12, TX12, 125, cl_12, by decide, kp_mem 1737 (by decide +kernel) (by decide +kernel), rfl⟩
theorem ff_12_106 : kp_FF RX12 106 12 43 := ⟨RX12, TX12, 125, cl_12, by decide, kp_mem 1735 (by decide +kernel) (by decide +kernel), rfl, rfl⟩
theorem fp_12_426 : kp_FP RX12 426 12 46 := ⟨RX12, TX12, 125, cl_12, by decide, kp_mem 1738 (by decide +kernel) (by decide +kernel), rfl⟩
theorem dX12_variable_0 : decode cX12_variable 0 = .ok (.aload_n 0, 1) := by decide +kernel
theorem dX12_variable_1 : decode cX12_variable 1 = .ok (.dup, 1) := by decide +kernel
theorem dX12_variable_2 : decode cX12_variable 2 = .ok (.getfield 376, 3) := by decide +kernel
theorem dX12_variable_5 : decode cX12_variable 5 = .ok (.iconst 1, 1) := by decide +kernel
theorem dX12_variable_6 : decode cX12_variable 6 = .ok (.iadd, 1) := by decide +kernel
theorem dX12_variable_7 : decode cX12_variable 7 = .ok (.putfield 376, 3) := by decide +kernel
theorem dX12_variable_10 : decode cX12_variable 10 = .ok (.aload_n 0, 1) := by decide +kernel
theorem dX12_variable_11 : decode cX12_variable 11 = .ok (.getfield 376, 3) := by decide +kernel
theorem dX12_variable_14 : decode cX12_variable 14 = .ok (.istore_n 1, 1) := by decide +kernel
theorem dX12_variable_15 : decode cX12_variable 15 = .ok (.aload_n 0, 1) := by decide +kernel
theorem dX12_variable_16 : decode cX12_variable 16 = .ok (.iconst 2, 1) := by decide +kernel
theorem dX12_variable_17 : decode cX12_variable 17 = .ok (.invokevirtual 385, 3) := by decide +kernel
theorem dX12_variable_20 : decode cX12_variable 20 = .ok (.aload_n 0, 1) := by decide +kernel
theorem dX12_variable_21 : decode cX12_variable 21 = .ok (.bipush 61, 2) := by decide +kernel
theorem dX12_variable_23 : decode cX12_variable 23 = .ok (.invokevirtual 429, 3) := by decide +kernel
theorem dX12_variable_26 : decode cX12_variable 26 = .ok (.aload_n 0, 1) := by decide +kernel
theorem dX12_variable_27 : decode cX12_variable 27 = .ok (.invokevirtual 520, 3) := by decide +kernel
theorem dX12_variable_30 : decode cX12_variable 30 = .ok (.aload_n 0, 1) := by decide +kernel
theorem dX12_variable_31 : decode cX12_variable 31 = .ok (.bipush 59, 2) := by decide +kernel
theorem dX12_variable_33 : decode cX12_variable 33 = .ok (.invokevirtual 429, 3) := by decide +kernel
theorem dX12_variable_36 : decode cX12_variable 36 = .ok (.aload_n 0, 1) := by decide +kernel
theorem dX12_variable_37 : decode cX12_variable 37 = .ok (.invokevirtual 408, 3) := by decide +kernel
theorem dX12_variable_40 : decode cX12_variable 40 = .ok (.ifCond .eq 15, 3) := by decide +kernel
theorem dX12_variable_43 : decode cX12_variable 43 = .ok (.aload_n 0, 1) := by decide +kernel
theorem dX12_variable_44 : decode cX12_variable 44 = .ok (.iconst 3, 1) := by decide +kernel
theorem dX12_variable_45 : decode cX12_variable 45 = .ok (.aload_n 0, 1) := by decide +kernel
theorem dX12_variable_46 : decode cX12_variable 46 = .ok (.iload_n 1, 1) := by decide +kernel
theorem dX12_variable_47 : decode cX12_variable 47 = .ok (.invokevirtual 523, 3) := by decide +kernel
theorem dX12_variable_50 : decode cX12_variable 50 = .ok (.iconst 0, 1) := by decide +kernel
theorem dX12_variable_51 : decode cX12_variable 51 = .ok (.invokevirtual 451, 3) := by decide +kernel
theorem dX12_variable_54 : decode cX12_variable 54 = .ok (.pop, 1) := by decide +kernel
theorem dX12_variable_55 : decode cX12_variable 55 = .ok (.aload_n 0, 1) := by decide +kernel
theorem dX12_variable_56 : decode cX12_variable 56 = .ok (.lconst 1, 1) := by decide +kernel
theorem dX12_variable_57 : decode cX12_variable 57 = .ok (.invokevirtual 483, 3) := by decide +kernel
theorem dX12_variable_60 : decode cX12_variable 60 = .ok (.lreturn, 1) := by decide +kernel
def wX12_variable_b55 (a0 : Nat)  (Sn : kp_S) (post : Int64 → kp_S → Prop) : Prop :=
  wX12_risky a0 1 Sn (fun z1002 T1001 =>
  post z1002 T1001)
def wX12_variable (a0 : Nat) (S : kp_S) (post : Int64 → kp_S → Prop) : Prop :=
  ∀ T1 : kp_S, T1 = kp_sI S 2410 a0 ((kp_I S 2410 a0) + 1) →
  ∀ y2 : Int32, y2 = (kp_I T1 2410 a0) →
  wX12_take a0 2 T1 (fun T3 =>
  wX12_takeSign a0 61 T3 (fun T4 =>
  wX12_expression_t a0 T4 (fun T5 =>
  wX12_takeSign a0 59 T5 (fun T6 =>
  wX12_fine a0 T6 (fun y8 T7 =>
  ((y8 = 0 →
  wX12_variable_b55 a0   T7 post) ∧ (¬ y8 = 0 →
  wX12_tell a0 y2 T7 (fun y10 T9 =>
  wX12_emit a0 3 y10 0 T9 (fun y12 T11 =>
  wX12_variable_b55 a0   T11 post)))))))))
set_option maxHeartbeats 4000000 in
set_option maxRecDepth 100000 in
theorem c_X12_variable (l : Launch) (D : va_G) (cy : Nat → ClassId) (ad : (Nat → Nat) × (Nat → Nat)) (S : kp_S) (a0 : Nat) (post : Int64 → kp_S → Prop) (hS : kp_ok S) (f_a0 : kp_is S a0 12) (hw : wX12_variable a0 S post) : kp_M l yX12_variable cX12_variable 2 (some .long) { frames := 150, cells := 0, slots := 0, locals := 3185 } D cy ad S [.ref a0] 0 0 (fun A => kp_Ql D cy A S post) := by
  refine kp_start (own := RX12) (by decide) rfl (Nat.le_of_ble_eq_true rfl) hS ?_
  intro p e s m below meth c A ls X hr hlocks hname h hl
  have hle : kp_le S S := kp_le.rf
  have hl : lv_has ls 2 [(0, .ref a0)] := hl
  have j55 : ∀  (Sn : kp_S) (H : Heap) (locs : List Loc) (ls : Array Slot), lv_has ls 2 [(0, .ref a0)] → kp_H D cy A Sn s.heap H locs → kp_le S Sn → kp_is Sn a0 12 → wX12_variable_b55 a0   Sn post → W p l e { frames := 150, cells := 0, slots := 0, locals := 3185 } s m ([.ref a0] : List Value).toArray below meth c H locs 0 0 (MQ below (kp_Ql D cy A S post) ([.ref a0] : List Value).toArray s 0 0 A) (F0 m 55 ls []) := by
    intro  Sn H locs ls hl h hle f_a0 hw
    unfold wX12_variable_b55 at hw
    refine lv_aload_n X.1 X.2.1 dX12_variable_55 rfl (lv_at hl 0 rfl) ?_
    refine lv_lconst (v := 1) X.1 X.2.1 dX12_variable_56 (by decide) ?_
    refine kp_calll X h (kp_runV (rm := { frames := 0, cells := 0, slots := 0, locals := 0 }) (mc := 0) (ms := 0) (rest := []) (Qc := fun A => kp_Ql D cy A Sn _) X h (c_X12_risky l D cy ad Sn a0 1 _ h.2.2.2 f_a0 hw) f_a0 cv_12_483 ⟨by decide, by decide, rfl, rfl, by decide, by decide⟩ rfl hl.1 rfl (Nat.le_of_ble_eq_true rfl) dX12_variable_57) (fun z1002 T1001 hw l_T1001 H locs h => ?_)
    have f_a0 := l_T1001.is f_a0
    have hle := hle.tr l_T1001
    exact kp_retl X hr hlocks h hle hw dX12_variable_60
  unfold wX12_variable at hw
  have h : kp_H D cy A S s.heap s.heap [] := h
  revert h
  intro h
  refine lv_aload_n X.1 X.2.1 dX12_variable_0 rfl (lv_at hl 0 rfl) ?_
  refine lv_dup X.1 X.2.1 dX12_variable_1 rfl ?_
  refine kp_get X h f_a0 fp_12_376.l (v := .int (kp_I S 2410 a0)) rfl dX12_variable_2 ?_
  refine lv_iconst (v := 1) X.1 X.2.1 dX12_variable_5 (by decide) ?_
  refine lv_iadd X.1 X.2.1 dX12_variable_6 ?_
  refine kp_putI X h f_a0 fp_12_376 rfl ⟨rfl, rfl⟩ dX12_variable_7 (fun T1 e_T1 l_T1 H locs h => ?_)
  have hw := hw T1 e_T1
  have f_a0 := l_T1.is f_a0
  have hle := hle.tr l_T1
  refine lv_aload_n X.1 X.2.1 dX12_variable_10 rfl (lv_at hl 0 rfl) ?_
  refine kp_get X h f_a0 fp_12_376.l (v := .int (kp_I T1 2410 a0)) rfl dX12_variable_11 ?_
  refine lv_topi (fun y2 e_y2 => ?_)
  have hw := hw y2 e_y2
  refine lv_istore_n (lv' := [(1, .int y2), (0, .ref a0)]) X.1 X.2.1 dX12_variable_14 rfl hl (by decide) rfl (fun ls hl => ?_)
  refine lv_aload_n X.1 X.2.1 dX12_variable_15 rfl (lv_at hl 1 rfl) ?_
  refine lv_iconst (v := 2) X.1 X.2.1 dX12_variable_16 (by decide) ?_
  refine kp_callv X h (kp_runV (rm := { frames := 1, cells := 0, slots := 0, locals := 21 }) (mc := 0) (ms := 0) (rest := []) (Qc := fun A => kp_Qv D cy A T1 _) X h (c_X12_take l D cy ad T1 a0 2 _ h.2.2.2 f_a0 hw) f_a0 cv_12_385 ⟨by decide, by decide, rfl, rfl, by decide, by decide⟩ rfl hl.1 rfl (Nat.le_of_ble_eq_true rfl) dX12_variable_17) (fun T3 hw l_T3 H locs h => ?_)
  have f_a0 := l_T3.is f_a0
  have hle := hle.tr l_T3
  refine lv_aload_n X.1 X.2.1 dX12_variable_20 rfl (lv_at hl 1 rfl) ?_
  refine lv_bipush (v := 61) X.1 X.2.1 dX12_variable_21 (by decide) ?_
  refine kp_callv X h (kp_runV (rm := { frames := 2, cells := 0, slots := 0, locals := 42 }) (mc := 0) (ms := 0) (rest := []) (Qc := fun A => kp_Qv D cy A T3 _) X h (c_X12_takeSign l D cy ad T3 a0 61 _ h.2.2.2 f_a0 hw) f_a0 cv_12_429 ⟨by decide, by decide, rfl, rfl, by decide, by decide⟩ rfl hl.1 rfl (Nat.le_of_ble_eq_true rfl) dX12_variable_23) (fun T4 hw l_T4 H locs h => ?_)
  have f_a0 := l_T4.is f_a0
  have hle := hle.tr l_T4
  refine lv_aload_n X.1 X.2.1 dX12_variable_26 rfl (lv_at hl 1 rfl) ?_
  refine kp_callv X h (kp_runV (rm := { frames := 149, cells := 0, slots := 0, locals := 3164 }) (mc := 0) (ms := 0) (rest := []) (Qc := fun A => kp_Qv D cy A T4 _) X h (c_X12_expression_t l D cy ad T4 a0 _ h.2.2.2 f_a0 hw) f_a0 cv_12_520 ⟨by decide, by decide, rfl, rfl, by decide, by decide⟩ rfl hl.1 rfl (Nat.le_of_ble_eq_true rfl) dX12_variable_27) (fun T5 hw l_T5 H locs h => ?_)
  have f_a0 := l_T5.is f_a0
  have hle := hle.tr l_T5
  refine lv_aload_n X.1 X.2.1 dX12_variable_30 rfl (lv_at hl 1 rfl) ?_
  refine lv_bipush (v := 59) X.1 X.2.1 dX12_variable_31 (by decide) ?_
  refine kp_callv X h (kp_runV (rm := { frames := 2, cells := 0, slots := 0, locals := 42 }) (mc := 0) (ms := 0) (rest := []) (Qc := fun A => kp_Qv D cy A T5 _) X h (c_X12_takeSign l D cy ad T5 a0 59 _ h.2.2.2 f_a0 hw) f_a0 cv_12_429 ⟨by decide, by decide, rfl, rfl, by decide, by decide⟩ rfl hl.1 rfl (Nat.le_of_ble_eq_true rfl) dX12_variable_33) (fun T6 hw l_T6 H locs h => ?_)
  have f_a0 := l_T6.is f_a0
  have hle := hle.tr l_T6
  refine lv_aload_n X.1 X.2.1 dX12_variable_36 rfl (lv_at hl 1 rfl) ?_
  refine kp_calli X h (kp_runV (rm := { frames := 0, cells := 0, slots := 0, locals := 0 }) (mc := 0) (ms := 0) (rest := []) (Qc := fun A => kp_Qi D cy A T6 _) X h (c_X12_fine l D cy ad T6 a0 _ h.2.2.2 f_a0 hw) f_a0 cv_12_408 ⟨by decide, by decide, rfl, rfl, by decide, by decide⟩ rfl hl.1 rfl (Nat.le_of_ble_eq_true rfl) dX12_variable_37) (fun y8 T7 hw l_T7 H locs h => ?_)
  have f_a0 := l_T7.is f_a0
  have hle := hle.tr l_T7
  refine lv_if_eq (tgt := 55) X.1 X.2.1 dX12_variable_40 (by decide) (fun c13 => ?_) (fun c13 => ?_)
  · have hw := hw.1 c13
    exact j55  T7 _ _ ls (lv_sub hl [1] rfl) h hle f_a0 hw
  · have hw := hw.2 c13
    refine lv_aload_n X.1 X.2.1 dX12_variable_43 rfl (lv_at hl 1 rfl) ?_
    refine lv_iconst (v := 3) X.1 X.2.1 dX12_variable_44 (by decide) ?_
    refine lv_aload_n X.1 X.2.1 dX12_variable_45 rfl (lv_at hl 1 rfl) ?_
    refine lv_iload_n X.1 X.2.1 dX12_variable_46 rfl (lv_at hl 0 rfl) ?_
    refine kp_calli X h (kp_runV (rm := { frames := 1, cells := 0, slots := 0, locals := 23 }) (mc := 0) (ms := 0) (rest := [.int 3, .ref a0]) (Qc := fun A => kp_Qi D cy A T7 _) X h (c_X12_tell l D cy ad T7 a0 y2 _ h.2.2.2 f_a0 hw) f_a0 cv_12_523 ⟨by decide, by decide, rfl, rfl, by decide, by decide⟩ rfl hl.1 rfl (Nat.le_of_ble_eq_true rfl) dX12_variable_47) (fun y10 T9 hw l_T9 H locs h => ?_)
    have f_a0 := l_T9.is f_a0
    have hle := hle.tr l_T9
    refine lv_iconst (v := 0) X.1 X.2.1 dX12_variable_50 (by decide) ?_
    refine kp_calli X h (kp_runV (rm := { frames := 0, cells := 0, slots := 0, locals := 0 }) (mc := 0) (ms := 0) (rest := []) (Qc := fun A => kp_Qi D cy A T9 _) X h (c_X12_emit l D cy ad T9 a0 3 y10 0 _ h.2.2.2 f_a0 hw) f_a0 cv_12_451 ⟨by decide, by decide, rfl, rfl, by decide, by decide⟩ rfl hl.1 rfl (Nat.le_of_ble_eq_true rfl) dX12_variable_51) (fun y12 T11 hw l_T11 H locs h => ?_)
    have f_a0 := l_T11.is f_a0
    have hle := hle.tr l_T11
    refine lv_pop X.1 X.2.1 dX12_variable_54 rfl ?_
    exact j55  T11 _ _ ls (lv_sub hl [1] rfl) h hle f_a0 hw
theorem dX12_order_0 : decode cX12_order 0 = .ok (.aload_n 0, 1) := by decide +kernel
theorem dX12_order_1 : decode cX12_order 1 = .ok (.dup, 1) := by decide +kernel
theorem dX12_order_2 : decode cX12_order 2 = .ok (.getfield 376, 3) := by decide +kernel
theorem dX12_order_5 : decode cX12_order 5 = .ok (.iconst 1, 1) := by decide +kernel
theorem dX12_order_6 : decode cX12_order 6 = .ok (.iadd, 1) := by decide +kernel
theorem dX12_order_7 : decode cX12_order 7 = .ok (.putfield 376, 3) := by decide +kernel
theorem dX12_order_10 : decode cX12_order 10 = .ok (.iconst 0, 1) := by decide +kernel
theorem dX12_order_11 : decode cX12_order 11 = .ok (.istore 5, 2) := by decide +kernel
theorem dX12_order_13 : decode cX12_order 13 = .ok (.iload 5, 2) := by decide +kernel
theorem dX12_order_15 : decode cX12_order 15 = .ok (.iload_n 1, 1) := by decide +kernel
theorem dX12_order_16 : decode cX12_order 16 = .ok (.if_icmp .ge 24, 3) := by decide +kernel
theorem dX12_order_19 : decode cX12_order 19 = .ok (.iload 5, 2) := by decide +kernel
theorem dX12_order_21 : decode cX12_order 21 = .ok (.ifCond .le 9, 3) := by decide +kernel
theorem dX12_order_24 : decode cX12_order 24 = .ok (.aload_n 0, 1) := by decide +kernel
theorem dX12_order_25 : decode cX12_order 25 = .ok (.bipush 44, 2) := by decide +kernel
theorem dX12_order_27 : decode cX12_order 27 = .ok (.invokevirtual 429, 3) := by decide +kernel
theorem dX12_order_30 : decode cX12_order 30 = .ok (.aload_n 0, 1) := by decide +kernel
theorem dX12_order_31 : decode cX12_order 31 = .ok (.invokevirtual 520, 3) := by decide +kernel
theorem dX12_order_34 : decode cX12_order 34 = .ok (.iinc 5 1, 3) := by decide +kernel
theorem dX12_order_37 : decode cX12_order 37 = .ok (.goto (-24), 3) := by decide +kernel
theorem dX12_order_40 : decode cX12_order 40 = .ok (.aload_n 0, 1) := by decide +kernel
theorem dX12_order_41 : decode cX12_order 41 = .ok (.bipush 59, 2) := by decide +kernel
theorem dX12_order_43 : decode cX12_order 43 = .ok (.invokevirtual 429, 3) := by decide +kernel
theorem dX12_order_46 : decode cX12_order 46 = .ok (.aload_n 0, 1) := by decide +kernel
theorem dX12_order_47 : decode cX12_order 47 = .ok (.iload_n 2, 1) := by decide +kernel
theorem dX12_order_48 : decode cX12_order 48 = .ok (.iconst 0, 1) := by decide +kernel
theorem dX12_order_49 : decode cX12_order 49 = .ok (.iconst 0, 1) := by decide +kernel
theorem dX12_order_50 : decode cX12_order 50 = .ok (.invokevirtual 451, 3) := by decide +kernel
theorem dX12_order_53 : decode cX12_order 53 = .ok (.pop, 1) := by decide +kernel
theorem dX12_order_54 : decode cX12_order 54 = .ok (.lload_n 3, 1) := by decide +kernel
theorem dX12_order_55 : decode cX12_order 55 = .ok (.lreturn, 1) := by decide +kernel
def wX12_order_b30 (a0 : Nat) (x1 : Int32) (x2 : Int32) (w3 : Int64) (xn5 : Int32) (K13 : Int32 → kp_S → Prop) (Sn : kp_S) (post : Int64 → kp_S → Prop) : Prop :=
  wX12_expression_t a0 Sn (fun T1001 =>
  ∀ y1002 : Int32, y1002 = xn5 + 1 →
  K13 y1002 T1001)
def wX12_order_L13 (a0 : Nat) (x1 : Int32) (x2 : Int32) (w3 : Int64)  (post : Int64 → kp_S → Prop) : Nat → Int32 → kp_S → Prop
  | 0, _, _ => False
  | n + 1, xn5, Sn =>
  ((x1 ≤ xn5 →
  wX12_takeSign a0 59 Sn (fun T2001 =>
  wX12_emit a0 x2 0 0 T2001 (fun y2003 T2002 =>
  post w3 T2002))) ∧ (¬ x1 ≤ xn5 →
  ((xn5 ≤ 0 →
  wX12_order_b30 a0 x1 x2 w3 xn5 (fun xn5_ S_ => wX12_order_L13 a0 x1 x2 w3  post n xn5_ S_) Sn post) ∧ (¬ xn5 ≤ 0 →
  wX12_takeSign a0 44 Sn (fun T2004 =>
  wX12_order_b30 a0 x1 x2 w3 xn5 (fun xn5_ S_ => wX12_order_L13 a0 x1 x2 w3  post n xn5_ S_) T2004 post)))))
def wX12_order (a0 : Nat) (x1 : Int32) (x2 : Int32) (w3 : Int64) (S : kp_S) (post : Int64 → kp_S → Prop) : Prop :=
  ∀ T1 : kp_S, T1 = kp_sI S 2410 a0 ((kp_I S 2410 a0) + 1) →
  ∃ n0 : Nat, wX12_order_L13 a0 x1 x2 w3  post n0 0 T1
set_option maxHeartbeats 4000000 in
set_option maxRecDepth 100000 in
theorem c_X12_order (l : Launch) (D : va_G) (cy : Nat → ClassId) (ad : (Nat → Nat) × (Nat → Nat)) (S : kp_S) (a0 : Nat) (x1 : Int32) (x2 : Int32) (w3 : Int64) (post : Int64 → kp_S → Prop) (hS : kp_ok S) (f_a0 : kp_is S a0 12) (hw : wX12_order a0 x1 x2 w3 S post) : kp_M l yX12_order cX12_order 6 (some .long) { frames := 150, cells := 0, slots := 0, locals := 3185 } D cy ad S [.ref a0, .int x1, .int x2, .long w3] 0 0 (fun A => kp_Ql D cy A S post) := by
  refine kp_start (own := RX12) (by decide) rfl (Nat.le_of_ble_eq_true rfl) hS ?_
  intro p e s m below meth c A ls X hr hlocks hname h hl
  have hle : kp_le S S := kp_le.rf
  have hl : lv_has ls 6 [(0, .ref a0), (1, .int x1), (2, .int x2), (3, .long w3)] := hl
  have L13 : ∀ n13 : Nat, ∀ (xn5 : Int32) (Sn : kp_S) (H : Heap) (locs : List Loc) (ls : Array Slot), lv_has ls 6 [(0, .ref a0), (1, .int x1), (2, .int x2), (3, .long w3), (5, .int xn5)] → kp_H D cy A Sn s.heap H locs → kp_le S Sn → kp_is Sn a0 12 → wX12_order_L13 a0 x1 x2 w3  post n13 xn5 Sn → W p l e { frames := 150, cells := 0, slots := 0, locals := 3185 } s m ([.ref a0, .int x1, .int x2, .long w3] : List Value).toArray below meth c H locs 0 0 (MQ below (kp_Ql D cy A S post) ([.ref a0, .int x1, .int x2, .long w3] : List Value).toArray s 0 0 A) (F0 m 13 ls []) := by
    intro n13
    induction n13 with
    | zero => intro xn5 Sn H locs ls hl h hle f_a0 hw; exact hw.elim
    | succ n13 ih13 =>
      have j30 : ∀ (xn5 : Int32) (Sn : kp_S) (H : Heap) (locs : List Loc) (ls : Array Slot), lv_has ls 6 [(0, .ref a0), (1, .int x1), (2, .int x2), (3, .long w3), (5, .int xn5)] → kp_H D cy A Sn s.heap H locs → kp_le S Sn → kp_is Sn a0 12 → wX12_order_b30 a0 x1 x2 w3 xn5 (fun xn5_ S_ => wX12_order_L13 a0 x1 x2 w3  post n13 xn5_ S_) Sn post → W p l e { frames := 150, cells := 0, slots := 0, locals := 3185 } s m ([.ref a0, .int x1, .int x2, .long w3] : List Value).toArray below meth c H locs 0 0 (MQ below (kp_Ql D cy A S post) ([.ref a0, .int x1, .int x2, .long w3] : List Value).toArray s 0 0 A) (F0 m 30 ls []) := by
        intro xn5 Sn H locs ls hl h hle f_a0 hw
        unfold wX12_order_b30 at hw
        refine lv_aload_n X.1 X.2.1 dX12_order_30 rfl (lv_at hl 0 rfl) ?_
        refine kp_callv X h (kp_runV (rm := { frames := 149, cells := 0, slots := 0, locals := 3164 }) (mc := 0) (ms := 0) (rest := []) (Qc := fun A => kp_Qv D cy A Sn _) X h (c_X12_expression_t l D cy ad Sn a0 _ h.2.2.2 f_a0 hw) f_a0 cv_12_520 ⟨by decide, by decide, rfl, rfl, by decide, by decide⟩ rfl hl.1 rfl (Nat.le_of_ble_eq_true rfl) dX12_order_31) (fun T1001 hw l_T1001 H locs h => ?_)
        have f_a0 := l_T1001.is f_a0
        have hle := hle.tr l_T1001
        obtain ⟨y1002, e_y1002⟩ : ∃ y : Int32, y = xn5 + 1 := ⟨_, rfl⟩
        have hw := hw y1002 e_y1002
        refine lv_iinc (v := y1002) (lv' := [(5, .int y1002), (0, .ref a0), (1, .int x1), (2, .int x2), (3, .long w3)]) X.1 X.2.1 dX12_order_34 hl (k := 4) rfl (by rw [e_y1002]; rfl) (by decide) rfl (fun ls hl => ?_)
        refine lv_goto (tgt := 13) X.1 X.2.1 dX12_order_37 (by decide) ?_
        exact ih13 y1002 T1001 H locs ls (lv_sub hl [1, 2, 3, 4, 0] rfl) h hle f_a0 hw
      intro xn5 Sn H locs ls hl h hle f_a0 hw
      unfold wX12_order_L13 at hw
      refine lv_iload X.1 X.2.1 dX12_order_13 (lv_at hl 4 rfl) ?_
      refine lv_iload_n X.1 X.2.1 dX12_order_15 rfl (lv_at hl 1 rfl) ?_
      refine lv_icmp_ge (tgt := 40) X.1 X.2.1 dX12_order_16 (by decide) (fun c2006 => ?_) (fun c2006 => ?_)
      · have hw := hw.1 c2006
        refine lv_aload_n X.1 X.2.1 dX12_order_40 rfl (lv_at hl 0 rfl) ?_
        refine lv_bipush (v := 59) X.1 X.2.1 dX12_order_41 (by decide) ?_
        refine kp_callv X h (kp_runV (rm := { frames := 2, cells := 0, slots := 0, locals := 42 }) (mc := 0) (ms := 0) (rest := []) (Qc := fun A => kp_Qv D cy A Sn _) X h (c_X12_takeSign l D cy ad Sn a0 59 _ h.2.2.2 f_a0 hw) f_a0 cv_12_429 ⟨by decide, by decide, rfl, rfl, by decide, by decide⟩ rfl hl.1 rfl (Nat.le_of_ble_eq_true rfl) dX12_order_43) (fun T2001 hw l_T2001 H locs h => ?_)
        have f_a0 := l_T2001.is f_a0
        have hle := hle.tr l_T2001
        refine lv_aload_n X.1 X.2.1 dX12_order_46 rfl (lv_at hl 0 rfl) ?_
        refine lv_iload_n X.1 X.2.1 dX12_order_47 rfl (lv_at hl 2 rfl) ?_
        refine lv_iconst (v := 0) X.1 X.2.1 dX12_order_48 (by decide) ?_
        refine lv_iconst (v := 0) X.1 X.2.1 dX12_order_49 (by decide) ?_
        refine kp_calli X h (kp_runV (rm := { frames := 0, cells := 0, slots := 0, locals := 0 }) (mc := 0) (ms := 0) (rest := []) (Qc := fun A => kp_Qi D cy A T2001 _) X h (c_X12_emit l D cy ad T2001 a0 x2 0 0 _ h.2.2.2 f_a0 hw) f_a0 cv_12_451 ⟨by decide, by decide, rfl, rfl, by decide, by decide⟩ rfl hl.1 rfl (Nat.le_of_ble_eq_true rfl) dX12_order_50) (fun y2003 T2002 hw l_T2002 H locs h => ?_)
        have f_a0 := l_T2002.is f_a0
        have hle := hle.tr l_T2002
        refine lv_pop X.1 X.2.1 dX12_order_53 rfl ?_
        refine lv_lload_n X.1 X.2.1 dX12_order_54 rfl (lv_at hl 3 rfl) ?_
        exact kp_retl X hr hlocks h hle hw dX12_order_55
      · have hw := hw.2 c2006
        refine lv_iload X.1 X.2.1 dX12_order_19 (lv_at hl 4 rfl) ?_
        refine lv_if_le (tgt := 30) X.1 X.2.1 dX12_order_21 (by decide) (fun c2005 => ?_) (fun c2005 => ?_)
        · have hw := hw.1 c2005
          exact j30 xn5 Sn H locs ls (lv_sub hl [0, 1, 2, 3, 4] rfl) h hle f_a0 hw
        · have hw := hw.2 c2005
          refine lv_aload_n X.1 X.2.1 dX12_order_24 rfl (lv_at hl 0 rfl) ?_
          refine lv_bipush (v := 44) X.1 X.2.1 dX12_order_25 (by decide) ?_
          refine kp_callv X h (kp_runV (rm := { frames := 2, cells := 0, slots := 0, locals := 42 }) (mc := 0) (ms := 0) (rest := []) (Qc := fun A => kp_Qv D cy A Sn _) X h (c_X12_takeSign l D cy ad Sn a0 44 _ h.2.2.2 f_a0 hw) f_a0 cv_12_429 ⟨by decide, by decide, rfl, rfl, by decide, by decide⟩ rfl hl.1 rfl (Nat.le_of_ble_eq_true rfl) dX12_order_27) (fun T2004 hw l_T2004 H locs h => ?_)
          have f_a0 := l_T2004.is f_a0
          have hle := hle.tr l_T2004
          exact j30 xn5 T2004 H locs ls (lv_sub hl [0, 1, 2, 3, 4] rfl) h hle f_a0 hw
  unfold wX12_order at hw
  have h : kp_H D cy A S s.heap s.heap [] := h
  revert h
  intro h
  refine lv_aload_n X.1 X.2.1 dX12_order_0 rfl (lv_at hl 0 rfl) ?_
  refine lv_dup X.1 X.2.1 dX12_order_1 rfl ?_
  refine kp_get X h f_a0 fp_12_376.l (v := .int (kp_I S 2410 a0)) rfl dX12_order_2 ?_
  refine lv_iconst (v := 1) X.1 X.2.1 dX12_order_5 (by decide) ?_
  refine lv_iadd X.1 X.2.1 dX12_order_6 ?_
  refine kp_putI X h f_a0 fp_12_376 rfl ⟨rfl, rfl⟩ dX12_order_7 (fun T1 e_T1 l_T1 H locs h => ?_)
  have hw := hw T1 e_T1
  have f_a0 := l_T1.is f_a0
  have hle := hle.tr l_T1
  refine lv_iconst (v := 0) X.1 X.2.1 dX12_order_10 (by decide) ?_
  refine lv_istore (lv' := [(5, .int 0), (0, .ref a0), (1, .int x1), (2, .int x2), (3, .long w3)]) X.1 X.2.1 dX12_order_11 hl (by decide) rfl (fun ls hl => ?_)
  obtain ⟨n0, hw⟩ := hw
  exact L13 n0 0 T1 _ _ ls (lv_sub hl [1, 2, 3, 4, 0] rfl) h hle f_a0 hw
theorem dX12_until_0 : decode cX12_until 0 = .ok (.aload_n 0, 1) := by decide +kernel
theorem dX12_until_1 : decode cX12_until 1 = .ok (.bipush 46, 2) := by decide +kernel
theorem dX12_until_3 : decode cX12_until 3 = .ok (.invokevirtual 385, 3) := by decide +kernel
theorem dX12_until_6 : decode cX12_until 6 = .ok (.aload_n 0, 1) := by decide +kernel
theorem dX12_until_7 : decode cX12_until 7 = .ok (.getfield 52, 3) := by decide +kernel
theorem dX12_until_10 : decode cX12_until 10 = .ok (.iload_n 1, 1) := by decide +kernel
theorem dX12_until_11 : decode cX12_until 11 = .ok (.aload_n 0, 1) := by decide +kernel
theorem dX12_until_12 : decode cX12_until 12 = .ok (.getfield 370, 3) := by decide +kernel
theorem dX12_until_15 : decode cX12_until 15 = .ok (.iastore, 1) := by decide +kernel
theorem dX12_until_16 : decode cX12_until 16 = .ok (.aload_n 0, 1) := by decide +kernel
theorem dX12_until_17 : decode cX12_until 17 = .ok (.bipush 55, 2) := by decide +kernel
theorem dX12_until_19 : decode cX12_until 19 = .ok (.aload_n 0, 1) := by decide +kernel
theorem dX12_until_20 : decode cX12_until 20 = .ok (.getfield 34, 3) := by decide +kernel
theorem dX12_until_23 : decode cX12_until 23 = .ok (.iload_n 2, 1) := by decide +kernel
theorem dX12_until_24 : decode cX12_until 24 = .ok (.iaload, 1) := by decide +kernel
theorem dX12_until_25 : decode cX12_until 25 = .ok (.iconst 0, 1) := by decide +kernel
theorem dX12_until_26 : decode cX12_until 26 = .ok (.invokevirtual 451, 3) := by decide +kernel
theorem dX12_until_29 : decode cX12_until 29 = .ok (.pop, 1) := by decide +kernel
theorem dX12_until_30 : decode cX12_until 30 = .ok (.aload_n 0, 1) := by decide +kernel
theorem dX12_until_31 : decode cX12_until 31 = .ok (.iconst 0, 1) := by decide +kernel
theorem dX12_until_32 : decode cX12_until 32 = .ok (.putfield 471, 3) := by decide +kernel
theorem dX12_until_35 : decode cX12_until 35 = .ok (.aload_n 0, 1) := by decide +kernel
theorem dX12_until_36 : decode cX12_until 36 = .ok (.invokevirtual 520, 3) := by decide +kernel
theorem dX12_until_39 : decode cX12_until 39 = .ok (.aload_n 0, 1) := by decide +kernel
theorem dX12_until_40 : decode cX12_until 40 = .ok (.bipush 59, 2) := by decide +kernel
theorem dX12_until_42 : decode cX12_until 42 = .ok (.invokevirtual 429, 3) := by decide +kernel
theorem dX12_until_45 : decode cX12_until 45 = .ok (.aload_n 0, 1) := by decide +kernel
theorem dX12_until_46 : decode cX12_until 46 = .ok (.bipush 57, 2) := by decide +kernel
theorem dX12_until_48 : decode cX12_until 48 = .ok (.iload_n 1, 1) := by decide +kernel
theorem dX12_until_49 : decode cX12_until 49 = .ok (.iload_n 3, 1) := by decide +kernel
theorem dX12_until_50 : decode cX12_until 50 = .ok (.invokevirtual 451, 3) := by decide +kernel
theorem dX12_until_53 : decode cX12_until 53 = .ok (.pop, 1) := by decide +kernel
theorem dX12_until_54 : decode cX12_until 54 = .ok (.iload 4, 2) := by decide +kernel
theorem dX12_until_56 : decode cX12_until 56 = .ok (.ifCond .eq 12, 3) := by decide +kernel
theorem dX12_until_59 : decode cX12_until 59 = .ok (.aload_n 0, 1) := by decide +kernel
theorem dX12_until_60 : decode cX12_until 60 = .ok (.lload 5, 2) := by decide +kernel
theorem dX12_until_62 : decode cX12_until 62 = .ok (.invokevirtual 483, 3) := by decide +kernel
theorem dX12_until_65 : decode cX12_until 65 = .ok (.goto 5, 3) := by decide +kernel
theorem dX12_until_68 : decode cX12_until 68 = .ok (.lload 5, 2) := by decide +kernel
theorem dX12_until_70 : decode cX12_until 70 = .ok (.lreturn, 1) := by decide +kernel
def wX12_until_b70 (a0 : Nat) (x1 : Int32) (x2 : Int32) (x3 : Int32) (x4 : Int32) (w5 : Int64) (wt0 : Int64)  (Sn : kp_S) (post : Int64 → kp_S → Prop) : Prop :=
  post wt0 Sn
def wX12_until (a0 : Nat) (x1 : Int32) (x2 : Int32) (x3 : Int32) (x4 : Int32) (w5 : Int64) (S : kp_S) (post : Int64 → kp_S → Prop) : Prop :=
  wX12_take a0 46 S (fun T1 =>
  ∃ b2 : Nat, kp_R T1 2418 a0 = some b2 ∧
  vp_in x1 (kp_N T1 b2) ∧ ∀ T3 : kp_S, T3 = kp_sA T1 b2 (upd (kp_A T1 b2) (x1.toNatClampNeg) (kp_I T1 2417 a0)) →
  ∃ b4 : Nat, kp_R T3 2405 a0 = some b4 ∧
  vp_in x2 (kp_N T3 b4) ∧
  wX12_emit a0 55 (kp_A T3 b4 x2.toNatClampNeg) 0 T3 (fun y6 T5 =>
  ∀ T7 : kp_S, T7 = kp_sI T5 2425 a0 0 →
  wX12_expression_t a0 T7 (fun T8 =>
  wX12_takeSign a0 59 T8 (fun T9 =>
  wX12_emit a0 57 x1 x3 T9 (fun y11 T10 =>
  ((x4 = 0 →
  wX12_until_b70 a0 x1 x2 x3 x4 w5 w5  T10 post) ∧ (¬ x4 = 0 →
  wX12_risky a0 w5 T10 (fun z13 T12 =>
  wX12_until_b70 a0 x1 x2 x3 x4 w5 z13  T12 post))))))))
set_option maxHeartbeats 4000000 in
set_option maxRecDepth 100000 in
theorem c_X12_until (l : Launch) (D : va_G) (cy : Nat → ClassId) (ad : (Nat → Nat) × (Nat → Nat)) (S : kp_S) (a0 : Nat) (x1 : Int32) (x2 : Int32) (x3 : Int32) (x4 : Int32) (w5 : Int64) (post : Int64 → kp_S → Prop) (hS : kp_ok S) (f_a0 : kp_is S a0 12) (hw : wX12_until a0 x1 x2 x3 x4 w5 S post) : kp_M l yX12_until cX12_until 7 (some .long) { frames := 150, cells := 0, slots := 0, locals := 3185 } D cy ad S [.ref a0, .int x1, .int x2, .int x3, .int x4, .long w5] 0 0 (fun A => kp_Ql D cy A S post) := by
  refine kp_start (own := RX12) (by decide) rfl (Nat.le_of_ble_eq_true rfl) hS ?_
  intro p e s m below meth c A ls X hr hlocks hname h hl
  have hle : kp_le S S := kp_le.rf
  have hl : lv_has ls 7 [(0, .ref a0), (1, .int x1), (2, .int x2), (3, .int x3), (4, .int x4), (5, .long w5)] := hl
  have j70 : ∀ (wt0 : Int64) (Sn : kp_S) (H : Heap) (locs : List Loc) (ls : Array Slot), lv_has ls 7 [] → kp_H D cy A Sn s.heap H locs → kp_le S Sn → kp_is Sn a0 12 → wX12_until_b70 a0 x1 x2 x3 x4 w5 wt0  Sn post → W p l e { frames := 150, cells := 0, slots := 0, locals := 3185 } s m ([.ref a0, .int x1, .int x2, .int x3, .int x4, .long w5] : List Value).toArray below meth c H locs 0 0 (MQ below (kp_Ql D cy A S post) ([.ref a0, .int x1, .int x2, .int x3, .int x4, .long w5] : List Value).toArray s 0 0 A) (F0 m 70 ls [.long wt0]) := by
    intro wt0 Sn H locs ls hl h hle f_a0 hw
    unfold wX12_until_b70 at hw
    exact kp_retl X hr hlocks h hle hw dX12_until_70
  unfold wX12_until at hw
  have h : kp_H D cy A S s.heap s.heap [] := h
  revert h
  intro h
  refine lv_aload_n X.1 X.2.1 dX12_until_0 rfl (lv_at hl 0 rfl) ?_
  refine lv_bipush (v := 46) X.1 X.2.1 dX12_until_1 (by decide) ?_
  refine kp_callv X h (kp_runV (rm := { frames := 1, cells := 0, slots := 0, locals := 21 }) (mc := 0) (ms := 0) (rest := []) (Qc := fun A => kp_Qv D cy A S _) X h (c_X12_take l D cy ad S a0 46 _ h.2.2.2 f_a0 hw) f_a0 cv_12_385 ⟨by decide, by decide, rfl, rfl, by decide, by decide⟩ rfl hl.1 rfl (Nat.le_of_ble_eq_true rfl) dX12_until_3) (fun T1 hw l_T1 H locs h => ?_)
  have f_a0 := l_T1.is f_a0
  have hle := hle.tr l_T1
  refine lv_aload_n X.1 X.2.1 dX12_until_6 rfl (lv_at hl 0 rfl) ?_
  obtain ⟨b2, e_b2, hw⟩ := hw
  have f_b2 := h.2.2.2.rf (c := 12) (k := 18) f_a0 (by decide) (by decide) e_b2 (t := 14) rfl
  refine kp_get X h f_a0 ff_12_52.l (v := .ref b2) (congrArg va_rf e_b2) dX12_until_7 ?_
  refine lv_iload_n X.1 X.2.1 dX12_until_10 rfl (lv_at hl 1 rfl) ?_
  refine lv_aload_n X.1 X.2.1 dX12_until_11 rfl (lv_at hl 0 rfl) ?_
  refine kp_get X h f_a0 fp_12_370.l (v := .int (kp_I T1 2417 a0)) rfl dX12_until_12 ?_
  obtain ⟨hi, hw⟩ := hw
  refine kp_iast X h f_b2 hi dX12_until_15 (fun T3 e_T3 l_T3 H locs h => ?_)
  have hw := hw T3 e_T3
  have f_a0 := l_T3.is f_a0
  have f_b2 := l_T3.is f_b2
  have hle := hle.tr l_T3
  have e_b2 : kp_R T3 2418 a0 = some b2 := by rw [e_T3]; exact e_b2
  refine lv_aload_n X.1 X.2.1 dX12_until_16 rfl (lv_at hl 0 rfl) ?_
  refine lv_bipush (v := 55) X.1 X.2.1 dX12_until_17 (by decide) ?_
  refine lv_aload_n X.1 X.2.1 dX12_until_19 rfl (lv_at hl 0 rfl) ?_
  obtain ⟨b4, e_b4, hw⟩ := hw
  have f_b4 := h.2.2.2.rf (c := 12) (k := 5) f_a0 (by decide) (by decide) e_b4 (t := 14) rfl
  refine kp_get X h f_a0 ff_12_34.l (v := .ref b4) (congrArg va_rf e_b4) dX12_until_20 ?_
  refine lv_iload_n X.1 X.2.1 dX12_until_23 rfl (lv_at hl 2 rfl) ?_
  obtain ⟨hi, hw⟩ := hw
  refine kp_iald X h f_b4 hi dX12_until_24 ?_
  refine lv_iconst (v := 0) X.1 X.2.1 dX12_until_25 (by decide) ?_
  refine kp_calli X h (kp_runV (rm := { frames := 0, cells := 0, slots := 0, locals := 0 }) (mc := 0) (ms := 0) (rest := []) (Qc := fun A => kp_Qi D cy A T3 _) X h (c_X12_emit l D cy ad T3 a0 55 (kp_A T3 b4 x2.toNatClampNeg) 0 _ h.2.2.2 f_a0 hw) f_a0 cv_12_451 ⟨by decide, by decide, rfl, rfl, by decide, by decide⟩ rfl hl.1 rfl (Nat.le_of_ble_eq_true rfl) dX12_until_26) (fun y6 T5 hw l_T5 H locs h => ?_)
  have f_a0 := l_T5.is f_a0
  have f_b2 := l_T5.is f_b2
  have f_b4 := l_T5.is f_b4
  have hle := hle.tr l_T5
  refine lv_pop X.1 X.2.1 dX12_until_29 rfl ?_
  refine lv_aload_n X.1 X.2.1 dX12_until_30 rfl (lv_at hl 0 rfl) ?_
  refine lv_iconst (v := 0) X.1 X.2.1 dX12_until_31 (by decide) ?_
  refine kp_putI X h f_a0 fp_12_471 rfl ⟨by decide, by decide⟩ dX12_until_32 (fun T7 e_T7 l_T7 H locs h => ?_)
  have hw := hw T7 e_T7
  have f_a0 := l_T7.is f_a0
  have f_b2 := l_T7.is f_b2
  have f_b4 := l_T7.is f_b4
  have hle := hle.tr l_T7
  refine lv_aload_n X.1 X.2.1 dX12_until_35 rfl (lv_at hl 0 rfl) ?_
  refine kp_callv X h (kp_runV (rm := { frames := 149, cells := 0, slots := 0, locals := 3164 }) (mc := 0) (ms := 0) (rest := []) (Qc := fun A => kp_Qv D cy A T7 _) X h (c_X12_expression_t l D cy ad T7 a0 _ h.2.2.2 f_a0 hw) f_a0 cv_12_520 ⟨by decide, by decide, rfl, rfl, by decide, by decide⟩ rfl hl.1 rfl (Nat.le_of_ble_eq_true rfl) dX12_until_36) (fun T8 hw l_T8 H locs h => ?_)
  have f_a0 := l_T8.is f_a0
  have f_b2 := l_T8.is f_b2
  have f_b4 := l_T8.is f_b4
  have hle := hle.tr l_T8
  refine lv_aload_n X.1 X.2.1 dX12_until_39 rfl (lv_at hl 0 rfl) ?_
  refine lv_bipush (v := 59) X.1 X.2.1 dX12_until_40 (by decide) ?_
  refine kp_callv X h (kp_runV (rm := { frames := 2, cells := 0, slots := 0, locals := 42 }) (mc := 0) (ms := 0) (rest := []) (Qc := fun A => kp_Qv D cy A T8 _) X h (c_X12_takeSign l D cy ad T8 a0 59 _ h.2.2.2 f_a0 hw) f_a0 cv_12_429 ⟨by decide, by decide, rfl, rfl, by decide, by decide⟩ rfl hl.1 rfl (Nat.le_of_ble_eq_true rfl) dX12_until_42) (fun T9 hw l_T9 H locs h => ?_)
  have f_a0 := l_T9.is f_a0
  have f_b2 := l_T9.is f_b2
  have f_b4 := l_T9.is f_b4
  have hle := hle.tr l_T9
  refine lv_aload_n X.1 X.2.1 dX12_until_45 rfl (lv_at hl 0 rfl) ?_
  refine lv_bipush (v := 57) X.1 X.2.1 dX12_until_46 (by decide) ?_
  refine lv_iload_n X.1 X.2.1 dX12_until_48 rfl (lv_at hl 1 rfl) ?_
  refine lv_iload_n X.1 X.2.1 dX12_until_49 rfl (lv_at hl 3 rfl) ?_
  refine kp_calli X h (kp_runV (rm := { frames := 0, cells := 0, slots := 0, locals := 0 }) (mc := 0) (ms := 0) (rest := []) (Qc := fun A => kp_Qi D cy A T9 _) X h (c_X12_emit l D cy ad T9 a0 57 x1 x3 _ h.2.2.2 f_a0 hw) f_a0 cv_12_451 ⟨by decide, by decide, rfl, rfl, by decide, by decide⟩ rfl hl.1 rfl (Nat.le_of_ble_eq_true rfl) dX12_until_50) (fun y11 T10 hw l_T10 H locs h => ?_)
  have f_a0 := l_T10.is f_a0
  have f_b2 := l_T10.is f_b2
  have f_b4 := l_T10.is f_b4
  have hle := hle.tr l_T10
  refine lv_pop X.1 X.2.1 dX12_until_53 rfl ?_
  refine lv_iload X.1 X.2.1 dX12_until_54 (lv_at hl 4 rfl) ?_
  refine lv_if_eq (tgt := 68) X.1 X.2.1 dX12_until_56 (by decide) (fun c14 => ?_) (fun c14 => ?_)
  · have hw := hw.1 c14
    refine lv_lload X.1 X.2.1 dX12_until_68 (lv_at hl 5 rfl) ?_
    exact j70 w5 T10 _ _ ls (lv_sub hl [] rfl) h hle f_a0 hw
  · have hw := hw.2 c14
    refine lv_aload_n X.1 X.2.1 dX12_until_59 rfl (lv_at hl 0 rfl) ?_
    refine lv_lload X.1 X.2.1 dX12_until_60 (lv_at hl 5 rfl) ?_
    refine kp_calll X h (kp_runV (rm := { frames := 0, cells := 0, slots := 0, locals := 0 }) (mc := 0) (ms := 0) (rest := []) (Qc := fun A => kp_Ql D cy A T10 _) X h (c_X12_risky l D cy ad T10 a0 w5 _ h.2.2.2 f_a0 hw) f_a0 cv_12_483 ⟨by decide, by decide, rfl, rfl, by decide, by decide⟩ rfl hl.1 rfl (Nat.le_of_ble_eq_true rfl) dX12_until_62) (fun z13 T12 hw l_T12 H locs h => ?_)
    have f_a0 := l_T12.is f_a0
    have f_b2 := l_T12.is f_b2
    have f_b4 := l_T12.is f_b4
    have hle := hle.tr l_T12
    refine lv_goto (tgt := 70) X.1 X.2.1 dX12_until_65 (by decide) ?_
    exact j70 z13 T12 _ _ ls (lv_sub hl [] rfl) h hle f_a0 hw
theorem dX12_list_0 : decode cX12_list 0 = .ok (.aload_n 0, 1) := by decide +kernel
theorem dX12_list_1 : decode cX12_list 1 = .ok (.getfield 370, 3) := by decide +kernel
theorem dX12_list_4 : decode cX12_list 4 = .ok (.istore_n 3, 1) := by decide +kernel
theorem dX12_list_5 : decode cX12_list 5 = .ok (.aload_n 0, 1) := by decide +kernel
theorem dX12_list_6 : decode cX12_list 6 = .ok (.bipush 26, 2) := by decide +kernel
theorem dX12_list_8 : decode cX12_list 8 = .ok (.invokevirtual 440, 3) := by decide +kernel
theorem dX12_list_11 : decode cX12_list 11 = .ok (.ifCond .eq 14, 3) := by decide +kernel
theorem dX12_list_14 : decode cX12_list 14 = .ok (.aload_n 0, 1) := by decide +kernel
theorem dX12_list_15 : decode cX12_list 15 = .ok (.iload_n 1, 1) := by decide +kernel
theorem dX12_list_16 : decode cX12_list 16 = .ok (.iconst (-1), 1) := by decide +kernel
theorem dX12_list_17 : decode cX12_list 17 = .ok (.iconst 0, 1) := by decide +kernel
theorem dX12_list_18 : decode cX12_list 18 = .ok (.invokevirtual 451, 3) := by decide +kernel
theorem dX12_list_21 : decode cX12_list 21 = .ok (.pop, 1) := by decide +kernel
theorem dX12_list_22 : decode cX12_list 22 = .ok (.goto 25, 3) := by decide +kernel
theorem dX12_list_25 : decode cX12_list 25 = .ok (.aload_n 0, 1) := by decide +kernel
theorem dX12_list_26 : decode cX12_list 26 = .ok (.invokevirtual 520, 3) := by decide +kernel
theorem dX12_list_29 : decode cX12_list 29 = .ok (.aload_n 0, 1) := by decide +kernel
theorem dX12_list_30 : decode cX12_list 30 = .ok (.iload_n 2, 1) := by decide +kernel
theorem dX12_list_31 : decode cX12_list 31 = .ok (.iconst (-1), 1) := by decide +kernel
theorem dX12_list_32 : decode cX12_list 32 = .ok (.iconst 0, 1) := by decide +kernel
theorem dX12_list_33 : decode cX12_list 33 = .ok (.invokevirtual 451, 3) := by decide +kernel
theorem dX12_list_36 : decode cX12_list 36 = .ok (.pop, 1) := by decide +kernel
theorem dX12_list_37 : decode cX12_list 37 = .ok (.aload_n 0, 1) := by decide +kernel
theorem dX12_list_38 : decode cX12_list 38 = .ok (.sipush 144, 3) := by decide +kernel
theorem dX12_list_41 : decode cX12_list 41 = .ok (.invokevirtual 440, 3) := by decide +kernel
theorem dX12_list_44 : decode cX12_list 44 = .ok (.ifCond .ne (-19), 3) := by decide +kernel
theorem dX12_list_47 : decode cX12_list 47 = .ok (.aload_n 0, 1) := by decide +kernel
theorem dX12_list_48 : decode cX12_list 48 = .ok (.bipush 41, 2) := by decide +kernel
theorem dX12_list_50 : decode cX12_list 50 = .ok (.iconst 0, 1) := by decide +kernel
theorem dX12_list_51 : decode cX12_list 51 = .ok (.iconst 0, 1) := by decide +kernel
theorem dX12_list_52 : decode cX12_list 52 = .ok (.invokevirtual 451, 3) := by decide +kernel
theorem dX12_list_55 : decode cX12_list 55 = .ok (.istore 4, 2) := by decide +kernel
theorem dX12_list_57 : decode cX12_list 57 = .ok (.iload_n 3, 1) := by decide +kernel
theorem dX12_list_58 : decode cX12_list 58 = .ok (.istore 5, 2) := by decide +kernel
theorem dX12_list_60 : decode cX12_list 60 = .ok (.iload 5, 2) := by decide +kernel
theorem dX12_list_62 : decode cX12_list 62 = .ok (.aload_n 0, 1) := by decide +kernel
theorem dX12_list_63 : decode cX12_list 63 = .ok (.getfield 370, 3) := by decide +kernel
theorem dX12_list_66 : decode cX12_list 66 = .ok (.if_icmp .ge 53, 3) := by decide +kernel
theorem dX12_list_69 : decode cX12_list 69 = .ok (.aload_n 0, 1) := by decide +kernel
theorem dX12_list_70 : decode cX12_list 70 = .ok (.getfield 43, 3) := by decide +kernel
theorem dX12_list_73 : decode cX12_list 73 = .ok (.iload 5, 2) := by decide +kernel
theorem dX12_list_75 : decode cX12_list 75 = .ok (.iaload, 1) := by decide +kernel
theorem dX12_list_76 : decode cX12_list 76 = .ok (.iload_n 1, 1) := by decide +kernel
theorem dX12_list_77 : decode cX12_list 77 = .ok (.if_icmp .eq 14, 3) := by decide +kernel
theorem dX12_list_80 : decode cX12_list 80 = .ok (.aload_n 0, 1) := by decide +kernel
theorem dX12_list_81 : decode cX12_list 81 = .ok (.getfield 43, 3) := by decide +kernel
theorem dX12_list_84 : decode cX12_list 84 = .ok (.iload 5, 2) := by decide +kernel
theorem dX12_list_86 : decode cX12_list 86 = .ok (.iaload, 1) := by decide +kernel
theorem dX12_list_87 : decode cX12_list 87 = .ok (.iload_n 2, 1) := by decide +kernel
theorem dX12_list_88 : decode cX12_list 88 = .ok (.if_icmp .ne 25, 3) := by decide +kernel
theorem dX12_list_91 : decode cX12_list 91 = .ok (.aload_n 0, 1) := by decide +kernel
theorem dX12_list_92 : decode cX12_list 92 = .ok (.getfield 46, 3) := by decide +kernel
theorem dX12_list_95 : decode cX12_list 95 = .ok (.iload 5, 2) := by decide +kernel
theorem dX12_list_97 : decode cX12_list 97 = .ok (.iaload, 1) := by decide +kernel
theorem dX12_list_98 : decode cX12_list 98 = .ok (.iconst (-1), 1) := by decide +kernel
theorem dX12_list_99 : decode cX12_list 99 = .ok (.if_icmp .ne 14, 3) := by decide +kernel
theorem dX12_list_102 : decode cX12_list 102 = .ok (.aload_n 0, 1) := by decide +kernel
theorem dX12_list_103 : decode cX12_list 103 = .ok (.getfield 46, 3) := by decide +kernel
theorem dX12_list_106 : decode cX12_list 106 = .ok (.iload 5, 2) := by decide +kernel
theorem dX12_list_108 : decode cX12_list 108 = .ok (.aload_n 0, 1) := by decide +kernel
theorem dX12_list_109 : decode cX12_list 109 = .ok (.getfield 370, 3) := by decide +kernel
theorem dX12_list_112 : decode cX12_list 112 = .ok (.iastore, 1) := by decide +kernel
theorem dX12_list_113 : decode cX12_list 113 = .ok (.iinc 5 1, 3) := by decide +kernel
theorem dX12_list_116 : decode cX12_list 116 = .ok (.goto (-56), 3) := by decide +kernel
theorem dX12_list_119 : decode cX12_list 119 = .ok (.iload 4, 2) := by decide +kernel
theorem dX12_list_121 : decode cX12_list 121 = .ok (.ireturn, 1) := by decide +kernel
def wX12_list_b113 (a0 : Nat) (x1 : Int32) (x2 : Int32) (xn4 : Int32) (xn5 : Int32) (K60 : Int32 → Int32 → kp_S → Prop) (Sn : kp_S) (post : Int32 → kp_S → Prop) : Prop :=
  ∀ y1001 : Int32, y1001 = xn5 + 1 →
  K60 xn4 y1001 Sn
def wX12_list_b91 (a0 : Nat) (x1 : Int32) (x2 : Int32) (xn4 : Int32) (xn5 : Int32) (K60 : Int32 → Int32 → kp_S → Prop) (Sn : kp_S) (post : Int32 → kp_S → Prop) : Prop :=
  ∃ b2001 : Nat, kp_R Sn 2415 a0 = some b2001 ∧
  vp_in xn5 (kp_N Sn b2001) ∧
  ((¬ (kp_A Sn b2001 xn5.toNatClampNeg) = (-1) →
  wX12_list_b113 a0 x1 x2 xn4 xn5 K60 Sn post) ∧ ((kp_A Sn b2001 xn5.toNatClampNeg) = (-1) →
  vp_in xn5 (kp_N Sn b2001) ∧ ∀ T2002 : kp_S, T2002 = kp_sA Sn b2001 (upd (kp_A Sn b2001) (xn5.toNatClampNeg) (kp_I Sn 2417 a0)) →
  wX12_list_b113 a0 x1 x2 xn4 xn5 K60 T2002 post))
def wX12_list_L60 (a0 : Nat) (x1 : Int32) (x2 : Int32)  (post : Int32 → kp_S → Prop) : Nat → Int32 → Int32 → kp_S → Prop
  | 0, _, _, _ => False
  | n + 1, xn4, xn5, Sn =>
  (((kp_I Sn 2417 a0) ≤ xn5 →
  post xn4 Sn) ∧ (¬ (kp_I Sn 2417 a0) ≤ xn5 →
  ∃ b3001 : Nat, kp_R Sn 2414 a0 = some b3001 ∧
  vp_in xn5 (kp_N Sn b3001) ∧
  (((kp_A Sn b3001 xn5.toNatClampNeg) = x1 →
  wX12_list_b91 a0 x1 x2 xn4 xn5 (fun xn4_ xn5_ S_ => wX12_list_L60 a0 x1 x2  post n xn4_ xn5_ S_) Sn post) ∧ (¬ (kp_A Sn b3001 xn5.toNatClampNeg) = x1 →
  vp_in xn5 (kp_N Sn b3001) ∧
  ((¬ (kp_A Sn b3001 xn5.toNatClampNeg) = x2 →
  wX12_list_b113 a0 x1 x2 xn4 xn5 (fun xn4_ xn5_ S_ => wX12_list_L60 a0 x1 x2  post n xn4_ xn5_ S_) Sn post) ∧ ((kp_A Sn b3001 xn5.toNatClampNeg) = x2 →
  wX12_list_b91 a0 x1 x2 xn4 xn5 (fun xn4_ xn5_ S_ => wX12_list_L60 a0 x1 x2  post n xn4_ xn5_ S_) Sn post))))))
def wX12_list_b47 (a0 : Nat) (x1 : Int32) (x2 : Int32) (xn3 : Int32)  (Sn : kp_S) (post : Int32 → kp_S → Prop) : Prop :=
  wX12_emit a0 41 0 0 Sn (fun y4002 T4001 =>
  ∃ n0 : Nat, wX12_list_L60 a0 x1 x2  post n0 y4002 xn3 T4001)
def wX12_list_L25 (a0 : Nat) (x1 : Int32) (x2 : Int32)  (post : Int32 → kp_S → Prop) : Nat → Int32 → kp_S → Prop
  | 0, _, _ => False
  | n + 1, xn3, Sn =>
  wX12_expression_t a0 Sn (fun T5001 =>
  wX12_emit a0 x2 (-1) 0 T5001 (fun y5003 T5002 =>
  wX12_skip a0 144 T5002 (fun y5005 T5004 =>
  ((¬ y5005 = 0 →
  wX12_list_L25 a0 x1 x2  post n xn3 T5004) ∧ (y5005 = 0 →
  wX12_list_b47 a0 x1 x2 xn3  T5004 post)))))
def wX12_list (a0 : Nat) (x1 : Int32) (x2 : Int32) (S : kp_S) (post : Int32 → kp_S → Prop) : Prop :=
  ∀ y1 : Int32, y1 = (kp_I S 2417 a0) →
  wX12_skip a0 26 S (fun y3 T2 =>
  ((y3 = 0 →
  ∃ n0 : Nat, wX12_list_L25 a0 x1 x2  post n0 y1 T2) ∧ (¬ y3 = 0 →
  wX12_emit a0 x1 (-1) 0 T2 (fun y5 T4 =>
  wX12_list_b47 a0 x1 x2 y1  T4 post))))
set_option maxHeartbeats 4000000 in
set_option maxRecDepth 100000 in
theorem c_X12_list (l : Launch) (D : va_G) (cy : Nat → ClassId) (ad : (Nat → Nat) × (Nat → Nat)) (S : kp_S) (a0 : Nat) (x1 : Int32) (x2 : Int32) (post : Int32 → kp_S → Prop) (hS : kp_ok S) (f_a0 : kp_is S a0 12) (hw : wX12_list a0 x1 x2 S post) : kp_M l yX12_list cX12_list 6 (some .int) { frames := 150, cells := 0, slots := 0, locals := 3185 } D cy ad S [.ref a0, .int x1, .int x2] 0 0 (fun A => kp_Qi D cy A S post) := by
  refine kp_start (own := RX12) (by decide) rfl (Nat.le_of_ble_eq_true rfl) hS ?_
  intro p e s m below meth c A ls X hr hlocks hname h hl
  have hle : kp_le S S := kp_le.rf
  have hl : lv_has ls 6 [(0, .ref a0), (1, .int x1), (2, .int x2)] := hl
  have L60 : ∀ n60 : Nat, ∀ (xn4 : Int32) (xn5 : Int32) (Sn : kp_S) (H : Heap) (locs : List Loc) (ls : Array Slot), lv_has ls 6 [(0, .ref a0), (1, .int x1), (2, .int x2), (4, .int xn4), (5, .int xn5)] → kp_H D cy A Sn s.heap H locs → kp_le S Sn → kp_is Sn a0 12 → wX12_list_L60 a0 x1 x2  post n60 xn4 xn5 Sn → W p l e { frames := 150, cells := 0, slots := 0, locals := 3185 } s m ([.ref a0, .int x1, .int x2] : List Value).toArray below meth c H locs 0 0 (MQ below (kp_Qi D cy A S post) ([.ref a0, .int x1, .int x2] : List Value).toArray s 0 0 A) (F0 m 60 ls []) := by
    intro n60
    induction n60 with
    | zero => intro xn4 xn5 Sn H locs ls hl h hle f_a0 hw; exact hw.elim
    | succ n60 ih60 =>
      have j113 : ∀ (xn4 : Int32) (xn5 : Int32) (Sn : kp_S) (H : Heap) (locs : List Loc) (ls : Array Slot), lv_has ls 6 [(0, .ref a0), (1, .int x1), (2, .int x2), (4, .int xn4), (5, .int xn5)] → kp_H D cy A Sn s.heap H locs → kp_le S Sn → kp_is Sn a0 12 → wX12_list_b113 a0 x1 x2 xn4 xn5 (fun xn4_ xn5_ S_ => wX12_list_L60 a0 x1 x2  post n60 xn4_ xn5_ S_) Sn post → W p l e { frames := 150, cells := 0, slots := 0, locals := 3185 } s m ([.ref a0, .int x1, .int x2] : List Value).toArray below meth c H locs 0 0 (MQ below (kp_Qi D cy A S post) ([.ref a0, .int x1, .int x2] : List Value).toArray s 0 0 A) (F0 m 113 ls []) := by
        intro xn4 xn5 Sn H locs ls hl h hle f_a0 hw
        unfold wX12_list_b113 at hw
        obtain ⟨y1001, e_y1001⟩ : ∃ y : Int32, y = xn5 + 1 := ⟨_, rfl⟩
        have hw := hw y1001 e_y1001
        refine lv_iinc (v := y1001) (lv' := [(5, .int y1001), (0, .ref a0), (1, .int x1), (2, .int x2), (4, .int xn4)]) X.1 X.2.1 dX12_list_113 hl (k := 4) rfl (by rw [e_y1001]; rfl) (by decide) rfl (fun ls hl => ?_)
        refine lv_goto (tgt := 60) X.1 X.2.1 dX12_list_116 (by decide) ?_
        exact ih60 xn4 y1001 Sn H locs ls (lv_sub hl [1, 2, 3, 4, 0] rfl) h hle f_a0 hw
      have j91 : ∀ (xn4 : Int32) (xn5 : Int32) (Sn : kp_S) (H : Heap) (locs : List Loc) (ls : Array Slot), lv_has ls 6 [(0, .ref a0), (1, .int x1), (2, .int x2), (4, .int xn4), (5, .int xn5)] → kp_H D cy A Sn s.heap H locs → kp_le S Sn → kp_is Sn a0 12 → wX12_list_b91 a0 x1 x2 xn4 xn5 (fun xn4_ xn5_ S_ => wX12_list_L60 a0 x1 x2  post n60 xn4_ xn5_ S_) Sn post → W p l e { frames := 150, cells := 0, slots := 0, locals := 3185 } s m ([.ref a0, .int x1, .int x2] : List Value).toArray below meth c H locs 0 0 (MQ below (kp_Qi D cy A S post) ([.ref a0, .int x1, .int x2] : List Value).toArray s 0 0 A) (F0 m 91 ls []) := by
        intro xn4 xn5 Sn H locs ls hl h hle f_a0 hw
        unfold wX12_list_b91 at hw
        refine lv_aload_n X.1 X.2.1 dX12_list_91 rfl (lv_at hl 0 rfl) ?_
        obtain ⟨b2001, e_b2001, hw⟩ := hw
        have f_b2001 := h.2.2.2.rf (c := 12) (k := 15) f_a0 (by decide) (by decide) e_b2001 (t := 14) rfl
        refine kp_get X h f_a0 ff_12_46.l (v := .ref b2001) (congrArg va_rf e_b2001) dX12_list_92 ?_
        refine lv_iload X.1 X.2.1 dX12_list_95 (lv_at hl 4 rfl) ?_
        obtain ⟨hi, hw⟩ := hw
        refine kp_iald X h f_b2001 hi dX12_list_97 ?_
        refine lv_iconst (v := (-1)) X.1 X.2.1 dX12_list_98 (by decide) ?_
        refine lv_icmp_ne (tgt := 113) X.1 X.2.1 dX12_list_99 (by decide) (fun c2003 => ?_) (fun c2003 => ?_)
        · have hw := hw.1 c2003
          exact j113 xn4 xn5 Sn H locs ls (lv_sub hl [0, 1, 2, 3, 4] rfl) h hle f_a0 hw
        · have hw := hw.2 c2003
          refine lv_aload_n X.1 X.2.1 dX12_list_102 rfl (lv_at hl 0 rfl) ?_
          refine kp_get X h f_a0 ff_12_46.l (v := .ref b2001) (congrArg va_rf e_b2001) dX12_list_103 ?_
          refine lv_iload X.1 X.2.1 dX12_list_106 (lv_at hl 4 rfl) ?_
          refine lv_aload_n X.1 X.2.1 dX12_list_108 rfl (lv_at hl 0 rfl) ?_
          refine kp_get X h f_a0 fp_12_370.l (v := .int (kp_I Sn 2417 a0)) rfl dX12_list_109 ?_
          obtain ⟨hi, hw⟩ := hw
          refine kp_iast X h f_b2001 hi dX12_list_112 (fun T2002 e_T2002 l_T2002 H locs h => ?_)
          have hw := hw T2002 e_T2002
          have f_a0 := l_T2002.is f_a0
          have f_b2001 := l_T2002.is f_b2001
          have hle := hle.tr l_T2002
          have e_b2001 : kp_R T2002 2415 a0 = some b2001 := by rw [e_T2002]; exact e_b2001
          exact j113 xn4 xn5 T2002 H locs ls (lv_sub hl [0, 1, 2, 3, 4] rfl) h hle f_a0 hw
      intro xn4 xn5 Sn H locs ls hl h hle f_a0 hw
      unfold wX12_list_L60 at hw
      refine lv_iload X.1 X.2.1 dX12_list_60 (lv_at hl 4 rfl) ?_
      refine lv_aload_n X.1 X.2.1 dX12_list_62 rfl (lv_at hl 0 rfl) ?_
      refine kp_get X h f_a0 fp_12_370.l (v := .int (kp_I Sn 2417 a0)) rfl dX12_list_63 ?_
      refine lv_icmp_ge (tgt := 119) X.1 X.2.1 dX12_list_66 (by decide) (fun c3004 => ?_) (fun c3004 => ?_)
      · have hw := hw.1 c3004
        refine lv_iload X.1 X.2.1 dX12_list_119 (lv_at hl 3 rfl) ?_
        exact kp_reti X hr hlocks h hle rfl hw dX12_list_121
      · have hw := hw.2 c3004
        refine lv_aload_n X.1 X.2.1 dX12_list_69 rfl (lv_at hl 0 rfl) ?_
        obtain ⟨b3001, e_b3001, hw⟩ := hw
        have f_b3001 := h.2.2.2.rf (c := 12) (k := 14) f_a0 (by decide) (by decide) e_b3001 (t := 14) rfl
        refine kp_get X h f_a0 ff_12_43.l (v := .ref b3001) (congrArg va_rf e_b3001) dX12_list_70 ?_
        refine lv_iload X.1 X.2.1 dX12_list_73 (lv_at hl 4 rfl) ?_
        obtain ⟨hi, hw⟩ := hw
        refine kp_iald X h f_b3001 hi dX12_list_75 ?_
        refine lv_iload_n X.1 X.2.1 dX12_list_76 rfl (lv_at hl 1 rfl) ?_
        refine lv_icmp_eq (tgt := 91) X.1 X.2.1 dX12_list_77 (by decide) (fun c3003 => ?_) (fun c3003 => ?_)
        · have hw := hw.1 c3003
          exact j91 xn4 xn5 Sn H locs ls (lv_sub hl [0, 1, 2, 3, 4] rfl) h hle f_a0 hw
        · have hw := hw.2 c3003
          refine lv_aload_n X.1 X.2.1 dX12_list_80 rfl (lv_at hl 0 rfl) ?_
          refine kp_get X h f_a0 ff_12_43.l (v := .ref b3001) (congrArg va_rf e_b3001) dX12_list_81 ?_
          refine lv_iload X.1 X.2.1 dX12_list_84 (lv_at hl 4 rfl) ?_
          obtain ⟨hi, hw⟩ := hw
          refine kp_iald X h f_b3001 hi dX12_list_86 ?_
          refine lv_iload_n X.1 X.2.1 dX12_list_87 rfl (lv_at hl 2 rfl) ?_
          refine lv_icmp_ne (tgt := 113) X.1 X.2.1 dX12_list_88 (by decide) (fun c3002 => ?_) (fun c3002 => ?_)
          · have hw := hw.1 c3002
            exact j113 xn4 xn5 Sn H locs ls (lv_sub hl [0, 1, 2, 3, 4] rfl) h hle f_a0 hw
          · have hw := hw.2 c3002
            exact j91 xn4 xn5 Sn H locs ls (lv_sub hl [0, 1, 2, 3, 4] rfl) h hle f_a0 hw
  have j47 : ∀ (xn3 : Int32) (Sn : kp_S) (H : Heap) (locs : List Loc) (ls : Array Slot), lv_has ls 6 [(0, .ref a0), (1, .int x1), (2, .int x2), (3, .int xn3)] → kp_H D cy A Sn s.heap H locs → kp_le S Sn → kp_is Sn a0 12 → wX12_list_b47 a0 x1 x2 xn3  Sn post → W p l e { frames := 150, cells := 0, slots := 0, locals := 3185 } s m ([.ref a0, .int x1, .int x2] : List Value).toArray below meth c H locs 0 0 (MQ below (kp_Qi D cy A S post) ([.ref a0, .int x1, .int x2] : List Value).toArray s 0 0 A) (F0 m 47 ls []) := by
    intro xn3 Sn H locs ls hl h hle f_a0 hw
    unfold wX12_list_b47 at hw
    refine lv_aload_n X.1 X.2.1 dX12_list_47 rfl (lv_at hl 0 rfl) ?_
    refine lv_bipush (v := 41) X.1 X.2.1 dX12_list_48 (by decide) ?_
    refine lv_iconst (v := 0) X.1 X.2.1 dX12_list_50 (by decide) ?_
    refine lv_iconst (v := 0) X.1 X.2.1 dX12_list_51 (by decide) ?_
    refine kp_calli X h (kp_runV (rm := { frames := 0, cells := 0, slots := 0, locals := 0 }) (mc := 0) (ms := 0) (rest := []) (Qc := fun A => kp_Qi D cy A Sn _) X h (c_X12_emit l D cy ad Sn a0 41 0 0 _ h.2.2.2 f_a0 hw) f_a0 cv_12_451 ⟨by decide, by decide, rfl, rfl, by decide, by decide⟩ rfl hl.1 rfl (Nat.le_of_ble_eq_true rfl) dX12_list_52) (fun y4002 T4001 hw l_T4001 H locs h => ?_)
    have f_a0 := l_T4001.is f_a0
    have hle := hle.tr l_T4001
    refine lv_istore (lv' := [(4, .int y4002), (0, .ref a0), (1, .int x1), (2, .int x2), (3, .int xn3)]) X.1 X.2.1 dX12_list_55 hl (by decide) rfl (fun ls hl => ?_)
    refine lv_iload_n X.1 X.2.1 dX12_list_57 rfl (lv_at hl 4 rfl) ?_
    refine lv_istore (lv' := [(5, .int xn3), (4, .int y4002), (0, .ref a0), (1, .int x1), (2, .int x2), (3, .int xn3)]) X.1 X.2.1 dX12_list_58 hl (by decide) rfl (fun ls hl => ?_)
    obtain ⟨n0, hw⟩ := hw
    exact L60 n0 y4002 xn3 T4001 H locs ls (lv_sub hl [2, 3, 4, 1, 0] rfl) h hle f_a0 hw
  have L25 : ∀ n25 : Nat, ∀ (xn3 : Int32) (Sn : kp_S) (H : Heap) (locs : List Loc) (ls : Array Slot), lv_has ls 6 [(0, .ref a0), (1, .int x1), (2, .int x2), (3, .int xn3)] → kp_H D cy A Sn s.heap H locs → kp_le S Sn → kp_is Sn a0 12 → wX12_list_L25 a0 x1 x2  post n25 xn3 Sn → W p l e { frames := 150, cells := 0, slots := 0, locals := 3185 } s m ([.ref a0, .int x1, .int x2] : List Value).toArray below meth c H locs 0 0 (MQ below (kp_Qi D cy A S post) ([.ref a0, .int x1, .int x2] : List Value).toArray s 0 0 A) (F0 m 25 ls []) := by
    intro n25
    induction n25 with
    | zero => intro xn3 Sn H locs ls hl h hle f_a0 hw; exact hw.elim
    | succ n25 ih25 =>
      intro xn3 Sn H locs ls hl h hle f_a0 hw
      unfold wX12_list_L25 at hw
      refine lv_aload_n X.1 X.2.1 dX12_list_25 rfl (lv_at hl 0 rfl) ?_
      refine kp_callv X h (kp_runV (rm := { frames := 149, cells := 0, slots := 0, locals := 3164 }) (mc := 0) (ms := 0) (rest := []) (Qc := fun A => kp_Qv D cy A Sn _) X h (c_X12_expression_t l D cy ad Sn a0 _ h.2.2.2 f_a0 hw) f_a0 cv_12_520 ⟨by decide, by decide, rfl, rfl, by decide, by decide⟩ rfl hl.1 rfl (Nat.le_of_ble_eq_true rfl) dX12_list_26) (fun T5001 hw l_T5001 H locs h => ?_)
      have f_a0 := l_T5001.is f_a0
      have hle := hle.tr l_T5001
      refine lv_aload_n X.1 X.2.1 dX12_list_29 rfl (lv_at hl 0 rfl) ?_
      refine lv_iload_n X.1 X.2.1 dX12_list_30 rfl (lv_at hl 2 rfl) ?_
      refine lv_iconst (v := (-1)) X.1 X.2.1 dX12_list_31 (by decide) ?_
      refine lv_iconst (v := 0) X.1 X.2.1 dX12_list_32 (by decide) ?_
      refine kp_calli X h (kp_runV (rm := { frames := 0, cells := 0, slots := 0, locals := 0 }) (mc := 0) (ms := 0) (rest := []) (Qc := fun A => kp_Qi D cy A T5001 _) X h (c_X12_emit l D cy ad T5001 a0 x2 (-1) 0 _ h.2.2.2 f_a0 hw) f_a0 cv_12_451 ⟨by decide, by decide, rfl, rfl, by decide, by decide⟩ rfl hl.1 rfl (Nat.le_of_ble_eq_true rfl) dX12_list_33) (fun y5003 T5002 hw l_T5002 H locs h => ?_)
      have f_a0 := l_T5002.is f_a0
      have hle := hle.tr l_T5002
      refine lv_pop X.1 X.2.1 dX12_list_36 rfl ?_
      refine lv_aload_n X.1 X.2.1 dX12_list_37 rfl (lv_at hl 0 rfl) ?_
      refine lv_sipush (v := 144) X.1 X.2.1 dX12_list_38 (by decide) ?_
      refine kp_calli X h (kp_runV (rm := { frames := 1, cells := 0, slots := 0, locals := 21 }) (mc := 0) (ms := 0) (rest := []) (Qc := fun A => kp_Qi D cy A T5002 _) X h (c_X12_skip l D cy ad T5002 a0 144 _ h.2.2.2 f_a0 hw) f_a0 cv_12_440 ⟨by decide, by decide, rfl, rfl, by decide, by decide⟩ rfl hl.1 rfl (Nat.le_of_ble_eq_true rfl) dX12_list_41) (fun y5005 T5004 hw l_T5004 H locs h => ?_)
      have f_a0 := l_T5004.is f_a0
      have hle := hle.tr l_T5004
      refine lv_if_ne (tgt := 25) X.1 X.2.1 dX12_list_44 (by decide) (fun c5006 => ?_) (fun c5006 => ?_)
      · have hw := hw.1 c5006
        exact ih25 xn3 T5004 H locs ls (lv_sub hl [0, 1, 2, 3] rfl) h hle f_a0 hw
      · have hw := hw.2 c5006
        exact j47 xn3 T5004 H locs ls (lv_sub hl [0, 1, 2, 3] rfl) h hle f_a0 hw
  unfold wX12_list at hw
  have h : kp_H D cy A S s.heap s.heap [] := h
  revert h
  intro h
  refine lv_aload_n X.1 X.2.1 dX12_list_0 rfl (lv_at hl 0 rfl) ?_
  refine kp_get X h f_a0 fp_12_370.l (v := .int (kp_I S 2417 a0)) rfl dX12_list_1 ?_
  refine lv_topi (fun y1 e_y1 => ?_)
  have hw := hw y1 e_y1
  refine lv_istore_n (lv' := [(3, .int y1), (0, .ref a0), (1, .int x1), (2, .int x2)]) X.1 X.2.1 dX12_list_4 rfl hl (by decide) rfl (fun ls hl => ?_)
  refine lv_aload_n X.1 X.2.1 dX12_list_5 rfl (lv_at hl 1 rfl) ?_
  refine lv_bipush (v := 26) X.1 X.2.1 dX12_list_6 (by decide) ?_
  refine kp_calli X h (kp_runV (rm := { frames := 1, cells := 0, slots := 0, locals := 21 }) (mc := 0) (ms := 0) (rest := []) (Qc := fun A => kp_Qi D cy A S _) X h (c_X12_skip l D cy ad S a0 26 _ h.2.2.2 f_a0 hw) f_a0 cv_12_440 ⟨by decide, by decide, rfl, rfl, by decide, by decide⟩ rfl hl.1 rfl (Nat.le_of_ble_eq_true rfl) dX12_list_8) (fun y3 T2 hw l_T2 H locs h => ?_)
  have f_a0 := l_T2.is f_a0
  have hle := hle.tr l_T2
  refine lv_if_eq (tgt := 25) X.1 X.2.1 dX12_list_11 (by decide) (fun c6 => ?_) (fun c6 => ?_)
  · have hw := hw.1 c6
    obtain ⟨n0, hw⟩ := hw
    exact L25 n0 y1 T2 _ _ ls (lv_sub hl [1, 2, 3, 0] rfl) h hle f_a0 hw
  · have hw := hw.2 c6
    refine lv_aload_n X.1 X.2.1 dX12_list_14 rfl (lv_at hl 1 rfl) ?_
    refine lv_iload_n X.1 X.2.1 dX12_list_15 rfl (lv_at hl 2 rfl) ?_
    refine lv_iconst (v := (-1)) X.1 X.2.1 dX12_list_16 (by decide) ?_
    refine lv_iconst (v := 0) X.1 X.2.1 dX12_list_17 (by decide) ?_
    refine kp_calli X h (kp_runV (rm := { frames := 0, cells := 0, slots := 0, locals := 0 }) (mc := 0) (ms := 0) (rest := []) (Qc := fun A => kp_Qi D cy A T2 _) X h (c_X12_emit l D cy ad T2 a0 x1 (-1) 0 _ h.2.2.2 f_a0 hw) f_a0 cv_12_451 ⟨by decide, by decide, rfl, rfl, by decide, by decide⟩ rfl hl.1 rfl (Nat.le_of_ble_eq_true rfl) dX12_list_18) (fun y5 T4 hw l_T4 H locs h => ?_)
    have f_a0 := l_T4.is f_a0
    have hle := hle.tr l_T4
    refine lv_pop X.1 X.2.1 dX12_list_21 rfl ?_
    refine lv_goto (tgt := 47) X.1 X.2.1 dX12_list_22 (by decide) ?_
    exact j47 y1 T4 _ _ ls (lv_sub hl [1, 2, 3, 0] rfl) h hle f_a0 hw
theorem dX12_answer_0 : decode cX12_answer 0 = .ok (.aload_n 0, 1) := by decide +kernel
theorem dX12_answer_1 : decode cX12_answer 1 = .ok (.dup, 1) := by decide +kernel
theorem dX12_answer_2 : decode cX12_answer 2 = .ok (.getfield 376, 3) := by decide +kernel
theorem dX12_answer_5 : decode cX12_answer 5 = .ok (.iconst 1, 1) := by decide +kernel
theorem dX12_answer_6 : decode cX12_answer 6 = .ok (.iadd, 1) := by decide +kernel
theorem dX12_answer_7 : decode cX12_answer 7 = .ok (.putfield 376, 3) := by decide +kernel
theorem dX12_answer_10 : decode cX12_answer 10 = .ok (.aload_n 0, 1) := by decide +kernel
theorem dX12_answer_11 : decode cX12_answer 11 = .ok (.bipush 59, 2) := by decide +kernel
theorem dX12_answer_13 : decode cX12_answer 13 = .ok (.invokevirtual 433, 3) := by decide +kernel
theorem dX12_answer_16 : decode cX12_answer 16 = .ok (.ifCond .eq 14, 3) := by decide +kernel
theorem dX12_answer_19 : decode cX12_answer 19 = .ok (.aload_n 0, 1) := by decide +kernel
theorem dX12_answer_20 : decode cX12_answer 20 = .ok (.iconst 1, 1) := by decide +kernel
theorem dX12_answer_21 : decode cX12_answer 21 = .ok (.iconst 0, 1) := by decide +kernel
theorem dX12_answer_22 : decode cX12_answer 22 = .ok (.iconst 0, 1) := by decide +kernel
theorem dX12_answer_23 : decode cX12_answer 23 = .ok (.invokevirtual 451, 3) := by decide +kernel
theorem dX12_answer_26 : decode cX12_answer 26 = .ok (.pop, 1) := by decide +kernel
theorem dX12_answer_27 : decode cX12_answer 27 = .ok (.goto 7, 3) := by decide +kernel
theorem dX12_answer_30 : decode cX12_answer 30 = .ok (.aload_n 0, 1) := by decide +kernel
theorem dX12_answer_31 : decode cX12_answer 31 = .ok (.invokevirtual 520, 3) := by decide +kernel
theorem dX12_answer_34 : decode cX12_answer 34 = .ok (.aload_n 0, 1) := by decide +kernel
theorem dX12_answer_35 : decode cX12_answer 35 = .ok (.bipush 59, 2) := by decide +kernel
theorem dX12_answer_37 : decode cX12_answer 37 = .ok (.invokevirtual 429, 3) := by decide +kernel
theorem dX12_answer_40 : decode cX12_answer 40 = .ok (.aload_n 0, 1) := by decide +kernel
theorem dX12_answer_41 : decode cX12_answer 41 = .ok (.bipush 38, 2) := by decide +kernel
theorem dX12_answer_43 : decode cX12_answer 43 = .ok (.iconst 0, 1) := by decide +kernel
theorem dX12_answer_44 : decode cX12_answer 44 = .ok (.iconst 0, 1) := by decide +kernel
theorem dX12_answer_45 : decode cX12_answer 45 = .ok (.invokevirtual 451, 3) := by decide +kernel
theorem dX12_answer_48 : decode cX12_answer 48 = .ok (.pop, 1) := by decide +kernel
theorem dX12_answer_49 : decode cX12_answer 49 = .ok (.aload_n 0, 1) := by decide +kernel
theorem dX12_answer_50 : decode cX12_answer 50 = .ok (.ldc2_w 530, 3) := by decide +kernel
theorem dX12_answer_53 : decode cX12_answer 53 = .ok (.invokevirtual 483, 3) := by decide +kernel
theorem dX12_answer_56 : decode cX12_answer 56 = .ok (.lreturn, 1) := by decide +kernel
def wX12_answer_b34 (a0 : Nat)  (Sn : kp_S) (post : Int64 → kp_S → Prop) : Prop :=
  wX12_takeSign a0 59 Sn (fun T1001 =>
  wX12_emit a0 38 0 0 T1001 (fun y1003 T1002 =>
  wX12_risky a0 2 T1002 (fun z1005 T1004 =>
  post z1005 T1004)))
def wX12_answer (a0 : Nat) (S : kp_S) (post : Int64 → kp_S → Prop) : Prop :=
  ∀ T1 : kp_S, T1 = kp_sI S 2410 a0 ((kp_I S 2410 a0) + 1) →
  wX12_isSign a0 59 T1 (fun y3 T2 =>
  ((y3 = 0 →
  wX12_expression_t a0 T2 (fun T4 =>
  wX12_answer_b34 a0   T4 post)) ∧ (¬ y3 = 0 →
  wX12_emit a0 1 0 0 T2 (fun y6 T5 =>
  wX12_answer_b34 a0   T5 post))))
set_option maxHeartbeats 4000000 in
set_option maxRecDepth 100000 in
theorem c_X12_answer (l : Launch) (D : va_G) (cy : Nat → ClassId) (ad : (Nat → Nat) × (Nat → Nat)) (S : kp_S) (a0 : Nat) (post : Int64 → kp_S → Prop) (hS : kp_ok S) (f_a0 : kp_is S a0 12) (hw : wX12_answer a0 S post) : kp_M l yX12_answer cX12_answer 1 (some .long) { frames := 150, cells := 0, slots := 0, locals := 3185 } D cy ad S [.ref a0] 0 0 (fun A => kp_Ql D cy A S post) := by
  refine kp_start (own := RX12) (by decide) rfl (Nat.le_of_ble_eq_true rfl) hS ?_
  intro p e s m below meth c A ls X hr hlocks hname h hl
  have hle : kp_le S S := kp_le.rf
  have hl : lv_has ls 1 [(0, .ref a0)] := hl
  have j34 : ∀  (Sn : kp_S) (H : Heap) (locs : List Loc) (ls : Array Slot), lv_has ls 1 [(0, .ref a0)] → kp_H D cy A Sn s.heap H locs → kp_le S Sn → kp_is Sn a0 12 → wX12_answer_b34 a0   Sn post → W p l e { frames := 150, cells := 0, slots := 0, locals := 3185 } s m ([.ref a0] : List Value).toArray below meth c H locs 0 0 (MQ below (kp_Ql D cy A S post) ([.ref a0] : List Value).toArray s 0 0 A) (F0 m 34 ls []) := by
    intro  Sn H locs ls hl h hle f_a0 hw
    unfold wX12_answer_b34 at hw
    refine lv_aload_n X.1 X.2.1 dX12_answer_34 rfl (lv_at hl 0 rfl) ?_
    refine lv_bipush (v := 59) X.1 X.2.1 dX12_answer_35 (by decide) ?_
    refine kp_callv X h (kp_runV (rm := { frames := 2, cells := 0, slots := 0, locals := 42 }) (mc := 0) (ms := 0) (rest := []) (Qc := fun A => kp_Qv D cy A Sn _) X h (c_X12_takeSign l D cy ad Sn a0 59 _ h.2.2.2 f_a0 hw) f_a0 cv_12_429 ⟨by decide, by decide, rfl, rfl, by decide, by decide⟩ rfl hl.1 rfl (Nat.le_of_ble_eq_true rfl) dX12_answer_37) (fun T1001 hw l_T1001 H locs h => ?_)
    have f_a0 := l_T1001.is f_a0
    have hle := hle.tr l_T1001
    refine lv_aload_n X.1 X.2.1 dX12_answer_40 rfl (lv_at hl 0 rfl) ?_
    refine lv_bipush (v := 38) X.1 X.2.1 dX12_answer_41 (by decide) ?_
    refine lv_iconst (v := 0) X.1 X.2.1 dX12_answer_43 (by decide) ?_
    refine lv_iconst (v := 0) X.1 X.2.1 dX12_answer_44 (by decide) ?_
    refine kp_calli X h (kp_runV (rm := { frames := 0, cells := 0, slots := 0, locals := 0 }) (mc := 0) (ms := 0) (rest := []) (Qc := fun A => kp_Qi D cy A T1001 _) X h (c_X12_emit l D cy ad T1001 a0 38 0 0 _ h.2.2.2 f_a0 hw) f_a0 cv_12_451 ⟨by decide, by decide, rfl, rfl, by decide, by decide⟩ rfl hl.1 rfl (Nat.le_of_ble_eq_true rfl) dX12_answer_45) (fun y1003 T1002 hw l_T1002 H locs h => ?_)
    have f_a0 := l_T1002.is f_a0
    have hle := hle.tr l_T1002
    refine lv_pop X.1 X.2.1 dX12_answer_48 rfl ?_
    refine lv_aload_n X.1 X.2.1 dX12_answer_49 rfl (lv_at hl 0 rfl) ?_
    refine lv_ldc2 (v := 2) X.1 X.2.1 X.2.2.2.1 (X.2.2.2.2.1 _ kl_12_530) dX12_answer_50 ?_
    refine kp_calll X h (kp_runV (rm := { frames := 0, cells := 0, slots := 0, locals := 0 }) (mc := 0) (ms := 0) (rest := []) (Qc := fun A => kp_Ql D cy A T1002 _) X h (c_X12_risky l D cy ad T1002 a0 2 _ h.2.2.2 f_a0 hw) f_a0 cv_12_483 ⟨by decide, by decide, rfl, rfl, by decide, by decide⟩ rfl hl.1 rfl (Nat.le_of_ble_eq_true rfl) dX12_answer_53) (fun z1005 T1004 hw l_T1004 H locs h => ?_)
    have f_a0 := l_T1004.is f_a0
    have hle := hle.tr l_T1004
    exact kp_retl X hr hlocks h hle hw dX12_answer_56
  unfold wX12_answer at hw
  have h : kp_H D cy A S s.heap s.heap [] := h
  revert h
  intro h
  refine lv_aload_n X.1 X.2.1 dX12_answer_0 rfl (lv_at hl 0 rfl) ?_
  refine lv_dup X.1 X.2.1 dX12_answer_1 rfl ?_
  refine kp_get X h f_a0 fp_12_376.l (v := .int (kp_I S 2410 a0)) rfl dX12_answer_2 ?_
  refine lv_iconst (v := 1) X.1 X.2.1 dX12_answer_5 (by decide) ?_
  refine lv_iadd X.1 X.2.1 dX12_answer_6 ?_
  refine kp_putI X h f_a0 fp_12_376 rfl ⟨rfl, rfl⟩ dX12_answer_7 (fun T1 e_T1 l_T1 H locs h => ?_)
  have hw := hw T1 e_T1
  have f_a0 := l_T1.is f_a0
  have hle := hle.tr l_T1
  refine lv_aload_n X.1 X.2.1 dX12_answer_10 rfl (lv_at hl 0 rfl) ?_
  refine lv_bipush (v := 59) X.1 X.2.1 dX12_answer_11 (by decide) ?_
  refine kp_calli X h (kp_runV (rm := { frames := 1, cells := 0, slots := 0, locals := 21 }) (mc := 0) (ms := 0) (rest := []) (Qc := fun A => kp_Qi D cy A T1 _) X h (c_X12_isSign l D cy ad T1 a0 59 _ h.2.2.2 f_a0 hw) f_a0 cv_12_433 ⟨by decide, by decide, rfl, rfl, by decide, by decide⟩ rfl hl.1 rfl (Nat.le_of_ble_eq_true rfl) dX12_answer_13) (fun y3 T2 hw l_T2 H locs h => ?_)
  have f_a0 := l_T2.is f_a0
  have hle := hle.tr l_T2
  refine lv_if_eq (tgt := 30) X.1 X.2.1 dX12_answer_16 (by decide) (fun c7 => ?_) (fun c7 => ?_)
  · have hw := hw.1 c7
    refine lv_aload_n X.1 X.2.1 dX12_answer_30 rfl (lv_at hl 0 rfl) ?_
    refine kp_callv X h (kp_runV (rm := { frames := 149, cells := 0, slots := 0, locals := 3164 }) (mc := 0) (ms := 0) (rest := []) (Qc := fun A => kp_Qv D cy A T2 _) X h (c_X12_expression_t l D cy ad T2 a0 _ h.2.2.2 f_a0 hw) f_a0 cv_12_520 ⟨by decide, by decide, rfl, rfl, by decide, by decide⟩ rfl hl.1 rfl (Nat.le_of_ble_eq_true rfl) dX12_answer_31) (fun T4 hw l_T4 H locs h => ?_)
    have f_a0 := l_T4.is f_a0
    have hle := hle.tr l_T4
    exact j34  T4 _ _ ls (lv_sub hl [0] rfl) h hle f_a0 hw
  · have hw := hw.2 c7
    refine lv_aload_n X.1 X.2.1 dX12_answer_19 rfl (lv_at hl 0 rfl) ?_
    refine lv_iconst (v := 1) X.1 X.2.1 dX12_answer_20 (by decide) ?_
    refine lv_iconst (v := 0) X.1 X.2.1 dX12_answer_21 (by decide) ?_
    refine lv_iconst (v := 0) X.1 X.2.1 dX12_answer_22 (by decide) ?_
    refine kp_calli X h (kp_runV (rm := { frames := 0, cells := 0, slots := 0, locals := 0 }) (mc := 0) (ms := 0) (rest := []) (Qc := fun A => kp_Qi D cy A T2 _) X h (c_X12_emit l D cy ad T2 a0 1 0 0 _ h.2.2.2 f_a0 hw) f_a0 cv_12_451 ⟨by decide, by decide, rfl, rfl, by decide, by decide⟩ rfl hl.1 rfl (Nat.le_of_ble_eq_true rfl) dX12_answer_23) (fun y6 T5 hw l_T5 H locs h => ?_)
    have f_a0 := l_T5.is f_a0
    have hle := hle.tr l_T5
    refine lv_pop X.1 X.2.1 dX12_answer_26 rfl ?_
    refine lv_goto (tgt := 34) X.1 X.2.1 dX12_answer_27 (by decide) ?_
    exact j34  T5 _ _ ls (lv_sub hl [0] rfl) h hle f_a0 hw
theorem dX12_away_0 : decode cX12_away 0 = .ok (.aload_n 0, 1) := by decide +kernel
theorem dX12_away_1 : decode cX12_away 1 = .ok (.getfield 376, 3) := by decide +kernel
theorem dX12_away_4 : decode cX12_away 4 = .ok (.istore 4, 2) := by decide +kernel
theorem dX12_away_6 : decode cX12_away 6 = .ok (.aload_n 0, 1) := by decide +kernel
theorem dX12_away_7 : decode cX12_away 7 = .ok (.dup, 1) := by decide +kernel
theorem dX12_away_8 : decode cX12_away 8 = .ok (.getfield 376, 3) := by decide +kernel
theorem dX12_away_11 : decode cX12_away 11 = .ok (.iconst 1, 1) := by decide +kernel
theorem dX12_away_12 : decode cX12_away 12 = .ok (.iadd, 1) := by decide +kernel
theorem dX12_away_13 : decode cX12_away 13 = .ok (.putfield 376, 3) := by decide +kernel
theorem dX12_away_16 : decode cX12_away 16 = .ok (.aload_n 0, 1) := by decide +kernel
theorem dX12_away_17 : decode cX12_away 17 = .ok (.getfield 376, 3) := by decide +kernel
theorem dX12_away_20 : decode cX12_away 20 = .ok (.istore 5, 2) := by decide +kernel
theorem dX12_away_22 : decode cX12_away 22 = .ok (.iconst (-1), 1) := by decide +kernel
theorem dX12_away_23 : decode cX12_away 23 = .ok (.istore 6, 2) := by decide +kernel
theorem dX12_away_25 : decode cX12_away 25 = .ok (.aload_n 0, 1) := by decide +kernel
theorem dX12_away_26 : decode cX12_away 26 = .ok (.iconst 2, 1) := by decide +kernel
theorem dX12_away_27 : decode cX12_away 27 = .ok (.invokevirtual 440, 3) := by decide +kernel
theorem dX12_away_30 : decode cX12_away 30 = .ok (.ifCond .eq 67, 3) := by decide +kernel
theorem dX12_away_33 : decode cX12_away 33 = .ok (.aload_n 0, 1) := by decide +kernel
theorem dX12_away_34 : decode cX12_away 34 = .ok (.getfield 426, 3) := by decide +kernel
theorem dX12_away_37 : decode cX12_away 37 = .ok (.istore 7, 2) := by decide +kernel
theorem dX12_away_39 : decode cX12_away 39 = .ok (.iload 7, 2) := by decide +kernel
theorem dX12_away_41 : decode cX12_away 41 = .ok (.aload_n 0, 1) := by decide +kernel
theorem dX12_away_42 : decode cX12_away 42 = .ok (.getfield 423, 3) := by decide +kernel
theorem dX12_away_45 : decode cX12_away 45 = .ok (.if_icmp .ge 36, 3) := by decide +kernel
theorem dX12_away_48 : decode cX12_away 48 = .ok (.aload_n 0, 1) := by decide +kernel
theorem dX12_away_49 : decode cX12_away 49 = .ok (.getfield 106, 3) := by decide +kernel
theorem dX12_away_52 : decode cX12_away 52 = .ok (.iload 7, 2) := by decide +kernel
theorem dX12_away_54 : decode cX12_away 54 = .ok (.laload, 1) := by decide +kernel
theorem dX12_away_55 : decode cX12_away 55 = .ok (.aload_n 0, 1) := by decide +kernel
theorem dX12_away_56 : decode cX12_away 56 = .ok (.getfield 37, 3) := by decide +kernel
theorem dX12_away_59 : decode cX12_away 59 = .ok (.iload 5, 2) := by decide +kernel
theorem dX12_away_61 : decode cX12_away 61 = .ok (.laload, 1) := by decide +kernel
theorem dX12_away_62 : decode cX12_away 62 = .ok (.lcmp, 1) := by decide +kernel
theorem dX12_away_63 : decode cX12_away 63 = .ok (.ifCond .ne 8, 3) := by decide +kernel
theorem dX12_away_66 : decode cX12_away 66 = .ok (.iload 7, 2) := by decide +kernel
theorem dX12_away_68 : decode cX12_away 68 = .ok (.goto 5, 3) := by decide +kernel
theorem dX12_away_71 : decode cX12_away 71 = .ok (.iload 6, 2) := by decide +kernel
theorem dX12_away_73 : decode cX12_away 73 = .ok (.istore 6, 2) := by decide +kernel
theorem dX12_away_75 : decode cX12_away 75 = .ok (.iinc 7 1, 3) := by decide +kernel
theorem dX12_away_78 : decode cX12_away 78 = .ok (.goto (-39), 3) := by decide +kernel
theorem dX12_away_81 : decode cX12_away 81 = .ok (.iload 6, 2) := by decide +kernel
theorem dX12_away_83 : decode cX12_away 83 = .ok (.iconst (-1), 1) := by decide +kernel
theorem dX12_away_84 : decode cX12_away 84 = .ok (.if_icmp .ne 43, 3) := by decide +kernel
theorem dX12_away_87 : decode cX12_away 87 = .ok (.aload_n 0, 1) := by decide +kernel
theorem dX12_away_88 : decode cX12_away 88 = .ok (.iconst 5, 1) := by decide +kernel
theorem dX12_away_89 : decode cX12_away 89 = .ok (.iload 5, 2) := by decide +kernel
theorem dX12_away_91 : decode cX12_away 91 = .ok (.invokevirtual 419, 3) := by decide +kernel
theorem dX12_away_94 : decode cX12_away 94 = .ok (.goto 33, 3) := by decide +kernel
theorem dX12_away_97 : decode cX12_away 97 = .ok (.aload_n 0, 1) := by decide +kernel
theorem dX12_away_98 : decode cX12_away 98 = .ok (.getfield 423, 3) := by decide +kernel
theorem dX12_away_101 : decode cX12_away 101 = .ok (.aload_n 0, 1) := by decide +kernel
theorem dX12_away_102 : decode cX12_away 102 = .ok (.getfield 426, 3) := by decide +kernel
theorem dX12_away_105 : decode cX12_away 105 = .ok (.if_icmp .le 14, 3) := by decide +kernel
theorem dX12_away_108 : decode cX12_away 108 = .ok (.aload_n 0, 1) := by decide +kernel
theorem dX12_away_109 : decode cX12_away 109 = .ok (.getfield 423, 3) := by decide +kernel
theorem dX12_away_112 : decode cX12_away 112 = .ok (.iconst 1, 1) := by decide +kernel
theorem dX12_away_113 : decode cX12_away 113 = .ok (.isub, 1) := by decide +kernel
theorem dX12_away_114 : decode cX12_away 114 = .ok (.istore 6, 2) := by decide +kernel
theorem dX12_away_116 : decode cX12_away 116 = .ok (.goto 11, 3) := by decide +kernel
theorem dX12_away_119 : decode cX12_away 119 = .ok (.aload_n 0, 1) := by decide +kernel
theorem dX12_away_120 : decode cX12_away 120 = .ok (.bipush 6, 2) := by decide +kernel
theorem dX12_away_122 : decode cX12_away 122 = .ok (.iload 4, 2) := by decide +kernel
theorem dX12_away_124 : decode cX12_away 124 = .ok (.invokevirtual 419, 3) := by decide +kernel
theorem dX12_away_127 : decode cX12_away 127 = .ok (.aload_n 0, 1) := by decide +kernel
theorem dX12_away_128 : decode cX12_away 128 = .ok (.bipush 59, 2) := by decide +kernel
theorem dX12_away_130 : decode cX12_away 130 = .ok (.invokevirtual 429, 3) := by decide +kernel
theorem dX12_away_133 : decode cX12_away 133 = .ok (.aload_n 0, 1) := by decide +kernel
theorem dX12_away_134 : decode cX12_away 134 = .ok (.iload_n 1, 1) := by decide +kernel
theorem dX12_away_135 : decode cX12_away 135 = .ok (.iload 6, 2) := by decide +kernel
theorem dX12_away_137 : decode cX12_away 137 = .ok (.iconst (-1), 1) := by decide +kernel
theorem dX12_away_138 : decode cX12_away 138 = .ok (.if_icmp .ne 7, 3) := by decide +kernel
theorem dX12_away_141 : decode cX12_away 141 = .ok (.iconst (-1), 1) := by decide +kernel
theorem dX12_away_142 : decode cX12_away 142 = .ok (.goto 10, 3) := by decide +kernel
theorem dX12_away_145 : decode cX12_away 145 = .ok (.aload_n 0, 1) := by decide +kernel
theorem dX12_away_146 : decode cX12_away 146 = .ok (.getfield 109, 3) := by decide +kernel
theorem dX12_away_149 : decode cX12_away 149 = .ok (.iload 6, 2) := by decide +kernel
theorem dX12_away_151 : decode cX12_away 151 = .ok (.iaload, 1) := by decide +kernel
theorem dX12_away_152 : decode cX12_away 152 = .ok (.iconst 0, 1) := by decide +kernel
theorem dX12_away_153 : decode cX12_away 153 = .ok (.invokevirtual 451, 3) := by decide +kernel
theorem dX12_away_156 : decode cX12_away 156 = .ok (.pop, 1) := by decide +kernel
theorem dX12_away_157 : decode cX12_away 157 = .ok (.iload 6, 2) := by decide +kernel
theorem dX12_away_159 : decode cX12_away 159 = .ok (.iconst (-1), 1) := by decide +kernel
theorem dX12_away_160 : decode cX12_away 160 = .ok (.if_icmp .ne 7, 3) := by decide +kernel
theorem dX12_away_163 : decode cX12_away 163 = .ok (.lconst 0, 1) := by decide +kernel
theorem dX12_away_164 : decode cX12_away 164 = .ok (.goto 7, 3) := by decide +kernel
theorem dX12_away_167 : decode cX12_away 167 = .ok (.lload_n 2, 1) := by decide +kernel
theorem dX12_away_168 : decode cX12_away 168 = .ok (.iload 6, 2) := by decide +kernel
theorem dX12_away_170 : decode cX12_away 170 = .ok (.lshl, 1) := by decide +kernel
theorem dX12_away_171 : decode cX12_away 171 = .ok (.lreturn, 1) := by decide +kernel
def wX12_away_b171 (a0 : Nat) (x1 : Int32) (w2 : Int64) (wt0 : Int64)  (Sn : kp_S) (post : Int64 → kp_S → Prop) : Prop :=
  post wt0 Sn
def wX12_away_b152 (a0 : Nat) (x1 : Int32) (w2 : Int64) (xn6 : Int32) (xt0 : Int32) (xt1 : Int32) (at2 : Nat)  (Sn : kp_S) (post : Int64 → kp_S → Prop) : Prop :=
  wX12_emit at2 xt1 xt0 0 Sn (fun y2002 T2001 =>
  ((¬ xn6 = (-1) →
  wX12_away_b171 a0 x1 w2 ((w2 : Int64) <<< ((xn6 : Int32).toInt64 &&& 63))  T2001 post) ∧ (xn6 = (-1) →
  wX12_away_b171 a0 x1 w2 0  T2001 post)))
def wX12_away_b127 (a0 : Nat) (x1 : Int32) (w2 : Int64) (xn6 : Int32)  (Sn : kp_S) (post : Int64 → kp_S → Prop) : Prop :=
  wX12_takeSign a0 59 Sn (fun T3001 =>
  ((¬ xn6 = (-1) →
  ∃ b3002 : Nat, kp_R T3001 2444 a0 = some b3002 ∧
  vp_in xn6 (kp_N T3001 b3002) ∧
  wX12_away_b152 a0 x1 w2 xn6 (kp_A T3001 b3002 xn6.toNatClampNeg) x1 a0  T3001 post) ∧ (xn6 = (-1) →
  wX12_away_b152 a0 x1 w2 xn6 (-1) x1 a0  T3001 post)))
def wX12_away_b73 (a0 : Nat) (x1 : Int32) (w2 : Int64) (xn5 : Int32) (xn7 : Int32) (xt0 : Int32) (K39 : Int32 → Int32 → Int32 → kp_S → Prop) (Sn : kp_S) (post : Int64 → kp_S → Prop) : Prop :=
  ∀ y4001 : Int32, y4001 = xn7 + 1 →
  K39 xn5 xt0 y4001 Sn
def wX12_away_L39 (a0 : Nat) (x1 : Int32) (w2 : Int64)  (post : Int64 → kp_S → Prop) : Nat → Int32 → Int32 → Int32 → kp_S → Prop
  | 0, _, _, _, _ => False
  | n + 1, xn5, xn6, xn7, Sn =>
  (((kp_I Sn 2445 a0) ≤ xn7 →
  ((¬ xn6 = (-1) →
  wX12_away_b127 a0 x1 w2 xn6  Sn post) ∧ (xn6 = (-1) →
  wX12_bad a0 5 xn5 Sn (fun T5001 =>
  wX12_away_b127 a0 x1 w2 xn6  T5001 post)))) ∧ (¬ (kp_I Sn 2445 a0) ≤ xn7 →
  ∃ b5003 : Nat, kp_R Sn 2443 a0 = some b5003 ∧
  vp_in xn7 (kp_N Sn b5003) ∧
  ∃ b5004 : Nat, kp_R Sn 2406 a0 = some b5004 ∧
  vp_in xn5 (kp_N Sn b5004) ∧
  ((¬ (lg_cmp (kp_B Sn b5003 xn7.toNatClampNeg) (kp_B Sn b5004 xn5.toNatClampNeg)) = 0 →
  wX12_away_b73 a0 x1 w2 xn5 xn7 xn6 (fun xn5_ xn6_ xn7_ S_ => wX12_away_L39 a0 x1 w2  post n xn5_ xn6_ xn7_ S_) Sn post) ∧ ((lg_cmp (kp_B Sn b5003 xn7.toNatClampNeg) (kp_B Sn b5004 xn5.toNatClampNeg)) = 0 →
  wX12_away_b73 a0 x1 w2 xn5 xn7 xn7 (fun xn5_ xn6_ xn7_ S_ => wX12_away_L39 a0 x1 w2  post n xn5_ xn6_ xn7_ S_) Sn post))))
def wX12_away (a0 : Nat) (x1 : Int32) (w2 : Int64) (S : kp_S) (post : Int64 → kp_S → Prop) : Prop :=
  ∀ y1 : Int32, y1 = (kp_I S 2410 a0) →
  ∀ T2 : kp_S, T2 = kp_sI S 2410 a0 ((kp_I S 2410 a0) + 1) →
  ∀ y3 : Int32, y3 = (kp_I T2 2410 a0) →
  wX12_skip a0 2 T2 (fun y5 T4 =>
  ((y5 = 0 →
  (((kp_I T4 2445 a0) ≤ (kp_I T4 2446 a0) →
  wX12_bad a0 6 y1 T4 (fun T6 =>
  wX12_away_b127 a0 x1 w2 (-1)  T6 post)) ∧ (¬ (kp_I T4 2445 a0) ≤ (kp_I T4 2446 a0) →
  ∀ y7 : Int32, y7 = ((kp_I T4 2445 a0) - 1) →
  wX12_away_b127 a0 x1 w2 y7  T4 post))) ∧ (¬ y5 = 0 →
  ∀ y9 : Int32, y9 = (kp_I T4 2446 a0) →
  ∃ n0 : Nat, wX12_away_L39 a0 x1 w2  post n0 y3 (-1) y9 T4)))
set_option maxHeartbeats 4000000 in
set_option maxRecDepth 100000 in
theorem c_X12_away (l : Launch) (D : va_G) (cy : Nat → ClassId) (ad : (Nat → Nat) × (Nat → Nat)) (S : kp_S) (a0 : Nat) (x1 : Int32) (w2 : Int64) (post : Int64 → kp_S → Prop) (hS : kp_ok S) (f_a0 : kp_is S a0 12) (hw : wX12_away a0 x1 w2 S post) : kp_M l yX12_away cX12_away 8 (some .long) { frames := 3, cells := 0, slots := 0, locals := 63 } D cy ad S [.ref a0, .int x1, .long w2] 0 0 (fun A => kp_Ql D cy A S post) := by
  refine kp_start (own := RX12) (by decide) rfl (Nat.le_of_ble_eq_true rfl) hS ?_
  intro p e s m below meth c A ls X hr hlocks hname h hl
  have hle : kp_le S S := kp_le.rf
  have hl : lv_has ls 8 [(0, .ref a0), (1, .int x1), (2, .long w2)] := hl
  have j171 : ∀ (wt0 : Int64) (Sn : kp_S) (H : Heap) (locs : List Loc) (ls : Array Slot), lv_has ls 8 [] → kp_H D cy A Sn s.heap H locs → kp_le S Sn → kp_is Sn a0 12 → wX12_away_b171 a0 x1 w2 wt0  Sn post → W p l e { frames := 3, cells := 0, slots := 0, locals := 63 } s m ([.ref a0, .int x1, .long w2] : List Value).toArray below meth c H locs 0 0 (MQ below (kp_Ql D cy A S post) ([.ref a0, .int x1, .long w2] : List Value).toArray s 0 0 A) (F0 m 171 ls [.long wt0]) := by
    intro wt0 Sn H locs ls hl h hle f_a0 hw
    unfold wX12_away_b171 at hw
    exact kp_retl X hr hlocks h hle hw dX12_away_171
  have j152 : ∀ (xn6 : Int32) (xt0 : Int32) (xt1 : Int32) (at2 : Nat) (Sn : kp_S) (H : Heap) (locs : List Loc) (ls : Array Slot), lv_has ls 8 [(2, .long w2), (6, .int xn6)] → kp_H D cy A Sn s.heap H locs → kp_le S Sn → kp_is Sn at2 12 → kp_is Sn a0 12 → wX12_away_b152 a0 x1 w2 xn6 xt0 xt1 at2  Sn post → W p l e { frames := 3, cells := 0, slots := 0, locals := 63 } s m ([.ref a0, .int x1, .long w2] : List Value).toArray below meth c H locs 0 0 (MQ below (kp_Ql D cy A S post) ([.ref a0, .int x1, .long w2] : List Value).toArray s 0 0 A) (F0 m 152 ls [.int xt0, .int xt1, .ref at2]) := by
    intro xn6 xt0 xt1 at2 Sn H locs ls hl h hle f_at2 f_a0 hw
    unfold wX12_away_b152 at hw
    refine lv_iconst (v := 0) X.1 X.2.1 dX12_away_152 (by decide) ?_
    refine kp_calli X h (kp_runV (rm := { frames := 0, cells := 0, slots := 0, locals := 0 }) (mc := 0) (ms := 0) (rest := []) (Qc := fun A => kp_Qi D cy A Sn _) X h (c_X12_emit l D cy ad Sn at2 xt1 xt0 0 _ h.2.2.2 f_at2 hw) f_at2 cv_12_451 ⟨by decide, by decide, rfl, rfl, by decide, by decide⟩ rfl hl.1 rfl (Nat.le_of_ble_eq_true rfl) dX12_away_153) (fun y2002 T2001 hw l_T2001 H locs h => ?_)
    have f_at2 := l_T2001.is f_at2
    have f_a0 := l_T2001.is f_a0
    have hle := hle.tr l_T2001
    refine lv_pop X.1 X.2.1 dX12_away_156 rfl ?_
    refine lv_iload X.1 X.2.1 dX12_away_157 (lv_at hl 1 rfl) ?_
    refine lv_iconst (v := (-1)) X.1 X.2.1 dX12_away_159 (by decide) ?_
    refine lv_icmp_ne (tgt := 167) X.1 X.2.1 dX12_away_160 (by decide) (fun c2003 => ?_) (fun c2003 => ?_)
    · have hw := hw.1 c2003
      refine lv_lload_n X.1 X.2.1 dX12_away_167 rfl (lv_at hl 0 rfl) ?_
      refine lv_iload X.1 X.2.1 dX12_away_168 (lv_at hl 1 rfl) ?_
      refine lv_lshl X.1 X.2.1 dX12_away_170 rfl ?_
      exact j171 ((w2 : Int64) <<< ((xn6 : Int32).toInt64 &&& 63)) T2001 H locs ls (lv_sub hl [] rfl) h hle f_a0 hw
    · have hw := hw.2 c2003
      refine lv_lconst (v := 0) X.1 X.2.1 dX12_away_163 (by decide) ?_
      refine lv_goto (tgt := 171) X.1 X.2.1 dX12_away_164 (by decide) ?_
      exact j171 0 T2001 H locs ls (lv_sub hl [] rfl) h hle f_a0 hw
  have j127 : ∀ (xn6 : Int32) (Sn : kp_S) (H : Heap) (locs : List Loc) (ls : Array Slot), lv_has ls 8 [(0, .ref a0), (1, .int x1), (2, .long w2), (6, .int xn6)] → kp_H D cy A Sn s.heap H locs → kp_le S Sn → kp_is Sn a0 12 → wX12_away_b127 a0 x1 w2 xn6  Sn post → W p l e { frames := 3, cells := 0, slots := 0, locals := 63 } s m ([.ref a0, .int x1, .long w2] : List Value).toArray below meth c H locs 0 0 (MQ below (kp_Ql D cy A S post) ([.ref a0, .int x1, .long w2] : List Value).toArray s 0 0 A) (F0 m 127 ls []) := by
    intro xn6 Sn H locs ls hl h hle f_a0 hw
    unfold wX12_away_b127 at hw
    refine lv_aload_n X.1 X.2.1 dX12_away_127 rfl (lv_at hl 0 rfl) ?_
    refine lv_bipush (v := 59) X.1 X.2.1 dX12_away_128 (by decide) ?_
    refine kp_callv X h (kp_runV (rm := { frames := 2, cells := 0, slots := 0, locals := 42 }) (mc := 0) (ms := 0) (rest := []) (Qc := fun A => kp_Qv D cy A Sn _) X h (c_X12_takeSign l D cy ad Sn a0 59 _ h.2.2.2 f_a0 hw) f_a0 cv_12_429 ⟨by decide, by decide, rfl, rfl, by decide, by decide⟩ rfl hl.1 rfl (Nat.le_of_ble_eq_true rfl) dX12_away_130) (fun T3001 hw l_T3001 H locs h => ?_)
    have f_a0 := l_T3001.is f_a0
    have hle := hle.tr l_T3001
    refine lv_aload_n X.1 X.2.1 dX12_away_133 rfl (lv_at hl 0 rfl) ?_
    refine lv_iload_n X.1 X.2.1 dX12_away_134 rfl (lv_at hl 1 rfl) ?_
    refine lv_iload X.1 X.2.1 dX12_away_135 (lv_at hl 3 rfl) ?_
    refine lv_iconst (v := (-1)) X.1 X.2.1 dX12_away_137 (by decide) ?_
    refine lv_icmp_ne (tgt := 145) X.1 X.2.1 dX12_away_138 (by decide) (fun c3003 => ?_) (fun c3003 => ?_)
    · have hw := hw.1 c3003
      refine lv_aload_n X.1 X.2.1 dX12_away_145 rfl (lv_at hl 0 rfl) ?_
      obtain ⟨b3002, e_b3002, hw⟩ := hw
      have f_b3002 := h.2.2.2.rf (c := 12) (k := 44) f_a0 (by decide) (by decide) e_b3002 (t := 14) rfl
      refine kp_get X h f_a0 ff_12_109.l (v := .ref b3002) (congrArg va_rf e_b3002) dX12_away_146 ?_
      refine lv_iload X.1 X.2.1 dX12_away_149 (lv_at hl 3 rfl) ?_
      obtain ⟨hi, hw⟩ := hw
      refine kp_iald X h f_b3002 hi dX12_away_151 ?_
      exact j152 xn6 (kp_A T3001 b3002 xn6.toNatClampNeg) x1 a0 T3001 H locs ls (lv_sub hl [2, 3] rfl) h hle f_a0 f_a0 hw
    · have hw := hw.2 c3003
      refine lv_iconst (v := (-1)) X.1 X.2.1 dX12_away_141 (by decide) ?_
      refine lv_goto (tgt := 152) X.1 X.2.1 dX12_away_142 (by decide) ?_
      exact j152 xn6 (-1) x1 a0 T3001 H locs ls (lv_sub hl [2, 3] rfl) h hle f_a0 f_a0 hw
  have L39 : ∀ n39 : Nat, ∀ (xn5 : Int32) (xn6 : Int32) (xn7 : Int32) (Sn : kp_S) (H : Heap) (locs : List Loc) (ls : Array Slot), lv_has ls 8 [(0, .ref a0), (1, .int x1), (2, .long w2), (5, .int xn5), (6, .int xn6), (7, .int xn7)] → kp_H D cy A Sn s.heap H locs → kp_le S Sn → kp_is Sn a0 12 → wX12_away_L39 a0 x1 w2  post n39 xn5 xn6 xn7 Sn → W p l e { frames := 3, cells := 0, slots := 0, locals := 63 } s m ([.ref a0, .int x1, .long w2] : List Value).toArray below meth c H locs 0 0 (MQ below (kp_Ql D cy A S post) ([.ref a0, .int x1, .long w2] : List Value).toArray s 0 0 A) (F0 m 39 ls []) := by
    intro n39
    induction n39 with
    | zero => intro xn5 xn6 xn7 Sn H locs ls hl h hle f_a0 hw; exact hw.elim
    | succ n39 ih39 =>
      have j73 : ∀ (xn5 : Int32) (xn7 : Int32) (xt0 : Int32) (Sn : kp_S) (H : Heap) (locs : List Loc) (ls : Array Slot), lv_has ls 8 [(0, .ref a0), (1, .int x1), (2, .long w2), (5, .int xn5), (7, .int xn7)] → kp_H D cy A Sn s.heap H locs → kp_le S Sn → kp_is Sn a0 12 → wX12_away_b73 a0 x1 w2 xn5 xn7 xt0 (fun xn5_ xn6_ xn7_ S_ => wX12_away_L39 a0 x1 w2  post n39 xn5_ xn6_ xn7_ S_) Sn post → W p l e { frames := 3, cells := 0, slots := 0, locals := 63 } s m ([.ref a0, .int x1, .long w2] : List Value).toArray below meth c H locs 0 0 (MQ below (kp_Ql D cy A S post) ([.ref a0, .int x1, .long w2] : List Value).toArray s 0 0 A) (F0 m 73 ls [.int xt0]) := by
        intro xn5 xn7 xt0 Sn H locs ls hl h hle f_a0 hw
        unfold wX12_away_b73 at hw
        refine lv_istore (lv' := [(6, .int xt0), (0, .ref a0), (1, .int x1), (2, .long w2), (5, .int xn5), (7, .int xn7)]) X.1 X.2.1 dX12_away_73 hl (by decide) rfl (fun ls hl => ?_)
        obtain ⟨y4001, e_y4001⟩ : ∃ y : Int32, y = xn7 + 1 := ⟨_, rfl⟩
        have hw := hw y4001 e_y4001
        refine lv_iinc (v := y4001) (lv' := [(7, .int y4001), (6, .int xt0), (0, .ref a0), (1, .int x1), (2, .long w2), (5, .int xn5)]) X.1 X.2.1 dX12_away_75 hl (k := 5) rfl (by rw [e_y4001]; rfl) (by decide) rfl (fun ls hl => ?_)
        refine lv_goto (tgt := 39) X.1 X.2.1 dX12_away_78 (by decide) ?_
        exact ih39 xn5 xt0 y4001 Sn H locs ls (lv_sub hl [2, 3, 4, 5, 1, 0] rfl) h hle f_a0 hw
      intro xn5 xn6 xn7 Sn H locs ls hl h hle f_a0 hw
      unfold wX12_away_L39 at hw
      refine lv_iload X.1 X.2.1 dX12_away_39 (lv_at hl 5 rfl) ?_
      refine lv_aload_n X.1 X.2.1 dX12_away_41 rfl (lv_at hl 0 rfl) ?_
      refine kp_get X h f_a0 fp_12_423.l (v := .int (kp_I Sn 2445 a0)) rfl dX12_away_42 ?_
      refine lv_icmp_ge (tgt := 81) X.1 X.2.1 dX12_away_45 (by decide) (fun c5006 => ?_) (fun c5006 => ?_)
      · have hw := hw.1 c5006
        refine lv_iload X.1 X.2.1 dX12_away_81 (lv_at hl 4 rfl) ?_
        refine lv_iconst (v := (-1)) X.1 X.2.1 dX12_away_83 (by decide) ?_
        refine lv_icmp_ne (tgt := 127) X.1 X.2.1 dX12_away_84 (by decide) (fun c5002 => ?_) (fun c5002 => ?_)
        · have hw := hw.1 c5002
          exact j127 xn6 Sn H locs ls (lv_sub hl [0, 1, 2, 4] rfl) h hle f_a0 hw
        · have hw := hw.2 c5002
          refine lv_aload_n X.1 X.2.1 dX12_away_87 rfl (lv_at hl 0 rfl) ?_
          refine lv_iconst (v := 5) X.1 X.2.1 dX12_away_88 (by decide) ?_
          refine lv_iload X.1 X.2.1 dX12_away_89 (lv_at hl 3 rfl) ?_
          refine kp_callv X h (kp_runV (rm := { frames := 0, cells := 0, slots := 0, locals := 0 }) (mc := 0) (ms := 0) (rest := []) (Qc := fun A => kp_Qv D cy A Sn _) X h (c_X12_bad l D cy ad Sn a0 5 xn5 _ h.2.2.2 f_a0 hw) f_a0 cv_12_419 ⟨by decide, by decide, rfl, rfl, by decide, by decide⟩ rfl hl.1 rfl (Nat.le_of_ble_eq_true rfl) dX12_away_91) (fun T5001 hw l_T5001 H locs h => ?_)
          have f_a0 := l_T5001.is f_a0
          have hle := hle.tr l_T5001
          refine lv_goto (tgt := 127) X.1 X.2.1 dX12_away_94 (by decide) ?_
          exact j127 xn6 T5001 H locs ls (lv_sub hl [0, 1, 2, 4] rfl) h hle f_a0 hw
      · have hw := hw.2 c5006
        refine lv_aload_n X.1 X.2.1 dX12_away_48 rfl (lv_at hl 0 rfl) ?_
        obtain ⟨b5003, e_b5003, hw⟩ := hw
        have f_b5003 := h.2.2.2.rf (c := 12) (k := 43) f_a0 (by decide) (by decide) e_b5003 (t := 15) rfl
        refine kp_get X h f_a0 ff_12_106.l (v := .ref b5003) (congrArg va_rf e_b5003) dX12_away_49 ?_
        refine lv_iload X.1 X.2.1 dX12_away_52 (lv_at hl 5 rfl) ?_
        obtain ⟨hi, hw⟩ := hw
        refine kp_lald X h f_b5003 hi dX12_away_54 ?_
        refine lv_aload_n X.1 X.2.1 dX12_away_55 rfl (lv_at hl 0 rfl) ?_
        obtain ⟨b5004, e_b5004, hw⟩ := hw
        have f_b5004 := h.2.2.2.rf (c := 12) (k := 6) f_a0 (by decide) (by decide) e_b5004 (t := 15) rfl
        refine kp_get X h f_a0 ff_12_37.l (v := .ref b5004) (congrArg va_rf e_b5004) dX12_away_56 ?_
        refine lv_iload X.1 X.2.1 dX12_away_59 (lv_at hl 3 rfl) ?_
        obtain ⟨hi, hw⟩ := hw
        refine kp_lald X h f_b5004 hi dX12_away_61 ?_
        refine W.lcmp X.1 X.2.1 dX12_away_62 ?_
        refine lv_if_ne (tgt := 71) X.1 X.2.1 dX12_away_63 (by decide) (fun c5005 => ?_) (fun c5005 => ?_)
        · have hw := hw.1 c5005
          refine lv_iload X.1 X.2.1 dX12_away_71 (lv_at hl 4 rfl) ?_
          exact j73 xn5 xn7 xn6 Sn H locs ls (lv_sub hl [0, 1, 2, 3, 5] rfl) h hle f_a0 hw
        · have hw := hw.2 c5005
          refine lv_iload X.1 X.2.1 dX12_away_66 (lv_at hl 5 rfl) ?_
          refine lv_goto (tgt := 73) X.1 X.2.1 dX12_away_68 (by decide) ?_
          exact j73 xn5 xn7 xn7 Sn H locs ls (lv_sub hl [0, 1, 2, 3, 5] rfl) h hle f_a0 hw
  unfold wX12_away at hw
  have h : kp_H D cy A S s.heap s.heap [] := h
  revert h
  intro h
  refine lv_aload_n X.1 X.2.1 dX12_away_0 rfl (lv_at hl 0 rfl) ?_
  refine kp_get X h f_a0 fp_12_376.l (v := .int (kp_I S 2410 a0)) rfl dX12_away_1 ?_
  refine lv_topi (fun y1 e_y1 => ?_)
  have hw := hw y1 e_y1
  refine lv_istore (lv' := [(4, .int y1), (0, .ref a0), (1, .int x1), (2, .long w2)]) X.1 X.2.1 dX12_away_4 hl (by decide) rfl (fun ls hl => ?_)
  refine lv_aload_n X.1 X.2.1 dX12_away_6 rfl (lv_at hl 1 rfl) ?_
  refine lv_dup X.1 X.2.1 dX12_away_7 rfl ?_
  refine kp_get X h f_a0 fp_12_376.l (v := .int (kp_I S 2410 a0)) rfl dX12_away_8 ?_
  refine lv_iconst (v := 1) X.1 X.2.1 dX12_away_11 (by decide) ?_
  refine lv_iadd X.1 X.2.1 dX12_away_12 ?_
  refine kp_putI X h f_a0 fp_12_376 rfl ⟨rfl, rfl⟩ dX12_away_13 (fun T2 e_T2 l_T2 H locs h => ?_)
  have hw := hw T2 e_T2
  have f_a0 := l_T2.is f_a0
  have hle := hle.tr l_T2
  refine lv_aload_n X.1 X.2.1 dX12_away_16 rfl (lv_at hl 1 rfl) ?_
  refine kp_get X h f_a0 fp_12_376.l (v := .int (kp_I T2 2410 a0)) rfl dX12_away_17 ?_
  refine lv_topi (fun y3 e_y3 => ?_)
  have hw := hw y3 e_y3
  refine lv_istore (lv' := [(5, .int y3), (4, .int y1), (0, .ref a0), (1, .int x1), (2, .long w2)]) X.1 X.2.1 dX12_away_20 hl (by decide) rfl (fun ls hl => ?_)
  refine lv_iconst (v := (-1)) X.1 X.2.1 dX12_away_22 (by decide) ?_
  refine lv_istore (lv' := [(6, .int (-1)), (5, .int y3), (4, .int y1), (0, .ref a0), (1, .int x1), (2, .long w2)]) X.1 X.2.1 dX12_away_23 hl (by decide) rfl (fun ls hl => ?_)
  refine lv_aload_n X.1 X.2.1 dX12_away_25 rfl (lv_at hl 3 rfl) ?_
  refine lv_iconst (v := 2) X.1 X.2.1 dX12_away_26 (by decide) ?_
  refine kp_calli X h (kp_runV (rm := { frames := 1, cells := 0, slots := 0, locals := 21 }) (mc := 0) (ms := 0) (rest := []) (Qc := fun A => kp_Qi D cy A T2 _) X h (c_X12_skip l D cy ad T2 a0 2 _ h.2.2.2 f_a0 hw) f_a0 cv_12_440 ⟨by decide, by decide, rfl, rfl, by decide, by decide⟩ rfl hl.1 rfl (Nat.le_of_ble_eq_true rfl) dX12_away_27) (fun y5 T4 hw l_T4 H locs h => ?_)
  have f_a0 := l_T4.is f_a0
  have hle := hle.tr l_T4
  refine lv_if_eq (tgt := 97) X.1 X.2.1 dX12_away_30 (by decide) (fun c10 => ?_) (fun c10 => ?_)
  · have hw := hw.1 c10
    refine lv_aload_n X.1 X.2.1 dX12_away_97 rfl (lv_at hl 3 rfl) ?_
    refine kp_get X h f_a0 fp_12_423.l (v := .int (kp_I T4 2445 a0)) rfl dX12_away_98 ?_
    refine lv_aload_n X.1 X.2.1 dX12_away_101 rfl (lv_at hl 3 rfl) ?_
    refine kp_get X h f_a0 fp_12_426.l (v := .int (kp_I T4 2446 a0)) rfl dX12_away_102 ?_
    refine lv_icmp_le (tgt := 119) X.1 X.2.1 dX12_away_105 (by decide) (fun c8 => ?_) (fun c8 => ?_)
    · have hw := hw.1 c8
      refine lv_aload_n X.1 X.2.1 dX12_away_119 rfl (lv_at hl 3 rfl) ?_
      refine lv_bipush (v := 6) X.1 X.2.1 dX12_away_120 (by decide) ?_
      refine lv_iload X.1 X.2.1 dX12_away_122 (lv_at hl 2 rfl) ?_
      refine kp_callv X h (kp_runV (rm := { frames := 0, cells := 0, slots := 0, locals := 0 }) (mc := 0) (ms := 0) (rest := []) (Qc := fun A => kp_Qv D cy A T4 _) X h (c_X12_bad l D cy ad T4 a0 6 y1 _ h.2.2.2 f_a0 hw) f_a0 cv_12_419 ⟨by decide, by decide, rfl, rfl, by decide, by decide⟩ rfl hl.1 rfl (Nat.le_of_ble_eq_true rfl) dX12_away_124) (fun T6 hw l_T6 H locs h => ?_)
      have f_a0 := l_T6.is f_a0
      have hle := hle.tr l_T6
      exact j127 (-1) T6 _ _ ls (lv_sub hl [3, 4, 5, 0] rfl) h hle f_a0 hw
    · have hw := hw.2 c8
      refine lv_aload_n X.1 X.2.1 dX12_away_108 rfl (lv_at hl 3 rfl) ?_
      refine kp_get X h f_a0 fp_12_423.l (v := .int (kp_I T4 2445 a0)) rfl dX12_away_109 ?_
      refine lv_iconst (v := 1) X.1 X.2.1 dX12_away_112 (by decide) ?_
      refine lv_isub X.1 X.2.1 dX12_away_113 ?_
      refine lv_topi (fun y7 e_y7 => ?_)
      have hw := hw y7 e_y7
      refine lv_istore (lv' := [(6, .int y7), (5, .int y3), (4, .int y1), (0, .ref a0), (1, .int x1), (2, .long w2)]) X.1 X.2.1 dX12_away_114 hl (by decide) rfl (fun ls hl => ?_)
      refine lv_goto (tgt := 127) X.1 X.2.1 dX12_away_116 (by decide) ?_
      exact j127 y7 T4 _ _ ls (lv_sub hl [3, 4, 5, 0] rfl) h hle f_a0 hw
  · have hw := hw.2 c10
    refine lv_aload_n X.1 X.2.1 dX12_away_33 rfl (lv_at hl 3 rfl) ?_
    refine kp_get X h f_a0 fp_12_426.l (v := .int (kp_I T4 2446 a0)) rfl dX12_away_34 ?_
    refine lv_topi (fun y9 e_y9 => ?_)
    have hw := hw y9 e_y9
    refine lv_istore (lv' := [(7, .int y9), (6, .int (-1)), (5, .int y3), (4, .int y1), (0, .ref a0), (1, .int x1), (2, .long w2)]) X.1 X.2.1 dX12_away_37 hl (by decide) rfl (fun ls hl => ?_)
    obtain ⟨n0, hw⟩ := hw
    exact L39 n0 y3 (-1) y9 T4 _ _ ls (lv_sub hl [4, 5, 6, 2, 1, 0] rfl) h hle f_a0 hw
