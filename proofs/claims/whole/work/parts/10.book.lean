set_option maxRecDepth 100000 in
theorem cl_0 : kp_CL 0 RX0 TX0 4 := ⟨rfl, by decide, rfl, by decide +kernel, tyX0_ok, nmX0⟩
theorem fp_0_20 : kp_FP RX0 20 0 1 := ⟨RX0, TX0, 4, cl_0, by decide, kp_mem 243 (by decide +kernel) (by decide +kernel), rfl⟩
theorem ff_0_9 : kp_FF RX0 9 0 0 := ⟨RX0, TX0, 4, cl_0, by decide, kp_mem 242 (by decide +kernel) (by decide +kernel), rfl, rfl⟩
theorem cv_0_24 : kp_CV RX0 24 yX0_add cX0_add 3 (some .int) 1 0 := ⟨⟨kp_mem 869 (by decide +kernel) (by decide +kernel), kp_mem 205 (by decide +kernel) (by decide +kernel), by decide +kernel⟩, kp_mem 866 (by decide +kernel) (by decide +kernel), kp_mem 867 (by decide +kernel) (by decide +kernel), kp_mem 868 (by decide +kernel) (by decide +kernel), by decide, TX0, 4, rfl⟩
theorem cv_0_28 : kp_CV RX0 28 yX0_add_ cX0_add_ 4 (some .int) 2 0 := ⟨⟨kp_mem 865 (by decide +kernel) (by decide +kernel), kp_mem 205 (by decide +kernel) (by decide +kernel), by decide +kernel⟩, kp_mem 998 (by decide +kernel) (by decide +kernel), kp_mem 863 (by decide +kernel) (by decide +kernel), kp_mem 864 (by decide +kernel) (by decide +kernel), by decide, TX0, 4, rfl⟩
theorem ff_0_17 : kp_FF RX0 17 0 2 := ⟨RX0, TX0, 4, cl_0, by decide, kp_mem 244 (by decide +kernel) (by decide +kernel), rfl, rfl⟩
theorem fp_0_31 : kp_FP RX0 31 0 3 := ⟨RX0, TX0, 4, cl_0, by decide, kp_mem 246 (by decide +kernel) (by decide +kernel), rfl⟩
theorem cv_0_38 : kp_CV RX0 38 yX0_fact cX0_fact 4 (some .int) 2 0 := ⟨⟨kp_mem 1166 (by decide +kernel) (by decide +kernel), kp_mem 205 (by decide +kernel) (by decide +kernel), by decide +kernel⟩, kp_mem 1163 (by decide +kernel) (by decide +kernel), kp_mem 1165 (by decide +kernel) (by decide +kernel), kp_mem 56 (by decide +kernel) (by decide +kernel), by decide, TX0, 4, rfl⟩
theorem cv_0_34 : kp_CV RX0 34 yX0_setFact cX0_setFact 5 none 3 0 := ⟨⟨kp_mem 825 (by decide +kernel) (by decide +kernel), kp_mem 205 (by decide +kernel) (by decide +kernel), by decide +kernel⟩, kp_mem 822 (by decide +kernel) (by decide +kernel), kp_mem 824 (by decide +kernel) (by decide +kernel), kp_mem 12 (by decide +kernel) (by decide +kernel), by decide, TX0, 4, rfl⟩
theorem dX0_size_0 : decode cX0_size 0 = .ok (.aload_n 0, 1) := by decide +kernel
theorem dX0_size_1 : decode cX0_size 1 = .ok (.getfield 20, 3) := by decide +kernel
theorem dX0_size_4 : decode cX0_size 4 = .ok (.ireturn, 1) := by decide +kernel
def wX0_size (a0 : Nat) (S : kp_S) (post : Int32 → kp_S → Prop) : Prop :=
  post (kp_I S 1 a0) S
set_option maxHeartbeats 4000000 in
set_option maxRecDepth 100000 in
theorem c_X0_size (l : Launch) (D : va_G) (cy : Nat → ClassId) (ad : (Nat → Nat) × (Nat → Nat)) (S : kp_S) (a0 : Nat) (post : Int32 → kp_S → Prop) (hS : kp_ok S) (f_a0 : kp_is S a0 0) (hw : wX0_size a0 S post) : kp_M l yX0_size cX0_size 1 (some .int) { frames := 0, cells := 0, slots := 0, locals := 0 } D cy ad S [.ref a0] 0 0 (fun A => kp_Qi D cy A S post) := by
  refine kp_start (own := RX0) (by decide) rfl (Nat.le_of_ble_eq_true rfl) hS ?_
  intro p e s m below meth c A ls X hr hlocks hname h hl
  have hle : kp_le S S := kp_le.rf
  have hl : lv_has ls 1 [(0, .ref a0)] := hl
  unfold wX0_size at hw
  have h : kp_H D cy A S s.heap s.heap [] := h
  revert h
  intro h
  refine lv_aload_n X.1 X.2.1 dX0_size_0 rfl (lv_at hl 0 rfl) ?_
  refine kp_get X h f_a0 fp_0_20.l (v := .int (kp_I S 1 a0)) rfl dX0_size_1 ?_
  exact kp_reti X hr hlocks h hle rfl hw dX0_size_4
theorem dX0_add_0 : decode cX0_add 0 = .ok (.aload_n 0, 1) := by decide +kernel
theorem dX0_add_1 : decode cX0_add 1 = .ok (.getfield 20, 3) := by decide +kernel
theorem dX0_add_4 : decode cX0_add 4 = .ok (.istore_n 2, 1) := by decide +kernel
theorem dX0_add_5 : decode cX0_add 5 = .ok (.iload_n 2, 1) := by decide +kernel
theorem dX0_add_6 : decode cX0_add 6 = .ok (.ifCond .lt 29, 3) := by decide +kernel
theorem dX0_add_9 : decode cX0_add 9 = .ok (.iload_n 2, 1) := by decide +kernel
theorem dX0_add_10 : decode cX0_add 10 = .ok (.aload_n 0, 1) := by decide +kernel
theorem dX0_add_11 : decode cX0_add 11 = .ok (.getfield 9, 3) := by decide +kernel
theorem dX0_add_14 : decode cX0_add 14 = .ok (.arraylength, 1) := by decide +kernel
theorem dX0_add_15 : decode cX0_add 15 = .ok (.if_icmp .ge 20, 3) := by decide +kernel
theorem dX0_add_18 : decode cX0_add 18 = .ok (.aload_n 0, 1) := by decide +kernel
theorem dX0_add_19 : decode cX0_add 19 = .ok (.getfield 9, 3) := by decide +kernel
theorem dX0_add_22 : decode cX0_add 22 = .ok (.iload_n 2, 1) := by decide +kernel
theorem dX0_add_23 : decode cX0_add 23 = .ok (.iload_n 1, 1) := by decide +kernel
theorem dX0_add_24 : decode cX0_add 24 = .ok (.iastore, 1) := by decide +kernel
theorem dX0_add_25 : decode cX0_add 25 = .ok (.aload_n 0, 1) := by decide +kernel
theorem dX0_add_26 : decode cX0_add 26 = .ok (.dup, 1) := by decide +kernel
theorem dX0_add_27 : decode cX0_add 27 = .ok (.getfield 20, 3) := by decide +kernel
theorem dX0_add_30 : decode cX0_add 30 = .ok (.iconst 1, 1) := by decide +kernel
theorem dX0_add_31 : decode cX0_add 31 = .ok (.iadd, 1) := by decide +kernel
theorem dX0_add_32 : decode cX0_add 32 = .ok (.putfield 20, 3) := by decide +kernel
theorem dX0_add_35 : decode cX0_add 35 = .ok (.iload_n 2, 1) := by decide +kernel
theorem dX0_add_36 : decode cX0_add 36 = .ok (.ireturn, 1) := by decide +kernel
def wX0_add_b35 (a0 : Nat) (x1 : Int32) (xn2 : Int32)  (Sn : kp_S) (post : Int32 → kp_S → Prop) : Prop :=
  post xn2 Sn
def wX0_add (a0 : Nat) (x1 : Int32) (S : kp_S) (post : Int32 → kp_S → Prop) : Prop :=
  ∀ y1 : Int32, y1 = (kp_I S 1 a0) →
  ((y1 < 0 →
  wX0_add_b35 a0 x1 y1  S post) ∧ (¬ y1 < 0 →
  ∃ b2 : Nat, kp_R S 0 a0 = some b2 ∧
  (((nI (kp_N S b2)) ≤ y1 →
  wX0_add_b35 a0 x1 y1  S post) ∧ (¬ (nI (kp_N S b2)) ≤ y1 →
  vp_in y1 (kp_N S b2) ∧ ∀ T3 : kp_S, T3 = kp_sA S b2 (upd (kp_A S b2) (y1.toNatClampNeg) x1) →
  ∀ T4 : kp_S, T4 = kp_sI T3 1 a0 ((kp_I T3 1 a0) + 1) →
  wX0_add_b35 a0 x1 y1  T4 post))))
set_option maxHeartbeats 4000000 in
set_option maxRecDepth 100000 in
theorem c_X0_add (l : Launch) (D : va_G) (cy : Nat → ClassId) (ad : (Nat → Nat) × (Nat → Nat)) (S : kp_S) (a0 : Nat) (x1 : Int32) (post : Int32 → kp_S → Prop) (hS : kp_ok S) (f_a0 : kp_is S a0 0) (hw : wX0_add a0 x1 S post) : kp_M l yX0_add cX0_add 3 (some .int) { frames := 0, cells := 0, slots := 0, locals := 0 } D cy ad S [.ref a0, .int x1] 0 0 (fun A => kp_Qi D cy A S post) := by
  refine kp_start (own := RX0) (by decide) rfl (Nat.le_of_ble_eq_true rfl) hS ?_
  intro p e s m below meth c A ls X hr hlocks hname h hl
  have hle : kp_le S S := kp_le.rf
  have hl : lv_has ls 3 [(0, .ref a0), (1, .int x1)] := hl
  have j35 : ∀ (xn2 : Int32) (Sn : kp_S) (H : Heap) (locs : List Loc) (ls : Array Slot), lv_has ls 3 [(2, .int xn2)] → kp_H D cy A Sn s.heap H locs → kp_le S Sn → kp_is Sn a0 0 → wX0_add_b35 a0 x1 xn2  Sn post → W p l e { frames := 0, cells := 0, slots := 0, locals := 0 } s m ([.ref a0, .int x1] : List Value).toArray below meth c H locs 0 0 (MQ below (kp_Qi D cy A S post) ([.ref a0, .int x1] : List Value).toArray s 0 0 A) (F0 m 35 ls []) := by
    intro xn2 Sn H locs ls hl h hle f_a0 hw
    unfold wX0_add_b35 at hw
    refine lv_iload_n X.1 X.2.1 dX0_add_35 rfl (lv_at hl 0 rfl) ?_
    exact kp_reti X hr hlocks h hle rfl hw dX0_add_36
  unfold wX0_add at hw
  have h : kp_H D cy A S s.heap s.heap [] := h
  revert h
  intro h
  refine lv_aload_n X.1 X.2.1 dX0_add_0 rfl (lv_at hl 0 rfl) ?_
  refine kp_get X h f_a0 fp_0_20.l (v := .int (kp_I S 1 a0)) rfl dX0_add_1 ?_
  refine lv_topi (fun y1 e_y1 => ?_)
  have hw := hw y1 e_y1
  refine lv_istore_n (lv' := [(2, .int y1), (0, .ref a0), (1, .int x1)]) X.1 X.2.1 dX0_add_4 rfl hl (by decide) rfl (fun ls hl => ?_)
  refine lv_iload_n X.1 X.2.1 dX0_add_5 rfl (lv_at hl 0 rfl) ?_
  refine lv_if_lt (tgt := 35) X.1 X.2.1 dX0_add_6 (by decide) (fun c6 => ?_) (fun c6 => ?_)
  · have hw := hw.1 c6
    exact j35 y1 S _ _ ls (lv_sub hl [0] rfl) h hle f_a0 hw
  · have hw := hw.2 c6
    refine lv_iload_n X.1 X.2.1 dX0_add_9 rfl (lv_at hl 0 rfl) ?_
    refine lv_aload_n X.1 X.2.1 dX0_add_10 rfl (lv_at hl 1 rfl) ?_
    obtain ⟨b2, e_b2, hw⟩ := hw
    have f_b2 := h.2.2.2.rf (c := 0) (k := 0) f_a0 (by decide) (by decide) e_b2 (t := 14) rfl
    refine kp_get X h f_a0 ff_0_9.l (v := .ref b2) (congrArg va_rf e_b2) dX0_add_11 ?_
    refine kp_alen X h f_b2 (by decide) dX0_add_14 ?_
    refine lv_icmp_ge (tgt := 35) X.1 X.2.1 dX0_add_15 (by decide) (fun c5 => ?_) (fun c5 => ?_)
    · have hw := hw.1 c5
      exact j35 y1 S _ _ ls (lv_sub hl [0] rfl) h hle f_a0 hw
    · have hw := hw.2 c5
      refine lv_aload_n X.1 X.2.1 dX0_add_18 rfl (lv_at hl 1 rfl) ?_
      refine kp_get X h f_a0 ff_0_9.l (v := .ref b2) (congrArg va_rf e_b2) dX0_add_19 ?_
      refine lv_iload_n X.1 X.2.1 dX0_add_22 rfl (lv_at hl 0 rfl) ?_
      refine lv_iload_n X.1 X.2.1 dX0_add_23 rfl (lv_at hl 2 rfl) ?_
      obtain ⟨hi, hw⟩ := hw
      refine kp_iast X h f_b2 hi dX0_add_24 (fun T3 e_T3 l_T3 H locs h => ?_)
      have hw := hw T3 e_T3
      have f_a0 := l_T3.is f_a0
      have f_b2 := l_T3.is f_b2
      have hle := hle.tr l_T3
      have e_b2 : kp_R T3 0 a0 = some b2 := by rw [e_T3]; exact e_b2
      refine lv_aload_n X.1 X.2.1 dX0_add_25 rfl (lv_at hl 1 rfl) ?_
      refine lv_dup X.1 X.2.1 dX0_add_26 rfl ?_
      refine kp_get X h f_a0 fp_0_20.l (v := .int (kp_I T3 1 a0)) rfl dX0_add_27 ?_
      refine lv_iconst (v := 1) X.1 X.2.1 dX0_add_30 (by decide) ?_
      refine lv_iadd X.1 X.2.1 dX0_add_31 ?_
      refine kp_putI X h f_a0 fp_0_20 rfl ⟨rfl, rfl⟩ dX0_add_32 (fun T4 e_T4 l_T4 H locs h => ?_)
      have hw := hw T4 e_T4
      have f_a0 := l_T4.is f_a0
      have f_b2 := l_T4.is f_b2
      have hle := hle.tr l_T4
      have e_b2 : kp_R T4 0 a0 = some b2 := by rw [e_T4]; exact e_b2
      exact j35 y1 T4 _ _ ls (lv_sub hl [0] rfl) h hle f_a0 hw
theorem dX0_add__0 : decode cX0_add_ 0 = .ok (.aload_n 0, 1) := by decide +kernel
theorem dX0_add__1 : decode cX0_add_ 1 = .ok (.iload_n 1, 1) := by decide +kernel
theorem dX0_add__2 : decode cX0_add_ 2 = .ok (.invokevirtual 24, 3) := by decide +kernel
theorem dX0_add__5 : decode cX0_add_ 5 = .ok (.istore_n 3, 1) := by decide +kernel
theorem dX0_add__6 : decode cX0_add_ 6 = .ok (.aload_n 0, 1) := by decide +kernel
theorem dX0_add__7 : decode cX0_add_ 7 = .ok (.iload_n 2, 1) := by decide +kernel
theorem dX0_add__8 : decode cX0_add_ 8 = .ok (.invokevirtual 24, 3) := by decide +kernel
theorem dX0_add__11 : decode cX0_add_ 11 = .ok (.pop, 1) := by decide +kernel
theorem dX0_add__12 : decode cX0_add_ 12 = .ok (.iload_n 3, 1) := by decide +kernel
theorem dX0_add__13 : decode cX0_add_ 13 = .ok (.ireturn, 1) := by decide +kernel
def wX0_add_ (a0 : Nat) (x1 : Int32) (x2 : Int32) (S : kp_S) (post : Int32 → kp_S → Prop) : Prop :=
  wX0_add a0 x1 S (fun y2 T1 =>
  wX0_add a0 x2 T1 (fun y4 T3 =>
  post y2 T3))
set_option maxHeartbeats 4000000 in
set_option maxRecDepth 100000 in
theorem c_X0_add_ (l : Launch) (D : va_G) (cy : Nat → ClassId) (ad : (Nat → Nat) × (Nat → Nat)) (S : kp_S) (a0 : Nat) (x1 : Int32) (x2 : Int32) (post : Int32 → kp_S → Prop) (hS : kp_ok S) (f_a0 : kp_is S a0 0) (hw : wX0_add_ a0 x1 x2 S post) : kp_M l yX0_add_ cX0_add_ 4 (some .int) { frames := 1, cells := 0, slots := 0, locals := 22 } D cy ad S [.ref a0, .int x1, .int x2] 0 0 (fun A => kp_Qi D cy A S post) := by
  refine kp_start (own := RX0) (by decide) rfl (Nat.le_of_ble_eq_true rfl) hS ?_
  intro p e s m below meth c A ls X hr hlocks hname h hl
  have hle : kp_le S S := kp_le.rf
  have hl : lv_has ls 4 [(0, .ref a0), (1, .int x1), (2, .int x2)] := hl
  unfold wX0_add_ at hw
  have h : kp_H D cy A S s.heap s.heap [] := h
  revert h
  intro h
  refine lv_aload_n X.1 X.2.1 dX0_add__0 rfl (lv_at hl 0 rfl) ?_
  refine lv_iload_n X.1 X.2.1 dX0_add__1 rfl (lv_at hl 1 rfl) ?_
  refine kp_calli X h (kp_runV (rm := { frames := 0, cells := 0, slots := 0, locals := 0 }) (mc := 0) (ms := 0) (rest := []) (Qc := fun A => kp_Qi D cy A S _) X h (c_X0_add l D cy ad S a0 x1 _ h.2.2.2 f_a0 hw) f_a0 cv_0_24 ⟨by decide, by decide, rfl, rfl, by decide, by decide⟩ rfl hl.1 rfl (Nat.le_of_ble_eq_true rfl) dX0_add__2) (fun y2 T1 hw l_T1 H locs h => ?_)
  have f_a0 := l_T1.is f_a0
  have hle := hle.tr l_T1
  refine lv_istore_n (lv' := [(3, .int y2), (0, .ref a0), (1, .int x1), (2, .int x2)]) X.1 X.2.1 dX0_add__5 rfl hl (by decide) rfl (fun ls hl => ?_)
  refine lv_aload_n X.1 X.2.1 dX0_add__6 rfl (lv_at hl 1 rfl) ?_
  refine lv_iload_n X.1 X.2.1 dX0_add__7 rfl (lv_at hl 3 rfl) ?_
  refine kp_calli X h (kp_runV (rm := { frames := 0, cells := 0, slots := 0, locals := 0 }) (mc := 0) (ms := 0) (rest := []) (Qc := fun A => kp_Qi D cy A T1 _) X h (c_X0_add l D cy ad T1 a0 x2 _ h.2.2.2 f_a0 hw) f_a0 cv_0_24 ⟨by decide, by decide, rfl, rfl, by decide, by decide⟩ rfl hl.1 rfl (Nat.le_of_ble_eq_true rfl) dX0_add__8) (fun y4 T3 hw l_T3 H locs h => ?_)
  have f_a0 := l_T3.is f_a0
  have hle := hle.tr l_T3
  refine lv_pop X.1 X.2.1 dX0_add__11 rfl ?_
  refine lv_iload_n X.1 X.2.1 dX0_add__12 rfl (lv_at hl 0 rfl) ?_
  exact kp_reti X hr hlocks h hle rfl hw dX0_add__13
theorem dX0_addPart_0 : decode cX0_addPart 0 = .ok (.aload_n 0, 1) := by decide +kernel
theorem dX0_addPart_1 : decode cX0_addPart 1 = .ok (.iload_n 1, 1) := by decide +kernel
theorem dX0_addPart_2 : decode cX0_addPart 2 = .ok (.iload_n 2, 1) := by decide +kernel
theorem dX0_addPart_3 : decode cX0_addPart 3 = .ok (.invokevirtual 28, 3) := by decide +kernel
theorem dX0_addPart_6 : decode cX0_addPart 6 = .ok (.istore_n 3, 1) := by decide +kernel
theorem dX0_addPart_7 : decode cX0_addPart 7 = .ok (.aload_n 0, 1) := by decide +kernel
theorem dX0_addPart_8 : decode cX0_addPart 8 = .ok (.iconst 0, 1) := by decide +kernel
theorem dX0_addPart_9 : decode cX0_addPart 9 = .ok (.invokevirtual 24, 3) := by decide +kernel
theorem dX0_addPart_12 : decode cX0_addPart 12 = .ok (.pop, 1) := by decide +kernel
theorem dX0_addPart_13 : decode cX0_addPart 13 = .ok (.aload_n 0, 1) := by decide +kernel
theorem dX0_addPart_14 : decode cX0_addPart 14 = .ok (.iconst 0, 1) := by decide +kernel
theorem dX0_addPart_15 : decode cX0_addPart 15 = .ok (.invokevirtual 24, 3) := by decide +kernel
theorem dX0_addPart_18 : decode cX0_addPart 18 = .ok (.pop, 1) := by decide +kernel
theorem dX0_addPart_19 : decode cX0_addPart 19 = .ok (.aload_n 0, 1) := by decide +kernel
theorem dX0_addPart_20 : decode cX0_addPart 20 = .ok (.iconst 0, 1) := by decide +kernel
theorem dX0_addPart_21 : decode cX0_addPart 21 = .ok (.invokevirtual 24, 3) := by decide +kernel
theorem dX0_addPart_24 : decode cX0_addPart 24 = .ok (.pop, 1) := by decide +kernel
theorem dX0_addPart_25 : decode cX0_addPart 25 = .ok (.iload_n 3, 1) := by decide +kernel
theorem dX0_addPart_26 : decode cX0_addPart 26 = .ok (.ireturn, 1) := by decide +kernel
def wX0_addPart (a0 : Nat) (x1 : Int32) (x2 : Int32) (S : kp_S) (post : Int32 → kp_S → Prop) : Prop :=
  wX0_add_ a0 x1 x2 S (fun y2 T1 =>
  wX0_add a0 0 T1 (fun y4 T3 =>
  wX0_add a0 0 T3 (fun y6 T5 =>
  wX0_add a0 0 T5 (fun y8 T7 =>
  post y2 T7))))
set_option maxHeartbeats 4000000 in
set_option maxRecDepth 100000 in
theorem c_X0_addPart (l : Launch) (D : va_G) (cy : Nat → ClassId) (ad : (Nat → Nat) × (Nat → Nat)) (S : kp_S) (a0 : Nat) (x1 : Int32) (x2 : Int32) (post : Int32 → kp_S → Prop) (hS : kp_ok S) (f_a0 : kp_is S a0 0) (hw : wX0_addPart a0 x1 x2 S post) : kp_M l yX0_addPart cX0_addPart 4 (some .int) { frames := 2, cells := 0, slots := 0, locals := 45 } D cy ad S [.ref a0, .int x1, .int x2] 0 0 (fun A => kp_Qi D cy A S post) := by
  refine kp_start (own := RX0) (by decide) rfl (Nat.le_of_ble_eq_true rfl) hS ?_
  intro p e s m below meth c A ls X hr hlocks hname h hl
  have hle : kp_le S S := kp_le.rf
  have hl : lv_has ls 4 [(0, .ref a0), (1, .int x1), (2, .int x2)] := hl
  unfold wX0_addPart at hw
  have h : kp_H D cy A S s.heap s.heap [] := h
  revert h
  intro h
  refine lv_aload_n X.1 X.2.1 dX0_addPart_0 rfl (lv_at hl 0 rfl) ?_
  refine lv_iload_n X.1 X.2.1 dX0_addPart_1 rfl (lv_at hl 1 rfl) ?_
  refine lv_iload_n X.1 X.2.1 dX0_addPart_2 rfl (lv_at hl 2 rfl) ?_
  refine kp_calli X h (kp_runV (rm := { frames := 1, cells := 0, slots := 0, locals := 22 }) (mc := 0) (ms := 0) (rest := []) (Qc := fun A => kp_Qi D cy A S _) X h (c_X0_add_ l D cy ad S a0 x1 x2 _ h.2.2.2 f_a0 hw) f_a0 cv_0_28 ⟨by decide, by decide, rfl, rfl, by decide, by decide⟩ rfl hl.1 rfl (Nat.le_of_ble_eq_true rfl) dX0_addPart_3) (fun y2 T1 hw l_T1 H locs h => ?_)
  have f_a0 := l_T1.is f_a0
  have hle := hle.tr l_T1
  refine lv_istore_n (lv' := [(3, .int y2), (0, .ref a0), (1, .int x1), (2, .int x2)]) X.1 X.2.1 dX0_addPart_6 rfl hl (by decide) rfl (fun ls hl => ?_)
  refine lv_aload_n X.1 X.2.1 dX0_addPart_7 rfl (lv_at hl 1 rfl) ?_
  refine lv_iconst (v := 0) X.1 X.2.1 dX0_addPart_8 (by decide) ?_
  refine kp_calli X h (kp_runV (rm := { frames := 0, cells := 0, slots := 0, locals := 0 }) (mc := 0) (ms := 0) (rest := []) (Qc := fun A => kp_Qi D cy A T1 _) X h (c_X0_add l D cy ad T1 a0 0 _ h.2.2.2 f_a0 hw) f_a0 cv_0_24 ⟨by decide, by decide, rfl, rfl, by decide, by decide⟩ rfl hl.1 rfl (Nat.le_of_ble_eq_true rfl) dX0_addPart_9) (fun y4 T3 hw l_T3 H locs h => ?_)
  have f_a0 := l_T3.is f_a0
  have hle := hle.tr l_T3
  refine lv_pop X.1 X.2.1 dX0_addPart_12 rfl ?_
  refine lv_aload_n X.1 X.2.1 dX0_addPart_13 rfl (lv_at hl 1 rfl) ?_
  refine lv_iconst (v := 0) X.1 X.2.1 dX0_addPart_14 (by decide) ?_
  refine kp_calli X h (kp_runV (rm := { frames := 0, cells := 0, slots := 0, locals := 0 }) (mc := 0) (ms := 0) (rest := []) (Qc := fun A => kp_Qi D cy A T3 _) X h (c_X0_add l D cy ad T3 a0 0 _ h.2.2.2 f_a0 hw) f_a0 cv_0_24 ⟨by decide, by decide, rfl, rfl, by decide, by decide⟩ rfl hl.1 rfl (Nat.le_of_ble_eq_true rfl) dX0_addPart_15) (fun y6 T5 hw l_T5 H locs h => ?_)
  have f_a0 := l_T5.is f_a0
  have hle := hle.tr l_T5
  refine lv_pop X.1 X.2.1 dX0_addPart_18 rfl ?_
  refine lv_aload_n X.1 X.2.1 dX0_addPart_19 rfl (lv_at hl 1 rfl) ?_
  refine lv_iconst (v := 0) X.1 X.2.1 dX0_addPart_20 (by decide) ?_
  refine kp_calli X h (kp_runV (rm := { frames := 0, cells := 0, slots := 0, locals := 0 }) (mc := 0) (ms := 0) (rest := []) (Qc := fun A => kp_Qi D cy A T5 _) X h (c_X0_add l D cy ad T5 a0 0 _ h.2.2.2 f_a0 hw) f_a0 cv_0_24 ⟨by decide, by decide, rfl, rfl, by decide, by decide⟩ rfl hl.1 rfl (Nat.le_of_ble_eq_true rfl) dX0_addPart_21) (fun y8 T7 hw l_T7 H locs h => ?_)
  have f_a0 := l_T7.is f_a0
  have hle := hle.tr l_T7
  refine lv_pop X.1 X.2.1 dX0_addPart_24 rfl ?_
  refine lv_iload_n X.1 X.2.1 dX0_addPart_25 rfl (lv_at hl 0 rfl) ?_
  exact kp_reti X hr hlocks h hle rfl hw dX0_addPart_26
theorem dX0_set_0 : decode cX0_set 0 = .ok (.iload_n 1, 1) := by decide +kernel
theorem dX0_set_1 : decode cX0_set 1 = .ok (.ifCond .lt 19, 3) := by decide +kernel
theorem dX0_set_4 : decode cX0_set 4 = .ok (.iload_n 1, 1) := by decide +kernel
theorem dX0_set_5 : decode cX0_set 5 = .ok (.aload_n 0, 1) := by decide +kernel
theorem dX0_set_6 : decode cX0_set 6 = .ok (.getfield 9, 3) := by decide +kernel
theorem dX0_set_9 : decode cX0_set 9 = .ok (.arraylength, 1) := by decide +kernel
theorem dX0_set_10 : decode cX0_set 10 = .ok (.if_icmp .ge 10, 3) := by decide +kernel
theorem dX0_set_13 : decode cX0_set 13 = .ok (.aload_n 0, 1) := by decide +kernel
theorem dX0_set_14 : decode cX0_set 14 = .ok (.getfield 9, 3) := by decide +kernel
theorem dX0_set_17 : decode cX0_set 17 = .ok (.iload_n 1, 1) := by decide +kernel
theorem dX0_set_18 : decode cX0_set 18 = .ok (.iload_n 2, 1) := by decide +kernel
theorem dX0_set_19 : decode cX0_set 19 = .ok (.iastore, 1) := by decide +kernel
theorem dX0_set_20 : decode cX0_set 20 = .ok (.return_, 1) := by decide +kernel
def wX0_set_b20 (a0 : Nat) (x1 : Int32) (x2 : Int32)  (Sn : kp_S) (post : kp_S → Prop) : Prop :=
  post Sn
def wX0_set (a0 : Nat) (x1 : Int32) (x2 : Int32) (S : kp_S) (post : kp_S → Prop) : Prop :=
  ((x1 < 0 →
  wX0_set_b20 a0 x1 x2   S post) ∧ (¬ x1 < 0 →
  ∃ b1 : Nat, kp_R S 0 a0 = some b1 ∧
  (((nI (kp_N S b1)) ≤ x1 →
  wX0_set_b20 a0 x1 x2   S post) ∧ (¬ (nI (kp_N S b1)) ≤ x1 →
  vp_in x1 (kp_N S b1) ∧ ∀ T2 : kp_S, T2 = kp_sA S b1 (upd (kp_A S b1) (x1.toNatClampNeg) x2) →
  wX0_set_b20 a0 x1 x2   T2 post))))
set_option maxHeartbeats 4000000 in
set_option maxRecDepth 100000 in
theorem c_X0_set (l : Launch) (D : va_G) (cy : Nat → ClassId) (ad : (Nat → Nat) × (Nat → Nat)) (S : kp_S) (a0 : Nat) (x1 : Int32) (x2 : Int32) (post : kp_S → Prop) (hS : kp_ok S) (f_a0 : kp_is S a0 0) (hw : wX0_set a0 x1 x2 S post) : kp_M l yX0_set cX0_set 3 none { frames := 0, cells := 0, slots := 0, locals := 0 } D cy ad S [.ref a0, .int x1, .int x2] 0 0 (fun A => kp_Qv D cy A S post) := by
  refine kp_start (own := RX0) (by decide) rfl (Nat.le_of_ble_eq_true rfl) hS ?_
  intro p e s m below meth c A ls X hr hlocks hname h hl
  have hle : kp_le S S := kp_le.rf
  have hl : lv_has ls 3 [(0, .ref a0), (1, .int x1), (2, .int x2)] := hl
  have j20 : ∀  (Sn : kp_S) (H : Heap) (locs : List Loc) (ls : Array Slot), lv_has ls 3 [] → kp_H D cy A Sn s.heap H locs → kp_le S Sn → kp_is Sn a0 0 → wX0_set_b20 a0 x1 x2   Sn post → W p l e { frames := 0, cells := 0, slots := 0, locals := 0 } s m ([.ref a0, .int x1, .int x2] : List Value).toArray below meth c H locs 0 0 (MQ below (kp_Qv D cy A S post) ([.ref a0, .int x1, .int x2] : List Value).toArray s 0 0 A) (F0 m 20 ls []) := by
    intro  Sn H locs ls hl h hle f_a0 hw
    unfold wX0_set_b20 at hw
    exact kp_retv X hr hlocks h hle hw dX0_set_20
  unfold wX0_set at hw
  have h : kp_H D cy A S s.heap s.heap [] := h
  revert h
  intro h
  refine lv_iload_n X.1 X.2.1 dX0_set_0 rfl (lv_at hl 1 rfl) ?_
  refine lv_if_lt (tgt := 20) X.1 X.2.1 dX0_set_1 (by decide) (fun c4 => ?_) (fun c4 => ?_)
  · have hw := hw.1 c4
    exact j20  S _ _ ls (lv_sub hl [] rfl) h hle f_a0 hw
  · have hw := hw.2 c4
    refine lv_iload_n X.1 X.2.1 dX0_set_4 rfl (lv_at hl 1 rfl) ?_
    refine lv_aload_n X.1 X.2.1 dX0_set_5 rfl (lv_at hl 0 rfl) ?_
    obtain ⟨b1, e_b1, hw⟩ := hw
    have f_b1 := h.2.2.2.rf (c := 0) (k := 0) f_a0 (by decide) (by decide) e_b1 (t := 14) rfl
    refine kp_get X h f_a0 ff_0_9.l (v := .ref b1) (congrArg va_rf e_b1) dX0_set_6 ?_
    refine kp_alen X h f_b1 (by decide) dX0_set_9 ?_
    refine lv_icmp_ge (tgt := 20) X.1 X.2.1 dX0_set_10 (by decide) (fun c3 => ?_) (fun c3 => ?_)
    · have hw := hw.1 c3
      exact j20  S _ _ ls (lv_sub hl [] rfl) h hle f_a0 hw
    · have hw := hw.2 c3
      refine lv_aload_n X.1 X.2.1 dX0_set_13 rfl (lv_at hl 0 rfl) ?_
      refine kp_get X h f_a0 ff_0_9.l (v := .ref b1) (congrArg va_rf e_b1) dX0_set_14 ?_
      refine lv_iload_n X.1 X.2.1 dX0_set_17 rfl (lv_at hl 1 rfl) ?_
      refine lv_iload_n X.1 X.2.1 dX0_set_18 rfl (lv_at hl 2 rfl) ?_
      obtain ⟨hi, hw⟩ := hw
      refine kp_iast X h f_b1 hi dX0_set_19 (fun T2 e_T2 l_T2 H locs h => ?_)
      have hw := hw T2 e_T2
      have f_a0 := l_T2.is f_a0
      have f_b1 := l_T2.is f_b1
      have hle := hle.tr l_T2
      have e_b1 : kp_R T2 0 a0 = some b1 := by rw [e_T2]; exact e_b1
      exact j20  T2 _ _ ls (lv_sub hl [] rfl) h hle f_a0 hw
theorem dX0_get_0 : decode cX0_get 0 = .ok (.iload_n 1, 1) := by decide +kernel
theorem dX0_get_1 : decode cX0_get 1 = .ok (.ifCond .lt 29, 3) := by decide +kernel
theorem dX0_get_4 : decode cX0_get 4 = .ok (.iload_n 1, 1) := by decide +kernel
theorem dX0_get_5 : decode cX0_get 5 = .ok (.aload_n 0, 1) := by decide +kernel
theorem dX0_get_6 : decode cX0_get 6 = .ok (.getfield 20, 3) := by decide +kernel
theorem dX0_get_9 : decode cX0_get 9 = .ok (.if_icmp .ge 21, 3) := by decide +kernel
theorem dX0_get_12 : decode cX0_get 12 = .ok (.iload_n 1, 1) := by decide +kernel
theorem dX0_get_13 : decode cX0_get 13 = .ok (.aload_n 0, 1) := by decide +kernel
theorem dX0_get_14 : decode cX0_get 14 = .ok (.getfield 9, 3) := by decide +kernel
theorem dX0_get_17 : decode cX0_get 17 = .ok (.arraylength, 1) := by decide +kernel
theorem dX0_get_18 : decode cX0_get 18 = .ok (.if_icmp .ge 12, 3) := by decide +kernel
theorem dX0_get_21 : decode cX0_get 21 = .ok (.aload_n 0, 1) := by decide +kernel
theorem dX0_get_22 : decode cX0_get 22 = .ok (.getfield 9, 3) := by decide +kernel
theorem dX0_get_25 : decode cX0_get 25 = .ok (.iload_n 1, 1) := by decide +kernel
theorem dX0_get_26 : decode cX0_get 26 = .ok (.iaload, 1) := by decide +kernel
theorem dX0_get_27 : decode cX0_get 27 = .ok (.goto 5, 3) := by decide +kernel
theorem dX0_get_30 : decode cX0_get 30 = .ok (.bipush 44, 2) := by decide +kernel
theorem dX0_get_32 : decode cX0_get 32 = .ok (.ireturn, 1) := by decide +kernel
def wX0_get_b32 (a0 : Nat) (x1 : Int32) (xt0 : Int32)  (Sn : kp_S) (post : Int32 → kp_S → Prop) : Prop :=
  post xt0 Sn
def wX0_get_b30 (a0 : Nat) (x1 : Int32)  (Sn : kp_S) (post : Int32 → kp_S → Prop) : Prop :=
  wX0_get_b32 a0 x1 44  Sn post
def wX0_get (a0 : Nat) (x1 : Int32) (S : kp_S) (post : Int32 → kp_S → Prop) : Prop :=
  ((x1 < 0 →
  wX0_get_b30 a0 x1   S post) ∧ (¬ x1 < 0 →
  (((kp_I S 1 a0) ≤ x1 →
  wX0_get_b30 a0 x1   S post) ∧ (¬ (kp_I S 1 a0) ≤ x1 →
  ∃ b1 : Nat, kp_R S 0 a0 = some b1 ∧
  (((nI (kp_N S b1)) ≤ x1 →
  wX0_get_b30 a0 x1   S post) ∧ (¬ (nI (kp_N S b1)) ≤ x1 →
  vp_in x1 (kp_N S b1) ∧
  wX0_get_b32 a0 x1 (kp_A S b1 x1.toNatClampNeg)  S post))))))
set_option maxHeartbeats 4000000 in
set_option maxRecDepth 100000 in
theorem c_X0_get (l : Launch) (D : va_G) (cy : Nat → ClassId) (ad : (Nat → Nat) × (Nat → Nat)) (S : kp_S) (a0 : Nat) (x1 : Int32) (post : Int32 → kp_S → Prop) (hS : kp_ok S) (f_a0 : kp_is S a0 0) (hw : wX0_get a0 x1 S post) : kp_M l yX0_get cX0_get 2 (some .int) { frames := 0, cells := 0, slots := 0, locals := 0 } D cy ad S [.ref a0, .int x1] 0 0 (fun A => kp_Qi D cy A S post) := by
  refine kp_start (own := RX0) (by decide) rfl (Nat.le_of_ble_eq_true rfl) hS ?_
  intro p e s m below meth c A ls X hr hlocks hname h hl
  have hle : kp_le S S := kp_le.rf
  have hl : lv_has ls 2 [(0, .ref a0), (1, .int x1)] := hl
  have j32 : ∀ (xt0 : Int32) (Sn : kp_S) (H : Heap) (locs : List Loc) (ls : Array Slot), lv_has ls 2 [] → kp_H D cy A Sn s.heap H locs → kp_le S Sn → kp_is Sn a0 0 → wX0_get_b32 a0 x1 xt0  Sn post → W p l e { frames := 0, cells := 0, slots := 0, locals := 0 } s m ([.ref a0, .int x1] : List Value).toArray below meth c H locs 0 0 (MQ below (kp_Qi D cy A S post) ([.ref a0, .int x1] : List Value).toArray s 0 0 A) (F0 m 32 ls [.int xt0]) := by
    intro xt0 Sn H locs ls hl h hle f_a0 hw
    unfold wX0_get_b32 at hw
    exact kp_reti X hr hlocks h hle rfl hw dX0_get_32
  have j30 : ∀  (Sn : kp_S) (H : Heap) (locs : List Loc) (ls : Array Slot), lv_has ls 2 [] → kp_H D cy A Sn s.heap H locs → kp_le S Sn → kp_is Sn a0 0 → wX0_get_b30 a0 x1   Sn post → W p l e { frames := 0, cells := 0, slots := 0, locals := 0 } s m ([.ref a0, .int x1] : List Value).toArray below meth c H locs 0 0 (MQ below (kp_Qi D cy A S post) ([.ref a0, .int x1] : List Value).toArray s 0 0 A) (F0 m 30 ls []) := by
    intro  Sn H locs ls hl h hle f_a0 hw
    unfold wX0_get_b30 at hw
    refine lv_bipush (v := 44) X.1 X.2.1 dX0_get_30 (by decide) ?_
    exact j32 44 Sn H locs ls (lv_sub hl [] rfl) h hle f_a0 hw
  unfold wX0_get at hw
  have h : kp_H D cy A S s.heap s.heap [] := h
  revert h
  intro h
  refine lv_iload_n X.1 X.2.1 dX0_get_0 rfl (lv_at hl 1 rfl) ?_
  refine lv_if_lt (tgt := 30) X.1 X.2.1 dX0_get_1 (by decide) (fun c4 => ?_) (fun c4 => ?_)
  · have hw := hw.1 c4
    exact j30  S _ _ ls (lv_sub hl [] rfl) h hle f_a0 hw
  · have hw := hw.2 c4
    refine lv_iload_n X.1 X.2.1 dX0_get_4 rfl (lv_at hl 1 rfl) ?_
    refine lv_aload_n X.1 X.2.1 dX0_get_5 rfl (lv_at hl 0 rfl) ?_
    refine kp_get X h f_a0 fp_0_20.l (v := .int (kp_I S 1 a0)) rfl dX0_get_6 ?_
    refine lv_icmp_ge (tgt := 30) X.1 X.2.1 dX0_get_9 (by decide) (fun c3 => ?_) (fun c3 => ?_)
    · have hw := hw.1 c3
      exact j30  S _ _ ls (lv_sub hl [] rfl) h hle f_a0 hw
    · have hw := hw.2 c3
      refine lv_iload_n X.1 X.2.1 dX0_get_12 rfl (lv_at hl 1 rfl) ?_
      refine lv_aload_n X.1 X.2.1 dX0_get_13 rfl (lv_at hl 0 rfl) ?_
      obtain ⟨b1, e_b1, hw⟩ := hw
      have f_b1 := h.2.2.2.rf (c := 0) (k := 0) f_a0 (by decide) (by decide) e_b1 (t := 14) rfl
      refine kp_get X h f_a0 ff_0_9.l (v := .ref b1) (congrArg va_rf e_b1) dX0_get_14 ?_
      refine kp_alen X h f_b1 (by decide) dX0_get_17 ?_
      refine lv_icmp_ge (tgt := 30) X.1 X.2.1 dX0_get_18 (by decide) (fun c2 => ?_) (fun c2 => ?_)
      · have hw := hw.1 c2
        exact j30  S _ _ ls (lv_sub hl [] rfl) h hle f_a0 hw
      · have hw := hw.2 c2
        refine lv_aload_n X.1 X.2.1 dX0_get_21 rfl (lv_at hl 0 rfl) ?_
        refine kp_get X h f_a0 ff_0_9.l (v := .ref b1) (congrArg va_rf e_b1) dX0_get_22 ?_
        refine lv_iload_n X.1 X.2.1 dX0_get_25 rfl (lv_at hl 1 rfl) ?_
        obtain ⟨hi, hw⟩ := hw
        refine kp_iald X h f_b1 hi dX0_get_26 ?_
        refine lv_goto (tgt := 32) X.1 X.2.1 dX0_get_27 (by decide) ?_
        exact j32 (kp_A S b1 x1.toNatClampNeg) S _ _ ls (lv_sub hl [] rfl) h hle f_a0 hw
theorem dX0_setFact_0 : decode cX0_setFact 0 = .ok (.iconst 5, 1) := by decide +kernel
theorem dX0_setFact_1 : decode cX0_setFact 1 = .ok (.iload_n 1, 1) := by decide +kernel
theorem dX0_setFact_2 : decode cX0_setFact 2 = .ok (.imul, 1) := by decide +kernel
theorem dX0_setFact_3 : decode cX0_setFact 3 = .ok (.iload_n 2, 1) := by decide +kernel
theorem dX0_setFact_4 : decode cX0_setFact 4 = .ok (.iadd, 1) := by decide +kernel
theorem dX0_setFact_5 : decode cX0_setFact 5 = .ok (.istore 4, 2) := by decide +kernel
theorem dX0_setFact_7 : decode cX0_setFact 7 = .ok (.iload_n 1, 1) := by decide +kernel
theorem dX0_setFact_8 : decode cX0_setFact 8 = .ok (.ifCond .lt 27, 3) := by decide +kernel
theorem dX0_setFact_11 : decode cX0_setFact 11 = .ok (.iload_n 1, 1) := by decide +kernel
theorem dX0_setFact_12 : decode cX0_setFact 12 = .ok (.bipush 30, 2) := by decide +kernel
theorem dX0_setFact_14 : decode cX0_setFact 14 = .ok (.if_icmp .ge 21, 3) := by decide +kernel
theorem dX0_setFact_17 : decode cX0_setFact 17 = .ok (.iload 4, 2) := by decide +kernel
theorem dX0_setFact_19 : decode cX0_setFact 19 = .ok (.aload_n 0, 1) := by decide +kernel
theorem dX0_setFact_20 : decode cX0_setFact 20 = .ok (.getfield 17, 3) := by decide +kernel
theorem dX0_setFact_23 : decode cX0_setFact 23 = .ok (.arraylength, 1) := by decide +kernel
theorem dX0_setFact_24 : decode cX0_setFact 24 = .ok (.if_icmp .ge 11, 3) := by decide +kernel
theorem dX0_setFact_27 : decode cX0_setFact 27 = .ok (.aload_n 0, 1) := by decide +kernel
theorem dX0_setFact_28 : decode cX0_setFact 28 = .ok (.getfield 17, 3) := by decide +kernel
theorem dX0_setFact_31 : decode cX0_setFact 31 = .ok (.iload 4, 2) := by decide +kernel
theorem dX0_setFact_33 : decode cX0_setFact 33 = .ok (.iload_n 3, 1) := by decide +kernel
theorem dX0_setFact_34 : decode cX0_setFact 34 = .ok (.iastore, 1) := by decide +kernel
theorem dX0_setFact_35 : decode cX0_setFact 35 = .ok (.return_, 1) := by decide +kernel
def wX0_setFact_b35 (a0 : Nat) (x1 : Int32) (x2 : Int32) (x3 : Int32)  (Sn : kp_S) (post : kp_S → Prop) : Prop :=
  post Sn
def wX0_setFact (a0 : Nat) (x1 : Int32) (x2 : Int32) (x3 : Int32) (S : kp_S) (post : kp_S → Prop) : Prop :=
  ∀ y1 : Int32, y1 = ((5 * x1) + x2) →
  ((x1 < 0 →
  wX0_setFact_b35 a0 x1 x2 x3   S post) ∧ (¬ x1 < 0 →
  ((30 ≤ x1 →
  wX0_setFact_b35 a0 x1 x2 x3   S post) ∧ (¬ 30 ≤ x1 →
  ∃ b2 : Nat, kp_R S 2 a0 = some b2 ∧
  (((nI (kp_N S b2)) ≤ y1 →
  wX0_setFact_b35 a0 x1 x2 x3   S post) ∧ (¬ (nI (kp_N S b2)) ≤ y1 →
  vp_in y1 (kp_N S b2) ∧ ∀ T3 : kp_S, T3 = kp_sA S b2 (upd (kp_A S b2) (y1.toNatClampNeg) x3) →
  wX0_setFact_b35 a0 x1 x2 x3   T3 post))))))
set_option maxHeartbeats 4000000 in
set_option maxRecDepth 100000 in
theorem c_X0_setFact (l : Launch) (D : va_G) (cy : Nat → ClassId) (ad : (Nat → Nat) × (Nat → Nat)) (S : kp_S) (a0 : Nat) (x1 : Int32) (x2 : Int32) (x3 : Int32) (post : kp_S → Prop) (hS : kp_ok S) (f_a0 : kp_is S a0 0) (hw : wX0_setFact a0 x1 x2 x3 S post) : kp_M l yX0_setFact cX0_setFact 5 none { frames := 0, cells := 0, slots := 0, locals := 0 } D cy ad S [.ref a0, .int x1, .int x2, .int x3] 0 0 (fun A => kp_Qv D cy A S post) := by
  refine kp_start (own := RX0) (by decide) rfl (Nat.le_of_ble_eq_true rfl) hS ?_
  intro p e s m below meth c A ls X hr hlocks hname h hl
  have hle : kp_le S S := kp_le.rf
  have hl : lv_has ls 5 [(0, .ref a0), (1, .int x1), (2, .int x2), (3, .int x3)] := hl
  have j35 : ∀  (Sn : kp_S) (H : Heap) (locs : List Loc) (ls : Array Slot), lv_has ls 5 [] → kp_H D cy A Sn s.heap H locs → kp_le S Sn → kp_is Sn a0 0 → wX0_setFact_b35 a0 x1 x2 x3   Sn post → W p l e { frames := 0, cells := 0, slots := 0, locals := 0 } s m ([.ref a0, .int x1, .int x2, .int x3] : List Value).toArray below meth c H locs 0 0 (MQ below (kp_Qv D cy A S post) ([.ref a0, .int x1, .int x2, .int x3] : List Value).toArray s 0 0 A) (F0 m 35 ls []) := by
    intro  Sn H locs ls hl h hle f_a0 hw
    unfold wX0_setFact_b35 at hw
    exact kp_retv X hr hlocks h hle hw dX0_setFact_35
  unfold wX0_setFact at hw
  have h : kp_H D cy A S s.heap s.heap [] := h
  revert h
  intro h
  refine lv_iconst (v := 5) X.1 X.2.1 dX0_setFact_0 (by decide) ?_
  refine lv_iload_n X.1 X.2.1 dX0_setFact_1 rfl (lv_at hl 1 rfl) ?_
  refine lv_imul X.1 X.2.1 dX0_setFact_2 ?_
  refine lv_iload_n X.1 X.2.1 dX0_setFact_3 rfl (lv_at hl 2 rfl) ?_
  refine lv_iadd X.1 X.2.1 dX0_setFact_4 ?_
  refine lv_topi (fun y1 e_y1 => ?_)
  have hw := hw y1 e_y1
  refine lv_istore (lv' := [(4, .int y1), (0, .ref a0), (1, .int x1), (2, .int x2), (3, .int x3)]) X.1 X.2.1 dX0_setFact_5 hl (by decide) rfl (fun ls hl => ?_)
  refine lv_iload_n X.1 X.2.1 dX0_setFact_7 rfl (lv_at hl 2 rfl) ?_
  refine lv_if_lt (tgt := 35) X.1 X.2.1 dX0_setFact_8 (by decide) (fun c6 => ?_) (fun c6 => ?_)
  · have hw := hw.1 c6
    exact j35  S _ _ ls (lv_sub hl [] rfl) h hle f_a0 hw
  · have hw := hw.2 c6
    refine lv_iload_n X.1 X.2.1 dX0_setFact_11 rfl (lv_at hl 2 rfl) ?_
    refine lv_bipush (v := 30) X.1 X.2.1 dX0_setFact_12 (by decide) ?_
    refine lv_icmp_ge (tgt := 35) X.1 X.2.1 dX0_setFact_14 (by decide) (fun c5 => ?_) (fun c5 => ?_)
    · have hw := hw.1 c5
      exact j35  S _ _ ls (lv_sub hl [] rfl) h hle f_a0 hw
    · have hw := hw.2 c5
      refine lv_iload X.1 X.2.1 dX0_setFact_17 (lv_at hl 0 rfl) ?_
      refine lv_aload_n X.1 X.2.1 dX0_setFact_19 rfl (lv_at hl 1 rfl) ?_
      obtain ⟨b2, e_b2, hw⟩ := hw
      have f_b2 := h.2.2.2.rf (c := 0) (k := 2) f_a0 (by decide) (by decide) e_b2 (t := 14) rfl
      refine kp_get X h f_a0 ff_0_17.l (v := .ref b2) (congrArg va_rf e_b2) dX0_setFact_20 ?_
      refine kp_alen X h f_b2 (by decide) dX0_setFact_23 ?_
      refine lv_icmp_ge (tgt := 35) X.1 X.2.1 dX0_setFact_24 (by decide) (fun c4 => ?_) (fun c4 => ?_)
      · have hw := hw.1 c4
        exact j35  S _ _ ls (lv_sub hl [] rfl) h hle f_a0 hw
      · have hw := hw.2 c4
        refine lv_aload_n X.1 X.2.1 dX0_setFact_27 rfl (lv_at hl 1 rfl) ?_
        refine kp_get X h f_a0 ff_0_17.l (v := .ref b2) (congrArg va_rf e_b2) dX0_setFact_28 ?_
        refine lv_iload X.1 X.2.1 dX0_setFact_31 (lv_at hl 0 rfl) ?_
        refine lv_iload_n X.1 X.2.1 dX0_setFact_33 rfl (lv_at hl 4 rfl) ?_
        obtain ⟨hi, hw⟩ := hw
        refine kp_iast X h f_b2 hi dX0_setFact_34 (fun T3 e_T3 l_T3 H locs h => ?_)
        have hw := hw T3 e_T3
        have f_a0 := l_T3.is f_a0
        have f_b2 := l_T3.is f_b2
        have hle := hle.tr l_T3
        have e_b2 : kp_R T3 2 a0 = some b2 := by rw [e_T3]; exact e_b2
        exact j35  T3 _ _ ls (lv_sub hl [] rfl) h hle f_a0 hw
theorem dX0_fact_0 : decode cX0_fact 0 = .ok (.iconst 5, 1) := by decide +kernel
theorem dX0_fact_1 : decode cX0_fact 1 = .ok (.iload_n 1, 1) := by decide +kernel
theorem dX0_fact_2 : decode cX0_fact 2 = .ok (.imul, 1) := by decide +kernel
theorem dX0_fact_3 : decode cX0_fact 3 = .ok (.iload_n 2, 1) := by decide +kernel
theorem dX0_fact_4 : decode cX0_fact 4 = .ok (.iadd, 1) := by decide +kernel
theorem dX0_fact_5 : decode cX0_fact 5 = .ok (.istore_n 3, 1) := by decide +kernel
theorem dX0_fact_6 : decode cX0_fact 6 = .ok (.iload_n 1, 1) := by decide +kernel
theorem dX0_fact_7 : decode cX0_fact 7 = .ok (.ifCond .lt 33, 3) := by decide +kernel
theorem dX0_fact_10 : decode cX0_fact 10 = .ok (.iload_n 1, 1) := by decide +kernel
theorem dX0_fact_11 : decode cX0_fact 11 = .ok (.aload_n 0, 1) := by decide +kernel
theorem dX0_fact_12 : decode cX0_fact 12 = .ok (.getfield 31, 3) := by decide +kernel
theorem dX0_fact_15 : decode cX0_fact 15 = .ok (.if_icmp .ge 25, 3) := by decide +kernel
theorem dX0_fact_18 : decode cX0_fact 18 = .ok (.iload_n 3, 1) := by decide +kernel
theorem dX0_fact_19 : decode cX0_fact 19 = .ok (.ifCond .lt 21, 3) := by decide +kernel
theorem dX0_fact_22 : decode cX0_fact 22 = .ok (.iload_n 3, 1) := by decide +kernel
theorem dX0_fact_23 : decode cX0_fact 23 = .ok (.aload_n 0, 1) := by decide +kernel
theorem dX0_fact_24 : decode cX0_fact 24 = .ok (.getfield 17, 3) := by decide +kernel
theorem dX0_fact_27 : decode cX0_fact 27 = .ok (.arraylength, 1) := by decide +kernel
theorem dX0_fact_28 : decode cX0_fact 28 = .ok (.if_icmp .ge 12, 3) := by decide +kernel
theorem dX0_fact_31 : decode cX0_fact 31 = .ok (.aload_n 0, 1) := by decide +kernel
theorem dX0_fact_32 : decode cX0_fact 32 = .ok (.getfield 17, 3) := by decide +kernel
theorem dX0_fact_35 : decode cX0_fact 35 = .ok (.iload_n 3, 1) := by decide +kernel
theorem dX0_fact_36 : decode cX0_fact 36 = .ok (.iaload, 1) := by decide +kernel
theorem dX0_fact_37 : decode cX0_fact 37 = .ok (.goto 4, 3) := by decide +kernel
theorem dX0_fact_40 : decode cX0_fact 40 = .ok (.iconst (-1), 1) := by decide +kernel
theorem dX0_fact_41 : decode cX0_fact 41 = .ok (.ireturn, 1) := by decide +kernel
def wX0_fact_b41 (a0 : Nat) (x1 : Int32) (x2 : Int32) (xt0 : Int32)  (Sn : kp_S) (post : Int32 → kp_S → Prop) : Prop :=
  post xt0 Sn
def wX0_fact_b40 (a0 : Nat) (x1 : Int32) (x2 : Int32)  (Sn : kp_S) (post : Int32 → kp_S → Prop) : Prop :=
  wX0_fact_b41 a0 x1 x2 (-1)  Sn post
def wX0_fact (a0 : Nat) (x1 : Int32) (x2 : Int32) (S : kp_S) (post : Int32 → kp_S → Prop) : Prop :=
  ∀ y1 : Int32, y1 = ((5 * x1) + x2) →
  ((x1 < 0 →
  wX0_fact_b40 a0 x1 x2   S post) ∧ (¬ x1 < 0 →
  (((kp_I S 3 a0) ≤ x1 →
  wX0_fact_b40 a0 x1 x2   S post) ∧ (¬ (kp_I S 3 a0) ≤ x1 →
  ((y1 < 0 →
  wX0_fact_b40 a0 x1 x2   S post) ∧ (¬ y1 < 0 →
  ∃ b2 : Nat, kp_R S 2 a0 = some b2 ∧
  (((nI (kp_N S b2)) ≤ y1 →
  wX0_fact_b40 a0 x1 x2   S post) ∧ (¬ (nI (kp_N S b2)) ≤ y1 →
  vp_in y1 (kp_N S b2) ∧
  wX0_fact_b41 a0 x1 x2 (kp_A S b2 y1.toNatClampNeg)  S post))))))))
set_option maxHeartbeats 4000000 in
set_option maxRecDepth 100000 in
theorem c_X0_fact (l : Launch) (D : va_G) (cy : Nat → ClassId) (ad : (Nat → Nat) × (Nat → Nat)) (S : kp_S) (a0 : Nat) (x1 : Int32) (x2 : Int32) (post : Int32 → kp_S → Prop) (hS : kp_ok S) (f_a0 : kp_is S a0 0) (hw : wX0_fact a0 x1 x2 S post) : kp_M l yX0_fact cX0_fact 4 (some .int) { frames := 0, cells := 0, slots := 0, locals := 0 } D cy ad S [.ref a0, .int x1, .int x2] 0 0 (fun A => kp_Qi D cy A S post) := by
  refine kp_start (own := RX0) (by decide) rfl (Nat.le_of_ble_eq_true rfl) hS ?_
  intro p e s m below meth c A ls X hr hlocks hname h hl
  have hle : kp_le S S := kp_le.rf
  have hl : lv_has ls 4 [(0, .ref a0), (1, .int x1), (2, .int x2)] := hl
  have j41 : ∀ (xt0 : Int32) (Sn : kp_S) (H : Heap) (locs : List Loc) (ls : Array Slot), lv_has ls 4 [] → kp_H D cy A Sn s.heap H locs → kp_le S Sn → kp_is Sn a0 0 → wX0_fact_b41 a0 x1 x2 xt0  Sn post → W p l e { frames := 0, cells := 0, slots := 0, locals := 0 } s m ([.ref a0, .int x1, .int x2] : List Value).toArray below meth c H locs 0 0 (MQ below (kp_Qi D cy A S post) ([.ref a0, .int x1, .int x2] : List Value).toArray s 0 0 A) (F0 m 41 ls [.int xt0]) := by
    intro xt0 Sn H locs ls hl h hle f_a0 hw
    unfold wX0_fact_b41 at hw
    exact kp_reti X hr hlocks h hle rfl hw dX0_fact_41
  have j40 : ∀  (Sn : kp_S) (H : Heap) (locs : List Loc) (ls : Array Slot), lv_has ls 4 [] → kp_H D cy A Sn s.heap H locs → kp_le S Sn → kp_is Sn a0 0 → wX0_fact_b40 a0 x1 x2   Sn post → W p l e { frames := 0, cells := 0, slots := 0, locals := 0 } s m ([.ref a0, .int x1, .int x2] : List Value).toArray below meth c H locs 0 0 (MQ below (kp_Qi D cy A S post) ([.ref a0, .int x1, .int x2] : List Value).toArray s 0 0 A) (F0 m 40 ls []) := by
    intro  Sn H locs ls hl h hle f_a0 hw
    unfold wX0_fact_b40 at hw
    refine lv_iconst (v := (-1)) X.1 X.2.1 dX0_fact_40 (by decide) ?_
    exact j41 (-1) Sn H locs ls (lv_sub hl [] rfl) h hle f_a0 hw
  unfold wX0_fact at hw
  have h : kp_H D cy A S s.heap s.heap [] := h
  revert h
  intro h
  refine lv_iconst (v := 5) X.1 X.2.1 dX0_fact_0 (by decide) ?_
  refine lv_iload_n X.1 X.2.1 dX0_fact_1 rfl (lv_at hl 1 rfl) ?_
  refine lv_imul X.1 X.2.1 dX0_fact_2 ?_
  refine lv_iload_n X.1 X.2.1 dX0_fact_3 rfl (lv_at hl 2 rfl) ?_
  refine lv_iadd X.1 X.2.1 dX0_fact_4 ?_
  refine lv_topi (fun y1 e_y1 => ?_)
  have hw := hw y1 e_y1
  refine lv_istore_n (lv' := [(3, .int y1), (0, .ref a0), (1, .int x1), (2, .int x2)]) X.1 X.2.1 dX0_fact_5 rfl hl (by decide) rfl (fun ls hl => ?_)
  refine lv_iload_n X.1 X.2.1 dX0_fact_6 rfl (lv_at hl 2 rfl) ?_
  refine lv_if_lt (tgt := 40) X.1 X.2.1 dX0_fact_7 (by decide) (fun c6 => ?_) (fun c6 => ?_)
  · have hw := hw.1 c6
    exact j40  S _ _ ls (lv_sub hl [] rfl) h hle f_a0 hw
  · have hw := hw.2 c6
    refine lv_iload_n X.1 X.2.1 dX0_fact_10 rfl (lv_at hl 2 rfl) ?_
    refine lv_aload_n X.1 X.2.1 dX0_fact_11 rfl (lv_at hl 1 rfl) ?_
    refine kp_get X h f_a0 fp_0_31.l (v := .int (kp_I S 3 a0)) rfl dX0_fact_12 ?_
    refine lv_icmp_ge (tgt := 40) X.1 X.2.1 dX0_fact_15 (by decide) (fun c5 => ?_) (fun c5 => ?_)
    · have hw := hw.1 c5
      exact j40  S _ _ ls (lv_sub hl [] rfl) h hle f_a0 hw
    · have hw := hw.2 c5
      refine lv_iload_n X.1 X.2.1 dX0_fact_18 rfl (lv_at hl 0 rfl) ?_
      refine lv_if_lt (tgt := 40) X.1 X.2.1 dX0_fact_19 (by decide) (fun c4 => ?_) (fun c4 => ?_)
      · have hw := hw.1 c4
        exact j40  S _ _ ls (lv_sub hl [] rfl) h hle f_a0 hw
      · have hw := hw.2 c4
        refine lv_iload_n X.1 X.2.1 dX0_fact_22 rfl (lv_at hl 0 rfl) ?_
        refine lv_aload_n X.1 X.2.1 dX0_fact_23 rfl (lv_at hl 1 rfl) ?_
        obtain ⟨b2, e_b2, hw⟩ := hw
        have f_b2 := h.2.2.2.rf (c := 0) (k := 2) f_a0 (by decide) (by decide) e_b2 (t := 14) rfl
        refine kp_get X h f_a0 ff_0_17.l (v := .ref b2) (congrArg va_rf e_b2) dX0_fact_24 ?_
        refine kp_alen X h f_b2 (by decide) dX0_fact_27 ?_
        refine lv_icmp_ge (tgt := 40) X.1 X.2.1 dX0_fact_28 (by decide) (fun c3 => ?_) (fun c3 => ?_)
        · have hw := hw.1 c3
          exact j40  S _ _ ls (lv_sub hl [] rfl) h hle f_a0 hw
        · have hw := hw.2 c3
          refine lv_aload_n X.1 X.2.1 dX0_fact_31 rfl (lv_at hl 1 rfl) ?_
          refine kp_get X h f_a0 ff_0_17.l (v := .ref b2) (congrArg va_rf e_b2) dX0_fact_32 ?_
          refine lv_iload_n X.1 X.2.1 dX0_fact_35 rfl (lv_at hl 0 rfl) ?_
          obtain ⟨hi, hw⟩ := hw
          refine kp_iald X h f_b2 hi dX0_fact_36 ?_
          refine lv_goto (tgt := 41) X.1 X.2.1 dX0_fact_37 (by decide) ?_
          exact j41 (kp_A S b2 y1.toNatClampNeg) S _ _ ls (lv_sub hl [] rfl) h hle f_a0 hw
theorem dX0_dutyFact_0 : decode cX0_dutyFact 0 = .ok (.iload_n 2, 1) := by decide +kernel
theorem dX0_dutyFact_1 : decode cX0_dutyFact 1 = .ok (.ifCond .lt 17, 3) := by decide +kernel
theorem dX0_dutyFact_4 : decode cX0_dutyFact 4 = .ok (.iload_n 2, 1) := by decide +kernel
theorem dX0_dutyFact_5 : decode cX0_dutyFact 5 = .ok (.iconst 3, 1) := by decide +kernel
theorem dX0_dutyFact_6 : decode cX0_dutyFact 6 = .ok (.if_icmp .gt 12, 3) := by decide +kernel
theorem dX0_dutyFact_9 : decode cX0_dutyFact 9 = .ok (.aload_n 0, 1) := by decide +kernel
theorem dX0_dutyFact_10 : decode cX0_dutyFact 10 = .ok (.iload_n 1, 1) := by decide +kernel
theorem dX0_dutyFact_11 : decode cX0_dutyFact 11 = .ok (.iload_n 2, 1) := by decide +kernel
theorem dX0_dutyFact_12 : decode cX0_dutyFact 12 = .ok (.invokevirtual 38, 3) := by decide +kernel
theorem dX0_dutyFact_15 : decode cX0_dutyFact 15 = .ok (.goto 4, 3) := by decide +kernel
theorem dX0_dutyFact_18 : decode cX0_dutyFact 18 = .ok (.iconst (-1), 1) := by decide +kernel
theorem dX0_dutyFact_19 : decode cX0_dutyFact 19 = .ok (.ireturn, 1) := by decide +kernel
def wX0_dutyFact_b19 (a0 : Nat) (x1 : Int32) (x2 : Int32) (xt0 : Int32)  (Sn : kp_S) (post : Int32 → kp_S → Prop) : Prop :=
  post xt0 Sn
def wX0_dutyFact_b18 (a0 : Nat) (x1 : Int32) (x2 : Int32)  (Sn : kp_S) (post : Int32 → kp_S → Prop) : Prop :=
  wX0_dutyFact_b19 a0 x1 x2 (-1)  Sn post
def wX0_dutyFact (a0 : Nat) (x1 : Int32) (x2 : Int32) (S : kp_S) (post : Int32 → kp_S → Prop) : Prop :=
  ((x2 < 0 →
  wX0_dutyFact_b18 a0 x1 x2   S post) ∧ (¬ x2 < 0 →
  ((3 < x2 →
  wX0_dutyFact_b18 a0 x1 x2   S post) ∧ (¬ 3 < x2 →
  wX0_fact a0 x1 x2 S (fun y2 T1 =>
  wX0_dutyFact_b19 a0 x1 x2 y2  T1 post)))))
set_option maxHeartbeats 4000000 in
set_option maxRecDepth 100000 in
theorem c_X0_dutyFact (l : Launch) (D : va_G) (cy : Nat → ClassId) (ad : (Nat → Nat) × (Nat → Nat)) (S : kp_S) (a0 : Nat) (x1 : Int32) (x2 : Int32) (post : Int32 → kp_S → Prop) (hS : kp_ok S) (f_a0 : kp_is S a0 0) (hw : wX0_dutyFact a0 x1 x2 S post) : kp_M l yX0_dutyFact cX0_dutyFact 3 (some .int) { frames := 1, cells := 0, slots := 0, locals := 23 } D cy ad S [.ref a0, .int x1, .int x2] 0 0 (fun A => kp_Qi D cy A S post) := by
  refine kp_start (own := RX0) (by decide) rfl (Nat.le_of_ble_eq_true rfl) hS ?_
  intro p e s m below meth c A ls X hr hlocks hname h hl
  have hle : kp_le S S := kp_le.rf
  have hl : lv_has ls 3 [(0, .ref a0), (1, .int x1), (2, .int x2)] := hl
  have j19 : ∀ (xt0 : Int32) (Sn : kp_S) (H : Heap) (locs : List Loc) (ls : Array Slot), lv_has ls 3 [] → kp_H D cy A Sn s.heap H locs → kp_le S Sn → kp_is Sn a0 0 → wX0_dutyFact_b19 a0 x1 x2 xt0  Sn post → W p l e { frames := 1, cells := 0, slots := 0, locals := 23 } s m ([.ref a0, .int x1, .int x2] : List Value).toArray below meth c H locs 0 0 (MQ below (kp_Qi D cy A S post) ([.ref a0, .int x1, .int x2] : List Value).toArray s 0 0 A) (F0 m 19 ls [.int xt0]) := by
    intro xt0 Sn H locs ls hl h hle f_a0 hw
    unfold wX0_dutyFact_b19 at hw
    exact kp_reti X hr hlocks h hle rfl hw dX0_dutyFact_19
  have j18 : ∀  (Sn : kp_S) (H : Heap) (locs : List Loc) (ls : Array Slot), lv_has ls 3 [] → kp_H D cy A Sn s.heap H locs → kp_le S Sn → kp_is Sn a0 0 → wX0_dutyFact_b18 a0 x1 x2   Sn post → W p l e { frames := 1, cells := 0, slots := 0, locals := 23 } s m ([.ref a0, .int x1, .int x2] : List Value).toArray below meth c H locs 0 0 (MQ below (kp_Qi D cy A S post) ([.ref a0, .int x1, .int x2] : List Value).toArray s 0 0 A) (F0 m 18 ls []) := by
    intro  Sn H locs ls hl h hle f_a0 hw
    unfold wX0_dutyFact_b18 at hw
    refine lv_iconst (v := (-1)) X.1 X.2.1 dX0_dutyFact_18 (by decide) ?_
    exact j19 (-1) Sn H locs ls (lv_sub hl [] rfl) h hle f_a0 hw
  unfold wX0_dutyFact at hw
  have h : kp_H D cy A S s.heap s.heap [] := h
  revert h
  intro h
  refine lv_iload_n X.1 X.2.1 dX0_dutyFact_0 rfl (lv_at hl 2 rfl) ?_
  refine lv_if_lt (tgt := 18) X.1 X.2.1 dX0_dutyFact_1 (by decide) (fun c4 => ?_) (fun c4 => ?_)
  · have hw := hw.1 c4
    exact j18  S _ _ ls (lv_sub hl [] rfl) h hle f_a0 hw
  · have hw := hw.2 c4
    refine lv_iload_n X.1 X.2.1 dX0_dutyFact_4 rfl (lv_at hl 2 rfl) ?_
    refine lv_iconst (v := 3) X.1 X.2.1 dX0_dutyFact_5 (by decide) ?_
    refine lv_icmp_gt (tgt := 18) X.1 X.2.1 dX0_dutyFact_6 (by decide) (fun c3 => ?_) (fun c3 => ?_)
    · have hw := hw.1 c3
      exact j18  S _ _ ls (lv_sub hl [] rfl) h hle f_a0 hw
    · have hw := hw.2 c3
      refine lv_aload_n X.1 X.2.1 dX0_dutyFact_9 rfl (lv_at hl 0 rfl) ?_
      refine lv_iload_n X.1 X.2.1 dX0_dutyFact_10 rfl (lv_at hl 1 rfl) ?_
      refine lv_iload_n X.1 X.2.1 dX0_dutyFact_11 rfl (lv_at hl 2 rfl) ?_
      refine kp_calli X h (kp_runV (rm := { frames := 0, cells := 0, slots := 0, locals := 0 }) (mc := 0) (ms := 0) (rest := []) (Qc := fun A => kp_Qi D cy A S _) X h (c_X0_fact l D cy ad S a0 x1 x2 _ h.2.2.2 f_a0 hw) f_a0 cv_0_38 ⟨by decide, by decide, rfl, rfl, by decide, by decide⟩ rfl hl.1 rfl (Nat.le_of_ble_eq_true rfl) dX0_dutyFact_12) (fun y2 T1 hw l_T1 H locs h => ?_)
      have f_a0 := l_T1.is f_a0
      have hle := hle.tr l_T1
      refine lv_goto (tgt := 19) X.1 X.2.1 dX0_dutyFact_15 (by decide) ?_
      exact j19 y2 T1 _ _ ls (lv_sub hl [] rfl) h hle f_a0 hw
theorem dX0_parameters_0 : decode cX0_parameters 0 = .ok (.aload_n 0, 1) := by decide +kernel
theorem dX0_parameters_1 : decode cX0_parameters 1 = .ok (.iload_n 1, 1) := by decide +kernel
theorem dX0_parameters_2 : decode cX0_parameters 2 = .ok (.iconst 0, 1) := by decide +kernel
theorem dX0_parameters_3 : decode cX0_parameters 3 = .ok (.invokevirtual 38, 3) := by decide +kernel
theorem dX0_parameters_6 : decode cX0_parameters 6 = .ok (.ireturn, 1) := by decide +kernel
def wX0_parameters (a0 : Nat) (x1 : Int32) (S : kp_S) (post : Int32 → kp_S → Prop) : Prop :=
  wX0_fact a0 x1 0 S (fun y2 T1 =>
  post y2 T1)
set_option maxHeartbeats 4000000 in
set_option maxRecDepth 100000 in
theorem c_X0_parameters (l : Launch) (D : va_G) (cy : Nat → ClassId) (ad : (Nat → Nat) × (Nat → Nat)) (S : kp_S) (a0 : Nat) (x1 : Int32) (post : Int32 → kp_S → Prop) (hS : kp_ok S) (f_a0 : kp_is S a0 0) (hw : wX0_parameters a0 x1 S post) : kp_M l yX0_parameters cX0_parameters 2 (some .int) { frames := 1, cells := 0, slots := 0, locals := 23 } D cy ad S [.ref a0, .int x1] 0 0 (fun A => kp_Qi D cy A S post) := by
  refine kp_start (own := RX0) (by decide) rfl (Nat.le_of_ble_eq_true rfl) hS ?_
  intro p e s m below meth c A ls X hr hlocks hname h hl
  have hle : kp_le S S := kp_le.rf
  have hl : lv_has ls 2 [(0, .ref a0), (1, .int x1)] := hl
  unfold wX0_parameters at hw
  have h : kp_H D cy A S s.heap s.heap [] := h
  revert h
  intro h
  refine lv_aload_n X.1 X.2.1 dX0_parameters_0 rfl (lv_at hl 0 rfl) ?_
  refine lv_iload_n X.1 X.2.1 dX0_parameters_1 rfl (lv_at hl 1 rfl) ?_
  refine lv_iconst (v := 0) X.1 X.2.1 dX0_parameters_2 (by decide) ?_
  refine kp_calli X h (kp_runV (rm := { frames := 0, cells := 0, slots := 0, locals := 0 }) (mc := 0) (ms := 0) (rest := []) (Qc := fun A => kp_Qi D cy A S _) X h (c_X0_fact l D cy ad S a0 x1 0 _ h.2.2.2 f_a0 hw) f_a0 cv_0_38 ⟨by decide, by decide, rfl, rfl, by decide, by decide⟩ rfl hl.1 rfl (Nat.le_of_ble_eq_true rfl) dX0_parameters_3) (fun y2 T1 hw l_T1 H locs h => ?_)
  have f_a0 := l_T1.is f_a0
  have hle := hle.tr l_T1
  exact kp_reti X hr hlocks h hle rfl hw dX0_parameters_6
theorem dX0_entry_0 : decode cX0_entry 0 = .ok (.aload_n 0, 1) := by decide +kernel
theorem dX0_entry_1 : decode cX0_entry 1 = .ok (.iload_n 1, 1) := by decide +kernel
theorem dX0_entry_2 : decode cX0_entry 2 = .ok (.iconst 4, 1) := by decide +kernel
theorem dX0_entry_3 : decode cX0_entry 3 = .ok (.invokevirtual 38, 3) := by decide +kernel
theorem dX0_entry_6 : decode cX0_entry 6 = .ok (.ireturn, 1) := by decide +kernel
def wX0_entry (a0 : Nat) (x1 : Int32) (S : kp_S) (post : Int32 → kp_S → Prop) : Prop :=
  wX0_fact a0 x1 4 S (fun y2 T1 =>
  post y2 T1)
set_option maxHeartbeats 4000000 in
set_option maxRecDepth 100000 in
theorem c_X0_entry (l : Launch) (D : va_G) (cy : Nat → ClassId) (ad : (Nat → Nat) × (Nat → Nat)) (S : kp_S) (a0 : Nat) (x1 : Int32) (post : Int32 → kp_S → Prop) (hS : kp_ok S) (f_a0 : kp_is S a0 0) (hw : wX0_entry a0 x1 S post) : kp_M l yX0_entry cX0_entry 2 (some .int) { frames := 1, cells := 0, slots := 0, locals := 23 } D cy ad S [.ref a0, .int x1] 0 0 (fun A => kp_Qi D cy A S post) := by
  refine kp_start (own := RX0) (by decide) rfl (Nat.le_of_ble_eq_true rfl) hS ?_
  intro p e s m below meth c A ls X hr hlocks hname h hl
  have hle : kp_le S S := kp_le.rf
  have hl : lv_has ls 2 [(0, .ref a0), (1, .int x1)] := hl
  unfold wX0_entry at hw
  have h : kp_H D cy A S s.heap s.heap [] := h
  revert h
  intro h
  refine lv_aload_n X.1 X.2.1 dX0_entry_0 rfl (lv_at hl 0 rfl) ?_
  refine lv_iload_n X.1 X.2.1 dX0_entry_1 rfl (lv_at hl 1 rfl) ?_
  refine lv_iconst (v := 4) X.1 X.2.1 dX0_entry_2 (by decide) ?_
  refine kp_calli X h (kp_runV (rm := { frames := 0, cells := 0, slots := 0, locals := 0 }) (mc := 0) (ms := 0) (rest := []) (Qc := fun A => kp_Qi D cy A S _) X h (c_X0_fact l D cy ad S a0 x1 4 _ h.2.2.2 f_a0 hw) f_a0 cv_0_38 ⟨by decide, by decide, rfl, rfl, by decide, by decide⟩ rfl hl.1 rfl (Nat.le_of_ble_eq_true rfl) dX0_entry_3) (fun y2 T1 hw l_T1 H locs h => ?_)
  have f_a0 := l_T1.is f_a0
  have hle := hle.tr l_T1
  exact kp_reti X hr hlocks h hle rfl hw dX0_entry_6
theorem dX0_addDuty_0 : decode cX0_addDuty 0 = .ok (.aload_n 0, 1) := by decide +kernel
theorem dX0_addDuty_1 : decode cX0_addDuty 1 = .ok (.iload_n 1, 1) := by decide +kernel
theorem dX0_addDuty_2 : decode cX0_addDuty 2 = .ok (.iconst 1, 1) := by decide +kernel
theorem dX0_addDuty_3 : decode cX0_addDuty 3 = .ok (.iadd, 1) := by decide +kernel
theorem dX0_addDuty_4 : decode cX0_addDuty 4 = .ok (.putfield 31, 3) := by decide +kernel
theorem dX0_addDuty_7 : decode cX0_addDuty 7 = .ok (.aload_n 0, 1) := by decide +kernel
theorem dX0_addDuty_8 : decode cX0_addDuty 8 = .ok (.iload_n 1, 1) := by decide +kernel
theorem dX0_addDuty_9 : decode cX0_addDuty 9 = .ok (.iconst 2, 1) := by decide +kernel
theorem dX0_addDuty_10 : decode cX0_addDuty 10 = .ok (.iload_n 2, 1) := by decide +kernel
theorem dX0_addDuty_11 : decode cX0_addDuty 11 = .ok (.invokevirtual 34, 3) := by decide +kernel
theorem dX0_addDuty_14 : decode cX0_addDuty 14 = .ok (.aload_n 0, 1) := by decide +kernel
theorem dX0_addDuty_15 : decode cX0_addDuty 15 = .ok (.iload_n 1, 1) := by decide +kernel
theorem dX0_addDuty_16 : decode cX0_addDuty 16 = .ok (.iconst 4, 1) := by decide +kernel
theorem dX0_addDuty_17 : decode cX0_addDuty 17 = .ok (.aload_n 0, 1) := by decide +kernel
theorem dX0_addDuty_18 : decode cX0_addDuty 18 = .ok (.getfield 20, 3) := by decide +kernel
theorem dX0_addDuty_21 : decode cX0_addDuty 21 = .ok (.invokevirtual 34, 3) := by decide +kernel
theorem dX0_addDuty_24 : decode cX0_addDuty 24 = .ok (.return_, 1) := by decide +kernel
def wX0_addDuty (a0 : Nat) (x1 : Int32) (x2 : Int32) (S : kp_S) (post : kp_S → Prop) : Prop :=
  ∀ T1 : kp_S, T1 = kp_sI S 3 a0 (x1 + 1) →
  wX0_setFact a0 x1 2 x2 T1 (fun T2 =>
  wX0_setFact a0 x1 4 (kp_I T2 1 a0) T2 (fun T3 =>
  post T3))
set_option maxHeartbeats 4000000 in
set_option maxRecDepth 100000 in
theorem c_X0_addDuty (l : Launch) (D : va_G) (cy : Nat → ClassId) (ad : (Nat → Nat) × (Nat → Nat)) (S : kp_S) (a0 : Nat) (x1 : Int32) (x2 : Int32) (post : kp_S → Prop) (hS : kp_ok S) (f_a0 : kp_is S a0 0) (hw : wX0_addDuty a0 x1 x2 S post) : kp_M l yX0_addDuty cX0_addDuty 3 none { frames := 1, cells := 0, slots := 0, locals := 24 } D cy ad S [.ref a0, .int x1, .int x2] 0 0 (fun A => kp_Qv D cy A S post) := by
  refine kp_start (own := RX0) (by decide) rfl (Nat.le_of_ble_eq_true rfl) hS ?_
  intro p e s m below meth c A ls X hr hlocks hname h hl
  have hle : kp_le S S := kp_le.rf
  have hl : lv_has ls 3 [(0, .ref a0), (1, .int x1), (2, .int x2)] := hl
  unfold wX0_addDuty at hw
  have h : kp_H D cy A S s.heap s.heap [] := h
  revert h
  intro h
  refine lv_aload_n X.1 X.2.1 dX0_addDuty_0 rfl (lv_at hl 0 rfl) ?_
  refine lv_iload_n X.1 X.2.1 dX0_addDuty_1 rfl (lv_at hl 1 rfl) ?_
  refine lv_iconst (v := 1) X.1 X.2.1 dX0_addDuty_2 (by decide) ?_
  refine lv_iadd X.1 X.2.1 dX0_addDuty_3 ?_
  refine kp_putI X h f_a0 fp_0_31 rfl ⟨rfl, rfl⟩ dX0_addDuty_4 (fun T1 e_T1 l_T1 H locs h => ?_)
  have hw := hw T1 e_T1
  have f_a0 := l_T1.is f_a0
  have hle := hle.tr l_T1
  refine lv_aload_n X.1 X.2.1 dX0_addDuty_7 rfl (lv_at hl 0 rfl) ?_
  refine lv_iload_n X.1 X.2.1 dX0_addDuty_8 rfl (lv_at hl 1 rfl) ?_
  refine lv_iconst (v := 2) X.1 X.2.1 dX0_addDuty_9 (by decide) ?_
  refine lv_iload_n X.1 X.2.1 dX0_addDuty_10 rfl (lv_at hl 2 rfl) ?_
  refine kp_callv X h (kp_runV (rm := { frames := 0, cells := 0, slots := 0, locals := 0 }) (mc := 0) (ms := 0) (rest := []) (Qc := fun A => kp_Qv D cy A T1 _) X h (c_X0_setFact l D cy ad T1 a0 x1 2 x2 _ h.2.2.2 f_a0 hw) f_a0 cv_0_34 ⟨by decide, by decide, rfl, rfl, by decide, by decide⟩ rfl hl.1 rfl (Nat.le_of_ble_eq_true rfl) dX0_addDuty_11) (fun T2 hw l_T2 H locs h => ?_)
  have f_a0 := l_T2.is f_a0
  have hle := hle.tr l_T2
  refine lv_aload_n X.1 X.2.1 dX0_addDuty_14 rfl (lv_at hl 0 rfl) ?_
  refine lv_iload_n X.1 X.2.1 dX0_addDuty_15 rfl (lv_at hl 1 rfl) ?_
  refine lv_iconst (v := 4) X.1 X.2.1 dX0_addDuty_16 (by decide) ?_
  refine lv_aload_n X.1 X.2.1 dX0_addDuty_17 rfl (lv_at hl 0 rfl) ?_
  refine kp_get X h f_a0 fp_0_20.l (v := .int (kp_I T2 1 a0)) rfl dX0_addDuty_18 ?_
  refine kp_callv X h (kp_runV (rm := { frames := 0, cells := 0, slots := 0, locals := 0 }) (mc := 0) (ms := 0) (rest := []) (Qc := fun A => kp_Qv D cy A T2 _) X h (c_X0_setFact l D cy ad T2 a0 x1 4 (kp_I T2 1 a0) _ h.2.2.2 f_a0 hw) f_a0 cv_0_34 ⟨by decide, by decide, rfl, rfl, by decide, by decide⟩ rfl hl.1 rfl (Nat.le_of_ble_eq_true rfl) dX0_addDuty_21) (fun T3 hw l_T3 H locs h => ?_)
  have f_a0 := l_T3.is f_a0
  have hle := hle.tr l_T3
  exact kp_retv X hr hlocks h hle hw dX0_addDuty_24
theorem dX0_setCounts_0 : decode cX0_setCounts 0 = .ok (.aload_n 0, 1) := by decide +kernel
theorem dX0_setCounts_1 : decode cX0_setCounts 1 = .ok (.iload_n 1, 1) := by decide +kernel
theorem dX0_setCounts_2 : decode cX0_setCounts 2 = .ok (.iconst 0, 1) := by decide +kernel
theorem dX0_setCounts_3 : decode cX0_setCounts 3 = .ok (.iload_n 2, 1) := by decide +kernel
theorem dX0_setCounts_4 : decode cX0_setCounts 4 = .ok (.invokevirtual 34, 3) := by decide +kernel
theorem dX0_setCounts_7 : decode cX0_setCounts 7 = .ok (.aload_n 0, 1) := by decide +kernel
theorem dX0_setCounts_8 : decode cX0_setCounts 8 = .ok (.iload_n 1, 1) := by decide +kernel
theorem dX0_setCounts_9 : decode cX0_setCounts 9 = .ok (.iconst 1, 1) := by decide +kernel
theorem dX0_setCounts_10 : decode cX0_setCounts 10 = .ok (.iload_n 3, 1) := by decide +kernel
theorem dX0_setCounts_11 : decode cX0_setCounts 11 = .ok (.invokevirtual 34, 3) := by decide +kernel
theorem dX0_setCounts_14 : decode cX0_setCounts 14 = .ok (.return_, 1) := by decide +kernel
def wX0_setCounts (a0 : Nat) (x1 : Int32) (x2 : Int32) (x3 : Int32) (S : kp_S) (post : kp_S → Prop) : Prop :=
  wX0_setFact a0 x1 0 x2 S (fun T1 =>
  wX0_setFact a0 x1 1 x3 T1 (fun T2 =>
  post T2))
set_option maxHeartbeats 4000000 in
set_option maxRecDepth 100000 in
theorem c_X0_setCounts (l : Launch) (D : va_G) (cy : Nat → ClassId) (ad : (Nat → Nat) × (Nat → Nat)) (S : kp_S) (a0 : Nat) (x1 : Int32) (x2 : Int32) (x3 : Int32) (post : kp_S → Prop) (hS : kp_ok S) (f_a0 : kp_is S a0 0) (hw : wX0_setCounts a0 x1 x2 x3 S post) : kp_M l yX0_setCounts cX0_setCounts 4 none { frames := 1, cells := 0, slots := 0, locals := 24 } D cy ad S [.ref a0, .int x1, .int x2, .int x3] 0 0 (fun A => kp_Qv D cy A S post) := by
  refine kp_start (own := RX0) (by decide) rfl (Nat.le_of_ble_eq_true rfl) hS ?_
  intro p e s m below meth c A ls X hr hlocks hname h hl
  have hle : kp_le S S := kp_le.rf
  have hl : lv_has ls 4 [(0, .ref a0), (1, .int x1), (2, .int x2), (3, .int x3)] := hl
  unfold wX0_setCounts at hw
  have h : kp_H D cy A S s.heap s.heap [] := h
  revert h
  intro h
  refine lv_aload_n X.1 X.2.1 dX0_setCounts_0 rfl (lv_at hl 0 rfl) ?_
  refine lv_iload_n X.1 X.2.1 dX0_setCounts_1 rfl (lv_at hl 1 rfl) ?_
  refine lv_iconst (v := 0) X.1 X.2.1 dX0_setCounts_2 (by decide) ?_
  refine lv_iload_n X.1 X.2.1 dX0_setCounts_3 rfl (lv_at hl 2 rfl) ?_
  refine kp_callv X h (kp_runV (rm := { frames := 0, cells := 0, slots := 0, locals := 0 }) (mc := 0) (ms := 0) (rest := []) (Qc := fun A => kp_Qv D cy A S _) X h (c_X0_setFact l D cy ad S a0 x1 0 x2 _ h.2.2.2 f_a0 hw) f_a0 cv_0_34 ⟨by decide, by decide, rfl, rfl, by decide, by decide⟩ rfl hl.1 rfl (Nat.le_of_ble_eq_true rfl) dX0_setCounts_4) (fun T1 hw l_T1 H locs h => ?_)
  have f_a0 := l_T1.is f_a0
  have hle := hle.tr l_T1
  refine lv_aload_n X.1 X.2.1 dX0_setCounts_7 rfl (lv_at hl 0 rfl) ?_
  refine lv_iload_n X.1 X.2.1 dX0_setCounts_8 rfl (lv_at hl 1 rfl) ?_
  refine lv_iconst (v := 1) X.1 X.2.1 dX0_setCounts_9 (by decide) ?_
  refine lv_iload_n X.1 X.2.1 dX0_setCounts_10 rfl (lv_at hl 3 rfl) ?_
  refine kp_callv X h (kp_runV (rm := { frames := 0, cells := 0, slots := 0, locals := 0 }) (mc := 0) (ms := 0) (rest := []) (Qc := fun A => kp_Qv D cy A T1 _) X h (c_X0_setFact l D cy ad T1 a0 x1 1 x3 _ h.2.2.2 f_a0 hw) f_a0 cv_0_34 ⟨by decide, by decide, rfl, rfl, by decide, by decide⟩ rfl hl.1 rfl (Nat.le_of_ble_eq_true rfl) dX0_setCounts_11) (fun T2 hw l_T2 H locs h => ?_)
  have f_a0 := l_T2.is f_a0
  have hle := hle.tr l_T2
  exact kp_retv X hr hlocks h hle hw dX0_setCounts_14
theorem dX0_setWays_0 : decode cX0_setWays 0 = .ok (.aload_n 0, 1) := by decide +kernel
theorem dX0_setWays_1 : decode cX0_setWays 1 = .ok (.iload_n 1, 1) := by decide +kernel
theorem dX0_setWays_2 : decode cX0_setWays 2 = .ok (.iconst 3, 1) := by decide +kernel
theorem dX0_setWays_3 : decode cX0_setWays 3 = .ok (.iload_n 2, 1) := by decide +kernel
theorem dX0_setWays_4 : decode cX0_setWays 4 = .ok (.invokevirtual 34, 3) := by decide +kernel
theorem dX0_setWays_7 : decode cX0_setWays 7 = .ok (.return_, 1) := by decide +kernel
def wX0_setWays (a0 : Nat) (x1 : Int32) (x2 : Int32) (S : kp_S) (post : kp_S → Prop) : Prop :=
  wX0_setFact a0 x1 3 x2 S (fun T1 =>
  post T1)
set_option maxHeartbeats 4000000 in
set_option maxRecDepth 100000 in
theorem c_X0_setWays (l : Launch) (D : va_G) (cy : Nat → ClassId) (ad : (Nat → Nat) × (Nat → Nat)) (S : kp_S) (a0 : Nat) (x1 : Int32) (x2 : Int32) (post : kp_S → Prop) (hS : kp_ok S) (f_a0 : kp_is S a0 0) (hw : wX0_setWays a0 x1 x2 S post) : kp_M l yX0_setWays cX0_setWays 3 none { frames := 1, cells := 0, slots := 0, locals := 24 } D cy ad S [.ref a0, .int x1, .int x2] 0 0 (fun A => kp_Qv D cy A S post) := by
  refine kp_start (own := RX0) (by decide) rfl (Nat.le_of_ble_eq_true rfl) hS ?_
  intro p e s m below meth c A ls X hr hlocks hname h hl
  have hle : kp_le S S := kp_le.rf
  have hl : lv_has ls 3 [(0, .ref a0), (1, .int x1), (2, .int x2)] := hl
  unfold wX0_setWays at hw
  have h : kp_H D cy A S s.heap s.heap [] := h
  revert h
  intro h
  refine lv_aload_n X.1 X.2.1 dX0_setWays_0 rfl (lv_at hl 0 rfl) ?_
  refine lv_iload_n X.1 X.2.1 dX0_setWays_1 rfl (lv_at hl 1 rfl) ?_
  refine lv_iconst (v := 3) X.1 X.2.1 dX0_setWays_2 (by decide) ?_
  refine lv_iload_n X.1 X.2.1 dX0_setWays_3 rfl (lv_at hl 2 rfl) ?_
  refine kp_callv X h (kp_runV (rm := { frames := 0, cells := 0, slots := 0, locals := 0 }) (mc := 0) (ms := 0) (rest := []) (Qc := fun A => kp_Qv D cy A S _) X h (c_X0_setFact l D cy ad S a0 x1 3 x2 _ h.2.2.2 f_a0 hw) f_a0 cv_0_34 ⟨by decide, by decide, rfl, rfl, by decide, by decide⟩ rfl hl.1 rfl (Nat.le_of_ble_eq_true rfl) dX0_setWays_4) (fun T1 hw l_T1 H locs h => ?_)
  have f_a0 := l_T1.is f_a0
  have hle := hle.tr l_T1
  exact kp_retv X hr hlocks h hle hw dX0_setWays_7
theorem dX0_setChain_0 : decode cX0_setChain 0 = .ok (.iload_n 1, 1) := by decide +kernel
theorem dX0_setChain_1 : decode cX0_setChain 1 = .ok (.istore_n 3, 1) := by decide +kernel
theorem dX0_setChain_2 : decode cX0_setChain 2 = .ok (.iconst 0, 1) := by decide +kernel
theorem dX0_setChain_3 : decode cX0_setChain 3 = .ok (.istore 4, 2) := by decide +kernel
theorem dX0_setChain_5 : decode cX0_setChain 5 = .ok (.iload 4, 2) := by decide +kernel
theorem dX0_setChain_7 : decode cX0_setChain 7 = .ok (.aload_n 0, 1) := by decide +kernel
theorem dX0_setChain_8 : decode cX0_setChain 8 = .ok (.getfield 9, 3) := by decide +kernel
theorem dX0_setChain_11 : decode cX0_setChain 11 = .ok (.arraylength, 1) := by decide +kernel
theorem dX0_setChain_12 : decode cX0_setChain 12 = .ok (.if_icmp .ge 40, 3) := by decide +kernel
theorem dX0_setChain_15 : decode cX0_setChain 15 = .ok (.iload_n 3, 1) := by decide +kernel
theorem dX0_setChain_16 : decode cX0_setChain 16 = .ok (.ifCond .le 36, 3) := by decide +kernel
theorem dX0_setChain_19 : decode cX0_setChain 19 = .ok (.iload_n 3, 1) := by decide +kernel
theorem dX0_setChain_20 : decode cX0_setChain 20 = .ok (.aload_n 0, 1) := by decide +kernel
theorem dX0_setChain_21 : decode cX0_setChain 21 = .ok (.getfield 9, 3) := by decide +kernel
theorem dX0_setChain_24 : decode cX0_setChain 24 = .ok (.arraylength, 1) := by decide +kernel
theorem dX0_setChain_25 : decode cX0_setChain 25 = .ok (.if_icmp .ge 27, 3) := by decide +kernel
theorem dX0_setChain_28 : decode cX0_setChain 28 = .ok (.aload_n 0, 1) := by decide +kernel
theorem dX0_setChain_29 : decode cX0_setChain 29 = .ok (.getfield 9, 3) := by decide +kernel
theorem dX0_setChain_32 : decode cX0_setChain 32 = .ok (.iload_n 3, 1) := by decide +kernel
theorem dX0_setChain_33 : decode cX0_setChain 33 = .ok (.iaload, 1) := by decide +kernel
theorem dX0_setChain_34 : decode cX0_setChain 34 = .ok (.istore 5, 2) := by decide +kernel
theorem dX0_setChain_36 : decode cX0_setChain 36 = .ok (.aload_n 0, 1) := by decide +kernel
theorem dX0_setChain_37 : decode cX0_setChain 37 = .ok (.getfield 9, 3) := by decide +kernel
theorem dX0_setChain_40 : decode cX0_setChain 40 = .ok (.iload_n 3, 1) := by decide +kernel
theorem dX0_setChain_41 : decode cX0_setChain 41 = .ok (.iload_n 2, 1) := by decide +kernel
theorem dX0_setChain_42 : decode cX0_setChain 42 = .ok (.iastore, 1) := by decide +kernel
theorem dX0_setChain_43 : decode cX0_setChain 43 = .ok (.iload 5, 2) := by decide +kernel
theorem dX0_setChain_45 : decode cX0_setChain 45 = .ok (.istore_n 3, 1) := by decide +kernel
theorem dX0_setChain_46 : decode cX0_setChain 46 = .ok (.iinc 4 1, 3) := by decide +kernel
theorem dX0_setChain_49 : decode cX0_setChain 49 = .ok (.goto (-44), 3) := by decide +kernel
theorem dX0_setChain_52 : decode cX0_setChain 52 = .ok (.return_, 1) := by decide +kernel
def wX0_setChain_b52 (a0 : Nat) (x1 : Int32) (x2 : Int32)  (Sn : kp_S) (post : kp_S → Prop) : Prop :=
  post Sn
def wX0_setChain_L5 (a0 : Nat) (x1 : Int32) (x2 : Int32)  (post : kp_S → Prop) : Nat → Int32 → Int32 → kp_S → Prop
  | 0, _, _, _ => False
  | n + 1, xn3, xn4, Sn =>
  ∃ b2001 : Nat, kp_R Sn 0 a0 = some b2001 ∧
  (((nI (kp_N Sn b2001)) ≤ xn4 →
  wX0_setChain_b52 a0 x1 x2   Sn post) ∧ (¬ (nI (kp_N Sn b2001)) ≤ xn4 →
  ((xn3 ≤ 0 →
  wX0_setChain_b52 a0 x1 x2   Sn post) ∧ (¬ xn3 ≤ 0 →
  (((nI (kp_N Sn b2001)) ≤ xn3 →
  wX0_setChain_b52 a0 x1 x2   Sn post) ∧ (¬ (nI (kp_N Sn b2001)) ≤ xn3 →
  vp_in xn3 (kp_N Sn b2001) ∧
  ∀ y2002 : Int32, y2002 = (kp_A Sn b2001 xn3.toNatClampNeg) →
  vp_in xn3 (kp_N Sn b2001) ∧ ∀ T2003 : kp_S, T2003 = kp_sA Sn b2001 (upd (kp_A Sn b2001) (xn3.toNatClampNeg) x2) →
  ∀ y2004 : Int32, y2004 = xn4 + 1 →
  wX0_setChain_L5 a0 x1 x2  post n y2002 y2004 T2003))))))
def wX0_setChain (a0 : Nat) (x1 : Int32) (x2 : Int32) (S : kp_S) (post : kp_S → Prop) : Prop :=
  ∃ n0 : Nat, wX0_setChain_L5 a0 x1 x2  post n0 x1 0 S
set_option maxHeartbeats 4000000 in
set_option maxRecDepth 100000 in
theorem c_X0_setChain (l : Launch) (D : va_G) (cy : Nat → ClassId) (ad : (Nat → Nat) × (Nat → Nat)) (S : kp_S) (a0 : Nat) (x1 : Int32) (x2 : Int32) (post : kp_S → Prop) (hS : kp_ok S) (f_a0 : kp_is S a0 0) (hw : wX0_setChain a0 x1 x2 S post) : kp_M l yX0_setChain cX0_setChain 6 none { frames := 0, cells := 0, slots := 0, locals := 0 } D cy ad S [.ref a0, .int x1, .int x2] 0 0 (fun A => kp_Qv D cy A S post) := by
  refine kp_start (own := RX0) (by decide) rfl (Nat.le_of_ble_eq_true rfl) hS ?_
  intro p e s m below meth c A ls X hr hlocks hname h hl
  have hle : kp_le S S := kp_le.rf
  have hl : lv_has ls 6 [(0, .ref a0), (1, .int x1), (2, .int x2)] := hl
  have j52 : ∀  (Sn : kp_S) (H : Heap) (locs : List Loc) (ls : Array Slot), lv_has ls 6 [] → kp_H D cy A Sn s.heap H locs → kp_le S Sn → kp_is Sn a0 0 → wX0_setChain_b52 a0 x1 x2   Sn post → W p l e { frames := 0, cells := 0, slots := 0, locals := 0 } s m ([.ref a0, .int x1, .int x2] : List Value).toArray below meth c H locs 0 0 (MQ below (kp_Qv D cy A S post) ([.ref a0, .int x1, .int x2] : List Value).toArray s 0 0 A) (F0 m 52 ls []) := by
    intro  Sn H locs ls hl h hle f_a0 hw
    unfold wX0_setChain_b52 at hw
    exact kp_retv X hr hlocks h hle hw dX0_setChain_52
  have L5 : ∀ n5 : Nat, ∀ (xn3 : Int32) (xn4 : Int32) (Sn : kp_S) (H : Heap) (locs : List Loc) (ls : Array Slot), lv_has ls 6 [(0, .ref a0), (2, .int x2), (3, .int xn3), (4, .int xn4)] → kp_H D cy A Sn s.heap H locs → kp_le S Sn → kp_is Sn a0 0 → wX0_setChain_L5 a0 x1 x2  post n5 xn3 xn4 Sn → W p l e { frames := 0, cells := 0, slots := 0, locals := 0 } s m ([.ref a0, .int x1, .int x2] : List Value).toArray below meth c H locs 0 0 (MQ below (kp_Qv D cy A S post) ([.ref a0, .int x1, .int x2] : List Value).toArray s 0 0 A) (F0 m 5 ls []) := by
    intro n5
    induction n5 with
    | zero => intro xn3 xn4 Sn H locs ls hl h hle f_a0 hw; exact hw.elim
    | succ n5 ih5 =>
      intro xn3 xn4 Sn H locs ls hl h hle f_a0 hw
      unfold wX0_setChain_L5 at hw
      refine lv_iload X.1 X.2.1 dX0_setChain_5 (lv_at hl 3 rfl) ?_
      refine lv_aload_n X.1 X.2.1 dX0_setChain_7 rfl (lv_at hl 0 rfl) ?_
      obtain ⟨b2001, e_b2001, hw⟩ := hw
      have f_b2001 := h.2.2.2.rf (c := 0) (k := 0) f_a0 (by decide) (by decide) e_b2001 (t := 14) rfl
      refine kp_get X h f_a0 ff_0_9.l (v := .ref b2001) (congrArg va_rf e_b2001) dX0_setChain_8 ?_
      refine kp_alen X h f_b2001 (by decide) dX0_setChain_11 ?_
      refine lv_icmp_ge (tgt := 52) X.1 X.2.1 dX0_setChain_12 (by decide) (fun c2007 => ?_) (fun c2007 => ?_)
      · have hw := hw.1 c2007
        exact j52  Sn H locs ls (lv_sub hl [] rfl) h hle f_a0 hw
      · have hw := hw.2 c2007
        refine lv_iload_n X.1 X.2.1 dX0_setChain_15 rfl (lv_at hl 2 rfl) ?_
        refine lv_if_le (tgt := 52) X.1 X.2.1 dX0_setChain_16 (by decide) (fun c2006 => ?_) (fun c2006 => ?_)
        · have hw := hw.1 c2006
          exact j52  Sn H locs ls (lv_sub hl [] rfl) h hle f_a0 hw
        · have hw := hw.2 c2006
          refine lv_iload_n X.1 X.2.1 dX0_setChain_19 rfl (lv_at hl 2 rfl) ?_
          refine lv_aload_n X.1 X.2.1 dX0_setChain_20 rfl (lv_at hl 0 rfl) ?_
          refine kp_get X h f_a0 ff_0_9.l (v := .ref b2001) (congrArg va_rf e_b2001) dX0_setChain_21 ?_
          refine kp_alen X h f_b2001 (by decide) dX0_setChain_24 ?_
          refine lv_icmp_ge (tgt := 52) X.1 X.2.1 dX0_setChain_25 (by decide) (fun c2005 => ?_) (fun c2005 => ?_)
          · have hw := hw.1 c2005
            exact j52  Sn H locs ls (lv_sub hl [] rfl) h hle f_a0 hw
          · have hw := hw.2 c2005
            refine lv_aload_n X.1 X.2.1 dX0_setChain_28 rfl (lv_at hl 0 rfl) ?_
            refine kp_get X h f_a0 ff_0_9.l (v := .ref b2001) (congrArg va_rf e_b2001) dX0_setChain_29 ?_
            refine lv_iload_n X.1 X.2.1 dX0_setChain_32 rfl (lv_at hl 2 rfl) ?_
            obtain ⟨hi, hw⟩ := hw
            refine kp_iald X h f_b2001 hi dX0_setChain_33 ?_
            refine lv_topi (fun y2002 e_y2002 => ?_)
            have hw := hw y2002 e_y2002
            refine lv_istore (lv' := [(5, .int y2002), (0, .ref a0), (2, .int x2), (3, .int xn3), (4, .int xn4)]) X.1 X.2.1 dX0_setChain_34 hl (by decide) rfl (fun ls hl => ?_)
            refine lv_aload_n X.1 X.2.1 dX0_setChain_36 rfl (lv_at hl 1 rfl) ?_
            refine kp_get X h f_a0 ff_0_9.l (v := .ref b2001) (congrArg va_rf e_b2001) dX0_setChain_37 ?_
            refine lv_iload_n X.1 X.2.1 dX0_setChain_40 rfl (lv_at hl 3 rfl) ?_
            refine lv_iload_n X.1 X.2.1 dX0_setChain_41 rfl (lv_at hl 2 rfl) ?_
            obtain ⟨hi, hw⟩ := hw
            refine kp_iast X h f_b2001 hi dX0_setChain_42 (fun T2003 e_T2003 l_T2003 H locs h => ?_)
            have hw := hw T2003 e_T2003
            have f_a0 := l_T2003.is f_a0
            have f_b2001 := l_T2003.is f_b2001
            have hle := hle.tr l_T2003
            have e_b2001 : kp_R T2003 0 a0 = some b2001 := by rw [e_T2003]; exact e_b2001
            refine lv_iload X.1 X.2.1 dX0_setChain_43 (lv_at hl 0 rfl) ?_
            refine lv_istore_n (lv' := [(3, .int y2002), (5, .int y2002), (0, .ref a0), (2, .int x2), (4, .int xn4)]) X.1 X.2.1 dX0_setChain_45 rfl hl (by decide) rfl (fun ls hl => ?_)
            obtain ⟨y2004, e_y2004⟩ : ∃ y : Int32, y = xn4 + 1 := ⟨_, rfl⟩
            have hw := hw y2004 e_y2004
            refine lv_iinc (v := y2004) (lv' := [(4, .int y2004), (3, .int y2002), (5, .int y2002), (0, .ref a0), (2, .int x2)]) X.1 X.2.1 dX0_setChain_46 hl (k := 4) rfl (by rw [e_y2004]; rfl) (by decide) rfl (fun ls hl => ?_)
            refine lv_goto (tgt := 5) X.1 X.2.1 dX0_setChain_49 (by decide) ?_
            exact ih5 y2002 y2004 T2003 H locs ls (lv_sub hl [3, 4, 1, 0] rfl) h hle f_a0 hw
  unfold wX0_setChain at hw
  have h : kp_H D cy A S s.heap s.heap [] := h
  revert h
  intro h
  refine lv_iload_n X.1 X.2.1 dX0_setChain_0 rfl (lv_at hl 1 rfl) ?_
  refine lv_istore_n (lv' := [(3, .int x1), (0, .ref a0), (1, .int x1), (2, .int x2)]) X.1 X.2.1 dX0_setChain_1 rfl hl (by decide) rfl (fun ls hl => ?_)
  refine lv_iconst (v := 0) X.1 X.2.1 dX0_setChain_2 (by decide) ?_
  refine lv_istore (lv' := [(4, .int 0), (3, .int x1), (0, .ref a0), (1, .int x1), (2, .int x2)]) X.1 X.2.1 dX0_setChain_3 hl (by decide) rfl (fun ls hl => ?_)
  obtain ⟨n0, hw⟩ := hw
  exact L5 n0 x1 0 S _ _ ls (lv_sub hl [2, 4, 1, 0] rfl) h hle f_a0 hw
