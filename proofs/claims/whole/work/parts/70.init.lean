theorem ac_14 : Cond.arrayClass .int ∈ kp_tb := kp_mem 257 (by decide +kernel) (by decide +kernel)
theorem oi_0_3 : Cond.methodLink RX0 3 objectInit ∈ kp_tb := kp_mem 241 (by decide +kernel) (by decide +kernel)
theorem oi_10_1 : Cond.methodLink RX10 1 objectInit ∈ kp_tb := kp_mem 496 (by decide +kernel) (by decide +kernel)
theorem oi_6_1 : Cond.methodLink RX6 1 objectInit ∈ kp_tb := kp_mem 541 (by decide +kernel) (by decide +kernel)
theorem nw_6_7 : kp_NW RX6 7 10 := ⟨RX10, TX10, 4, cl_10, kp_mem 542 (by decide +kernel) (by decide +kernel), kp_mem 492 (by decide +kernel) (by decide +kernel), kp_mem 217 (by decide +kernel) (by decide +kernel), by decide +kernel⟩
theorem cn_6_9 : kp_CIm yX10_init cX10_init 1 0 := ⟨⟨kp_mem 495 (by decide +kernel) (by decide +kernel), kp_mem 217 (by decide +kernel) (by decide +kernel), by decide +kernel⟩, kp_mem 494 (by decide +kernel) (by decide +kernel), rfl⟩
theorem ff_6_10 : kp_FF RX6 10 6 8 := ⟨RX6, TX6, 9, cl_6, by decide, kp_mem 552 (by decide +kernel) (by decide +kernel), rfl, rfl⟩
theorem oi_3_1 : Cond.methodLink RX3 1 objectInit ∈ kp_tb := kp_mem 518 (by decide +kernel) (by decide +kernel)
theorem oi_1_3 : Cond.methodLink RX1 3 objectInit ∈ kp_tb := kp_mem 448 (by decide +kernel) (by decide +kernel)
theorem oi_7_3 : Cond.methodLink RX7 3 objectInit ∈ kp_tb := kp_mem 470 (by decide +kernel) (by decide +kernel)
theorem oi_5_3 : Cond.methodLink RX5 3 objectInit ∈ kp_tb := kp_mem 368 (by decide +kernel) (by decide +kernel)
theorem ac_15 : Cond.arrayClass .long ∈ kp_tb := kp_mem 362 (by decide +kernel) (by decide +kernel)
theorem oi_2_3 : Cond.methodLink RX2 3 objectInit ∈ kp_tb := kp_mem 416 (by decide +kernel) (by decide +kernel)
theorem dX0_init_0 : decode cX0_init 0 = .ok (.aload_n 0, 1) := by decide +kernel
theorem dX0_init_1 : decode cX0_init 1 = .ok (.invokespecial 3, 3) := by decide +kernel
theorem dX0_init_4 : decode cX0_init 4 = .ok (.aload_n 0, 1) := by decide +kernel
theorem dX0_init_5 : decode cX0_init 5 = .ok (.iload_n 1, 1) := by decide +kernel
theorem dX0_init_6 : decode cX0_init 6 = .ok (.ifCond .le 12, 3) := by decide +kernel
theorem dX0_init_9 : decode cX0_init 9 = .ok (.iconst 2, 1) := by decide +kernel
theorem dX0_init_10 : decode cX0_init 10 = .ok (.iload_n 1, 1) := by decide +kernel
theorem dX0_init_11 : decode cX0_init 11 = .ok (.imul, 1) := by decide +kernel
theorem dX0_init_12 : decode cX0_init 12 = .ok (.bipush 16, 2) := by decide +kernel
theorem dX0_init_14 : decode cX0_init 14 = .ok (.iadd, 1) := by decide +kernel
theorem dX0_init_15 : decode cX0_init 15 = .ok (.goto 4, 3) := by decide +kernel
theorem dX0_init_18 : decode cX0_init 18 = .ok (.iconst 0, 1) := by decide +kernel
theorem dX0_init_19 : decode cX0_init 19 = .ok (.newarray .int, 2) := by decide +kernel
theorem dX0_init_21 : decode cX0_init 21 = .ok (.putfield 9, 3) := by decide +kernel
theorem dX0_init_24 : decode cX0_init 24 = .ok (.aload_n 0, 1) := by decide +kernel
theorem dX0_init_25 : decode cX0_init 25 = .ok (.iload_n 1, 1) := by decide +kernel
theorem dX0_init_26 : decode cX0_init 26 = .ok (.ifCond .le 9, 3) := by decide +kernel
theorem dX0_init_29 : decode cX0_init 29 = .ok (.sipush 150, 3) := by decide +kernel
theorem dX0_init_32 : decode cX0_init 32 = .ok (.goto 4, 3) := by decide +kernel
theorem dX0_init_35 : decode cX0_init 35 = .ok (.iconst 0, 1) := by decide +kernel
theorem dX0_init_36 : decode cX0_init 36 = .ok (.newarray .int, 2) := by decide +kernel
theorem dX0_init_38 : decode cX0_init 38 = .ok (.putfield 17, 3) := by decide +kernel
theorem dX0_init_41 : decode cX0_init 41 = .ok (.return_, 1) := by decide +kernel
def wX0_init_b36 (a0 : Nat) (x1 : Int32) (xt0 : Int32) (at1 : Nat)  (Sn : kp_S) (post : kp_S → Prop) : Prop :=
  ¬ xt0 < 0 ∧ xt0.toNatClampNeg ≤ 150 ∧
  ∀ (b1001 : Nat) (T1002 : kp_S), b1001 ∉ kp_L Sn → T1002 = kp_newA Sn b1001 14 (xt0.toNatClampNeg) →
  ∀ T1003 : kp_S, T1003 = kp_sR T1002 2 at1 b1001 →
  post T1003
def wX0_init_b19 (a0 : Nat) (x1 : Int32) (xt0 : Int32) (at1 : Nat)  (Sn : kp_S) (post : kp_S → Prop) : Prop :=
  ¬ xt0 < 0 ∧ xt0.toNatClampNeg ≤ 6016 ∧
  ∀ (b2001 : Nat) (T2002 : kp_S), b2001 ∉ kp_L Sn → T2002 = kp_newA Sn b2001 14 (xt0.toNatClampNeg) →
  ∀ T2003 : kp_S, T2003 = kp_sR T2002 0 at1 b2001 →
  ((x1 ≤ 0 →
  wX0_init_b36 a0 x1 0 a0  T2003 post) ∧ (¬ x1 ≤ 0 →
  wX0_init_b36 a0 x1 150 a0  T2003 post))
def wX0_init (a0 : Nat) (x1 : Int32) (S : kp_S) (post : kp_S → Prop) : Prop :=
  ((x1 ≤ 0 →
  wX0_init_b19 a0 x1 0 a0  S post) ∧ (¬ x1 ≤ 0 →
  wX0_init_b19 a0 x1 ((2 * x1) + 16) a0  S post))
set_option maxHeartbeats 4000000 in
set_option maxRecDepth 100000 in
theorem c_X0_init (l : Launch) (D : va_G) (cy : Nat → ClassId) (ad : (Nat → Nat) × (Nat → Nat)) (S : kp_S) (a0 : Nat) (x1 : Int32) (post : kp_S → Prop) (hS : kp_ok S) (f_a0 : kp_is S a0 0) (hw : wX0_init a0 x1 S post) : kp_M l yX0_init cX0_init 2 none { frames := 1, cells := 2, slots := 6166, locals := 20 } D cy ad S [.ref a0, .int x1] 2 6166 (fun A => kp_Qv D cy A S post) := by
  refine kp_start (own := RX0) (by decide) rfl (Nat.le_of_ble_eq_true rfl) hS ?_
  intro p e s m below meth c A ls X hr hlocks hname h hl
  have hle : kp_le S S := kp_le.rf
  have hl : lv_has ls 2 [(0, .ref a0), (1, .int x1)] := hl
  have j36 : ∀ (xt0 : Int32) (at1 : Nat) (Sn : kp_S) (H : Heap) (locs : List Loc) (ls : Array Slot), lv_has ls 2 [] → kp_H D cy A Sn s.heap H locs → kp_le S Sn → kp_is Sn at1 0 → kp_is Sn a0 0 → wX0_init_b36 a0 x1 xt0 at1  Sn post → W p l e { frames := 1, cells := 2, slots := 6166, locals := 20 } s m ([.ref a0, .int x1] : List Value).toArray below meth c H locs 1 6016 (MQ below (kp_Qv D cy A S post) ([.ref a0, .int x1] : List Value).toArray s 2 6166 A) (F0 m 36 ls [.int xt0, .ref at1]) := by
    intro xt0 at1 Sn H locs ls hl h hle f_at1 f_a0 hw
    unfold wX0_init_b36 at hw
    obtain ⟨hz, hm, hw⟩ := hw
    refine kp_newi (n := xt0.toNatClampNeg) X h ac_14 hz rfl (by omega) (by decide) (by show 6016 + _ ≤ _; exact Nat.le_trans (Nat.add_le_add_left hm _) (by decide)) dX0_init_36 (fun b1001 T1002 n_b1001 e_T1002 l_T1002 f_b1001 H h => ?_)
    have hw := hw b1001 T1002 n_b1001 e_T1002
    have f_at1 := l_T1002.is f_at1
    have f_a0 := l_T1002.is f_a0
    have hle := hle.tr l_T1002
    refine W.widen (k := 2) (n := 6166) (by decide) (by omega) ?_
    refine kp_putRF X hname h f_at1 ff_0_17 f_b1001 rfl ⟨by decide, by decide⟩ ⟨rfl, rfl⟩ dX0_init_38 (fun T1003 e_T1003 l_T1003 H locs h => ?_)
    have hw := hw T1003 e_T1003
    have f_at1 := l_T1003.is f_at1
    have f_a0 := l_T1003.is f_a0
    have f_b1001 := l_T1003.is f_b1001
    have hle := hle.tr l_T1003
    exact kp_retv X hr hlocks h hle hw dX0_init_41
  have j19 : ∀ (xt0 : Int32) (at1 : Nat) (Sn : kp_S) (H : Heap) (locs : List Loc) (ls : Array Slot), lv_has ls 2 [(0, .ref a0), (1, .int x1)] → kp_H D cy A Sn s.heap H locs → kp_le S Sn → kp_is Sn a0 0 → kp_is Sn at1 0 → wX0_init_b19 a0 x1 xt0 at1  Sn post → W p l e { frames := 1, cells := 2, slots := 6166, locals := 20 } s m ([.ref a0, .int x1] : List Value).toArray below meth c H locs 0 0 (MQ below (kp_Qv D cy A S post) ([.ref a0, .int x1] : List Value).toArray s 2 6166 A) (F0 m 19 ls [.int xt0, .ref at1]) := by
    intro xt0 at1 Sn H locs ls hl h hle f_a0 f_at1 hw
    unfold wX0_init_b19 at hw
    obtain ⟨hz, hm, hw⟩ := hw
    refine kp_newi (n := xt0.toNatClampNeg) X h ac_14 hz rfl (by omega) (by decide) (by show 0 + _ ≤ _; exact Nat.le_trans (Nat.add_le_add_left hm _) (by decide)) dX0_init_19 (fun b2001 T2002 n_b2001 e_T2002 l_T2002 f_b2001 H h => ?_)
    have hw := hw b2001 T2002 n_b2001 e_T2002
    have f_a0 := l_T2002.is f_a0
    have f_at1 := l_T2002.is f_at1
    have hle := hle.tr l_T2002
    refine W.widen (k := 1) (n := 6016) (by decide) (by omega) ?_
    refine kp_putRF X hname h f_at1 ff_0_9 f_b2001 rfl ⟨by decide, by decide⟩ ⟨rfl, rfl⟩ dX0_init_21 (fun T2003 e_T2003 l_T2003 H locs h => ?_)
    have hw := hw T2003 e_T2003
    have f_a0 := l_T2003.is f_a0
    have f_at1 := l_T2003.is f_at1
    have f_b2001 := l_T2003.is f_b2001
    have hle := hle.tr l_T2003
    refine lv_aload_n X.1 X.2.1 dX0_init_24 rfl (lv_at hl 0 rfl) ?_
    refine lv_iload_n X.1 X.2.1 dX0_init_25 rfl (lv_at hl 1 rfl) ?_
    refine lv_if_le (tgt := 35) X.1 X.2.1 dX0_init_26 (by decide) (fun c2004 => ?_) (fun c2004 => ?_)
    · have hw := hw.1 c2004
      refine lv_iconst (v := 0) X.1 X.2.1 dX0_init_35 (by decide) ?_
      exact j36 0 a0 T2003 H locs ls (lv_sub hl [] rfl) h hle f_a0 f_a0 hw
    · have hw := hw.2 c2004
      refine lv_sipush (v := 150) X.1 X.2.1 dX0_init_29 (by decide) ?_
      refine lv_goto (tgt := 36) X.1 X.2.1 dX0_init_32 (by decide) ?_
      exact j36 150 a0 T2003 H locs ls (lv_sub hl [] rfl) h hle f_a0 f_a0 hw
  unfold wX0_init at hw
  have h : kp_H D cy A S s.heap s.heap [] := h
  revert h
  intro h
  refine lv_aload_n X.1 X.2.1 dX0_init_0 rfl (lv_at hl 0 rfl) ?_
  refine kp_objInit X hl.1 oi_0_3 (by decide) (by decide) dX0_init_1 ?_
  refine lv_aload_n X.1 X.2.1 dX0_init_4 rfl (lv_at hl 0 rfl) ?_
  refine lv_iload_n X.1 X.2.1 dX0_init_5 rfl (lv_at hl 1 rfl) ?_
  refine lv_if_le (tgt := 18) X.1 X.2.1 dX0_init_6 (by decide) (fun c1 => ?_) (fun c1 => ?_)
  · have hw := hw.1 c1
    refine lv_iconst (v := 0) X.1 X.2.1 dX0_init_18 (by decide) ?_
    exact j19 0 a0 S _ _ ls (lv_sub hl [0, 1] rfl) h hle f_a0 f_a0 hw
  · have hw := hw.2 c1
    refine lv_iconst (v := 2) X.1 X.2.1 dX0_init_9 (by decide) ?_
    refine lv_iload_n X.1 X.2.1 dX0_init_10 rfl (lv_at hl 1 rfl) ?_
    refine lv_imul X.1 X.2.1 dX0_init_11 ?_
    refine lv_bipush (v := 16) X.1 X.2.1 dX0_init_12 (by decide) ?_
    refine lv_iadd X.1 X.2.1 dX0_init_14 ?_
    refine lv_goto (tgt := 19) X.1 X.2.1 dX0_init_15 (by decide) ?_
    exact j19 ((2 * x1) + 16) a0 S _ _ ls (lv_sub hl [0, 1] rfl) h hle f_a0 f_a0 hw
theorem dX10_init_0 : decode cX10_init 0 = .ok (.aload_n 0, 1) := by decide +kernel
theorem dX10_init_1 : decode cX10_init 1 = .ok (.invokespecial 1, 3) := by decide +kernel
theorem dX10_init_4 : decode cX10_init 4 = .ok (.return_, 1) := by decide +kernel
def wX10_init (a0 : Nat) (S : kp_S) (post : kp_S → Prop) : Prop :=
  post S
set_option maxHeartbeats 4000000 in
set_option maxRecDepth 100000 in
theorem c_X10_init (l : Launch) (D : va_G) (cy : Nat → ClassId) (ad : (Nat → Nat) × (Nat → Nat)) (S : kp_S) (a0 : Nat) (post : kp_S → Prop) (hS : kp_ok S) (f_a0 : kp_is S a0 10) (hw : wX10_init a0 S post) : kp_M l yX10_init cX10_init 1 none { frames := 1, cells := 0, slots := 0, locals := 20 } D cy ad S [.ref a0] 0 0 (fun A => kp_Qv D cy A S post) := by
  refine kp_start (own := RX10) (by decide) rfl (Nat.le_of_ble_eq_true rfl) hS ?_
  intro p e s m below meth c A ls X hr hlocks hname h hl
  have hle : kp_le S S := kp_le.rf
  have hl : lv_has ls 1 [(0, .ref a0)] := hl
  unfold wX10_init at hw
  have h : kp_H D cy A S s.heap s.heap [] := h
  revert h
  intro h
  refine lv_aload_n X.1 X.2.1 dX10_init_0 rfl (lv_at hl 0 rfl) ?_
  refine kp_objInit X hl.1 oi_10_1 (by decide) (by decide) dX10_init_1 ?_
  exact kp_retv X hr hlocks h hle hw dX10_init_4
theorem dX6_init_0 : decode cX6_init 0 = .ok (.aload_n 0, 1) := by decide +kernel
theorem dX6_init_1 : decode cX6_init 1 = .ok (.invokespecial 1, 3) := by decide +kernel
theorem dX6_init_4 : decode cX6_init 4 = .ok (.aload_n 0, 1) := by decide +kernel
theorem dX6_init_5 : decode cX6_init 5 = .ok (.new 7, 3) := by decide +kernel
theorem dX6_init_8 : decode cX6_init 8 = .ok (.dup, 1) := by decide +kernel
theorem dX6_init_9 : decode cX6_init 9 = .ok (.invokespecial 9, 3) := by decide +kernel
theorem dX6_init_12 : decode cX6_init 12 = .ok (.putfield 10, 3) := by decide +kernel
theorem dX6_init_15 : decode cX6_init 15 = .ok (.return_, 1) := by decide +kernel
def wX6_init (a0 : Nat) (S : kp_S) (post : kp_S → Prop) : Prop :=
  ∀ (b1 : Nat) (T2 : kp_S), b1 ∉ kp_L S → T2 = kp_new S b1 10 →
  wX10_init b1 T2 (fun T3 =>
  ∀ T4 : kp_S, T4 = kp_sR T3 1208 a0 b1 →
  post T4)
set_option maxHeartbeats 4000000 in
set_option maxRecDepth 100000 in
theorem c_X6_init (l : Launch) (D : va_G) (cy : Nat → ClassId) (ad : (Nat → Nat) × (Nat → Nat)) (S : kp_S) (a0 : Nat) (post : kp_S → Prop) (hS : kp_ok S) (f_a0 : kp_is S a0 6) (hw : wX6_init a0 S post) : kp_MN l yX6_init cX6_init 1 none { frames := 2, cells := 1, slots := 4, locals := 40 } D cy ad S [.ref a0] 1 4 (fun A => kp_Qv D cy A S post) := by
  refine kp_startN (own := RX6) (by decide) rfl (Nat.le_of_ble_eq_true rfl) hS ?_
  intro p e s m below meth c A ls X hr hlocks hname hN h hl
  have hle : kp_le S S := kp_le.rf
  have hl : lv_has ls 1 [(0, .ref a0)] := hl
  unfold wX6_init at hw
  have h : kp_H D cy A S s.heap s.heap [] := h
  revert h
  intro h
  refine lv_aload_n X.1 X.2.1 dX6_init_0 rfl (lv_at hl 0 rfl) ?_
  refine kp_objInit X hl.1 oi_6_1 (by decide) (by decide) dX6_init_1 ?_
  refine lv_aload_n X.1 X.2.1 dX6_init_4 rfl (lv_at hl 0 rfl) ?_
  refine kp_newO X h nw_6_7 (by decide) (by decide) dX6_init_5 (fun b1 T2 n_b1 e_T2 l_T2 f_b1 H h => ?_)
  have hw := hw b1 T2 n_b1 e_T2
  have f_a0 := l_T2.is f_a0
  have hle := hle.tr l_T2
  refine W.widen (k := 1) (n := 4) (by decide) (by decide) ?_
  refine lv_dup X.1 X.2.1 dX6_init_8 rfl ?_
  refine kp_callv X h (kp_runJ (rm := { frames := 1, cells := 0, slots := 0, locals := 20 }) (mc := 0) (ms := 0) (rest := [.ref b1, .ref a0]) (Qc := fun A => kp_Qv D cy A T2 _) X h (c_X10_init l D cy ad T2 b1 _ h.2.2.2 f_b1 hw) (hN 4 _ rfl) cn_6_9 ⟨by decide, by decide, rfl, rfl, by decide, by decide⟩ rfl hl.1 rfl (Nat.le_of_ble_eq_true rfl) dX6_init_9) (fun T3 hw l_T3 H locs h => ?_)
  have f_a0 := l_T3.is f_a0
  have f_b1 := l_T3.is f_b1
  have hle := hle.tr l_T3
  refine kp_putRF X hname h f_a0 ff_6_10 f_b1 rfl ⟨by decide, by decide⟩ ⟨rfl, rfl⟩ dX6_init_12 (fun T4 e_T4 l_T4 H locs h => ?_)
  have hw := hw T4 e_T4
  have f_a0 := l_T4.is f_a0
  have f_b1 := l_T4.is f_b1
  have hle := hle.tr l_T4
  exact kp_retv X hr hlocks h hle hw dX6_init_15
theorem dX3_init_0 : decode cX3_init 0 = .ok (.aload_n 0, 1) := by decide +kernel
theorem dX3_init_1 : decode cX3_init 1 = .ok (.invokespecial 1, 3) := by decide +kernel
theorem dX3_init_4 : decode cX3_init 4 = .ok (.aload_n 0, 1) := by decide +kernel
theorem dX3_init_5 : decode cX3_init 5 = .ok (.bipush 24, 2) := by decide +kernel
theorem dX3_init_7 : decode cX3_init 7 = .ok (.newarray .int, 2) := by decide +kernel
theorem dX3_init_9 : decode cX3_init 9 = .ok (.putfield 9, 3) := by decide +kernel
theorem dX3_init_12 : decode cX3_init 12 = .ok (.aload_n 0, 1) := by decide +kernel
theorem dX3_init_13 : decode cX3_init 13 = .ok (.bipush 40, 2) := by decide +kernel
theorem dX3_init_15 : decode cX3_init 15 = .ok (.newarray .int, 2) := by decide +kernel
theorem dX3_init_17 : decode cX3_init 17 = .ok (.putfield 15, 3) := by decide +kernel
theorem dX3_init_20 : decode cX3_init 20 = .ok (.return_, 1) := by decide +kernel
def wX3_init (a0 : Nat) (S : kp_S) (post : kp_S → Prop) : Prop :=
  ∀ (b1 : Nat) (T2 : kp_S), b1 ∉ kp_L S → T2 = kp_newA S b1 14 24 →
  ∀ T3 : kp_S, T3 = kp_sR T2 600 a0 b1 →
  ∀ (b4 : Nat) (T5 : kp_S), b4 ∉ kp_L T3 → T5 = kp_newA T3 b4 14 40 →
  ∀ T6 : kp_S, T6 = kp_sR T5 601 a0 b4 →
  post T6
set_option maxHeartbeats 4000000 in
set_option maxRecDepth 100000 in
theorem c_X3_init (l : Launch) (D : va_G) (cy : Nat → ClassId) (ad : (Nat → Nat) × (Nat → Nat)) (S : kp_S) (a0 : Nat) (post : kp_S → Prop) (hS : kp_ok S) (f_a0 : kp_is S a0 3) (hw : wX3_init a0 S post) : kp_M l yX3_init cX3_init 1 none { frames := 1, cells := 2, slots := 64, locals := 20 } D cy ad S [.ref a0] 2 64 (fun A => kp_Qv D cy A S post) := by
  refine kp_start (own := RX3) (by decide) rfl (Nat.le_of_ble_eq_true rfl) hS ?_
  intro p e s m below meth c A ls X hr hlocks hname h hl
  have hle : kp_le S S := kp_le.rf
  have hl : lv_has ls 1 [(0, .ref a0)] := hl
  unfold wX3_init at hw
  have h : kp_H D cy A S s.heap s.heap [] := h
  revert h
  intro h
  refine lv_aload_n X.1 X.2.1 dX3_init_0 rfl (lv_at hl 0 rfl) ?_
  refine kp_objInit X hl.1 oi_3_1 (by decide) (by decide) dX3_init_1 ?_
  refine lv_aload_n X.1 X.2.1 dX3_init_4 rfl (lv_at hl 0 rfl) ?_
  refine lv_bipush (v := 24) X.1 X.2.1 dX3_init_5 (by decide) ?_
  refine kp_newi (n := 24) X h ac_14 (by decide) (by decide) (by decide) (by decide) (by decide) dX3_init_7 (fun b1 T2 n_b1 e_T2 l_T2 f_b1 H h => ?_)
  have hw := hw b1 T2 n_b1 e_T2
  have f_a0 := l_T2.is f_a0
  have hle := hle.tr l_T2
  refine W.widen (k := 1) (n := 24) (by decide) (by decide) ?_
  refine kp_putRF X hname h f_a0 ff_3_9 f_b1 rfl ⟨by decide, by decide⟩ ⟨rfl, rfl⟩ dX3_init_9 (fun T3 e_T3 l_T3 H locs h => ?_)
  have hw := hw T3 e_T3
  have f_a0 := l_T3.is f_a0
  have f_b1 := l_T3.is f_b1
  have hle := hle.tr l_T3
  refine lv_aload_n X.1 X.2.1 dX3_init_12 rfl (lv_at hl 0 rfl) ?_
  refine lv_bipush (v := 40) X.1 X.2.1 dX3_init_13 (by decide) ?_
  refine kp_newi (n := 40) X h ac_14 (by decide) (by decide) (by decide) (by decide) (by decide) dX3_init_15 (fun b4 T5 n_b4 e_T5 l_T5 f_b4 H h => ?_)
  have hw := hw b4 T5 n_b4 e_T5
  have f_a0 := l_T5.is f_a0
  have f_b1 := l_T5.is f_b1
  have hle := hle.tr l_T5
  refine W.widen (k := 2) (n := 64) (by decide) (by decide) ?_
  refine kp_putRF X hname h f_a0 ff_3_15 f_b4 rfl ⟨by decide, by decide⟩ ⟨rfl, rfl⟩ dX3_init_17 (fun T6 e_T6 l_T6 H locs h => ?_)
  have hw := hw T6 e_T6
  have f_a0 := l_T6.is f_a0
  have f_b1 := l_T6.is f_b1
  have f_b4 := l_T6.is f_b4
  have hle := hle.tr l_T6
  exact kp_retv X hr hlocks h hle hw dX3_init_20
theorem dX1_init_0 : decode cX1_init 0 = .ok (.aload_n 0, 1) := by decide +kernel
theorem dX1_init_1 : decode cX1_init 1 = .ok (.invokespecial 3, 3) := by decide +kernel
theorem dX1_init_4 : decode cX1_init 4 = .ok (.aload_n 0, 1) := by decide +kernel
theorem dX1_init_5 : decode cX1_init 5 = .ok (.bipush 6, 2) := by decide +kernel
theorem dX1_init_7 : decode cX1_init 7 = .ok (.newarray .int, 2) := by decide +kernel
theorem dX1_init_9 : decode cX1_init 9 = .ok (.putfield 11, 3) := by decide +kernel
theorem dX1_init_12 : decode cX1_init 12 = .ok (.aload_n 0, 1) := by decide +kernel
theorem dX1_init_13 : decode cX1_init 13 = .ok (.bipush 7, 2) := by decide +kernel
theorem dX1_init_15 : decode cX1_init 15 = .ok (.newarray .int, 2) := by decide +kernel
theorem dX1_init_17 : decode cX1_init 17 = .ok (.putfield 15, 3) := by decide +kernel
theorem dX1_init_20 : decode cX1_init 20 = .ok (.aload_n 0, 1) := by decide +kernel
theorem dX1_init_21 : decode cX1_init 21 = .ok (.bipush 12, 2) := by decide +kernel
theorem dX1_init_23 : decode cX1_init 23 = .ok (.newarray .int, 2) := by decide +kernel
theorem dX1_init_25 : decode cX1_init 25 = .ok (.putfield 18, 3) := by decide +kernel
theorem dX1_init_28 : decode cX1_init 28 = .ok (.aload_n 0, 1) := by decide +kernel
theorem dX1_init_29 : decode cX1_init 29 = .ok (.bipush 6, 2) := by decide +kernel
theorem dX1_init_31 : decode cX1_init 31 = .ok (.newarray .int, 2) := by decide +kernel
theorem dX1_init_33 : decode cX1_init 33 = .ok (.putfield 21, 3) := by decide +kernel
theorem dX1_init_36 : decode cX1_init 36 = .ok (.aload_n 0, 1) := by decide +kernel
theorem dX1_init_37 : decode cX1_init 37 = .ok (.bipush 8, 2) := by decide +kernel
theorem dX1_init_39 : decode cX1_init 39 = .ok (.newarray .int, 2) := by decide +kernel
theorem dX1_init_41 : decode cX1_init 41 = .ok (.putfield 24, 3) := by decide +kernel
theorem dX1_init_44 : decode cX1_init 44 = .ok (.return_, 1) := by decide +kernel
def wX1_init (a0 : Nat) (S : kp_S) (post : kp_S → Prop) : Prop :=
  ∀ (b1 : Nat) (T2 : kp_S), b1 ∉ kp_L S → T2 = kp_newA S b1 14 6 →
  ∀ T3 : kp_S, T3 = kp_sR T2 200 a0 b1 →
  ∀ (b4 : Nat) (T5 : kp_S), b4 ∉ kp_L T3 → T5 = kp_newA T3 b4 14 7 →
  ∀ T6 : kp_S, T6 = kp_sR T5 201 a0 b4 →
  ∀ (b7 : Nat) (T8 : kp_S), b7 ∉ kp_L T6 → T8 = kp_newA T6 b7 14 12 →
  ∀ T9 : kp_S, T9 = kp_sR T8 202 a0 b7 →
  ∀ (b10 : Nat) (T11 : kp_S), b10 ∉ kp_L T9 → T11 = kp_newA T9 b10 14 6 →
  ∀ T12 : kp_S, T12 = kp_sR T11 203 a0 b10 →
  ∀ (b13 : Nat) (T14 : kp_S), b13 ∉ kp_L T12 → T14 = kp_newA T12 b13 14 8 →
  ∀ T15 : kp_S, T15 = kp_sR T14 204 a0 b13 →
  post T15
set_option maxHeartbeats 4000000 in
set_option maxRecDepth 100000 in
theorem c_X1_init (l : Launch) (D : va_G) (cy : Nat → ClassId) (ad : (Nat → Nat) × (Nat → Nat)) (S : kp_S) (a0 : Nat) (post : kp_S → Prop) (hS : kp_ok S) (f_a0 : kp_is S a0 1) (hw : wX1_init a0 S post) : kp_M l yX1_init cX1_init 1 none { frames := 1, cells := 5, slots := 39, locals := 20 } D cy ad S [.ref a0] 5 39 (fun A => kp_Qv D cy A S post) := by
  refine kp_start (own := RX1) (by decide) rfl (Nat.le_of_ble_eq_true rfl) hS ?_
  intro p e s m below meth c A ls X hr hlocks hname h hl
  have hle : kp_le S S := kp_le.rf
  have hl : lv_has ls 1 [(0, .ref a0)] := hl
  unfold wX1_init at hw
  have h : kp_H D cy A S s.heap s.heap [] := h
  revert h
  intro h
  refine lv_aload_n X.1 X.2.1 dX1_init_0 rfl (lv_at hl 0 rfl) ?_
  refine kp_objInit X hl.1 oi_1_3 (by decide) (by decide) dX1_init_1 ?_
  refine lv_aload_n X.1 X.2.1 dX1_init_4 rfl (lv_at hl 0 rfl) ?_
  refine lv_bipush (v := 6) X.1 X.2.1 dX1_init_5 (by decide) ?_
  refine kp_newi (n := 6) X h ac_14 (by decide) (by decide) (by decide) (by decide) (by decide) dX1_init_7 (fun b1 T2 n_b1 e_T2 l_T2 f_b1 H h => ?_)
  have hw := hw b1 T2 n_b1 e_T2
  have f_a0 := l_T2.is f_a0
  have hle := hle.tr l_T2
  refine W.widen (k := 1) (n := 6) (by decide) (by decide) ?_
  refine kp_putRF X hname h f_a0 ff_1_11 f_b1 rfl ⟨by decide, by decide⟩ ⟨rfl, rfl⟩ dX1_init_9 (fun T3 e_T3 l_T3 H locs h => ?_)
  have hw := hw T3 e_T3
  have f_a0 := l_T3.is f_a0
  have f_b1 := l_T3.is f_b1
  have hle := hle.tr l_T3
  refine lv_aload_n X.1 X.2.1 dX1_init_12 rfl (lv_at hl 0 rfl) ?_
  refine lv_bipush (v := 7) X.1 X.2.1 dX1_init_13 (by decide) ?_
  refine kp_newi (n := 7) X h ac_14 (by decide) (by decide) (by decide) (by decide) (by decide) dX1_init_15 (fun b4 T5 n_b4 e_T5 l_T5 f_b4 H h => ?_)
  have hw := hw b4 T5 n_b4 e_T5
  have f_a0 := l_T5.is f_a0
  have f_b1 := l_T5.is f_b1
  have hle := hle.tr l_T5
  refine W.widen (k := 2) (n := 13) (by decide) (by decide) ?_
  refine kp_putRF X hname h f_a0 ff_1_15 f_b4 rfl ⟨by decide, by decide⟩ ⟨rfl, rfl⟩ dX1_init_17 (fun T6 e_T6 l_T6 H locs h => ?_)
  have hw := hw T6 e_T6
  have f_a0 := l_T6.is f_a0
  have f_b1 := l_T6.is f_b1
  have f_b4 := l_T6.is f_b4
  have hle := hle.tr l_T6
  refine lv_aload_n X.1 X.2.1 dX1_init_20 rfl (lv_at hl 0 rfl) ?_
  refine lv_bipush (v := 12) X.1 X.2.1 dX1_init_21 (by decide) ?_
  refine kp_newi (n := 12) X h ac_14 (by decide) (by decide) (by decide) (by decide) (by decide) dX1_init_23 (fun b7 T8 n_b7 e_T8 l_T8 f_b7 H h => ?_)
  have hw := hw b7 T8 n_b7 e_T8
  have f_a0 := l_T8.is f_a0
  have f_b1 := l_T8.is f_b1
  have f_b4 := l_T8.is f_b4
  have hle := hle.tr l_T8
  refine W.widen (k := 3) (n := 25) (by decide) (by decide) ?_
  refine kp_putRF X hname h f_a0 ff_1_18 f_b7 rfl ⟨by decide, by decide⟩ ⟨rfl, rfl⟩ dX1_init_25 (fun T9 e_T9 l_T9 H locs h => ?_)
  have hw := hw T9 e_T9
  have f_a0 := l_T9.is f_a0
  have f_b1 := l_T9.is f_b1
  have f_b4 := l_T9.is f_b4
  have f_b7 := l_T9.is f_b7
  have hle := hle.tr l_T9
  refine lv_aload_n X.1 X.2.1 dX1_init_28 rfl (lv_at hl 0 rfl) ?_
  refine lv_bipush (v := 6) X.1 X.2.1 dX1_init_29 (by decide) ?_
  refine kp_newi (n := 6) X h ac_14 (by decide) (by decide) (by decide) (by decide) (by decide) dX1_init_31 (fun b10 T11 n_b10 e_T11 l_T11 f_b10 H h => ?_)
  have hw := hw b10 T11 n_b10 e_T11
  have f_a0 := l_T11.is f_a0
  have f_b1 := l_T11.is f_b1
  have f_b4 := l_T11.is f_b4
  have f_b7 := l_T11.is f_b7
  have hle := hle.tr l_T11
  refine W.widen (k := 4) (n := 31) (by decide) (by decide) ?_
  refine kp_putRF X hname h f_a0 ff_1_21 f_b10 rfl ⟨by decide, by decide⟩ ⟨rfl, rfl⟩ dX1_init_33 (fun T12 e_T12 l_T12 H locs h => ?_)
  have hw := hw T12 e_T12
  have f_a0 := l_T12.is f_a0
  have f_b1 := l_T12.is f_b1
  have f_b4 := l_T12.is f_b4
  have f_b7 := l_T12.is f_b7
  have f_b10 := l_T12.is f_b10
  have hle := hle.tr l_T12
  refine lv_aload_n X.1 X.2.1 dX1_init_36 rfl (lv_at hl 0 rfl) ?_
  refine lv_bipush (v := 8) X.1 X.2.1 dX1_init_37 (by decide) ?_
  refine kp_newi (n := 8) X h ac_14 (by decide) (by decide) (by decide) (by decide) (by decide) dX1_init_39 (fun b13 T14 n_b13 e_T14 l_T14 f_b13 H h => ?_)
  have hw := hw b13 T14 n_b13 e_T14
  have f_a0 := l_T14.is f_a0
  have f_b1 := l_T14.is f_b1
  have f_b4 := l_T14.is f_b4
  have f_b7 := l_T14.is f_b7
  have f_b10 := l_T14.is f_b10
  have hle := hle.tr l_T14
  refine W.widen (k := 5) (n := 39) (by decide) (by decide) ?_
  refine kp_putRF X hname h f_a0 ff_1_24 f_b13 rfl ⟨by decide, by decide⟩ ⟨rfl, rfl⟩ dX1_init_41 (fun T15 e_T15 l_T15 H locs h => ?_)
  have hw := hw T15 e_T15
  have f_a0 := l_T15.is f_a0
  have f_b1 := l_T15.is f_b1
  have f_b4 := l_T15.is f_b4
  have f_b7 := l_T15.is f_b7
  have f_b10 := l_T15.is f_b10
  have f_b13 := l_T15.is f_b13
  have hle := hle.tr l_T15
  exact kp_retv X hr hlocks h hle hw dX1_init_44
theorem dX7_init_0 : decode cX7_init 0 = .ok (.aload_n 0, 1) := by decide +kernel
theorem dX7_init_1 : decode cX7_init 1 = .ok (.invokespecial 3, 3) := by decide +kernel
theorem dX7_init_4 : decode cX7_init 4 = .ok (.aload_n 0, 1) := by decide +kernel
theorem dX7_init_5 : decode cX7_init 5 = .ok (.bipush 19, 2) := by decide +kernel
theorem dX7_init_7 : decode cX7_init 7 = .ok (.newarray .int, 2) := by decide +kernel
theorem dX7_init_9 : decode cX7_init 9 = .ok (.putfield 11, 3) := by decide +kernel
theorem dX7_init_12 : decode cX7_init 12 = .ok (.aload_n 0, 1) := by decide +kernel
theorem dX7_init_13 : decode cX7_init 13 = .ok (.sipush 300, 3) := by decide +kernel
theorem dX7_init_16 : decode cX7_init 16 = .ok (.newarray .int, 2) := by decide +kernel
theorem dX7_init_18 : decode cX7_init 18 = .ok (.putfield 15, 3) := by decide +kernel
theorem dX7_init_21 : decode cX7_init 21 = .ok (.aload_n 0, 1) := by decide +kernel
theorem dX7_init_22 : decode cX7_init 22 = .ok (.sipush 300, 3) := by decide +kernel
theorem dX7_init_25 : decode cX7_init 25 = .ok (.newarray .int, 2) := by decide +kernel
theorem dX7_init_27 : decode cX7_init 27 = .ok (.putfield 18, 3) := by decide +kernel
theorem dX7_init_30 : decode cX7_init 30 = .ok (.aload_n 0, 1) := by decide +kernel
theorem dX7_init_31 : decode cX7_init 31 = .ok (.getfield 11, 3) := by decide +kernel
theorem dX7_init_34 : decode cX7_init 34 = .ok (.iconst 0, 1) := by decide +kernel
theorem dX7_init_35 : decode cX7_init 35 = .ok (.iconst (-1), 1) := by decide +kernel
theorem dX7_init_36 : decode cX7_init 36 = .ok (.iastore, 1) := by decide +kernel
theorem dX7_init_37 : decode cX7_init 37 = .ok (.aload_n 0, 1) := by decide +kernel
theorem dX7_init_38 : decode cX7_init 38 = .ok (.getfield 11, 3) := by decide +kernel
theorem dX7_init_41 : decode cX7_init 41 = .ok (.iconst 4, 1) := by decide +kernel
theorem dX7_init_42 : decode cX7_init 42 = .ok (.iconst (-1), 1) := by decide +kernel
theorem dX7_init_43 : decode cX7_init 43 = .ok (.iastore, 1) := by decide +kernel
theorem dX7_init_44 : decode cX7_init 44 = .ok (.return_, 1) := by decide +kernel
def wX7_init (a0 : Nat) (S : kp_S) (post : kp_S → Prop) : Prop :=
  ∀ (b1 : Nat) (T2 : kp_S), b1 ∉ kp_L S → T2 = kp_newA S b1 14 19 →
  ∀ T3 : kp_S, T3 = kp_sR T2 1400 a0 b1 →
  ∀ (b4 : Nat) (T5 : kp_S), b4 ∉ kp_L T3 → T5 = kp_newA T3 b4 14 300 →
  ∀ T6 : kp_S, T6 = kp_sR T5 1401 a0 b4 →
  ∀ (b7 : Nat) (T8 : kp_S), b7 ∉ kp_L T6 → T8 = kp_newA T6 b7 14 300 →
  ∀ T9 : kp_S, T9 = kp_sR T8 1402 a0 b7 →
  ∃ b10 : Nat, kp_R T9 1400 a0 = some b10 ∧
  vp_in ((0 : Int32)) (kp_N T9 b10) ∧ ∀ T11 : kp_S, T11 = kp_sA T9 b10 (upd (kp_A T9 b10) (((0 : Int32)).toNatClampNeg) (-1)) →
  vp_in ((4 : Int32)) (kp_N T11 b10) ∧ ∀ T12 : kp_S, T12 = kp_sA T11 b10 (upd (kp_A T11 b10) (((4 : Int32)).toNatClampNeg) (-1)) →
  post T12
set_option maxHeartbeats 4000000 in
set_option maxRecDepth 100000 in
theorem c_X7_init (l : Launch) (D : va_G) (cy : Nat → ClassId) (ad : (Nat → Nat) × (Nat → Nat)) (S : kp_S) (a0 : Nat) (post : kp_S → Prop) (hS : kp_ok S) (f_a0 : kp_is S a0 7) (hw : wX7_init a0 S post) : kp_M l yX7_init cX7_init 1 none { frames := 1, cells := 3, slots := 619, locals := 20 } D cy ad S [.ref a0] 3 619 (fun A => kp_Qv D cy A S post) := by
  refine kp_start (own := RX7) (by decide) rfl (Nat.le_of_ble_eq_true rfl) hS ?_
  intro p e s m below meth c A ls X hr hlocks hname h hl
  have hle : kp_le S S := kp_le.rf
  have hl : lv_has ls 1 [(0, .ref a0)] := hl
  unfold wX7_init at hw
  have h : kp_H D cy A S s.heap s.heap [] := h
  revert h
  intro h
  refine lv_aload_n X.1 X.2.1 dX7_init_0 rfl (lv_at hl 0 rfl) ?_
  refine kp_objInit X hl.1 oi_7_3 (by decide) (by decide) dX7_init_1 ?_
  refine lv_aload_n X.1 X.2.1 dX7_init_4 rfl (lv_at hl 0 rfl) ?_
  refine lv_bipush (v := 19) X.1 X.2.1 dX7_init_5 (by decide) ?_
  refine kp_newi (n := 19) X h ac_14 (by decide) (by decide) (by decide) (by decide) (by decide) dX7_init_7 (fun b1 T2 n_b1 e_T2 l_T2 f_b1 H h => ?_)
  have hw := hw b1 T2 n_b1 e_T2
  have f_a0 := l_T2.is f_a0
  have hle := hle.tr l_T2
  refine W.widen (k := 1) (n := 19) (by decide) (by decide) ?_
  refine kp_putRF X hname h f_a0 ff_7_11 f_b1 rfl ⟨by decide, by decide⟩ ⟨rfl, rfl⟩ dX7_init_9 (fun T3 e_T3 l_T3 H locs h => ?_)
  have hw := hw T3 e_T3
  have f_a0 := l_T3.is f_a0
  have f_b1 := l_T3.is f_b1
  have hle := hle.tr l_T3
  refine lv_aload_n X.1 X.2.1 dX7_init_12 rfl (lv_at hl 0 rfl) ?_
  refine lv_sipush (v := 300) X.1 X.2.1 dX7_init_13 (by decide) ?_
  refine kp_newi (n := 300) X h ac_14 (by decide) (by decide) (by decide) (by decide) (by decide) dX7_init_16 (fun b4 T5 n_b4 e_T5 l_T5 f_b4 H h => ?_)
  have hw := hw b4 T5 n_b4 e_T5
  have f_a0 := l_T5.is f_a0
  have f_b1 := l_T5.is f_b1
  have hle := hle.tr l_T5
  refine W.widen (k := 2) (n := 319) (by decide) (by decide) ?_
  refine kp_putRF X hname h f_a0 ff_7_15 f_b4 rfl ⟨by decide, by decide⟩ ⟨rfl, rfl⟩ dX7_init_18 (fun T6 e_T6 l_T6 H locs h => ?_)
  have hw := hw T6 e_T6
  have f_a0 := l_T6.is f_a0
  have f_b1 := l_T6.is f_b1
  have f_b4 := l_T6.is f_b4
  have hle := hle.tr l_T6
  refine lv_aload_n X.1 X.2.1 dX7_init_21 rfl (lv_at hl 0 rfl) ?_
  refine lv_sipush (v := 300) X.1 X.2.1 dX7_init_22 (by decide) ?_
  refine kp_newi (n := 300) X h ac_14 (by decide) (by decide) (by decide) (by decide) (by decide) dX7_init_25 (fun b7 T8 n_b7 e_T8 l_T8 f_b7 H h => ?_)
  have hw := hw b7 T8 n_b7 e_T8
  have f_a0 := l_T8.is f_a0
  have f_b1 := l_T8.is f_b1
  have f_b4 := l_T8.is f_b4
  have hle := hle.tr l_T8
  refine W.widen (k := 3) (n := 619) (by decide) (by decide) ?_
  refine kp_putRF X hname h f_a0 ff_7_18 f_b7 rfl ⟨by decide, by decide⟩ ⟨rfl, rfl⟩ dX7_init_27 (fun T9 e_T9 l_T9 H locs h => ?_)
  have hw := hw T9 e_T9
  have f_a0 := l_T9.is f_a0
  have f_b1 := l_T9.is f_b1
  have f_b4 := l_T9.is f_b4
  have f_b7 := l_T9.is f_b7
  have hle := hle.tr l_T9
  refine lv_aload_n X.1 X.2.1 dX7_init_30 rfl (lv_at hl 0 rfl) ?_
  obtain ⟨b10, e_b10, hw⟩ := hw
  have f_b10 := h.2.2.2.rf (c := 7) (k := 0) f_a0 (by decide) (by decide) e_b10 (t := 14) rfl
  refine kp_get X h f_a0 ff_7_11.l (v := .ref b10) (congrArg va_rf e_b10) dX7_init_31 ?_
  refine lv_iconst (v := 0) X.1 X.2.1 dX7_init_34 (by decide) ?_
  refine lv_iconst (v := (-1)) X.1 X.2.1 dX7_init_35 (by decide) ?_
  obtain ⟨hi, hw⟩ := hw
  refine kp_iast X h f_b10 hi dX7_init_36 (fun T11 e_T11 l_T11 H locs h => ?_)
  have hw := hw T11 e_T11
  have f_a0 := l_T11.is f_a0
  have f_b1 := l_T11.is f_b1
  have f_b4 := l_T11.is f_b4
  have f_b7 := l_T11.is f_b7
  have f_b10 := l_T11.is f_b10
  have hle := hle.tr l_T11
  have e_b10 : kp_R T11 1400 a0 = some b10 := by rw [e_T11]; exact e_b10
  refine lv_aload_n X.1 X.2.1 dX7_init_37 rfl (lv_at hl 0 rfl) ?_
  refine kp_get X h f_a0 ff_7_11.l (v := .ref b10) (congrArg va_rf e_b10) dX7_init_38 ?_
  refine lv_iconst (v := 4) X.1 X.2.1 dX7_init_41 (by decide) ?_
  refine lv_iconst (v := (-1)) X.1 X.2.1 dX7_init_42 (by decide) ?_
  obtain ⟨hi, hw⟩ := hw
  refine kp_iast X h f_b10 hi dX7_init_43 (fun T12 e_T12 l_T12 H locs h => ?_)
  have hw := hw T12 e_T12
  have f_a0 := l_T12.is f_a0
  have f_b1 := l_T12.is f_b1
  have f_b4 := l_T12.is f_b4
  have f_b7 := l_T12.is f_b7
  have f_b10 := l_T12.is f_b10
  have hle := hle.tr l_T12
  have e_b10 : kp_R T12 1400 a0 = some b10 := by rw [e_T12]; exact e_b10
  exact kp_retv X hr hlocks h hle hw dX7_init_44
theorem dX5_init_0 : decode cX5_init 0 = .ok (.aload_n 0, 1) := by decide +kernel
theorem dX5_init_1 : decode cX5_init 1 = .ok (.invokespecial 3, 3) := by decide +kernel
theorem dX5_init_4 : decode cX5_init 4 = .ok (.aload_n 0, 1) := by decide +kernel
theorem dX5_init_5 : decode cX5_init 5 = .ok (.sipush 300, 3) := by decide +kernel
theorem dX5_init_8 : decode cX5_init 8 = .ok (.newarray .long, 2) := by decide +kernel
theorem dX5_init_10 : decode cX5_init 10 = .ok (.putfield 11, 3) := by decide +kernel
theorem dX5_init_13 : decode cX5_init 13 = .ok (.aload_n 0, 1) := by decide +kernel
theorem dX5_init_14 : decode cX5_init 14 = .ok (.sipush 300, 3) := by decide +kernel
theorem dX5_init_17 : decode cX5_init 17 = .ok (.newarray .int, 2) := by decide +kernel
theorem dX5_init_19 : decode cX5_init 19 = .ok (.putfield 15, 3) := by decide +kernel
theorem dX5_init_22 : decode cX5_init 22 = .ok (.aload_n 0, 1) := by decide +kernel
theorem dX5_init_23 : decode cX5_init 23 = .ok (.bipush 24, 2) := by decide +kernel
theorem dX5_init_25 : decode cX5_init 25 = .ok (.newarray .long, 2) := by decide +kernel
theorem dX5_init_27 : decode cX5_init 27 = .ok (.putfield 19, 3) := by decide +kernel
theorem dX5_init_30 : decode cX5_init 30 = .ok (.aload_n 0, 1) := by decide +kernel
theorem dX5_init_31 : decode cX5_init 31 = .ok (.bipush 24, 2) := by decide +kernel
theorem dX5_init_33 : decode cX5_init 33 = .ok (.newarray .int, 2) := by decide +kernel
theorem dX5_init_35 : decode cX5_init 35 = .ok (.putfield 22, 3) := by decide +kernel
theorem dX5_init_38 : decode cX5_init 38 = .ok (.aload_n 0, 1) := by decide +kernel
theorem dX5_init_39 : decode cX5_init 39 = .ok (.bipush 14, 2) := by decide +kernel
theorem dX5_init_41 : decode cX5_init 41 = .ok (.newarray .long, 2) := by decide +kernel
theorem dX5_init_43 : decode cX5_init 43 = .ok (.putfield 25, 3) := by decide +kernel
theorem dX5_init_46 : decode cX5_init 46 = .ok (.aload_n 0, 1) := by decide +kernel
theorem dX5_init_47 : decode cX5_init 47 = .ok (.bipush 14, 2) := by decide +kernel
theorem dX5_init_49 : decode cX5_init 49 = .ok (.newarray .int, 2) := by decide +kernel
theorem dX5_init_51 : decode cX5_init 51 = .ok (.putfield 28, 3) := by decide +kernel
theorem dX5_init_54 : decode cX5_init 54 = .ok (.return_, 1) := by decide +kernel
def wX5_init (a0 : Nat) (S : kp_S) (post : kp_S → Prop) : Prop :=
  ∀ (b1 : Nat) (T2 : kp_S), b1 ∉ kp_L S → T2 = kp_newA S b1 15 300 →
  ∀ T3 : kp_S, T3 = kp_sR T2 1000 a0 b1 →
  ∀ (b4 : Nat) (T5 : kp_S), b4 ∉ kp_L T3 → T5 = kp_newA T3 b4 14 300 →
  ∀ T6 : kp_S, T6 = kp_sR T5 1001 a0 b4 →
  ∀ (b7 : Nat) (T8 : kp_S), b7 ∉ kp_L T6 → T8 = kp_newA T6 b7 15 24 →
  ∀ T9 : kp_S, T9 = kp_sR T8 1003 a0 b7 →
  ∀ (b10 : Nat) (T11 : kp_S), b10 ∉ kp_L T9 → T11 = kp_newA T9 b10 14 24 →
  ∀ T12 : kp_S, T12 = kp_sR T11 1004 a0 b10 →
  ∀ (b13 : Nat) (T14 : kp_S), b13 ∉ kp_L T12 → T14 = kp_newA T12 b13 15 14 →
  ∀ T15 : kp_S, T15 = kp_sR T14 1007 a0 b13 →
  ∀ (b16 : Nat) (T17 : kp_S), b16 ∉ kp_L T15 → T17 = kp_newA T15 b16 14 14 →
  ∀ T18 : kp_S, T18 = kp_sR T17 1008 a0 b16 →
  post T18
set_option maxHeartbeats 4000000 in
set_option maxRecDepth 100000 in
theorem c_X5_init (l : Launch) (D : va_G) (cy : Nat → ClassId) (ad : (Nat → Nat) × (Nat → Nat)) (S : kp_S) (a0 : Nat) (post : kp_S → Prop) (hS : kp_ok S) (f_a0 : kp_is S a0 5) (hw : wX5_init a0 S post) : kp_M l yX5_init cX5_init 1 none { frames := 1, cells := 6, slots := 676, locals := 20 } D cy ad S [.ref a0] 6 676 (fun A => kp_Qv D cy A S post) := by
  refine kp_start (own := RX5) (by decide) rfl (Nat.le_of_ble_eq_true rfl) hS ?_
  intro p e s m below meth c A ls X hr hlocks hname h hl
  have hle : kp_le S S := kp_le.rf
  have hl : lv_has ls 1 [(0, .ref a0)] := hl
  unfold wX5_init at hw
  have h : kp_H D cy A S s.heap s.heap [] := h
  revert h
  intro h
  refine lv_aload_n X.1 X.2.1 dX5_init_0 rfl (lv_at hl 0 rfl) ?_
  refine kp_objInit X hl.1 oi_5_3 (by decide) (by decide) dX5_init_1 ?_
  refine lv_aload_n X.1 X.2.1 dX5_init_4 rfl (lv_at hl 0 rfl) ?_
  refine lv_sipush (v := 300) X.1 X.2.1 dX5_init_5 (by decide) ?_
  refine kp_newl (n := 300) X h ac_15 (by decide) (by decide) (by decide) (by decide) (by decide) dX5_init_8 (fun b1 T2 n_b1 e_T2 l_T2 f_b1 H h => ?_)
  have hw := hw b1 T2 n_b1 e_T2
  have f_a0 := l_T2.is f_a0
  have hle := hle.tr l_T2
  refine W.widen (k := 1) (n := 300) (by decide) (by decide) ?_
  refine kp_putRF X hname h f_a0 ff_5_11 f_b1 rfl ⟨by decide, by decide⟩ ⟨rfl, rfl⟩ dX5_init_10 (fun T3 e_T3 l_T3 H locs h => ?_)
  have hw := hw T3 e_T3
  have f_a0 := l_T3.is f_a0
  have f_b1 := l_T3.is f_b1
  have hle := hle.tr l_T3
  refine lv_aload_n X.1 X.2.1 dX5_init_13 rfl (lv_at hl 0 rfl) ?_
  refine lv_sipush (v := 300) X.1 X.2.1 dX5_init_14 (by decide) ?_
  refine kp_newi (n := 300) X h ac_14 (by decide) (by decide) (by decide) (by decide) (by decide) dX5_init_17 (fun b4 T5 n_b4 e_T5 l_T5 f_b4 H h => ?_)
  have hw := hw b4 T5 n_b4 e_T5
  have f_a0 := l_T5.is f_a0
  have f_b1 := l_T5.is f_b1
  have hle := hle.tr l_T5
  refine W.widen (k := 2) (n := 600) (by decide) (by decide) ?_
  refine kp_putRF X hname h f_a0 ff_5_15 f_b4 rfl ⟨by decide, by decide⟩ ⟨rfl, rfl⟩ dX5_init_19 (fun T6 e_T6 l_T6 H locs h => ?_)
  have hw := hw T6 e_T6
  have f_a0 := l_T6.is f_a0
  have f_b1 := l_T6.is f_b1
  have f_b4 := l_T6.is f_b4
  have hle := hle.tr l_T6
  refine lv_aload_n X.1 X.2.1 dX5_init_22 rfl (lv_at hl 0 rfl) ?_
  refine lv_bipush (v := 24) X.1 X.2.1 dX5_init_23 (by decide) ?_
  refine kp_newl (n := 24) X h ac_15 (by decide) (by decide) (by decide) (by decide) (by decide) dX5_init_25 (fun b7 T8 n_b7 e_T8 l_T8 f_b7 H h => ?_)
  have hw := hw b7 T8 n_b7 e_T8
  have f_a0 := l_T8.is f_a0
  have f_b1 := l_T8.is f_b1
  have f_b4 := l_T8.is f_b4
  have hle := hle.tr l_T8
  refine W.widen (k := 3) (n := 624) (by decide) (by decide) ?_
  refine kp_putRF X hname h f_a0 ff_5_19 f_b7 rfl ⟨by decide, by decide⟩ ⟨rfl, rfl⟩ dX5_init_27 (fun T9 e_T9 l_T9 H locs h => ?_)
  have hw := hw T9 e_T9
  have f_a0 := l_T9.is f_a0
  have f_b1 := l_T9.is f_b1
  have f_b4 := l_T9.is f_b4
  have f_b7 := l_T9.is f_b7
  have hle := hle.tr l_T9
  refine lv_aload_n X.1 X.2.1 dX5_init_30 rfl (lv_at hl 0 rfl) ?_
  refine lv_bipush (v := 24) X.1 X.2.1 dX5_init_31 (by decide) ?_
  refine kp_newi (n := 24) X h ac_14 (by decide) (by decide) (by decide) (by decide) (by decide) dX5_init_33 (fun b10 T11 n_b10 e_T11 l_T11 f_b10 H h => ?_)
  have hw := hw b10 T11 n_b10 e_T11
  have f_a0 := l_T11.is f_a0
  have f_b1 := l_T11.is f_b1
  have f_b4 := l_T11.is f_b4
  have f_b7 := l_T11.is f_b7
  have hle := hle.tr l_T11
  refine W.widen (k := 4) (n := 648) (by decide) (by decide) ?_
  refine kp_putRF X hname h f_a0 ff_5_22 f_b10 rfl ⟨by decide, by decide⟩ ⟨rfl, rfl⟩ dX5_init_35 (fun T12 e_T12 l_T12 H locs h => ?_)
  have hw := hw T12 e_T12
  have f_a0 := l_T12.is f_a0
  have f_b1 := l_T12.is f_b1
  have f_b4 := l_T12.is f_b4
  have f_b7 := l_T12.is f_b7
  have f_b10 := l_T12.is f_b10
  have hle := hle.tr l_T12
  refine lv_aload_n X.1 X.2.1 dX5_init_38 rfl (lv_at hl 0 rfl) ?_
  refine lv_bipush (v := 14) X.1 X.2.1 dX5_init_39 (by decide) ?_
  refine kp_newl (n := 14) X h ac_15 (by decide) (by decide) (by decide) (by decide) (by decide) dX5_init_41 (fun b13 T14 n_b13 e_T14 l_T14 f_b13 H h => ?_)
  have hw := hw b13 T14 n_b13 e_T14
  have f_a0 := l_T14.is f_a0
  have f_b1 := l_T14.is f_b1
  have f_b4 := l_T14.is f_b4
  have f_b7 := l_T14.is f_b7
  have f_b10 := l_T14.is f_b10
  have hle := hle.tr l_T14
  refine W.widen (k := 5) (n := 662) (by decide) (by decide) ?_
  refine kp_putRF X hname h f_a0 ff_5_25 f_b13 rfl ⟨by decide, by decide⟩ ⟨rfl, rfl⟩ dX5_init_43 (fun T15 e_T15 l_T15 H locs h => ?_)
  have hw := hw T15 e_T15
  have f_a0 := l_T15.is f_a0
  have f_b1 := l_T15.is f_b1
  have f_b4 := l_T15.is f_b4
  have f_b7 := l_T15.is f_b7
  have f_b10 := l_T15.is f_b10
  have f_b13 := l_T15.is f_b13
  have hle := hle.tr l_T15
  refine lv_aload_n X.1 X.2.1 dX5_init_46 rfl (lv_at hl 0 rfl) ?_
  refine lv_bipush (v := 14) X.1 X.2.1 dX5_init_47 (by decide) ?_
  refine kp_newi (n := 14) X h ac_14 (by decide) (by decide) (by decide) (by decide) (by decide) dX5_init_49 (fun b16 T17 n_b16 e_T17 l_T17 f_b16 H h => ?_)
  have hw := hw b16 T17 n_b16 e_T17
  have f_a0 := l_T17.is f_a0
  have f_b1 := l_T17.is f_b1
  have f_b4 := l_T17.is f_b4
  have f_b7 := l_T17.is f_b7
  have f_b10 := l_T17.is f_b10
  have f_b13 := l_T17.is f_b13
  have hle := hle.tr l_T17
  refine W.widen (k := 6) (n := 676) (by decide) (by decide) ?_
  refine kp_putRF X hname h f_a0 ff_5_28 f_b16 rfl ⟨by decide, by decide⟩ ⟨rfl, rfl⟩ dX5_init_51 (fun T18 e_T18 l_T18 H locs h => ?_)
  have hw := hw T18 e_T18
  have f_a0 := l_T18.is f_a0
  have f_b1 := l_T18.is f_b1
  have f_b4 := l_T18.is f_b4
  have f_b7 := l_T18.is f_b7
  have f_b10 := l_T18.is f_b10
  have f_b13 := l_T18.is f_b13
  have f_b16 := l_T18.is f_b16
  have hle := hle.tr l_T18
  exact kp_retv X hr hlocks h hle hw dX5_init_54
theorem dX2_init_0 : decode cX2_init 0 = .ok (.aload_n 0, 1) := by decide +kernel
theorem dX2_init_1 : decode cX2_init 1 = .ok (.invokespecial 3, 3) := by decide +kernel
theorem dX2_init_4 : decode cX2_init 4 = .ok (.aload_n 0, 1) := by decide +kernel
theorem dX2_init_5 : decode cX2_init 5 = .ok (.aload_n 1, 1) := by decide +kernel
theorem dX2_init_6 : decode cX2_init 6 = .ok (.putfield 9, 3) := by decide +kernel
theorem dX2_init_9 : decode cX2_init 9 = .ok (.aload_n 0, 1) := by decide +kernel
theorem dX2_init_10 : decode cX2_init 10 = .ok (.aload_n 2, 1) := by decide +kernel
theorem dX2_init_11 : decode cX2_init 11 = .ok (.putfield 15, 3) := by decide +kernel
theorem dX2_init_14 : decode cX2_init 14 = .ok (.aload_n 0, 1) := by decide +kernel
theorem dX2_init_15 : decode cX2_init 15 = .ok (.aload_n 3, 1) := by decide +kernel
theorem dX2_init_16 : decode cX2_init 16 = .ok (.putfield 19, 3) := by decide +kernel
theorem dX2_init_19 : decode cX2_init 19 = .ok (.return_, 1) := by decide +kernel
def wX2_init (a0 : Nat) (a1 : Nat) (a2 : Nat) (a3 : Nat) (S : kp_S) (post : kp_S → Prop) : Prop :=
  ∀ T1 : kp_S, T1 = kp_sR S 400 a0 a1 →
  ∀ T2 : kp_S, T2 = kp_sR T1 401 a0 a2 →
  ∀ T3 : kp_S, T3 = kp_sR T2 402 a0 a3 →
  post T3
set_option maxHeartbeats 4000000 in
set_option maxRecDepth 100000 in
theorem c_X2_init (l : Launch) (D : va_G) (cy : Nat → ClassId) (ad : (Nat → Nat) × (Nat → Nat)) (S : kp_S) (a0 : Nat) (a1 : Nat) (a2 : Nat) (a3 : Nat) (post : kp_S → Prop) (hS : kp_ok S) (f_a0 : kp_is S a0 2) (f_a1 : kp_is S a1 9) (f_a2 : kp_is S a2 5) (f_a3 : kp_is S a3 0) (hw : wX2_init a0 a1 a2 a3 S post) : kp_M l yX2_init cX2_init 4 none { frames := 1, cells := 0, slots := 0, locals := 20 } D cy ad S [.ref a0, .ref a1, .ref a2, .ref a3] 0 0 (fun A => kp_Qv D cy A S post) := by
  refine kp_start (own := RX2) (by decide) rfl (Nat.le_of_ble_eq_true rfl) hS ?_
  intro p e s m below meth c A ls X hr hlocks hname h hl
  have hle : kp_le S S := kp_le.rf
  have hl : lv_has ls 4 [(0, .ref a0), (1, .ref a1), (2, .ref a2), (3, .ref a3)] := hl
  unfold wX2_init at hw
  have h : kp_H D cy A S s.heap s.heap [] := h
  revert h
  intro h
  refine lv_aload_n X.1 X.2.1 dX2_init_0 rfl (lv_at hl 0 rfl) ?_
  refine kp_objInit X hl.1 oi_2_3 (by decide) (by decide) dX2_init_1 ?_
  refine lv_aload_n X.1 X.2.1 dX2_init_4 rfl (lv_at hl 0 rfl) ?_
  refine lv_aload_n X.1 X.2.1 dX2_init_5 rfl (lv_at hl 1 rfl) ?_
  refine kp_putRF X hname h f_a0 ff_2_9 f_a1 rfl ⟨by decide, by decide⟩ ⟨rfl, rfl⟩ dX2_init_6 (fun T1 e_T1 l_T1 H locs h => ?_)
  have hw := hw T1 e_T1
  have f_a0 := l_T1.is f_a0
  have f_a1 := l_T1.is f_a1
  have f_a2 := l_T1.is f_a2
  have f_a3 := l_T1.is f_a3
  have hle := hle.tr l_T1
  refine lv_aload_n X.1 X.2.1 dX2_init_9 rfl (lv_at hl 0 rfl) ?_
  refine lv_aload_n X.1 X.2.1 dX2_init_10 rfl (lv_at hl 2 rfl) ?_
  refine kp_putRF X hname h f_a0 ff_2_15 f_a2 rfl ⟨by decide, by decide⟩ ⟨rfl, rfl⟩ dX2_init_11 (fun T2 e_T2 l_T2 H locs h => ?_)
  have hw := hw T2 e_T2
  have f_a0 := l_T2.is f_a0
  have f_a1 := l_T2.is f_a1
  have f_a2 := l_T2.is f_a2
  have f_a3 := l_T2.is f_a3
  have hle := hle.tr l_T2
  refine lv_aload_n X.1 X.2.1 dX2_init_14 rfl (lv_at hl 0 rfl) ?_
  refine lv_aload_n X.1 X.2.1 dX2_init_15 rfl (lv_at hl 3 rfl) ?_
  refine kp_putR X h f_a0 fp_2_19 f_a3 rfl ⟨by decide, by decide⟩ ⟨rfl, rfl⟩ dX2_init_16 (fun T3 e_T3 l_T3 H locs h => ?_)
  have hw := hw T3 e_T3
  have f_a0 := l_T3.is f_a0
  have f_a1 := l_T3.is f_a1
  have f_a2 := l_T3.is f_a2
  have f_a3 := l_T3.is f_a3
  have hle := hle.tr l_T3
  exact kp_retv X hr hlocks h hle hw dX2_init_19
