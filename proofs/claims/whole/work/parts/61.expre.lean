set_option maxHeartbeats 4000000 in
set_option maxRecDepth 100000 in
theorem c_X2_sum (l : Launch) (D : va_G) (cy : Nat → ClassId) (ad : (Nat → Nat) × (Nat → Nat)) (F L : Nat) (U : Nat → kp_S → (Int32 → kp_S → Prop) → Prop) (N : Nat → kp_S → (Int32 → kp_S → Prop) → Prop) (hU : ∀ (S : kp_S) (a0 : Nat) (post : Int32 → kp_S → Prop), kp_ok S → kp_is S a0 2 → U a0 S post → kp_M l yX2_unit cX2_unit 1 (some .int) { frames := F, cells := 0, slots := 0, locals := L } D cy ad S [.ref a0] 0 0 (fun A => kp_Qi D cy A S post)) (hN : ∀ (S : kp_S) (a0 : Nat) (post : Int32 → kp_S → Prop), kp_ok S → kp_is S a0 2 → N a0 S post → kp_M l yX2_negation cX2_negation 2 (some .int) { frames := F, cells := 0, slots := 0, locals := L } D cy ad S [.ref a0] 0 0 (fun A => kp_Qi D cy A S post)) (hF : 7 ≤ F) (hL : 155 ≤ L) (S : kp_S) (a0 : Nat) (post : Int32 → kp_S → Prop) (hS : kp_ok S) (f_a0 : kp_is S a0 2) (hw : wX2_sum U N a0 S post) : kp_M l yX2_sum cX2_sum 4 (some .int) { frames := F + 2, cells := 0, slots := 0, locals := L + 45 } D cy ad S [.ref a0] 0 0 (fun A => kp_Qi D cy A S post) := by
  refine kp_start (own := RX2) (by decide) rfl (Nat.le_of_ble_eq_true rfl) hS ?_
  intro p e s m below meth c A ls X hr hlocks hname h hl
  have hle : kp_le S S := kp_le.rf
  have hl : lv_has ls 4 [(0, .ref a0)] := hl
  have j89 : ∀ (xn1 : Int32) (Sn : kp_S) (H : Heap) (locs : List Loc) (ls : Array Slot), lv_has ls 4 [(1, .int xn1)] → kp_H D cy A Sn s.heap H locs → kp_le S Sn → kp_is Sn a0 2 → wX2_sum_b89 U N a0 xn1  Sn post → W p l e { frames := F + 2, cells := 0, slots := 0, locals := L + 45 } s m ([.ref a0] : List Value).toArray below meth c H locs 0 0 (MQ below (kp_Qi D cy A S post) ([.ref a0] : List Value).toArray s 0 0 A) (F0 m 89 ls []) := by
    intro xn1 Sn H locs ls hl h hle f_a0 hw
    unfold wX2_sum_b89 at hw
    refine lv_iload_n X.1 X.2.1 dX2_sum_89 rfl (lv_at hl 0 rfl) ?_
    exact kp_reti X hr hlocks h hle rfl hw dX2_sum_90
  have L7 : ∀ n7 : Nat, ∀ (xn1 : Int32) (xn2 : Int32) (Sn : kp_S) (H : Heap) (locs : List Loc) (ls : Array Slot), lv_has ls 4 [(0, .ref a0), (1, .int xn1), (2, .int xn2)] → kp_H D cy A Sn s.heap H locs → kp_le S Sn → kp_is Sn a0 2 → wX2_sum_L7 U N a0  post n7 xn1 xn2 Sn → W p l e { frames := F + 2, cells := 0, slots := 0, locals := L + 45 } s m ([.ref a0] : List Value).toArray below meth c H locs 0 0 (MQ below (kp_Qi D cy A S post) ([.ref a0] : List Value).toArray s 0 0 A) (F0 m 7 ls []) := by
    intro n7
    induction n7 with
    | zero => intro xn1 xn2 Sn H locs ls hl h hle f_a0 hw; exact hw.elim
    | succ n7 ih7 =>
      have j57 : ∀ (xn1 : Int32) (xn2 : Int32) (xt0 : Int32) (Sn : kp_S) (H : Heap) (locs : List Loc) (ls : Array Slot), lv_has ls 4 [(0, .ref a0), (1, .int xn1), (2, .int xn2)] → kp_H D cy A Sn s.heap H locs → kp_le S Sn → kp_is Sn a0 2 → wX2_sum_b57 U N a0 xn1 xn2 xt0 (fun xn1_ xn2_ S_ => wX2_sum_L7 U N a0  post n7 xn1_ xn2_ S_) Sn post → W p l e { frames := F + 2, cells := 0, slots := 0, locals := L + 45 } s m ([.ref a0] : List Value).toArray below meth c H locs 0 0 (MQ below (kp_Qi D cy A S post) ([.ref a0] : List Value).toArray s 0 0 A) (F0 m 57 ls [.int xt0]) := by
        intro xn1 xn2 xt0 Sn H locs ls hl h hle f_a0 hw
        unfold wX2_sum_b57 at hw
        refine lv_istore_n (lv' := [(3, .int xt0), (0, .ref a0), (1, .int xn1), (2, .int xn2)]) X.1 X.2.1 dX2_sum_57 rfl hl (by decide) rfl (fun ls hl => ?_)
        refine lv_aload_n X.1 X.2.1 dX2_sum_58 rfl (lv_at hl 1 rfl) ?_
        obtain ⟨b2001, e_b2001, hw⟩ := hw
        have f_b2001 := h.2.2.2.rf (c := 2) (k := 0) f_a0 (by decide) (by decide) e_b2001 (t := 9) rfl
        refine kp_get X h f_a0 ff_2_9.l (v := .ref b2001) (congrArg va_rf e_b2001) dX2_sum_59 ?_
        refine kp_callv X h (kp_runV (rm := { frames := 5, cells := 0, slots := 0, locals := 113 }) (mc := 0) (ms := 0) (rest := []) (Qc := fun A => kp_Qv D cy A Sn _) X h (c_X9_advance l D cy ad Sn b2001 _ h.2.2.2 f_b2001 hw) f_b2001 cv_2_33 ⟨by dsimp only; omega, by dsimp only; omega, rfl, rfl, by dsimp only; omega, by dsimp only; omega⟩ rfl hl.1 rfl (Nat.le_of_ble_eq_true rfl) dX2_sum_62) (fun T2002 hw l_T2002 H locs h => ?_)
        have f_a0 := l_T2002.is f_a0
        have f_b2001 := l_T2002.is f_b2001
        have hle := hle.tr l_T2002
        refine lv_iload_n X.1 X.2.1 dX2_sum_65 rfl (lv_at hl 2 rfl) ?_
        refine lv_aload_n X.1 X.2.1 dX2_sum_66 rfl (lv_at hl 1 rfl) ?_
        refine kp_calli X h (kp_runV (rm := { frames := F + 1, cells := 0, slots := 0, locals := L + 20 }) (mc := 0) (ms := 0) (rest := [.int xn1]) (Qc := fun A => kp_Qi D cy A T2002 _) X h (c_X2_product l D cy ad F L U N hU hN hF hL T2002 a0 _ h.2.2.2 f_a0 hw) f_a0 cv_2_78 ⟨by dsimp only; omega, by dsimp only; omega, rfl, rfl, by dsimp only; omega, by dsimp only; omega⟩ rfl hl.1 rfl (Nat.le_of_ble_eq_true rfl) dX2_sum_67) (fun y2004 T2003 hw l_T2003 H locs h => ?_)
        have f_a0 := l_T2003.is f_a0
        have f_b2001 := l_T2003.is f_b2001
        have hle := hle.tr l_T2003
        refine lv_ior X.1 X.2.1 dX2_sum_70 ?_
        refine lv_iconst (v := 1) X.1 X.2.1 dX2_sum_71 (by decide) ?_
        refine lv_iand X.1 X.2.1 dX2_sum_72 ?_
        refine lv_topi (fun y2005 e_y2005 => ?_)
        have hw := hw y2005 e_y2005
        refine lv_istore_n (lv' := [(1, .int y2005), (3, .int xt0), (0, .ref a0), (2, .int xn2)]) X.1 X.2.1 dX2_sum_73 rfl hl (by decide) rfl (fun ls hl => ?_)
        refine lv_aload_n X.1 X.2.1 dX2_sum_74 rfl (lv_at hl 2 rfl) ?_
        obtain ⟨b2006, e_b2006, hw⟩ := hw
        have f_b2006 := h.2.2.2.rf (c := 2) (k := 2) f_a0 (by decide) (by decide) e_b2006 (t := 0) rfl
        refine kp_get X h f_a0 fp_2_19.l (v := .ref b2006) (congrArg va_rf e_b2006) dX2_sum_75 ?_
        refine lv_iload_n X.1 X.2.1 dX2_sum_78 rfl (lv_at hl 1 rfl) ?_
        refine kp_calli X h (kp_runV (rm := { frames := 0, cells := 0, slots := 0, locals := 0 }) (mc := 0) (ms := 0) (rest := []) (Qc := fun A => kp_Qi D cy A T2003 _) X h (c_X0_add l D cy ad T2003 b2006 xt0 _ h.2.2.2 f_b2006 hw) f_b2006 cv_2_49 ⟨by dsimp only; omega, by dsimp only; omega, rfl, rfl, by dsimp only; omega, by dsimp only; omega⟩ rfl hl.1 rfl (Nat.le_of_ble_eq_true rfl) dX2_sum_79) (fun y2008 T2007 hw l_T2007 H locs h => ?_)
        have f_a0 := l_T2007.is f_a0
        have f_b2001 := l_T2007.is f_b2001
        have f_b2006 := l_T2007.is f_b2006
        have hle := hle.tr l_T2007
        refine lv_pop X.1 X.2.1 dX2_sum_82 rfl ?_
        obtain ⟨y2009, e_y2009⟩ : ∃ y : Int32, y = xn2 + 1 := ⟨_, rfl⟩
        have hw := hw y2009 e_y2009
        refine lv_iinc (v := y2009) (lv' := [(2, .int y2009), (1, .int y2005), (3, .int xt0), (0, .ref a0)]) X.1 X.2.1 dX2_sum_83 hl (k := 3) rfl (by rw [e_y2009]; rfl) (by decide) rfl (fun ls hl => ?_)
        refine lv_goto (tgt := 7) X.1 X.2.1 dX2_sum_86 (by decide) ?_
        exact ih7 y2005 y2009 T2007 H locs ls (lv_sub hl [3, 1, 0] rfl) h hle f_a0 hw
      have j38 : ∀ (xn1 : Int32) (xn2 : Int32) (Sn : kp_S) (H : Heap) (locs : List Loc) (ls : Array Slot), lv_has ls 4 [(0, .ref a0), (1, .int xn1), (2, .int xn2)] → kp_H D cy A Sn s.heap H locs → kp_le S Sn → kp_is Sn a0 2 → wX2_sum_b38 U N a0 xn1 xn2 (fun xn1_ xn2_ S_ => wX2_sum_L7 U N a0  post n7 xn1_ xn2_ S_) Sn post → W p l e { frames := F + 2, cells := 0, slots := 0, locals := L + 45 } s m ([.ref a0] : List Value).toArray below meth c H locs 0 0 (MQ below (kp_Qi D cy A S post) ([.ref a0] : List Value).toArray s 0 0 A) (F0 m 38 ls []) := by
        intro xn1 xn2 Sn H locs ls hl h hle f_a0 hw
        unfold wX2_sum_b38 at hw
        refine lv_aload_n X.1 X.2.1 dX2_sum_38 rfl (lv_at hl 0 rfl) ?_
        obtain ⟨b3001, e_b3001, hw⟩ := hw
        have f_b3001 := h.2.2.2.rf (c := 2) (k := 0) f_a0 (by decide) (by decide) e_b3001 (t := 9) rfl
        refine kp_get X h f_a0 ff_2_9.l (v := .ref b3001) (congrArg va_rf e_b3001) dX2_sum_39 ?_
        refine kp_get X h f_b3001 fp_2_27.l (v := .int (kp_I Sn 1805 b3001)) rfl dX2_sum_42 ?_
        refine lv_bipush (v := 43) X.1 X.2.1 dX2_sum_45 (by decide) ?_
        refine lv_icmp_ne (tgt := 55) X.1 X.2.1 dX2_sum_47 (by decide) (fun c3002 => ?_) (fun c3002 => ?_)
        · have hw := hw.1 c3002
          refine lv_bipush (v := 9) X.1 X.2.1 dX2_sum_55 (by decide) ?_
          exact j57 xn1 xn2 9 Sn H locs ls (lv_sub hl [0, 1, 2] rfl) h hle f_a0 hw
        · have hw := hw.2 c3002
          refine lv_bipush (v := 8) X.1 X.2.1 dX2_sum_50 (by decide) ?_
          refine lv_goto (tgt := 57) X.1 X.2.1 dX2_sum_52 (by decide) ?_
          exact j57 xn1 xn2 8 Sn H locs ls (lv_sub hl [0, 1, 2] rfl) h hle f_a0 hw
      intro xn1 xn2 Sn H locs ls hl h hle f_a0 hw
      unfold wX2_sum_L7 at hw
      refine lv_iload_n X.1 X.2.1 dX2_sum_7 rfl (lv_at hl 2 rfl) ?_
      refine lv_sipush (v := 3000) X.1 X.2.1 dX2_sum_8 (by decide) ?_
      refine lv_icmp_ge (tgt := 89) X.1 X.2.1 dX2_sum_11 (by decide) (fun c4004 => ?_) (fun c4004 => ?_)
      · have hw := hw.1 c4004
        exact j89 xn1 Sn H locs ls (lv_sub hl [1] rfl) h hle f_a0 hw
      · have hw := hw.2 c4004
        refine lv_aload_n X.1 X.2.1 dX2_sum_14 rfl (lv_at hl 0 rfl) ?_
        obtain ⟨b4001, e_b4001, hw⟩ := hw
        have f_b4001 := h.2.2.2.rf (c := 2) (k := 0) f_a0 (by decide) (by decide) e_b4001 (t := 9) rfl
        refine kp_get X h f_a0 ff_2_9.l (v := .ref b4001) (congrArg va_rf e_b4001) dX2_sum_15 ?_
        refine kp_get X h f_b4001 fp_2_27.l (v := .int (kp_I Sn 1805 b4001)) rfl dX2_sum_18 ?_
        refine lv_bipush (v := 43) X.1 X.2.1 dX2_sum_21 (by decide) ?_
        refine lv_icmp_eq (tgt := 38) X.1 X.2.1 dX2_sum_23 (by decide) (fun c4003 => ?_) (fun c4003 => ?_)
        · have hw := hw.1 c4003
          exact j38 xn1 xn2 Sn H locs ls (lv_sub hl [0, 1, 2] rfl) h hle f_a0 hw
        · have hw := hw.2 c4003
          refine lv_aload_n X.1 X.2.1 dX2_sum_26 rfl (lv_at hl 0 rfl) ?_
          refine kp_get X h f_a0 ff_2_9.l (v := .ref b4001) (congrArg va_rf e_b4001) dX2_sum_27 ?_
          refine kp_get X h f_b4001 fp_2_27.l (v := .int (kp_I Sn 1805 b4001)) rfl dX2_sum_30 ?_
          refine lv_bipush (v := 45) X.1 X.2.1 dX2_sum_33 (by decide) ?_
          refine lv_icmp_ne (tgt := 89) X.1 X.2.1 dX2_sum_35 (by decide) (fun c4002 => ?_) (fun c4002 => ?_)
          · have hw := hw.1 c4002
            exact j89 xn1 Sn H locs ls (lv_sub hl [1] rfl) h hle f_a0 hw
          · have hw := hw.2 c4002
            exact j38 xn1 xn2 Sn H locs ls (lv_sub hl [0, 1, 2] rfl) h hle f_a0 hw
  unfold wX2_sum at hw
  have h : kp_H D cy A S s.heap s.heap [] := h
  revert h
  intro h
  refine lv_aload_n X.1 X.2.1 dX2_sum_0 rfl (lv_at hl 0 rfl) ?_
  refine kp_calli X h (kp_runV (rm := { frames := F + 1, cells := 0, slots := 0, locals := L + 20 }) (mc := 0) (ms := 0) (rest := []) (Qc := fun A => kp_Qi D cy A S _) X h (c_X2_product l D cy ad F L U N hU hN hF hL S a0 _ h.2.2.2 f_a0 hw) f_a0 cv_2_78 ⟨by dsimp only; omega, by dsimp only; omega, rfl, rfl, by dsimp only; omega, by dsimp only; omega⟩ rfl hl.1 rfl (Nat.le_of_ble_eq_true rfl) dX2_sum_1) (fun y2 T1 hw l_T1 H locs h => ?_)
  have f_a0 := l_T1.is f_a0
  have hle := hle.tr l_T1
  refine lv_istore_n (lv' := [(1, .int y2), (0, .ref a0)]) X.1 X.2.1 dX2_sum_4 rfl hl (by decide) rfl (fun ls hl => ?_)
  refine lv_iconst (v := 0) X.1 X.2.1 dX2_sum_5 (by decide) ?_
  refine lv_istore_n (lv' := [(2, .int 0), (1, .int y2), (0, .ref a0)]) X.1 X.2.1 dX2_sum_6 rfl hl (by decide) rfl (fun ls hl => ?_)
  obtain ⟨n0, hw⟩ := hw
  exact L7 n0 y2 0 T1 _ _ ls (lv_sub hl [2, 1, 0] rfl) h hle f_a0 hw
theorem dX2_test_0 : decode cX2_test 0 = .ok (.aload_n 0, 1) := by decide +kernel
theorem dX2_test_1 : decode cX2_test 1 = .ok (.invokevirtual 72, 3) := by decide +kernel
theorem dX2_test_4 : decode cX2_test 4 = .ok (.istore_n 1, 1) := by decide +kernel
theorem dX2_test_5 : decode cX2_test 5 = .ok (.aload_n 0, 1) := by decide +kernel
theorem dX2_test_6 : decode cX2_test 6 = .ok (.getfield 9, 3) := by decide +kernel
theorem dX2_test_9 : decode cX2_test 9 = .ok (.getfield 27, 3) := by decide +kernel
theorem dX2_test_12 : decode cX2_test 12 = .ok (.invokestatic 75, 3) := by decide +kernel
theorem dX2_test_15 : decode cX2_test 15 = .ok (.istore_n 2, 1) := by decide +kernel
theorem dX2_test_16 : decode cX2_test 16 = .ok (.iload_n 2, 1) := by decide +kernel
theorem dX2_test_17 : decode cX2_test 17 = .ok (.iconst (-1), 1) := by decide +kernel
theorem dX2_test_18 : decode cX2_test 18 = .ok (.if_icmp .eq 28, 3) := by decide +kernel
theorem dX2_test_21 : decode cX2_test 21 = .ok (.aload_n 0, 1) := by decide +kernel
theorem dX2_test_22 : decode cX2_test 22 = .ok (.getfield 9, 3) := by decide +kernel
theorem dX2_test_25 : decode cX2_test 25 = .ok (.invokevirtual 33, 3) := by decide +kernel
theorem dX2_test_28 : decode cX2_test 28 = .ok (.iload_n 1, 1) := by decide +kernel
theorem dX2_test_29 : decode cX2_test 29 = .ok (.aload_n 0, 1) := by decide +kernel
theorem dX2_test_30 : decode cX2_test 30 = .ok (.invokevirtual 72, 3) := by decide +kernel
theorem dX2_test_33 : decode cX2_test 33 = .ok (.ior, 1) := by decide +kernel
theorem dX2_test_34 : decode cX2_test 34 = .ok (.iconst 1, 1) := by decide +kernel
theorem dX2_test_35 : decode cX2_test 35 = .ok (.iand, 1) := by decide +kernel
theorem dX2_test_36 : decode cX2_test 36 = .ok (.istore_n 1, 1) := by decide +kernel
theorem dX2_test_37 : decode cX2_test 37 = .ok (.aload_n 0, 1) := by decide +kernel
theorem dX2_test_38 : decode cX2_test 38 = .ok (.getfield 19, 3) := by decide +kernel
theorem dX2_test_41 : decode cX2_test 41 = .ok (.iload_n 2, 1) := by decide +kernel
theorem dX2_test_42 : decode cX2_test 42 = .ok (.invokevirtual 49, 3) := by decide +kernel
theorem dX2_test_45 : decode cX2_test 45 = .ok (.pop, 1) := by decide +kernel
theorem dX2_test_46 : decode cX2_test 46 = .ok (.iload_n 1, 1) := by decide +kernel
theorem dX2_test_47 : decode cX2_test 47 = .ok (.ireturn, 1) := by decide +kernel
def wX2_test_b46 (U : Nat → kp_S → (Int32 → kp_S → Prop) → Prop) (N : Nat → kp_S → (Int32 → kp_S → Prop) → Prop) (a0 : Nat) (xn1 : Int32)  (Sn : kp_S) (post : Int32 → kp_S → Prop) : Prop :=
  post xn1 Sn
def wX2_test (U : Nat → kp_S → (Int32 → kp_S → Prop) → Prop) (N : Nat → kp_S → (Int32 → kp_S → Prop) → Prop) (a0 : Nat) (S : kp_S) (post : Int32 → kp_S → Prop) : Prop :=
  wX2_sum U N a0 S (fun y2 T1 =>
  ∃ b3 : Nat, kp_R T1 400 a0 = some b3 ∧
  wX2_comparison (kp_I T1 1805 b3) T1 (fun y5 T4 =>
  ((y5 = (-1) →
  wX2_test_b46 U N a0 y2  T4 post) ∧ (¬ y5 = (-1) →
  ∃ b6 : Nat, kp_R T4 400 a0 = some b6 ∧
  wX9_advance b6 T4 (fun T7 =>
  wX2_sum U N a0 T7 (fun y9 T8 =>
  ∀ y10 : Int32, y10 = ((y2 ||| y9) &&& 1) →
  ∃ b11 : Nat, kp_R T8 402 a0 = some b11 ∧
  wX0_add b11 y5 T8 (fun y13 T12 =>
  wX2_test_b46 U N a0 y10  T12 post)))))))
set_option maxHeartbeats 4000000 in
set_option maxRecDepth 100000 in
theorem c_X2_test (l : Launch) (D : va_G) (cy : Nat → ClassId) (ad : (Nat → Nat) × (Nat → Nat)) (F L : Nat) (U : Nat → kp_S → (Int32 → kp_S → Prop) → Prop) (N : Nat → kp_S → (Int32 → kp_S → Prop) → Prop) (hU : ∀ (S : kp_S) (a0 : Nat) (post : Int32 → kp_S → Prop), kp_ok S → kp_is S a0 2 → U a0 S post → kp_M l yX2_unit cX2_unit 1 (some .int) { frames := F, cells := 0, slots := 0, locals := L } D cy ad S [.ref a0] 0 0 (fun A => kp_Qi D cy A S post)) (hN : ∀ (S : kp_S) (a0 : Nat) (post : Int32 → kp_S → Prop), kp_ok S → kp_is S a0 2 → N a0 S post → kp_M l yX2_negation cX2_negation 2 (some .int) { frames := F, cells := 0, slots := 0, locals := L } D cy ad S [.ref a0] 0 0 (fun A => kp_Qi D cy A S post)) (hF : 7 ≤ F) (hL : 155 ≤ L) (S : kp_S) (a0 : Nat) (post : Int32 → kp_S → Prop) (hS : kp_ok S) (f_a0 : kp_is S a0 2) (hw : wX2_test U N a0 S post) : kp_M l yX2_test cX2_test 3 (some .int) { frames := F + 3, cells := 0, slots := 0, locals := L + 68 } D cy ad S [.ref a0] 0 0 (fun A => kp_Qi D cy A S post) := by
  refine kp_start (own := RX2) (by decide) rfl (Nat.le_of_ble_eq_true rfl) hS ?_
  intro p e s m below meth c A ls X hr hlocks hname h hl
  have hle : kp_le S S := kp_le.rf
  have hl : lv_has ls 3 [(0, .ref a0)] := hl
  have j46 : ∀ (xn1 : Int32) (Sn : kp_S) (H : Heap) (locs : List Loc) (ls : Array Slot), lv_has ls 3 [(1, .int xn1)] → kp_H D cy A Sn s.heap H locs → kp_le S Sn → kp_is Sn a0 2 → wX2_test_b46 U N a0 xn1  Sn post → W p l e { frames := F + 3, cells := 0, slots := 0, locals := L + 68 } s m ([.ref a0] : List Value).toArray below meth c H locs 0 0 (MQ below (kp_Qi D cy A S post) ([.ref a0] : List Value).toArray s 0 0 A) (F0 m 46 ls []) := by
    intro xn1 Sn H locs ls hl h hle f_a0 hw
    unfold wX2_test_b46 at hw
    refine lv_iload_n X.1 X.2.1 dX2_test_46 rfl (lv_at hl 0 rfl) ?_
    exact kp_reti X hr hlocks h hle rfl hw dX2_test_47
  unfold wX2_test at hw
  have h : kp_H D cy A S s.heap s.heap [] := h
  revert h
  intro h
  refine lv_aload_n X.1 X.2.1 dX2_test_0 rfl (lv_at hl 0 rfl) ?_
  refine kp_calli X h (kp_runV (rm := { frames := F + 2, cells := 0, slots := 0, locals := L + 45 }) (mc := 0) (ms := 0) (rest := []) (Qc := fun A => kp_Qi D cy A S _) X h (c_X2_sum l D cy ad F L U N hU hN hF hL S a0 _ h.2.2.2 f_a0 hw) f_a0 cv_2_72 ⟨by dsimp only; omega, by dsimp only; omega, rfl, rfl, by dsimp only; omega, by dsimp only; omega⟩ rfl hl.1 rfl (Nat.le_of_ble_eq_true rfl) dX2_test_1) (fun y2 T1 hw l_T1 H locs h => ?_)
  have f_a0 := l_T1.is f_a0
  have hle := hle.tr l_T1
  refine lv_istore_n (lv' := [(1, .int y2), (0, .ref a0)]) X.1 X.2.1 dX2_test_4 rfl hl (by decide) rfl (fun ls hl => ?_)
  refine lv_aload_n X.1 X.2.1 dX2_test_5 rfl (lv_at hl 1 rfl) ?_
  obtain ⟨b3, e_b3, hw⟩ := hw
  have f_b3 := h.2.2.2.rf (c := 2) (k := 0) f_a0 (by decide) (by decide) e_b3 (t := 9) rfl
  refine kp_get X h f_a0 ff_2_9.l (v := .ref b3) (congrArg va_rf e_b3) dX2_test_6 ?_
  refine kp_get X h f_b3 fp_2_27.l (v := .int (kp_I T1 1805 b3)) rfl dX2_test_9 ?_
  refine kp_calli X h (kp_runS (rm := { frames := 0, cells := 0, slots := 0, locals := 0 }) (mc := 0) (ms := 0) (rest := []) (Qc := fun A => kp_Qi D cy A T1 _) X h (c_X2_comparison l D cy ad T1 (kp_I T1 1805 b3) _ h.2.2.2  hw) cs_2_75 ⟨by dsimp only; omega, by dsimp only; omega, rfl, rfl, by dsimp only; omega, by dsimp only; omega⟩ rfl hl.1 rfl (Nat.le_of_ble_eq_true rfl) dX2_test_12) (fun y5 T4 hw l_T4 H locs h => ?_)
  have f_a0 := l_T4.is f_a0
  have f_b3 := l_T4.is f_b3
  have hle := hle.tr l_T4
  refine lv_istore_n (lv' := [(2, .int y5), (1, .int y2), (0, .ref a0)]) X.1 X.2.1 dX2_test_15 rfl hl (by decide) rfl (fun ls hl => ?_)
  refine lv_iload_n X.1 X.2.1 dX2_test_16 rfl (lv_at hl 0 rfl) ?_
  refine lv_iconst (v := (-1)) X.1 X.2.1 dX2_test_17 (by decide) ?_
  refine lv_icmp_eq (tgt := 46) X.1 X.2.1 dX2_test_18 (by decide) (fun c14 => ?_) (fun c14 => ?_)
  · have hw := hw.1 c14
    exact j46 y2 T4 _ _ ls (lv_sub hl [1] rfl) h hle f_a0 hw
  · have hw := hw.2 c14
    refine lv_aload_n X.1 X.2.1 dX2_test_21 rfl (lv_at hl 2 rfl) ?_
    obtain ⟨b6, e_b6, hw⟩ := hw
    have f_b6 := h.2.2.2.rf (c := 2) (k := 0) f_a0 (by decide) (by decide) e_b6 (t := 9) rfl
    refine kp_get X h f_a0 ff_2_9.l (v := .ref b6) (congrArg va_rf e_b6) dX2_test_22 ?_
    refine kp_callv X h (kp_runV (rm := { frames := 5, cells := 0, slots := 0, locals := 113 }) (mc := 0) (ms := 0) (rest := []) (Qc := fun A => kp_Qv D cy A T4 _) X h (c_X9_advance l D cy ad T4 b6 _ h.2.2.2 f_b6 hw) f_b6 cv_2_33 ⟨by dsimp only; omega, by dsimp only; omega, rfl, rfl, by dsimp only; omega, by dsimp only; omega⟩ rfl hl.1 rfl (Nat.le_of_ble_eq_true rfl) dX2_test_25) (fun T7 hw l_T7 H locs h => ?_)
    have f_a0 := l_T7.is f_a0
    have f_b3 := l_T7.is f_b3
    have f_b6 := l_T7.is f_b6
    have hle := hle.tr l_T7
    refine lv_iload_n X.1 X.2.1 dX2_test_28 rfl (lv_at hl 1 rfl) ?_
    refine lv_aload_n X.1 X.2.1 dX2_test_29 rfl (lv_at hl 2 rfl) ?_
    refine kp_calli X h (kp_runV (rm := { frames := F + 2, cells := 0, slots := 0, locals := L + 45 }) (mc := 0) (ms := 0) (rest := [.int y2]) (Qc := fun A => kp_Qi D cy A T7 _) X h (c_X2_sum l D cy ad F L U N hU hN hF hL T7 a0 _ h.2.2.2 f_a0 hw) f_a0 cv_2_72 ⟨by dsimp only; omega, by dsimp only; omega, rfl, rfl, by dsimp only; omega, by dsimp only; omega⟩ rfl hl.1 rfl (Nat.le_of_ble_eq_true rfl) dX2_test_30) (fun y9 T8 hw l_T8 H locs h => ?_)
    have f_a0 := l_T8.is f_a0
    have f_b3 := l_T8.is f_b3
    have f_b6 := l_T8.is f_b6
    have hle := hle.tr l_T8
    refine lv_ior X.1 X.2.1 dX2_test_33 ?_
    refine lv_iconst (v := 1) X.1 X.2.1 dX2_test_34 (by decide) ?_
    refine lv_iand X.1 X.2.1 dX2_test_35 ?_
    refine lv_topi (fun y10 e_y10 => ?_)
    have hw := hw y10 e_y10
    refine lv_istore_n (lv' := [(1, .int y10), (2, .int y5), (0, .ref a0)]) X.1 X.2.1 dX2_test_36 rfl hl (by decide) rfl (fun ls hl => ?_)
    refine lv_aload_n X.1 X.2.1 dX2_test_37 rfl (lv_at hl 2 rfl) ?_
    obtain ⟨b11, e_b11, hw⟩ := hw
    have f_b11 := h.2.2.2.rf (c := 2) (k := 2) f_a0 (by decide) (by decide) e_b11 (t := 0) rfl
    refine kp_get X h f_a0 fp_2_19.l (v := .ref b11) (congrArg va_rf e_b11) dX2_test_38 ?_
    refine lv_iload_n X.1 X.2.1 dX2_test_41 rfl (lv_at hl 1 rfl) ?_
    refine kp_calli X h (kp_runV (rm := { frames := 0, cells := 0, slots := 0, locals := 0 }) (mc := 0) (ms := 0) (rest := []) (Qc := fun A => kp_Qi D cy A T8 _) X h (c_X0_add l D cy ad T8 b11 y5 _ h.2.2.2 f_b11 hw) f_b11 cv_2_49 ⟨by dsimp only; omega, by dsimp only; omega, rfl, rfl, by dsimp only; omega, by dsimp only; omega⟩ rfl hl.1 rfl (Nat.le_of_ble_eq_true rfl) dX2_test_42) (fun y13 T12 hw l_T12 H locs h => ?_)
    have f_a0 := l_T12.is f_a0
    have f_b3 := l_T12.is f_b3
    have f_b6 := l_T12.is f_b6
    have f_b11 := l_T12.is f_b11
    have hle := hle.tr l_T12
    refine lv_pop X.1 X.2.1 dX2_test_45 rfl ?_
    exact j46 y10 T12 _ _ ls (lv_sub hl [0] rfl) h hle f_a0 hw
theorem dX2_unit_0 : decode cX2_unit 0 = .ok (.aload_n 0, 1) := by decide +kernel
theorem dX2_unit_1 : decode cX2_unit 1 = .ok (.getfield 9, 3) := by decide +kernel
theorem dX2_unit_4 : decode cX2_unit 4 = .ok (.getfield 27, 3) := by decide +kernel
theorem dX2_unit_7 : decode cX2_unit 7 = .ok (.lookupswitch 169 #[(40, 102), (45, 97), (259, 112), (260, 107), (333, 117), (334, 125), (335, 133), (336, 141), (337, 149), (338, 157), (339, 163)], 97) := by decide +kernel
theorem dX2_unit_104 : decode cX2_unit 104 = .ok (.aload_n 0, 1) := by decide +kernel
theorem dX2_unit_105 : decode cX2_unit 105 = .ok (.invokevirtual 87, 3) := by decide +kernel
theorem dX2_unit_108 : decode cX2_unit 108 = .ok (.ireturn, 1) := by decide +kernel
theorem dX2_unit_109 : decode cX2_unit 109 = .ok (.aload_n 0, 1) := by decide +kernel
theorem dX2_unit_110 : decode cX2_unit 110 = .ok (.invokevirtual 90, 3) := by decide +kernel
theorem dX2_unit_113 : decode cX2_unit 113 = .ok (.ireturn, 1) := by decide +kernel
theorem dX2_unit_114 : decode cX2_unit 114 = .ok (.aload_n 0, 1) := by decide +kernel
theorem dX2_unit_115 : decode cX2_unit 115 = .ok (.invokevirtual 93, 3) := by decide +kernel
theorem dX2_unit_118 : decode cX2_unit 118 = .ok (.ireturn, 1) := by decide +kernel
theorem dX2_unit_119 : decode cX2_unit 119 = .ok (.aload_n 0, 1) := by decide +kernel
theorem dX2_unit_120 : decode cX2_unit 120 = .ok (.invokevirtual 96, 3) := by decide +kernel
theorem dX2_unit_123 : decode cX2_unit 123 = .ok (.ireturn, 1) := by decide +kernel
theorem dX2_unit_124 : decode cX2_unit 124 = .ok (.aload_n 0, 1) := by decide +kernel
theorem dX2_unit_125 : decode cX2_unit 125 = .ok (.bipush 17, 2) := by decide +kernel
theorem dX2_unit_127 : decode cX2_unit 127 = .ok (.iconst 1, 1) := by decide +kernel
theorem dX2_unit_128 : decode cX2_unit 128 = .ok (.invokevirtual 99, 3) := by decide +kernel
theorem dX2_unit_131 : decode cX2_unit 131 = .ok (.ireturn, 1) := by decide +kernel
theorem dX2_unit_132 : decode cX2_unit 132 = .ok (.aload_n 0, 1) := by decide +kernel
theorem dX2_unit_133 : decode cX2_unit 133 = .ok (.bipush 18, 2) := by decide +kernel
theorem dX2_unit_135 : decode cX2_unit 135 = .ok (.iconst 1, 1) := by decide +kernel
theorem dX2_unit_136 : decode cX2_unit 136 = .ok (.invokevirtual 99, 3) := by decide +kernel
theorem dX2_unit_139 : decode cX2_unit 139 = .ok (.ireturn, 1) := by decide +kernel
theorem dX2_unit_140 : decode cX2_unit 140 = .ok (.aload_n 0, 1) := by decide +kernel
theorem dX2_unit_141 : decode cX2_unit 141 = .ok (.bipush 19, 2) := by decide +kernel
theorem dX2_unit_143 : decode cX2_unit 143 = .ok (.iconst 2, 1) := by decide +kernel
theorem dX2_unit_144 : decode cX2_unit 144 = .ok (.invokevirtual 99, 3) := by decide +kernel
theorem dX2_unit_147 : decode cX2_unit 147 = .ok (.ireturn, 1) := by decide +kernel
theorem dX2_unit_148 : decode cX2_unit 148 = .ok (.aload_n 0, 1) := by decide +kernel
theorem dX2_unit_149 : decode cX2_unit 149 = .ok (.bipush 20, 2) := by decide +kernel
theorem dX2_unit_151 : decode cX2_unit 151 = .ok (.iconst 1, 1) := by decide +kernel
theorem dX2_unit_152 : decode cX2_unit 152 = .ok (.invokevirtual 99, 3) := by decide +kernel
theorem dX2_unit_155 : decode cX2_unit 155 = .ok (.ireturn, 1) := by decide +kernel
theorem dX2_unit_156 : decode cX2_unit 156 = .ok (.aload_n 0, 1) := by decide +kernel
theorem dX2_unit_157 : decode cX2_unit 157 = .ok (.bipush 21, 2) := by decide +kernel
theorem dX2_unit_159 : decode cX2_unit 159 = .ok (.iconst 1, 1) := by decide +kernel
theorem dX2_unit_160 : decode cX2_unit 160 = .ok (.invokevirtual 99, 3) := by decide +kernel
theorem dX2_unit_163 : decode cX2_unit 163 = .ok (.ireturn, 1) := by decide +kernel
theorem dX2_unit_164 : decode cX2_unit 164 = .ok (.aload_n 0, 1) := by decide +kernel
theorem dX2_unit_165 : decode cX2_unit 165 = .ok (.iconst 3, 1) := by decide +kernel
theorem dX2_unit_166 : decode cX2_unit 166 = .ok (.invokevirtual 102, 3) := by decide +kernel
theorem dX2_unit_169 : decode cX2_unit 169 = .ok (.ireturn, 1) := by decide +kernel
theorem dX2_unit_170 : decode cX2_unit 170 = .ok (.aload_n 0, 1) := by decide +kernel
theorem dX2_unit_171 : decode cX2_unit 171 = .ok (.iconst 4, 1) := by decide +kernel
theorem dX2_unit_172 : decode cX2_unit 172 = .ok (.invokevirtual 102, 3) := by decide +kernel
theorem dX2_unit_175 : decode cX2_unit 175 = .ok (.ireturn, 1) := by decide +kernel
theorem dX2_unit_176 : decode cX2_unit 176 = .ok (.aload_n 0, 1) := by decide +kernel
theorem dX2_unit_177 : decode cX2_unit 177 = .ok (.getfield 9, 3) := by decide +kernel
theorem dX2_unit_180 : decode cX2_unit 180 = .ok (.invokevirtual 105, 3) := by decide +kernel
theorem dX2_unit_183 : decode cX2_unit 183 = .ok (.iconst 0, 1) := by decide +kernel
theorem dX2_unit_184 : decode cX2_unit 184 = .ok (.ireturn, 1) := by decide +kernel
def wX2_unit (U : Nat → kp_S → (Int32 → kp_S → Prop) → Prop) (N : Nat → kp_S → (Int32 → kp_S → Prop) → Prop) (a0 : Nat) (S : kp_S) (post : Int32 → kp_S → Prop) : Prop :=
  ∃ b1 : Nat, kp_R S 400 a0 = some b1 ∧
  ∀ y2 : Int32, y2 = (kp_I S 1805 b1) →
  ((y2 = 40 →
  wX2_inBrackets U N a0 S (fun y5 T4 =>
  post y5 T4)) ∧ (¬ y2 = 40 →
  ((y2 = 45 →
  wX2_negative U N a0 S (fun y8 T7 =>
  post y8 T7)) ∧ (¬ y2 = 45 →
  ((y2 = 259 →
  wX2_nameOrCall U N a0 S (fun y11 T10 =>
  post y11 T10)) ∧ (¬ y2 = 259 →
  ((y2 = 260 →
  wX2_number a0 S (fun y14 T13 =>
  post y14 T13)) ∧ (¬ y2 = 260 →
  ((y2 = 333 →
  wX2_query U N a0 17 1 S (fun y17 T16 =>
  post y17 T16)) ∧ (¬ y2 = 333 →
  ((y2 = 334 →
  wX2_query U N a0 18 1 S (fun y20 T19 =>
  post y20 T19)) ∧ (¬ y2 = 334 →
  ((y2 = 335 →
  wX2_query U N a0 19 2 S (fun y23 T22 =>
  post y23 T22)) ∧ (¬ y2 = 335 →
  ((y2 = 336 →
  wX2_query U N a0 20 1 S (fun y26 T25 =>
  post y26 T25)) ∧ (¬ y2 = 336 →
  ((y2 = 337 →
  wX2_query U N a0 21 1 S (fun y29 T28 =>
  post y29 T28)) ∧ (¬ y2 = 337 →
  ((y2 = 338 →
  wX2_register a0 3 S (fun y32 T31 =>
  post y32 T31)) ∧ (¬ y2 = 338 →
  ((y2 = 339 →
  wX2_register a0 4 S (fun y35 T34 =>
  post y35 T34)) ∧ (¬ y2 = 339 →
  wX9_refuse b1 S (fun T36 =>
  post 0 T36)))))))))))))))))))))))
set_option maxHeartbeats 4000000 in
set_option maxRecDepth 100000 in
theorem c_X2_unit (l : Launch) (D : va_G) (cy : Nat → ClassId) (ad : (Nat → Nat) × (Nat → Nat)) (F L : Nat) (U : Nat → kp_S → (Int32 → kp_S → Prop) → Prop) (N : Nat → kp_S → (Int32 → kp_S → Prop) → Prop) (hU : ∀ (S : kp_S) (a0 : Nat) (post : Int32 → kp_S → Prop), kp_ok S → kp_is S a0 2 → U a0 S post → kp_M l yX2_unit cX2_unit 1 (some .int) { frames := F, cells := 0, slots := 0, locals := L } D cy ad S [.ref a0] 0 0 (fun A => kp_Qi D cy A S post)) (hN : ∀ (S : kp_S) (a0 : Nat) (post : Int32 → kp_S → Prop), kp_ok S → kp_is S a0 2 → N a0 S post → kp_M l yX2_negation cX2_negation 2 (some .int) { frames := F, cells := 0, slots := 0, locals := L } D cy ad S [.ref a0] 0 0 (fun A => kp_Qi D cy A S post)) (hF : 7 ≤ F) (hL : 155 ≤ L) (S : kp_S) (a0 : Nat) (post : Int32 → kp_S → Prop) (hS : kp_ok S) (f_a0 : kp_is S a0 2) (hw : wX2_unit U N a0 S post) : kp_M l yX2_unit cX2_unit 1 (some .int) { frames := F + 5, cells := 0, slots := 0, locals := L + 115 } D cy ad S [.ref a0] 0 0 (fun A => kp_Qi D cy A S post) := by
  refine kp_start (own := RX2) (by decide) rfl (Nat.le_of_ble_eq_true rfl) hS ?_
  intro p e s m below meth c A ls X hr hlocks hname h hl
  have hle : kp_le S S := kp_le.rf
  have hl : lv_has ls 1 [(0, .ref a0)] := hl
  unfold wX2_unit at hw
  have h : kp_H D cy A S s.heap s.heap [] := h
  revert h
  intro h
  refine lv_aload_n X.1 X.2.1 dX2_unit_0 rfl (lv_at hl 0 rfl) ?_
  obtain ⟨b1, e_b1, hw⟩ := hw
  have f_b1 := h.2.2.2.rf (c := 2) (k := 0) f_a0 (by decide) (by decide) e_b1 (t := 9) rfl
  refine kp_get X h f_a0 ff_2_9.l (v := .ref b1) (congrArg va_rf e_b1) dX2_unit_1 ?_
  refine kp_get X h f_b1 fp_2_27.l (v := .int (kp_I S 1805 b1)) rfl dX2_unit_4 ?_
  refine lv_topi (fun y2 e_y2 => ?_)
  have hw := hw y2 e_y2
  by_cases c3 : y2 = 40
  · have hw := hw.1 c3
    refine lv_lookup (off := 102) (tgt := 109) X.1 X.2.1 dX2_unit_7 (by decide) (by rw [c3]; decide) (by decide) ?_
    refine lv_aload_n X.1 X.2.1 dX2_unit_109 rfl (lv_at hl 0 rfl) ?_
    refine kp_calli X h (kp_runV (rm := { frames := F + 3, cells := 0, slots := 0, locals := L + 67 }) (mc := 0) (ms := 0) (rest := []) (Qc := fun A => kp_Qi D cy A S _) X h (c_X2_inBrackets l D cy ad F L U N hU hN hF hL S a0 _ h.2.2.2 f_a0 hw) f_a0 cv_2_90 ⟨by dsimp only; omega, by dsimp only; omega, rfl, rfl, by dsimp only; omega, by dsimp only; omega⟩ rfl hl.1 rfl (Nat.le_of_ble_eq_true rfl) dX2_unit_110) (fun y5 T4 hw l_T4 H locs h => ?_)
    have f_a0 := l_T4.is f_a0
    have f_b1 := l_T4.is f_b1
    have hle := hle.tr l_T4
    exact kp_reti X hr hlocks h hle rfl hw dX2_unit_113
  have hw := hw.2 c3
  by_cases c6 : y2 = 45
  · have hw := hw.1 c6
    refine lv_lookup (off := 97) (tgt := 104) X.1 X.2.1 dX2_unit_7 (by decide) (by rw [c6]; decide) (by decide) ?_
    refine lv_aload_n X.1 X.2.1 dX2_unit_104 rfl (lv_at hl 0 rfl) ?_
    refine kp_calli X h (kp_runV (rm := { frames := F + 1, cells := 0, slots := 0, locals := L + 20 }) (mc := 0) (ms := 0) (rest := []) (Qc := fun A => kp_Qi D cy A S _) X h (c_X2_negative l D cy ad F L U N hU hN hF hL S a0 _ h.2.2.2 f_a0 hw) f_a0 cv_2_87 ⟨by dsimp only; omega, by dsimp only; omega, rfl, rfl, by dsimp only; omega, by dsimp only; omega⟩ rfl hl.1 rfl (Nat.le_of_ble_eq_true rfl) dX2_unit_105) (fun y8 T7 hw l_T7 H locs h => ?_)
    have f_a0 := l_T7.is f_a0
    have f_b1 := l_T7.is f_b1
    have hle := hle.tr l_T7
    exact kp_reti X hr hlocks h hle rfl hw dX2_unit_108
  have hw := hw.2 c6
  by_cases c9 : y2 = 259
  · have hw := hw.1 c9
    refine lv_lookup (off := 112) (tgt := 119) X.1 X.2.1 dX2_unit_7 (by decide) (by rw [c9]; decide) (by decide) ?_
    refine lv_aload_n X.1 X.2.1 dX2_unit_119 rfl (lv_at hl 0 rfl) ?_
    refine kp_calli X h (kp_runV (rm := { frames := F + 4, cells := 0, slots := 0, locals := L + 92 }) (mc := 0) (ms := 0) (rest := []) (Qc := fun A => kp_Qi D cy A S _) X h (c_X2_nameOrCall l D cy ad F L U N hU hN hF hL S a0 _ h.2.2.2 f_a0 hw) f_a0 cv_2_96 ⟨by dsimp only; omega, by dsimp only; omega, rfl, rfl, by dsimp only; omega, by dsimp only; omega⟩ rfl hl.1 rfl (Nat.le_of_ble_eq_true rfl) dX2_unit_120) (fun y11 T10 hw l_T10 H locs h => ?_)
    have f_a0 := l_T10.is f_a0
    have f_b1 := l_T10.is f_b1
    have hle := hle.tr l_T10
    exact kp_reti X hr hlocks h hle rfl hw dX2_unit_123
  have hw := hw.2 c9
  by_cases c12 : y2 = 260
  · have hw := hw.1 c12
    refine lv_lookup (off := 107) (tgt := 114) X.1 X.2.1 dX2_unit_7 (by decide) (by rw [c12]; decide) (by decide) ?_
    refine lv_aload_n X.1 X.2.1 dX2_unit_114 rfl (lv_at hl 0 rfl) ?_
    refine kp_calli X h (kp_runV (rm := { frames := 6, cells := 0, slots := 0, locals := 134 }) (mc := 0) (ms := 0) (rest := []) (Qc := fun A => kp_Qi D cy A S _) X h (c_X2_number l D cy ad S a0 _ h.2.2.2 f_a0 hw) f_a0 cv_2_93 ⟨by dsimp only; omega, by dsimp only; omega, rfl, rfl, by dsimp only; omega, by dsimp only; omega⟩ rfl hl.1 rfl (Nat.le_of_ble_eq_true rfl) dX2_unit_115) (fun y14 T13 hw l_T13 H locs h => ?_)
    have f_a0 := l_T13.is f_a0
    have f_b1 := l_T13.is f_b1
    have hle := hle.tr l_T13
    exact kp_reti X hr hlocks h hle rfl hw dX2_unit_118
  have hw := hw.2 c12
  by_cases c15 : y2 = 333
  · have hw := hw.1 c15
    refine lv_lookup (off := 117) (tgt := 124) X.1 X.2.1 dX2_unit_7 (by decide) (by rw [c15]; decide) (by decide) ?_
    refine lv_aload_n X.1 X.2.1 dX2_unit_124 rfl (lv_at hl 0 rfl) ?_
    refine lv_bipush (v := 17) X.1 X.2.1 dX2_unit_125 (by decide) ?_
    refine lv_iconst (v := 1) X.1 X.2.1 dX2_unit_127 (by decide) ?_
    refine kp_calli X h (kp_runV (rm := { frames := F + 3, cells := 0, slots := 0, locals := L + 67 }) (mc := 0) (ms := 0) (rest := []) (Qc := fun A => kp_Qi D cy A S _) X h (c_X2_query l D cy ad F L U N hU hN hF hL S a0 17 1 _ h.2.2.2 f_a0 hw) f_a0 cv_2_99 ⟨by dsimp only; omega, by dsimp only; omega, rfl, rfl, by dsimp only; omega, by dsimp only; omega⟩ rfl hl.1 rfl (Nat.le_of_ble_eq_true rfl) dX2_unit_128) (fun y17 T16 hw l_T16 H locs h => ?_)
    have f_a0 := l_T16.is f_a0
    have f_b1 := l_T16.is f_b1
    have hle := hle.tr l_T16
    exact kp_reti X hr hlocks h hle rfl hw dX2_unit_131
  have hw := hw.2 c15
  by_cases c18 : y2 = 334
  · have hw := hw.1 c18
    refine lv_lookup (off := 125) (tgt := 132) X.1 X.2.1 dX2_unit_7 (by decide) (by rw [c18]; decide) (by decide) ?_
    refine lv_aload_n X.1 X.2.1 dX2_unit_132 rfl (lv_at hl 0 rfl) ?_
    refine lv_bipush (v := 18) X.1 X.2.1 dX2_unit_133 (by decide) ?_
    refine lv_iconst (v := 1) X.1 X.2.1 dX2_unit_135 (by decide) ?_
    refine kp_calli X h (kp_runV (rm := { frames := F + 3, cells := 0, slots := 0, locals := L + 67 }) (mc := 0) (ms := 0) (rest := []) (Qc := fun A => kp_Qi D cy A S _) X h (c_X2_query l D cy ad F L U N hU hN hF hL S a0 18 1 _ h.2.2.2 f_a0 hw) f_a0 cv_2_99 ⟨by dsimp only; omega, by dsimp only; omega, rfl, rfl, by dsimp only; omega, by dsimp only; omega⟩ rfl hl.1 rfl (Nat.le_of_ble_eq_true rfl) dX2_unit_136) (fun y20 T19 hw l_T19 H locs h => ?_)
    have f_a0 := l_T19.is f_a0
    have f_b1 := l_T19.is f_b1
    have hle := hle.tr l_T19
    exact kp_reti X hr hlocks h hle rfl hw dX2_unit_139
  have hw := hw.2 c18
  by_cases c21 : y2 = 335
  · have hw := hw.1 c21
    refine lv_lookup (off := 133) (tgt := 140) X.1 X.2.1 dX2_unit_7 (by decide) (by rw [c21]; decide) (by decide) ?_
    refine lv_aload_n X.1 X.2.1 dX2_unit_140 rfl (lv_at hl 0 rfl) ?_
    refine lv_bipush (v := 19) X.1 X.2.1 dX2_unit_141 (by decide) ?_
    refine lv_iconst (v := 2) X.1 X.2.1 dX2_unit_143 (by decide) ?_
    refine kp_calli X h (kp_runV (rm := { frames := F + 3, cells := 0, slots := 0, locals := L + 67 }) (mc := 0) (ms := 0) (rest := []) (Qc := fun A => kp_Qi D cy A S _) X h (c_X2_query l D cy ad F L U N hU hN hF hL S a0 19 2 _ h.2.2.2 f_a0 hw) f_a0 cv_2_99 ⟨by dsimp only; omega, by dsimp only; omega, rfl, rfl, by dsimp only; omega, by dsimp only; omega⟩ rfl hl.1 rfl (Nat.le_of_ble_eq_true rfl) dX2_unit_144) (fun y23 T22 hw l_T22 H locs h => ?_)
    have f_a0 := l_T22.is f_a0
    have f_b1 := l_T22.is f_b1
    have hle := hle.tr l_T22
    exact kp_reti X hr hlocks h hle rfl hw dX2_unit_147
  have hw := hw.2 c21
  by_cases c24 : y2 = 336
  · have hw := hw.1 c24
    refine lv_lookup (off := 141) (tgt := 148) X.1 X.2.1 dX2_unit_7 (by decide) (by rw [c24]; decide) (by decide) ?_
    refine lv_aload_n X.1 X.2.1 dX2_unit_148 rfl (lv_at hl 0 rfl) ?_
    refine lv_bipush (v := 20) X.1 X.2.1 dX2_unit_149 (by decide) ?_
    refine lv_iconst (v := 1) X.1 X.2.1 dX2_unit_151 (by decide) ?_
    refine kp_calli X h (kp_runV (rm := { frames := F + 3, cells := 0, slots := 0, locals := L + 67 }) (mc := 0) (ms := 0) (rest := []) (Qc := fun A => kp_Qi D cy A S _) X h (c_X2_query l D cy ad F L U N hU hN hF hL S a0 20 1 _ h.2.2.2 f_a0 hw) f_a0 cv_2_99 ⟨by dsimp only; omega, by dsimp only; omega, rfl, rfl, by dsimp only; omega, by dsimp only; omega⟩ rfl hl.1 rfl (Nat.le_of_ble_eq_true rfl) dX2_unit_152) (fun y26 T25 hw l_T25 H locs h => ?_)
    have f_a0 := l_T25.is f_a0
    have f_b1 := l_T25.is f_b1
    have hle := hle.tr l_T25
    exact kp_reti X hr hlocks h hle rfl hw dX2_unit_155
  have hw := hw.2 c24
  by_cases c27 : y2 = 337
  · have hw := hw.1 c27
    refine lv_lookup (off := 149) (tgt := 156) X.1 X.2.1 dX2_unit_7 (by decide) (by rw [c27]; decide) (by decide) ?_
    refine lv_aload_n X.1 X.2.1 dX2_unit_156 rfl (lv_at hl 0 rfl) ?_
    refine lv_bipush (v := 21) X.1 X.2.1 dX2_unit_157 (by decide) ?_
    refine lv_iconst (v := 1) X.1 X.2.1 dX2_unit_159 (by decide) ?_
    refine kp_calli X h (kp_runV (rm := { frames := F + 3, cells := 0, slots := 0, locals := L + 67 }) (mc := 0) (ms := 0) (rest := []) (Qc := fun A => kp_Qi D cy A S _) X h (c_X2_query l D cy ad F L U N hU hN hF hL S a0 21 1 _ h.2.2.2 f_a0 hw) f_a0 cv_2_99 ⟨by dsimp only; omega, by dsimp only; omega, rfl, rfl, by dsimp only; omega, by dsimp only; omega⟩ rfl hl.1 rfl (Nat.le_of_ble_eq_true rfl) dX2_unit_160) (fun y29 T28 hw l_T28 H locs h => ?_)
    have f_a0 := l_T28.is f_a0
    have f_b1 := l_T28.is f_b1
    have hle := hle.tr l_T28
    exact kp_reti X hr hlocks h hle rfl hw dX2_unit_163
  have hw := hw.2 c27
  by_cases c30 : y2 = 338
  · have hw := hw.1 c30
    refine lv_lookup (off := 157) (tgt := 164) X.1 X.2.1 dX2_unit_7 (by decide) (by rw [c30]; decide) (by decide) ?_
    refine lv_aload_n X.1 X.2.1 dX2_unit_164 rfl (lv_at hl 0 rfl) ?_
    refine lv_iconst (v := 3) X.1 X.2.1 dX2_unit_165 (by decide) ?_
    refine kp_calli X h (kp_runV (rm := { frames := 6, cells := 0, slots := 0, locals := 134 }) (mc := 0) (ms := 0) (rest := []) (Qc := fun A => kp_Qi D cy A S _) X h (c_X2_register l D cy ad S a0 3 _ h.2.2.2 f_a0 hw) f_a0 cv_2_102 ⟨by dsimp only; omega, by dsimp only; omega, rfl, rfl, by dsimp only; omega, by dsimp only; omega⟩ rfl hl.1 rfl (Nat.le_of_ble_eq_true rfl) dX2_unit_166) (fun y32 T31 hw l_T31 H locs h => ?_)
    have f_a0 := l_T31.is f_a0
    have f_b1 := l_T31.is f_b1
    have hle := hle.tr l_T31
    exact kp_reti X hr hlocks h hle rfl hw dX2_unit_169
  have hw := hw.2 c30
  by_cases c33 : y2 = 339
  · have hw := hw.1 c33
    refine lv_lookup (off := 163) (tgt := 170) X.1 X.2.1 dX2_unit_7 (by decide) (by rw [c33]; decide) (by decide) ?_
    refine lv_aload_n X.1 X.2.1 dX2_unit_170 rfl (lv_at hl 0 rfl) ?_
    refine lv_iconst (v := 4) X.1 X.2.1 dX2_unit_171 (by decide) ?_
    refine kp_calli X h (kp_runV (rm := { frames := 6, cells := 0, slots := 0, locals := 134 }) (mc := 0) (ms := 0) (rest := []) (Qc := fun A => kp_Qi D cy A S _) X h (c_X2_register l D cy ad S a0 4 _ h.2.2.2 f_a0 hw) f_a0 cv_2_102 ⟨by dsimp only; omega, by dsimp only; omega, rfl, rfl, by dsimp only; omega, by dsimp only; omega⟩ rfl hl.1 rfl (Nat.le_of_ble_eq_true rfl) dX2_unit_172) (fun y35 T34 hw l_T34 H locs h => ?_)
    have f_a0 := l_T34.is f_a0
    have f_b1 := l_T34.is f_b1
    have hle := hle.tr l_T34
    exact kp_reti X hr hlocks h hle rfl hw dX2_unit_175
  have hw := hw.2 c33
  refine lv_lookup (off := 169) (tgt := 176) X.1 X.2.1 dX2_unit_7 (by decide) (by show Op.lookupswitch.offset [(40, 102), (45, 97), (259, 112), (260, 107), (333, 117), (334, 125), (335, 133), (336, 141), (337, 149), (338, 157), (339, 163)] _ _ = _; rw [lv_osw (a := 40) c3 (by decide), lv_osw (a := 45) c6 (by decide), lv_osw (a := 259) c9 (by decide), lv_osw (a := 260) c12 (by decide), lv_osw (a := 333) c15 (by decide), lv_osw (a := 334) c18 (by decide), lv_osw (a := 335) c21 (by decide), lv_osw (a := 336) c24 (by decide), lv_osw (a := 337) c27 (by decide), lv_osw (a := 338) c30 (by decide), lv_osw (a := 339) c33 (by decide)]; rfl) (by decide) ?_
  refine lv_aload_n X.1 X.2.1 dX2_unit_176 rfl (lv_at hl 0 rfl) ?_
  refine kp_get X h f_a0 ff_2_9.l (v := .ref b1) (congrArg va_rf e_b1) dX2_unit_177 ?_
  refine kp_callv X h (kp_runV (rm := { frames := 1, cells := 0, slots := 0, locals := 21 }) (mc := 0) (ms := 0) (rest := []) (Qc := fun A => kp_Qv D cy A S _) X h (c_X9_refuse l D cy ad S b1 _ h.2.2.2 f_b1 hw) f_b1 cv_2_105 ⟨by dsimp only; omega, by dsimp only; omega, rfl, rfl, by dsimp only; omega, by dsimp only; omega⟩ rfl hl.1 rfl (Nat.le_of_ble_eq_true rfl) dX2_unit_180) (fun T36 hw l_T36 H locs h => ?_)
  have f_a0 := l_T36.is f_a0
  have f_b1 := l_T36.is f_b1
  have hle := hle.tr l_T36
  refine lv_iconst (v := 0) X.1 X.2.1 dX2_unit_183 (by decide) ?_
  exact kp_reti X hr hlocks h hle rfl hw dX2_unit_184
theorem dX2_negation_0 : decode cX2_negation 0 = .ok (.aload_n 0, 1) := by decide +kernel
theorem dX2_negation_1 : decode cX2_negation 1 = .ok (.getfield 9, 3) := by decide +kernel
theorem dX2_negation_4 : decode cX2_negation 4 = .ok (.getfield 27, 3) := by decide +kernel
theorem dX2_negation_7 : decode cX2_negation 7 = .ok (.sipush 328, 3) := by decide +kernel
theorem dX2_negation_10 : decode cX2_negation 10 = .ok (.if_icmp .eq 8, 3) := by decide +kernel
theorem dX2_negation_13 : decode cX2_negation 13 = .ok (.aload_n 0, 1) := by decide +kernel
theorem dX2_negation_14 : decode cX2_negation 14 = .ok (.invokevirtual 59, 3) := by decide +kernel
theorem dX2_negation_17 : decode cX2_negation 17 = .ok (.ireturn, 1) := by decide +kernel
theorem dX2_negation_18 : decode cX2_negation 18 = .ok (.aload_n 0, 1) := by decide +kernel
theorem dX2_negation_19 : decode cX2_negation 19 = .ok (.getfield 9, 3) := by decide +kernel
theorem dX2_negation_22 : decode cX2_negation 22 = .ok (.sipush 328, 3) := by decide +kernel
theorem dX2_negation_25 : decode cX2_negation 25 = .ok (.invokevirtual 62, 3) := by decide +kernel
theorem dX2_negation_28 : decode cX2_negation 28 = .ok (.aload_n 0, 1) := by decide +kernel
theorem dX2_negation_29 : decode cX2_negation 29 = .ok (.getfield 9, 3) := by decide +kernel
theorem dX2_negation_32 : decode cX2_negation 32 = .ok (.invokevirtual 65, 3) := by decide +kernel
theorem dX2_negation_35 : decode cX2_negation 35 = .ok (.ifCond .eq 7, 3) := by decide +kernel
theorem dX2_negation_38 : decode cX2_negation 38 = .ok (.iconst 0, 1) := by decide +kernel
theorem dX2_negation_39 : decode cX2_negation 39 = .ok (.goto 9, 3) := by decide +kernel
theorem dX2_negation_42 : decode cX2_negation 42 = .ok (.aload_n 0, 1) := by decide +kernel
theorem dX2_negation_43 : decode cX2_negation 43 = .ok (.invokevirtual 46, 3) := by decide +kernel
theorem dX2_negation_46 : decode cX2_negation 46 = .ok (.iconst 1, 1) := by decide +kernel
theorem dX2_negation_47 : decode cX2_negation 47 = .ok (.iand, 1) := by decide +kernel
theorem dX2_negation_48 : decode cX2_negation 48 = .ok (.istore_n 1, 1) := by decide +kernel
theorem dX2_negation_49 : decode cX2_negation 49 = .ok (.aload_n 0, 1) := by decide +kernel
theorem dX2_negation_50 : decode cX2_negation 50 = .ok (.getfield 9, 3) := by decide +kernel
theorem dX2_negation_53 : decode cX2_negation 53 = .ok (.invokevirtual 69, 3) := by decide +kernel
theorem dX2_negation_56 : decode cX2_negation 56 = .ok (.aload_n 0, 1) := by decide +kernel
theorem dX2_negation_57 : decode cX2_negation 57 = .ok (.getfield 19, 3) := by decide +kernel
theorem dX2_negation_60 : decode cX2_negation 60 = .ok (.bipush 6, 2) := by decide +kernel
theorem dX2_negation_62 : decode cX2_negation 62 = .ok (.invokevirtual 49, 3) := by decide +kernel
theorem dX2_negation_65 : decode cX2_negation 65 = .ok (.pop, 1) := by decide +kernel
theorem dX2_negation_66 : decode cX2_negation 66 = .ok (.iload_n 1, 1) := by decide +kernel
theorem dX2_negation_67 : decode cX2_negation 67 = .ok (.ireturn, 1) := by decide +kernel
def wX2_negation_b48 (U : Nat → kp_S → (Int32 → kp_S → Prop) → Prop) (N : Nat → kp_S → (Int32 → kp_S → Prop) → Prop) (a0 : Nat) (xt0 : Int32)  (Sn : kp_S) (post : Int32 → kp_S → Prop) : Prop :=
  ∃ b1001 : Nat, kp_R Sn 400 a0 = some b1001 ∧
  wX9_endNest b1001 Sn (fun T1002 =>
  ∃ b1003 : Nat, kp_R T1002 402 a0 = some b1003 ∧
  wX0_add b1003 6 T1002 (fun y1005 T1004 =>
  post xt0 T1004))
def wX2_negation (U : Nat → kp_S → (Int32 → kp_S → Prop) → Prop) (N : Nat → kp_S → (Int32 → kp_S → Prop) → Prop) (a0 : Nat) (S : kp_S) (post : Int32 → kp_S → Prop) : Prop :=
  ∃ b1 : Nat, kp_R S 400 a0 = some b1 ∧
  (((kp_I S 1805 b1) = 328 →
  wX9_expectNest b1 328 S (fun T2 =>
  ∃ b3 : Nat, kp_R T2 400 a0 = some b3 ∧
  wX9_isStopped b3 T2 (fun y5 T4 =>
  ((y5 = 0 →
  N a0 T4 (fun y7 T6 =>
  wX2_negation_b48 U N a0 (y7 &&& 1)  T6 post)) ∧ (¬ y5 = 0 →
  wX2_negation_b48 U N a0 0  T4 post))))) ∧ (¬ (kp_I S 1805 b1) = 328 →
  wX2_test U N a0 S (fun y10 T9 =>
  post y10 T9)))
set_option maxHeartbeats 4000000 in
set_option maxRecDepth 100000 in
theorem c_X2_negation (l : Launch) (D : va_G) (cy : Nat → ClassId) (ad : (Nat → Nat) × (Nat → Nat)) (F L : Nat) (U : Nat → kp_S → (Int32 → kp_S → Prop) → Prop) (N : Nat → kp_S → (Int32 → kp_S → Prop) → Prop) (hU : ∀ (S : kp_S) (a0 : Nat) (post : Int32 → kp_S → Prop), kp_ok S → kp_is S a0 2 → U a0 S post → kp_M l yX2_unit cX2_unit 1 (some .int) { frames := F, cells := 0, slots := 0, locals := L } D cy ad S [.ref a0] 0 0 (fun A => kp_Qi D cy A S post)) (hN : ∀ (S : kp_S) (a0 : Nat) (post : Int32 → kp_S → Prop), kp_ok S → kp_is S a0 2 → N a0 S post → kp_M l yX2_negation cX2_negation 2 (some .int) { frames := F, cells := 0, slots := 0, locals := L } D cy ad S [.ref a0] 0 0 (fun A => kp_Qi D cy A S post)) (hF : 7 ≤ F) (hL : 155 ≤ L) (S : kp_S) (a0 : Nat) (post : Int32 → kp_S → Prop) (hS : kp_ok S) (f_a0 : kp_is S a0 2) (hw : wX2_negation U N a0 S post) : kp_M l yX2_negation cX2_negation 2 (some .int) { frames := F + 5, cells := 0, slots := 0, locals := L + 115 } D cy ad S [.ref a0] 0 0 (fun A => kp_Qi D cy A S post) := by
  refine kp_start (own := RX2) (by decide) rfl (Nat.le_of_ble_eq_true rfl) hS ?_
  intro p e s m below meth c A ls X hr hlocks hname h hl
  have hle : kp_le S S := kp_le.rf
  have hl : lv_has ls 2 [(0, .ref a0)] := hl
  have j48 : ∀ (xt0 : Int32) (Sn : kp_S) (H : Heap) (locs : List Loc) (ls : Array Slot), lv_has ls 2 [(0, .ref a0)] → kp_H D cy A Sn s.heap H locs → kp_le S Sn → kp_is Sn a0 2 → wX2_negation_b48 U N a0 xt0  Sn post → W p l e { frames := F + 5, cells := 0, slots := 0, locals := L + 115 } s m ([.ref a0] : List Value).toArray below meth c H locs 0 0 (MQ below (kp_Qi D cy A S post) ([.ref a0] : List Value).toArray s 0 0 A) (F0 m 48 ls [.int xt0]) := by
    intro xt0 Sn H locs ls hl h hle f_a0 hw
    unfold wX2_negation_b48 at hw
    refine lv_istore_n (lv' := [(1, .int xt0), (0, .ref a0)]) X.1 X.2.1 dX2_negation_48 rfl hl (by decide) rfl (fun ls hl => ?_)
    refine lv_aload_n X.1 X.2.1 dX2_negation_49 rfl (lv_at hl 1 rfl) ?_
    obtain ⟨b1001, e_b1001, hw⟩ := hw
    have f_b1001 := h.2.2.2.rf (c := 2) (k := 0) f_a0 (by decide) (by decide) e_b1001 (t := 9) rfl
    refine kp_get X h f_a0 ff_2_9.l (v := .ref b1001) (congrArg va_rf e_b1001) dX2_negation_50 ?_
    refine kp_callv X h (kp_runV (rm := { frames := 0, cells := 0, slots := 0, locals := 0 }) (mc := 0) (ms := 0) (rest := []) (Qc := fun A => kp_Qv D cy A Sn _) X h (c_X9_endNest l D cy ad Sn b1001 _ h.2.2.2 f_b1001 hw) f_b1001 cv_2_69 ⟨by dsimp only; omega, by dsimp only; omega, rfl, rfl, by dsimp only; omega, by dsimp only; omega⟩ rfl hl.1 rfl (Nat.le_of_ble_eq_true rfl) dX2_negation_53) (fun T1002 hw l_T1002 H locs h => ?_)
    have f_a0 := l_T1002.is f_a0
    have f_b1001 := l_T1002.is f_b1001
    have hle := hle.tr l_T1002
    refine lv_aload_n X.1 X.2.1 dX2_negation_56 rfl (lv_at hl 1 rfl) ?_
    obtain ⟨b1003, e_b1003, hw⟩ := hw
    have f_b1003 := h.2.2.2.rf (c := 2) (k := 2) f_a0 (by decide) (by decide) e_b1003 (t := 0) rfl
    refine kp_get X h f_a0 fp_2_19.l (v := .ref b1003) (congrArg va_rf e_b1003) dX2_negation_57 ?_
    refine lv_bipush (v := 6) X.1 X.2.1 dX2_negation_60 (by decide) ?_
    refine kp_calli X h (kp_runV (rm := { frames := 0, cells := 0, slots := 0, locals := 0 }) (mc := 0) (ms := 0) (rest := []) (Qc := fun A => kp_Qi D cy A T1002 _) X h (c_X0_add l D cy ad T1002 b1003 6 _ h.2.2.2 f_b1003 hw) f_b1003 cv_2_49 ⟨by dsimp only; omega, by dsimp only; omega, rfl, rfl, by dsimp only; omega, by dsimp only; omega⟩ rfl hl.1 rfl (Nat.le_of_ble_eq_true rfl) dX2_negation_62) (fun y1005 T1004 hw l_T1004 H locs h => ?_)
    have f_a0 := l_T1004.is f_a0
    have f_b1001 := l_T1004.is f_b1001
    have f_b1003 := l_T1004.is f_b1003
    have hle := hle.tr l_T1004
    refine lv_pop X.1 X.2.1 dX2_negation_65 rfl ?_
    refine lv_iload_n X.1 X.2.1 dX2_negation_66 rfl (lv_at hl 0 rfl) ?_
    exact kp_reti X hr hlocks h hle rfl hw dX2_negation_67
  unfold wX2_negation at hw
  have h : kp_H D cy A S s.heap s.heap [] := h
  revert h
  intro h
  refine lv_aload_n X.1 X.2.1 dX2_negation_0 rfl (lv_at hl 0 rfl) ?_
  obtain ⟨b1, e_b1, hw⟩ := hw
  have f_b1 := h.2.2.2.rf (c := 2) (k := 0) f_a0 (by decide) (by decide) e_b1 (t := 9) rfl
  refine kp_get X h f_a0 ff_2_9.l (v := .ref b1) (congrArg va_rf e_b1) dX2_negation_1 ?_
  refine kp_get X h f_b1 fp_2_27.l (v := .int (kp_I S 1805 b1)) rfl dX2_negation_4 ?_
  refine lv_sipush (v := 328) X.1 X.2.1 dX2_negation_7 (by decide) ?_
  refine lv_icmp_eq (tgt := 18) X.1 X.2.1 dX2_negation_10 (by decide) (fun c11 => ?_) (fun c11 => ?_)
  · have hw := hw.1 c11
    refine lv_aload_n X.1 X.2.1 dX2_negation_18 rfl (lv_at hl 0 rfl) ?_
    refine kp_get X h f_a0 ff_2_9.l (v := .ref b1) (congrArg va_rf e_b1) dX2_negation_19 ?_
    refine lv_sipush (v := 328) X.1 X.2.1 dX2_negation_22 (by decide) ?_
    refine kp_callv X h (kp_runV (rm := { frames := 6, cells := 0, slots := 0, locals := 134 }) (mc := 0) (ms := 0) (rest := []) (Qc := fun A => kp_Qv D cy A S _) X h (c_X9_expectNest l D cy ad S b1 328 _ h.2.2.2 f_b1 hw) f_b1 cv_2_62 ⟨by dsimp only; omega, by dsimp only; omega, rfl, rfl, by dsimp only; omega, by dsimp only; omega⟩ rfl hl.1 rfl (Nat.le_of_ble_eq_true rfl) dX2_negation_25) (fun T2 hw l_T2 H locs h => ?_)
    have f_a0 := l_T2.is f_a0
    have f_b1 := l_T2.is f_b1
    have hle := hle.tr l_T2
    refine lv_aload_n X.1 X.2.1 dX2_negation_28 rfl (lv_at hl 0 rfl) ?_
    obtain ⟨b3, e_b3, hw⟩ := hw
    have f_b3 := h.2.2.2.rf (c := 2) (k := 0) f_a0 (by decide) (by decide) e_b3 (t := 9) rfl
    refine kp_get X h f_a0 ff_2_9.l (v := .ref b3) (congrArg va_rf e_b3) dX2_negation_29 ?_
    refine kp_calli X h (kp_runV (rm := { frames := 0, cells := 0, slots := 0, locals := 0 }) (mc := 0) (ms := 0) (rest := []) (Qc := fun A => kp_Qi D cy A T2 _) X h (c_X9_isStopped l D cy ad T2 b3 _ h.2.2.2 f_b3 hw) f_b3 cv_2_65 ⟨by dsimp only; omega, by dsimp only; omega, rfl, rfl, by dsimp only; omega, by dsimp only; omega⟩ rfl hl.1 rfl (Nat.le_of_ble_eq_true rfl) dX2_negation_32) (fun y5 T4 hw l_T4 H locs h => ?_)
    have f_a0 := l_T4.is f_a0
    have f_b1 := l_T4.is f_b1
    have f_b3 := l_T4.is f_b3
    have hle := hle.tr l_T4
    refine lv_if_eq (tgt := 42) X.1 X.2.1 dX2_negation_35 (by decide) (fun c8 => ?_) (fun c8 => ?_)
    · have hw := hw.1 c8
      refine lv_aload_n X.1 X.2.1 dX2_negation_42 rfl (lv_at hl 0 rfl) ?_
      refine kp_calli X h (kp_runV (rm := { frames := F, cells := 0, slots := 0, locals := L }) (mc := 0) (ms := 0) (rest := []) (Qc := fun A => kp_Qi D cy A T4 _) X h (hN T4 a0 _ h.2.2.2 f_a0 hw) f_a0 cv_2_46 ⟨by dsimp only; omega, by dsimp only; omega, rfl, rfl, by dsimp only; omega, by dsimp only; omega⟩ rfl hl.1 rfl (Nat.le_of_ble_eq_true rfl) dX2_negation_43) (fun y7 T6 hw l_T6 H locs h => ?_)
      have f_a0 := l_T6.is f_a0
      have f_b1 := l_T6.is f_b1
      have f_b3 := l_T6.is f_b3
      have hle := hle.tr l_T6
      refine lv_iconst (v := 1) X.1 X.2.1 dX2_negation_46 (by decide) ?_
      refine lv_iand X.1 X.2.1 dX2_negation_47 ?_
      exact j48 (y7 &&& 1) T6 _ _ ls (lv_sub hl [0] rfl) h hle f_a0 hw
    · have hw := hw.2 c8
      refine lv_iconst (v := 0) X.1 X.2.1 dX2_negation_38 (by decide) ?_
      refine lv_goto (tgt := 48) X.1 X.2.1 dX2_negation_39 (by decide) ?_
      exact j48 0 T4 _ _ ls (lv_sub hl [0] rfl) h hle f_a0 hw
  · have hw := hw.2 c11
    refine lv_aload_n X.1 X.2.1 dX2_negation_13 rfl (lv_at hl 0 rfl) ?_
    refine kp_calli X h (kp_runV (rm := { frames := F + 3, cells := 0, slots := 0, locals := L + 68 }) (mc := 0) (ms := 0) (rest := []) (Qc := fun A => kp_Qi D cy A S _) X h (c_X2_test l D cy ad F L U N hU hN hF hL S a0 _ h.2.2.2 f_a0 hw) f_a0 cv_2_59 ⟨by dsimp only; omega, by dsimp only; omega, rfl, rfl, by dsimp only; omega, by dsimp only; omega⟩ rfl hl.1 rfl (Nat.le_of_ble_eq_true rfl) dX2_negation_14) (fun y10 T9 hw l_T9 H locs h => ?_)
    have f_a0 := l_T9.is f_a0
    have f_b1 := l_T9.is f_b1
    have hle := hle.tr l_T9
    exact kp_reti X hr hlocks h hle rfl hw dX2_negation_17
def wx2_rec : Nat → Nat → Nat → kp_S → (Int32 → kp_S → Prop) → Prop
  | 0, _, _, _, _ => False
  | n + 1, 0, a0, S, post => wX2_unit (wx2_rec n 0) (wx2_rec n 1) a0 S post
  | n + 1, _, a0, S, post => wX2_negation (wx2_rec n 0) (wx2_rec n 1) a0 S post
theorem wx2_all (l : Launch) (D : va_G) (cy : Nat → ClassId) (ad : (Nat → Nat) × (Nat → Nat)) : ∀ n : Nat, (∀ (S : kp_S) (a0 : Nat) (post : Int32 → kp_S → Prop), kp_ok S → kp_is S a0 2 → wx2_rec n 0 a0 S post → kp_M l yX2_unit cX2_unit 1 (some .int) { frames := 7 + 5 * n, cells := 0, slots := 0, locals := 155 + 115 * n } D cy ad S [.ref a0] 0 0 (fun A => kp_Qi D cy A S post)) ∧ (∀ (S : kp_S) (a0 : Nat) (post : Int32 → kp_S → Prop), kp_ok S → kp_is S a0 2 → wx2_rec n 1 a0 S post → kp_M l yX2_negation cX2_negation 2 (some .int) { frames := 7 + 5 * n, cells := 0, slots := 0, locals := 155 + 115 * n } D cy ad S [.ref a0] 0 0 (fun A => kp_Qi D cy A S post)) := by
  intro n
  induction n with
  | zero => exact ⟨fun S a0 post hS ha hw => kp_never hw, fun S a0 post hS ha hw => kp_never hw⟩
  | succ n ih =>
    exact ⟨fun S a0 post hS ha hw => by
      rw [show 7 + 5 * (n + 1) = 7 + 5 * n + 5 by omega, show 155 + 115 * (n + 1) = 155 + 115 * n + 115 by omega]
      exact c_X2_unit l D cy ad (7 + 5 * n) (155 + 115 * n) (wx2_rec n 0) (wx2_rec n 1) ih.1 ih.2 (by omega) (by omega) S a0 post hS ha hw, fun S a0 post hS ha hw => by
      rw [show 7 + 5 * (n + 1) = 7 + 5 * n + 5 by omega, show 155 + 115 * (n + 1) = 155 + 115 * n + 115 by omega]
      exact c_X2_negation l D cy ad (7 + 5 * n) (155 + 115 * n) (wx2_rec n 0) (wx2_rec n 1) ih.1 ih.2 (by omega) (by omega) S a0 post hS ha hw⟩
def wX2_whole_t (a0 : Nat) (S : kp_S) (post : Int32 → kp_S → Prop) : Prop := wX2_whole (wx2_rec 36 0) (wx2_rec 36 1) a0 S post
theorem c_X2_whole_t (l : Launch) (D : va_G) (cy : Nat → ClassId) (ad : (Nat → Nat) × (Nat → Nat)) (S : kp_S) (a0 : Nat) (post : Int32 → kp_S → Prop) (hS : kp_ok S) (f_a0 : kp_is S a0 2) (hw : wX2_whole_t a0 S post) : kp_M l yX2_whole cX2_whole 4 (some .int) { frames := 189, cells := 0, slots := 0, locals := 4339 } D cy ad S [.ref a0] 0 0 (fun A => kp_Qi D cy A S post) :=
  c_X2_whole l D cy ad (7 + 5 * 36) (155 + 115 * 36) (wx2_rec 36 0) (wx2_rec 36 1) (wx2_all l D cy ad 36).1 (wx2_all l D cy ad 36).2 (by omega) (by omega) S a0 post hS f_a0 hw
def wX2_callOf_t (a0 : Nat) (w1 : Int64) (x3 : Int32) (S : kp_S) (post : kp_S → Prop) : Prop := wX2_callOf (wx2_rec 36 0) (wx2_rec 36 1) a0 w1 x3 S post
theorem c_X2_callOf_t (l : Launch) (D : va_G) (cy : Nat → ClassId) (ad : (Nat → Nat) × (Nat → Nat)) (S : kp_S) (a0 : Nat) (w1 : Int64) (x3 : Int32) (post : kp_S → Prop) (hS : kp_ok S) (f_a0 : kp_is S a0 2) (hw : wX2_callOf_t a0 w1 x3 S post) : kp_M l yX2_callOf cX2_callOf 6 none { frames := 190, cells := 0, slots := 0, locals := 4362 } D cy ad S [.ref a0, .long w1, .int x3] 0 0 (fun A => kp_Qv D cy A S post) :=
  c_X2_callOf l D cy ad (7 + 5 * 36) (155 + 115 * 36) (wx2_rec 36 0) (wx2_rec 36 1) (wx2_all l D cy ad 36).1 (wx2_all l D cy ad 36).2 (by omega) (by omega) S a0 w1 x3 post hS f_a0 hw
