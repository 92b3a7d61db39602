theorem cv_12_556 : kp_CV RX12 556 yX12_test cX12_test 2 none 0 12 := ⟨⟨kp_mem 2212 (by decide +kernel) (by decide +kernel), kp_mem 220 (by decide +kernel) (by decide +kernel), by decide +kernel⟩, kp_mem 2209 (by decide +kernel) (by decide +kernel), kp_mem 2211 (by decide +kernel) (by decide +kernel), kp_mem 134 (by decide +kernel) (by decide +kernel), by decide, TX12, 125, rfl⟩
theorem dX12_both_0 : decode cX12_both 0 = .ok (.aload_n 0, 1) := by decide +kernel
theorem dX12_both_1 : decode cX12_both 1 = .ok (.invokevirtual 553, 3) := by decide +kernel
theorem dX12_both_4 : decode cX12_both 4 = .ok (.aload_n 0, 1) := by decide +kernel
theorem dX12_both_5 : decode cX12_both 5 = .ok (.bipush 31, 2) := by decide +kernel
theorem dX12_both_7 : decode cX12_both 7 = .ok (.invokevirtual 440, 3) := by decide +kernel
theorem dX12_both_10 : decode cX12_both 10 = .ok (.ifCond .eq 38, 3) := by decide +kernel
theorem dX12_both_13 : decode cX12_both 13 = .ok (.aload_n 0, 1) := by decide +kernel
theorem dX12_both_14 : decode cX12_both 14 = .ok (.bipush 17, 2) := by decide +kernel
theorem dX12_both_16 : decode cX12_both 16 = .ok (.iconst 0, 1) := by decide +kernel
theorem dX12_both_17 : decode cX12_both 17 = .ok (.iconst 0, 1) := by decide +kernel
theorem dX12_both_18 : decode cX12_both 18 = .ok (.invokevirtual 451, 3) := by decide +kernel
theorem dX12_both_21 : decode cX12_both 21 = .ok (.istore_n 1, 1) := by decide +kernel
theorem dX12_both_22 : decode cX12_both 22 = .ok (.aload_n 0, 1) := by decide +kernel
theorem dX12_both_23 : decode cX12_both 23 = .ok (.invokevirtual 553, 3) := by decide +kernel
theorem dX12_both_26 : decode cX12_both 26 = .ok (.aload_n 0, 1) := by decide +kernel
theorem dX12_both_27 : decode cX12_both 27 = .ok (.bipush 18, 2) := by decide +kernel
theorem dX12_both_29 : decode cX12_both 29 = .ok (.iconst 0, 1) := by decide +kernel
theorem dX12_both_30 : decode cX12_both 30 = .ok (.iconst 0, 1) := by decide +kernel
theorem dX12_both_31 : decode cX12_both 31 = .ok (.invokevirtual 451, 3) := by decide +kernel
theorem dX12_both_34 : decode cX12_both 34 = .ok (.pop, 1) := by decide +kernel
theorem dX12_both_35 : decode cX12_both 35 = .ok (.aload_n 0, 1) := by decide +kernel
theorem dX12_both_36 : decode cX12_both 36 = .ok (.getfield 46, 3) := by decide +kernel
theorem dX12_both_39 : decode cX12_both 39 = .ok (.iload_n 1, 1) := by decide +kernel
theorem dX12_both_40 : decode cX12_both 40 = .ok (.aload_n 0, 1) := by decide +kernel
theorem dX12_both_41 : decode cX12_both 41 = .ok (.getfield 370, 3) := by decide +kernel
theorem dX12_both_44 : decode cX12_both 44 = .ok (.iastore, 1) := by decide +kernel
theorem dX12_both_45 : decode cX12_both 45 = .ok (.goto (-41), 3) := by decide +kernel
theorem dX12_both_48 : decode cX12_both 48 = .ok (.return_, 1) := by decide +kernel
def wX12_both_L4 (U : Nat → kp_S → (kp_S → Prop) → Prop) (N : Nat → kp_S → (kp_S → Prop) → Prop) (a0 : Nat)  (post : kp_S → Prop) : Nat → kp_S → Prop
  | 0, _ => False
  | n + 1, Sn =>
  wX12_skip a0 31 Sn (fun y1002 T1001 =>
  ((y1002 = 0 →
  post T1001) ∧ (¬ y1002 = 0 →
  wX12_emit a0 17 0 0 T1001 (fun y1004 T1003 =>
  N a0 T1003 (fun T1005 =>
  wX12_emit a0 18 0 0 T1005 (fun y1007 T1006 =>
  ∃ b1008 : Nat, kp_R T1006 2415 a0 = some b1008 ∧
  vp_in y1004 (kp_N T1006 b1008) ∧ ∀ T1009 : kp_S, T1009 = kp_sA T1006 b1008 (upd (kp_A T1006 b1008) (y1004.toNatClampNeg) (kp_I T1006 2417 a0)) →
  wX12_both_L4 U N a0  post n  T1009))))))
def wX12_both (U : Nat → kp_S → (kp_S → Prop) → Prop) (N : Nat → kp_S → (kp_S → Prop) → Prop) (a0 : Nat) (S : kp_S) (post : kp_S → Prop) : Prop :=
  N a0 S (fun T1 =>
  ∃ n0 : Nat, wX12_both_L4 U N a0  post n0  T1)
set_option maxHeartbeats 4000000 in
set_option maxRecDepth 100000 in
theorem c_X12_both (l : Launch) (D : va_G) (cy : Nat → ClassId) (ad : (Nat → Nat) × (Nat → Nat)) (F L : Nat) (U : Nat → kp_S → (kp_S → Prop) → Prop) (N : Nat → kp_S → (kp_S → Prop) → Prop) (hU : ∀ (S : kp_S) (a0 : Nat) (post : kp_S → Prop), kp_ok S → kp_is S a0 12 → U a0 S post → kp_M l yX12_unit cX12_unit 2 none { frames := F, cells := 0, slots := 0, locals := L } D cy ad S [.ref a0] 0 0 (fun A => kp_Qv D cy A S post)) (hN : ∀ (S : kp_S) (a0 : Nat) (post : kp_S → Prop), kp_ok S → kp_is S a0 12 → N a0 S post → kp_M l yX12_turned cX12_turned 1 none { frames := F, cells := 0, slots := 0, locals := L } D cy ad S [.ref a0] 0 0 (fun A => kp_Qv D cy A S post)) (hF : 3 ≤ F) (hL : 63 ≤ L) (S : kp_S) (a0 : Nat) (post : kp_S → Prop) (hS : kp_ok S) (f_a0 : kp_is S a0 12) (hw : wX12_both U N a0 S post) : kp_M l yX12_both cX12_both 2 none { frames := F + 1, cells := 0, slots := 0, locals := L + 20 } D cy ad S [.ref a0] 0 0 (fun A => kp_Qv D cy A S post) := by
  refine kp_start (own := RX12) (by decide) rfl (Nat.le_of_ble_eq_true rfl) hS ?_
  intro p e s m below meth c A ls X hr hlocks hname h hl
  have hle : kp_le S S := kp_le.rf
  have hl : lv_has ls 2 [(0, .ref a0)] := hl
  have L4 : ∀ n4 : Nat, ∀  (Sn : kp_S) (H : Heap) (locs : List Loc) (ls : Array Slot), lv_has ls 2 [(0, .ref a0)] → kp_H D cy A Sn s.heap H locs → kp_le S Sn → kp_is Sn a0 12 → wX12_both_L4 U N a0  post n4  Sn → W p l e { frames := F + 1, cells := 0, slots := 0, locals := L + 20 } s m ([.ref a0] : List Value).toArray below meth c H locs 0 0 (MQ below (kp_Qv D cy A S post) ([.ref a0] : List Value).toArray s 0 0 A) (F0 m 4 ls []) := by
    intro n4
    induction n4 with
    | zero => intro  Sn H locs ls hl h hle f_a0 hw; exact hw.elim
    | succ n4 ih4 =>
      intro  Sn H locs ls hl h hle f_a0 hw
      unfold wX12_both_L4 at hw
      refine lv_aload_n X.1 X.2.1 dX12_both_4 rfl (lv_at hl 0 rfl) ?_
      refine lv_bipush (v := 31) X.1 X.2.1 dX12_both_5 (by decide) ?_
      refine kp_calli X h (kp_runV (rm := { frames := 1, cells := 0, slots := 0, locals := 21 }) (mc := 0) (ms := 0) (rest := []) (Qc := fun A => kp_Qi D cy A Sn _) X h (c_X12_skip l D cy ad Sn a0 31 _ h.2.2.2 f_a0 hw) f_a0 cv_12_440 ⟨by dsimp only; omega, by dsimp only; omega, rfl, rfl, by dsimp only; omega, by dsimp only; omega⟩ rfl hl.1 rfl (Nat.le_of_ble_eq_true rfl) dX12_both_7) (fun y1002 T1001 hw l_T1001 H locs h => ?_)
      have f_a0 := l_T1001.is f_a0
      have hle := hle.tr l_T1001
      refine lv_if_eq (tgt := 48) X.1 X.2.1 dX12_both_10 (by decide) (fun c1010 => ?_) (fun c1010 => ?_)
      · have hw := hw.1 c1010
        exact kp_retv X hr hlocks h hle hw dX12_both_48
      · have hw := hw.2 c1010
        refine lv_aload_n X.1 X.2.1 dX12_both_13 rfl (lv_at hl 0 rfl) ?_
        refine lv_bipush (v := 17) X.1 X.2.1 dX12_both_14 (by decide) ?_
        refine lv_iconst (v := 0) X.1 X.2.1 dX12_both_16 (by decide) ?_
        refine lv_iconst (v := 0) X.1 X.2.1 dX12_both_17 (by decide) ?_
        refine kp_calli X h (kp_runV (rm := { frames := 0, cells := 0, slots := 0, locals := 0 }) (mc := 0) (ms := 0) (rest := []) (Qc := fun A => kp_Qi D cy A T1001 _) X h (c_X12_emit l D cy ad T1001 a0 17 0 0 _ h.2.2.2 f_a0 hw) f_a0 cv_12_451 ⟨by dsimp only; omega, by dsimp only; omega, rfl, rfl, by dsimp only; omega, by dsimp only; omega⟩ rfl hl.1 rfl (Nat.le_of_ble_eq_true rfl) dX12_both_18) (fun y1004 T1003 hw l_T1003 H locs h => ?_)
        have f_a0 := l_T1003.is f_a0
        have hle := hle.tr l_T1003
        refine lv_istore_n (lv' := [(1, .int y1004), (0, .ref a0)]) X.1 X.2.1 dX12_both_21 rfl hl (by decide) rfl (fun ls hl => ?_)
        refine lv_aload_n X.1 X.2.1 dX12_both_22 rfl (lv_at hl 1 rfl) ?_
        refine kp_callv X h (kp_runV (rm := { frames := F, cells := 0, slots := 0, locals := L }) (mc := 0) (ms := 0) (rest := []) (Qc := fun A => kp_Qv D cy A T1003 _) X h (hN T1003 a0 _ h.2.2.2 f_a0 hw) f_a0 cv_12_553 ⟨by dsimp only; omega, by dsimp only; omega, rfl, rfl, by dsimp only; omega, by dsimp only; omega⟩ rfl hl.1 rfl (Nat.le_of_ble_eq_true rfl) dX12_both_23) (fun T1005 hw l_T1005 H locs h => ?_)
        have f_a0 := l_T1005.is f_a0
        have hle := hle.tr l_T1005
        refine lv_aload_n X.1 X.2.1 dX12_both_26 rfl (lv_at hl 1 rfl) ?_
        refine lv_bipush (v := 18) X.1 X.2.1 dX12_both_27 (by decide) ?_
        refine lv_iconst (v := 0) X.1 X.2.1 dX12_both_29 (by decide) ?_
        refine lv_iconst (v := 0) X.1 X.2.1 dX12_both_30 (by decide) ?_
        refine kp_calli X h (kp_runV (rm := { frames := 0, cells := 0, slots := 0, locals := 0 }) (mc := 0) (ms := 0) (rest := []) (Qc := fun A => kp_Qi D cy A T1005 _) X h (c_X12_emit l D cy ad T1005 a0 18 0 0 _ h.2.2.2 f_a0 hw) f_a0 cv_12_451 ⟨by dsimp only; omega, by dsimp only; omega, rfl, rfl, by dsimp only; omega, by dsimp only; omega⟩ rfl hl.1 rfl (Nat.le_of_ble_eq_true rfl) dX12_both_31) (fun y1007 T1006 hw l_T1006 H locs h => ?_)
        have f_a0 := l_T1006.is f_a0
        have hle := hle.tr l_T1006
        refine lv_pop X.1 X.2.1 dX12_both_34 rfl ?_
        refine lv_aload_n X.1 X.2.1 dX12_both_35 rfl (lv_at hl 1 rfl) ?_
        obtain ⟨b1008, e_b1008, hw⟩ := hw
        have f_b1008 := h.2.2.2.rf (c := 12) (k := 15) f_a0 (by decide) (by decide) e_b1008 (t := 14) rfl
        refine kp_get X h f_a0 ff_12_46.l (v := .ref b1008) (congrArg va_rf e_b1008) dX12_both_36 ?_
        refine lv_iload_n X.1 X.2.1 dX12_both_39 rfl (lv_at hl 0 rfl) ?_
        refine lv_aload_n X.1 X.2.1 dX12_both_40 rfl (lv_at hl 1 rfl) ?_
        refine kp_get X h f_a0 fp_12_370.l (v := .int (kp_I T1006 2417 a0)) rfl dX12_both_41 ?_
        obtain ⟨hi, hw⟩ := hw
        refine kp_iast X h f_b1008 hi dX12_both_44 (fun T1009 e_T1009 l_T1009 H locs h => ?_)
        have hw := hw T1009 e_T1009
        have f_a0 := l_T1009.is f_a0
        have f_b1008 := l_T1009.is f_b1008
        have hle := hle.tr l_T1009
        have e_b1008 : kp_R T1009 2415 a0 = some b1008 := by rw [e_T1009]; exact e_b1008
        refine lv_goto (tgt := 4) X.1 X.2.1 dX12_both_45 (by decide) ?_
        exact ih4  T1009 H locs ls (lv_sub hl [1] rfl) h hle f_a0 hw
  unfold wX12_both at hw
  have h : kp_H D cy A S s.heap s.heap [] := h
  revert h
  intro h
  refine lv_aload_n X.1 X.2.1 dX12_both_0 rfl (lv_at hl 0 rfl) ?_
  refine kp_callv X h (kp_runV (rm := { frames := F, cells := 0, slots := 0, locals := L }) (mc := 0) (ms := 0) (rest := []) (Qc := fun A => kp_Qv D cy A S _) X h (hN S a0 _ h.2.2.2 f_a0 hw) f_a0 cv_12_553 ⟨by dsimp only; omega, by dsimp only; omega, rfl, rfl, by dsimp only; omega, by dsimp only; omega⟩ rfl hl.1 rfl (Nat.le_of_ble_eq_true rfl) dX12_both_1) (fun T1 hw l_T1 H locs h => ?_)
  have f_a0 := l_T1.is f_a0
  have hle := hle.tr l_T1
  obtain ⟨n0, hw⟩ := hw
  exact L4 n0  T1 _ _ ls (lv_sub hl [0] rfl) h hle f_a0 hw
theorem dX12_expression_0 : decode cX12_expression 0 = .ok (.aload_n 0, 1) := by decide +kernel
theorem dX12_expression_1 : decode cX12_expression 1 = .ok (.invokevirtual 550, 3) := by decide +kernel
theorem dX12_expression_4 : decode cX12_expression 4 = .ok (.aload_n 0, 1) := by decide +kernel
theorem dX12_expression_5 : decode cX12_expression 5 = .ok (.bipush 30, 2) := by decide +kernel
theorem dX12_expression_7 : decode cX12_expression 7 = .ok (.invokevirtual 440, 3) := by decide +kernel
theorem dX12_expression_10 : decode cX12_expression 10 = .ok (.ifCond .eq 38, 3) := by decide +kernel
theorem dX12_expression_13 : decode cX12_expression 13 = .ok (.aload_n 0, 1) := by decide +kernel
theorem dX12_expression_14 : decode cX12_expression 14 = .ok (.bipush 16, 2) := by decide +kernel
theorem dX12_expression_16 : decode cX12_expression 16 = .ok (.iconst 0, 1) := by decide +kernel
theorem dX12_expression_17 : decode cX12_expression 17 = .ok (.iconst 0, 1) := by decide +kernel
theorem dX12_expression_18 : decode cX12_expression 18 = .ok (.invokevirtual 451, 3) := by decide +kernel
theorem dX12_expression_21 : decode cX12_expression 21 = .ok (.istore_n 1, 1) := by decide +kernel
theorem dX12_expression_22 : decode cX12_expression 22 = .ok (.aload_n 0, 1) := by decide +kernel
theorem dX12_expression_23 : decode cX12_expression 23 = .ok (.invokevirtual 550, 3) := by decide +kernel
theorem dX12_expression_26 : decode cX12_expression 26 = .ok (.aload_n 0, 1) := by decide +kernel
theorem dX12_expression_27 : decode cX12_expression 27 = .ok (.bipush 18, 2) := by decide +kernel
theorem dX12_expression_29 : decode cX12_expression 29 = .ok (.iconst 0, 1) := by decide +kernel
theorem dX12_expression_30 : decode cX12_expression 30 = .ok (.iconst 0, 1) := by decide +kernel
theorem dX12_expression_31 : decode cX12_expression 31 = .ok (.invokevirtual 451, 3) := by decide +kernel
theorem dX12_expression_34 : decode cX12_expression 34 = .ok (.pop, 1) := by decide +kernel
theorem dX12_expression_35 : decode cX12_expression 35 = .ok (.aload_n 0, 1) := by decide +kernel
theorem dX12_expression_36 : decode cX12_expression 36 = .ok (.getfield 46, 3) := by decide +kernel
theorem dX12_expression_39 : decode cX12_expression 39 = .ok (.iload_n 1, 1) := by decide +kernel
theorem dX12_expression_40 : decode cX12_expression 40 = .ok (.aload_n 0, 1) := by decide +kernel
theorem dX12_expression_41 : decode cX12_expression 41 = .ok (.getfield 370, 3) := by decide +kernel
theorem dX12_expression_44 : decode cX12_expression 44 = .ok (.iastore, 1) := by decide +kernel
theorem dX12_expression_45 : decode cX12_expression 45 = .ok (.goto (-41), 3) := by decide +kernel
theorem dX12_expression_48 : decode cX12_expression 48 = .ok (.return_, 1) := by decide +kernel
def wX12_expression_L4 (U : Nat → kp_S → (kp_S → Prop) → Prop) (N : Nat → kp_S → (kp_S → Prop) → Prop) (a0 : Nat)  (post : kp_S → Prop) : Nat → kp_S → Prop
  | 0, _ => False
  | n + 1, Sn =>
  wX12_skip a0 30 Sn (fun y1002 T1001 =>
  ((y1002 = 0 →
  post T1001) ∧ (¬ y1002 = 0 →
  wX12_emit a0 16 0 0 T1001 (fun y1004 T1003 =>
  wX12_both U N a0 T1003 (fun T1005 =>
  wX12_emit a0 18 0 0 T1005 (fun y1007 T1006 =>
  ∃ b1008 : Nat, kp_R T1006 2415 a0 = some b1008 ∧
  vp_in y1004 (kp_N T1006 b1008) ∧ ∀ T1009 : kp_S, T1009 = kp_sA T1006 b1008 (upd (kp_A T1006 b1008) (y1004.toNatClampNeg) (kp_I T1006 2417 a0)) →
  wX12_expression_L4 U N a0  post n  T1009))))))
def wX12_expression (U : Nat → kp_S → (kp_S → Prop) → Prop) (N : Nat → kp_S → (kp_S → Prop) → Prop) (a0 : Nat) (S : kp_S) (post : kp_S → Prop) : Prop :=
  wX12_both U N a0 S (fun T1 =>
  ∃ n0 : Nat, wX12_expression_L4 U N a0  post n0  T1)
set_option maxHeartbeats 4000000 in
set_option maxRecDepth 100000 in
theorem c_X12_expression (l : Launch) (D : va_G) (cy : Nat → ClassId) (ad : (Nat → Nat) × (Nat → Nat)) (F L : Nat) (U : Nat → kp_S → (kp_S → Prop) → Prop) (N : Nat → kp_S → (kp_S → Prop) → Prop) (hU : ∀ (S : kp_S) (a0 : Nat) (post : kp_S → Prop), kp_ok S → kp_is S a0 12 → U a0 S post → kp_M l yX12_unit cX12_unit 2 none { frames := F, cells := 0, slots := 0, locals := L } D cy ad S [.ref a0] 0 0 (fun A => kp_Qv D cy A S post)) (hN : ∀ (S : kp_S) (a0 : Nat) (post : kp_S → Prop), kp_ok S → kp_is S a0 12 → N a0 S post → kp_M l yX12_turned cX12_turned 1 none { frames := F, cells := 0, slots := 0, locals := L } D cy ad S [.ref a0] 0 0 (fun A => kp_Qv D cy A S post)) (hF : 3 ≤ F) (hL : 63 ≤ L) (S : kp_S) (a0 : Nat) (post : kp_S → Prop) (hS : kp_ok S) (f_a0 : kp_is S a0 12) (hw : wX12_expression U N a0 S post) : kp_M l yX12_expression cX12_expression 2 none { frames := F + 2, cells := 0, slots := 0, locals := L + 41 } D cy ad S [.ref a0] 0 0 (fun A => kp_Qv D cy A S post) := by
  refine kp_start (own := RX12) (by decide) rfl (Nat.le_of_ble_eq_true rfl) hS ?_
  intro p e s m below meth c A ls X hr hlocks hname h hl
  have hle : kp_le S S := kp_le.rf
  have hl : lv_has ls 2 [(0, .ref a0)] := hl
  have L4 : ∀ n4 : Nat, ∀  (Sn : kp_S) (H : Heap) (locs : List Loc) (ls : Array Slot), lv_has ls 2 [(0, .ref a0)] → kp_H D cy A Sn s.heap H locs → kp_le S Sn → kp_is Sn a0 12 → wX12_expression_L4 U N a0  post n4  Sn → W p l e { frames := F + 2, cells := 0, slots := 0, locals := L + 41 } s m ([.ref a0] : List Value).toArray below meth c H locs 0 0 (MQ below (kp_Qv D cy A S post) ([.ref a0] : List Value).toArray s 0 0 A) (F0 m 4 ls []) := by
    intro n4
    induction n4 with
    | zero => intro  Sn H locs ls hl h hle f_a0 hw; exact hw.elim
    | succ n4 ih4 =>
      intro  Sn H locs ls hl h hle f_a0 hw
      unfold wX12_expression_L4 at hw
      refine lv_aload_n X.1 X.2.1 dX12_expression_4 rfl (lv_at hl 0 rfl) ?_
      refine lv_bipush (v := 30) X.1 X.2.1 dX12_expression_5 (by decide) ?_
      refine kp_calli X h (kp_runV (rm := { frames := 1, cells := 0, slots := 0, locals := 21 }) (mc := 0) (ms := 0) (rest := []) (Qc := fun A => kp_Qi D cy A Sn _) X h (c_X12_skip l D cy ad Sn a0 30 _ h.2.2.2 f_a0 hw) f_a0 cv_12_440 ⟨by dsimp only; omega, by dsimp only; omega, rfl, rfl, by dsimp only; omega, by dsimp only; omega⟩ rfl hl.1 rfl (Nat.le_of_ble_eq_true rfl) dX12_expression_7) (fun y1002 T1001 hw l_T1001 H locs h => ?_)
      have f_a0 := l_T1001.is f_a0
      have hle := hle.tr l_T1001
      refine lv_if_eq (tgt := 48) X.1 X.2.1 dX12_expression_10 (by decide) (fun c1010 => ?_) (fun c1010 => ?_)
      · have hw := hw.1 c1010
        exact kp_retv X hr hlocks h hle hw dX12_expression_48
      · have hw := hw.2 c1010
        refine lv_aload_n X.1 X.2.1 dX12_expression_13 rfl (lv_at hl 0 rfl) ?_
        refine lv_bipush (v := 16) X.1 X.2.1 dX12_expression_14 (by decide) ?_
        refine lv_iconst (v := 0) X.1 X.2.1 dX12_expression_16 (by decide) ?_
        refine lv_iconst (v := 0) X.1 X.2.1 dX12_expression_17 (by decide) ?_
        refine kp_calli X h (kp_runV (rm := { frames := 0, cells := 0, slots := 0, locals := 0 }) (mc := 0) (ms := 0) (rest := []) (Qc := fun A => kp_Qi D cy A T1001 _) X h (c_X12_emit l D cy ad T1001 a0 16 0 0 _ h.2.2.2 f_a0 hw) f_a0 cv_12_451 ⟨by dsimp only; omega, by dsimp only; omega, rfl, rfl, by dsimp only; omega, by dsimp only; omega⟩ rfl hl.1 rfl (Nat.le_of_ble_eq_true rfl) dX12_expression_18) (fun y1004 T1003 hw l_T1003 H locs h => ?_)
        have f_a0 := l_T1003.is f_a0
        have hle := hle.tr l_T1003
        refine lv_istore_n (lv' := [(1, .int y1004), (0, .ref a0)]) X.1 X.2.1 dX12_expression_21 rfl hl (by decide) rfl (fun ls hl => ?_)
        refine lv_aload_n X.1 X.2.1 dX12_expression_22 rfl (lv_at hl 1 rfl) ?_
        refine kp_callv X h (kp_runV (rm := { frames := F + 1, cells := 0, slots := 0, locals := L + 20 }) (mc := 0) (ms := 0) (rest := []) (Qc := fun A => kp_Qv D cy A T1003 _) X h (c_X12_both l D cy ad F L U N hU hN hF hL T1003 a0 _ h.2.2.2 f_a0 hw) f_a0 cv_12_550 ⟨by dsimp only; omega, by dsimp only; omega, rfl, rfl, by dsimp only; omega, by dsimp only; omega⟩ rfl hl.1 rfl (Nat.le_of_ble_eq_true rfl) dX12_expression_23) (fun T1005 hw l_T1005 H locs h => ?_)
        have f_a0 := l_T1005.is f_a0
        have hle := hle.tr l_T1005
        refine lv_aload_n X.1 X.2.1 dX12_expression_26 rfl (lv_at hl 1 rfl) ?_
        refine lv_bipush (v := 18) X.1 X.2.1 dX12_expression_27 (by decide) ?_
        refine lv_iconst (v := 0) X.1 X.2.1 dX12_expression_29 (by decide) ?_
        refine lv_iconst (v := 0) X.1 X.2.1 dX12_expression_30 (by decide) ?_
        refine kp_calli X h (kp_runV (rm := { frames := 0, cells := 0, slots := 0, locals := 0 }) (mc := 0) (ms := 0) (rest := []) (Qc := fun A => kp_Qi D cy A T1005 _) X h (c_X12_emit l D cy ad T1005 a0 18 0 0 _ h.2.2.2 f_a0 hw) f_a0 cv_12_451 ⟨by dsimp only; omega, by dsimp only; omega, rfl, rfl, by dsimp only; omega, by dsimp only; omega⟩ rfl hl.1 rfl (Nat.le_of_ble_eq_true rfl) dX12_expression_31) (fun y1007 T1006 hw l_T1006 H locs h => ?_)
        have f_a0 := l_T1006.is f_a0
        have hle := hle.tr l_T1006
        refine lv_pop X.1 X.2.1 dX12_expression_34 rfl ?_
        refine lv_aload_n X.1 X.2.1 dX12_expression_35 rfl (lv_at hl 1 rfl) ?_
        obtain ⟨b1008, e_b1008, hw⟩ := hw
        have f_b1008 := h.2.2.2.rf (c := 12) (k := 15) f_a0 (by decide) (by decide) e_b1008 (t := 14) rfl
        refine kp_get X h f_a0 ff_12_46.l (v := .ref b1008) (congrArg va_rf e_b1008) dX12_expression_36 ?_
        refine lv_iload_n X.1 X.2.1 dX12_expression_39 rfl (lv_at hl 0 rfl) ?_
        refine lv_aload_n X.1 X.2.1 dX12_expression_40 rfl (lv_at hl 1 rfl) ?_
        refine kp_get X h f_a0 fp_12_370.l (v := .int (kp_I T1006 2417 a0)) rfl dX12_expression_41 ?_
        obtain ⟨hi, hw⟩ := hw
        refine kp_iast X h f_b1008 hi dX12_expression_44 (fun T1009 e_T1009 l_T1009 H locs h => ?_)
        have hw := hw T1009 e_T1009
        have f_a0 := l_T1009.is f_a0
        have f_b1008 := l_T1009.is f_b1008
        have hle := hle.tr l_T1009
        have e_b1008 : kp_R T1009 2415 a0 = some b1008 := by rw [e_T1009]; exact e_b1008
        refine lv_goto (tgt := 4) X.1 X.2.1 dX12_expression_45 (by decide) ?_
        exact ih4  T1009 H locs ls (lv_sub hl [1] rfl) h hle f_a0 hw
  unfold wX12_expression at hw
  have h : kp_H D cy A S s.heap s.heap [] := h
  revert h
  intro h
  refine lv_aload_n X.1 X.2.1 dX12_expression_0 rfl (lv_at hl 0 rfl) ?_
  refine kp_callv X h (kp_runV (rm := { frames := F + 1, cells := 0, slots := 0, locals := L + 20 }) (mc := 0) (ms := 0) (rest := []) (Qc := fun A => kp_Qv D cy A S _) X h (c_X12_both l D cy ad F L U N hU hN hF hL S a0 _ h.2.2.2 f_a0 hw) f_a0 cv_12_550 ⟨by dsimp only; omega, by dsimp only; omega, rfl, rfl, by dsimp only; omega, by dsimp only; omega⟩ rfl hl.1 rfl (Nat.le_of_ble_eq_true rfl) dX12_expression_1) (fun T1 hw l_T1 H locs h => ?_)
  have f_a0 := l_T1.is f_a0
  have hle := hle.tr l_T1
  obtain ⟨n0, hw⟩ := hw
  exact L4 n0  T1 _ _ ls (lv_sub hl [0] rfl) h hle f_a0 hw
theorem dX12_call_0 : decode cX12_call 0 = .ok (.aload_n 0, 1) := by decide +kernel
theorem dX12_call_1 : decode cX12_call 1 = .ok (.invokevirtual 463, 3) := by decide +kernel
theorem dX12_call_4 : decode cX12_call 4 = .ok (.iconst 0, 1) := by decide +kernel
theorem dX12_call_5 : decode cX12_call 5 = .ok (.istore_n 2, 1) := by decide +kernel
theorem dX12_call_6 : decode cX12_call 6 = .ok (.aload_n 0, 1) := by decide +kernel
theorem dX12_call_7 : decode cX12_call 7 = .ok (.bipush 41, 2) := by decide +kernel
theorem dX12_call_9 : decode cX12_call 9 = .ok (.invokevirtual 433, 3) := by decide +kernel
theorem dX12_call_12 : decode cX12_call 12 = .ok (.ifCond .ne 20, 3) := by decide +kernel
theorem dX12_call_15 : decode cX12_call 15 = .ok (.aload_n 0, 1) := by decide +kernel
theorem dX12_call_16 : decode cX12_call 16 = .ok (.invokevirtual 520, 3) := by decide +kernel
theorem dX12_call_19 : decode cX12_call 19 = .ok (.iinc 2 1, 3) := by decide +kernel
theorem dX12_call_22 : decode cX12_call 22 = .ok (.aload_n 0, 1) := by decide +kernel
theorem dX12_call_23 : decode cX12_call 23 = .ok (.sipush 144, 3) := by decide +kernel
theorem dX12_call_26 : decode cX12_call 26 = .ok (.invokevirtual 440, 3) := by decide +kernel
theorem dX12_call_29 : decode cX12_call 29 = .ok (.ifCond .ne (-14), 3) := by decide +kernel
theorem dX12_call_32 : decode cX12_call 32 = .ok (.aload_n 0, 1) := by decide +kernel
theorem dX12_call_33 : decode cX12_call 33 = .ok (.bipush 41, 2) := by decide +kernel
theorem dX12_call_35 : decode cX12_call 35 = .ok (.invokevirtual 429, 3) := by decide +kernel
theorem dX12_call_38 : decode cX12_call 38 = .ok (.aload_n 0, 1) := by decide +kernel
theorem dX12_call_39 : decode cX12_call 39 = .ok (.dup, 1) := by decide +kernel
theorem dX12_call_40 : decode cX12_call 40 = .ok (.getfield 388, 3) := by decide +kernel
theorem dX12_call_43 : decode cX12_call 43 = .ok (.iconst 1, 1) := by decide +kernel
theorem dX12_call_44 : decode cX12_call 44 = .ok (.isub, 1) := by decide +kernel
theorem dX12_call_45 : decode cX12_call 45 = .ok (.putfield 388, 3) := by decide +kernel
theorem dX12_call_48 : decode cX12_call 48 = .ok (.aload_n 0, 1) := by decide +kernel
theorem dX12_call_49 : decode cX12_call 49 = .ok (.invokevirtual 408, 3) := by decide +kernel
theorem dX12_call_52 : decode cX12_call 52 = .ok (.ifCond .ne 4, 3) := by decide +kernel
theorem dX12_call_55 : decode cX12_call 55 = .ok (.return_, 1) := by decide +kernel
theorem dX12_call_56 : decode cX12_call 56 = .ok (.aload_n 0, 1) := by decide +kernel
theorem dX12_call_57 : decode cX12_call 57 = .ok (.iconst 1, 1) := by decide +kernel
theorem dX12_call_58 : decode cX12_call 58 = .ok (.putfield 471, 3) := by decide +kernel
theorem dX12_call_61 : decode cX12_call 61 = .ok (.aload_n 0, 1) := by decide +kernel
theorem dX12_call_62 : decode cX12_call 62 = .ok (.getfield 88, 3) := by decide +kernel
theorem dX12_call_65 : decode cX12_call 65 = .ok (.aload_n 0, 1) := by decide +kernel
theorem dX12_call_66 : decode cX12_call 66 = .ok (.getfield 412, 3) := by decide +kernel
theorem dX12_call_69 : decode cX12_call 69 = .ok (.aload_n 0, 1) := by decide +kernel
theorem dX12_call_70 : decode cX12_call 70 = .ok (.getfield 37, 3) := by decide +kernel
theorem dX12_call_73 : decode cX12_call 73 = .ok (.iload_n 1, 1) := by decide +kernel
theorem dX12_call_74 : decode cX12_call 74 = .ok (.laload, 1) := by decide +kernel
theorem dX12_call_75 : decode cX12_call 75 = .ok (.lastore, 1) := by decide +kernel
theorem dX12_call_76 : decode cX12_call 76 = .ok (.aload_n 0, 1) := by decide +kernel
theorem dX12_call_77 : decode cX12_call 77 = .ok (.getfield 91, 3) := by decide +kernel
theorem dX12_call_80 : decode cX12_call 80 = .ok (.aload_n 0, 1) := by decide +kernel
theorem dX12_call_81 : decode cX12_call 81 = .ok (.getfield 412, 3) := by decide +kernel
theorem dX12_call_84 : decode cX12_call 84 = .ok (.iload_n 1, 1) := by decide +kernel
theorem dX12_call_85 : decode cX12_call 85 = .ok (.iastore, 1) := by decide +kernel
theorem dX12_call_86 : decode cX12_call 86 = .ok (.aload_n 0, 1) := by decide +kernel
theorem dX12_call_87 : decode cX12_call 87 = .ok (.getfield 94, 3) := by decide +kernel
theorem dX12_call_90 : decode cX12_call 90 = .ok (.aload_n 0, 1) := by decide +kernel
theorem dX12_call_91 : decode cX12_call 91 = .ok (.getfield 412, 3) := by decide +kernel
theorem dX12_call_94 : decode cX12_call 94 = .ok (.iload_n 2, 1) := by decide +kernel
theorem dX12_call_95 : decode cX12_call 95 = .ok (.iastore, 1) := by decide +kernel
theorem dX12_call_96 : decode cX12_call 96 = .ok (.aload_n 0, 1) := by decide +kernel
theorem dX12_call_97 : decode cX12_call 97 = .ok (.getfield 97, 3) := by decide +kernel
theorem dX12_call_100 : decode cX12_call 100 = .ok (.aload_n 0, 1) := by decide +kernel
theorem dX12_call_101 : decode cX12_call 101 = .ok (.getfield 412, 3) := by decide +kernel
theorem dX12_call_104 : decode cX12_call 104 = .ok (.aload_n 0, 1) := by decide +kernel
theorem dX12_call_105 : decode cX12_call 105 = .ok (.bipush 19, 2) := by decide +kernel
theorem dX12_call_107 : decode cX12_call 107 = .ok (.iconst (-1), 1) := by decide +kernel
theorem dX12_call_108 : decode cX12_call 108 = .ok (.iload_n 2, 1) := by decide +kernel
theorem dX12_call_109 : decode cX12_call 109 = .ok (.invokevirtual 451, 3) := by decide +kernel
theorem dX12_call_112 : decode cX12_call 112 = .ok (.iastore, 1) := by decide +kernel
theorem dX12_call_113 : decode cX12_call 113 = .ok (.aload_n 0, 1) := by decide +kernel
theorem dX12_call_114 : decode cX12_call 114 = .ok (.dup, 1) := by decide +kernel
theorem dX12_call_115 : decode cX12_call 115 = .ok (.getfield 412, 3) := by decide +kernel
theorem dX12_call_118 : decode cX12_call 118 = .ok (.iconst 1, 1) := by decide +kernel
theorem dX12_call_119 : decode cX12_call 119 = .ok (.iadd, 1) := by decide +kernel
theorem dX12_call_120 : decode cX12_call 120 = .ok (.putfield 412, 3) := by decide +kernel
theorem dX12_call_123 : decode cX12_call 123 = .ok (.return_, 1) := by decide +kernel
def wX12_call_b32 (U : Nat → kp_S → (kp_S → Prop) → Prop) (N : Nat → kp_S → (kp_S → Prop) → Prop) (a0 : Nat) (x1 : Int32) (xn2 : Int32)  (Sn : kp_S) (post : kp_S → Prop) : Prop :=
  wX12_takeSign a0 41 Sn (fun T1001 =>
  ∀ T1002 : kp_S, T1002 = kp_sI T1001 2411 a0 ((kp_I T1001 2411 a0) - 1) →
  wX12_fine a0 T1002 (fun y1004 T1003 =>
  ((¬ y1004 = 0 →
  ∀ T1005 : kp_S, T1005 = kp_sI T1003 2425 a0 1 →
  ∃ b1006 : Nat, kp_R T1005 2434 a0 = some b1006 ∧
  ∃ b1007 : Nat, kp_R T1005 2406 a0 = some b1007 ∧
  vp_in x1 (kp_N T1005 b1007) ∧
  vp_in (kp_I T1005 2438 a0) (kp_N T1005 b1006) ∧ ∀ T1008 : kp_S, T1008 = kp_sB T1005 b1006 (vp_updL (kp_B T1005 b1006) ((kp_I T1005 2438 a0).toNatClampNeg) (kp_B T1005 b1007 x1.toNatClampNeg)) →
  ∃ b1009 : Nat, kp_R T1008 2435 a0 = some b1009 ∧
  vp_in (kp_I T1008 2438 a0) (kp_N T1008 b1009) ∧ ∀ T1010 : kp_S, T1010 = kp_sA T1008 b1009 (upd (kp_A T1008 b1009) ((kp_I T1008 2438 a0).toNatClampNeg) x1) →
  ∃ b1011 : Nat, kp_R T1010 2436 a0 = some b1011 ∧
  vp_in (kp_I T1010 2438 a0) (kp_N T1010 b1011) ∧ ∀ T1012 : kp_S, T1012 = kp_sA T1010 b1011 (upd (kp_A T1010 b1011) ((kp_I T1010 2438 a0).toNatClampNeg) xn2) →
  ∃ b1013 : Nat, kp_R T1012 2437 a0 = some b1013 ∧
  wX12_emit a0 19 (-1) xn2 T1012 (fun y1015 T1014 =>
  vp_in (kp_I T1012 2438 a0) (kp_N T1014 b1013) ∧ ∀ T1016 : kp_S, T1016 = kp_sA T1014 b1013 (upd (kp_A T1014 b1013) ((kp_I T1012 2438 a0).toNatClampNeg) y1015) →
  ∀ T1017 : kp_S, T1017 = kp_sI T1016 2438 a0 ((kp_I T1016 2438 a0) + 1) →
  post T1017)) ∧ (y1004 = 0 →
  post T1003))))
def wX12_call_L15 (U : Nat → kp_S → (kp_S → Prop) → Prop) (N : Nat → kp_S → (kp_S → Prop) → Prop) (a0 : Nat) (x1 : Int32)  (post : kp_S → Prop) : Nat → Int32 → kp_S → Prop
  | 0, _, _ => False
  | n + 1, xn2, Sn =>
  wX12_expression U N a0 Sn (fun T2001 =>
  ∀ y2002 : Int32, y2002 = xn2 + 1 →
  wX12_skip a0 144 T2001 (fun y2004 T2003 =>
  ((¬ y2004 = 0 →
  wX12_call_L15 U N a0 x1  post n y2002 T2003) ∧ (y2004 = 0 →
  wX12_call_b32 U N a0 x1 y2002  T2003 post))))
def wX12_call (U : Nat → kp_S → (kp_S → Prop) → Prop) (N : Nat → kp_S → (kp_S → Prop) → Prop) (a0 : Nat) (x1 : Int32) (S : kp_S) (post : kp_S → Prop) : Prop :=
  wX12_nest a0 S (fun T1 =>
  wX12_isSign a0 41 T1 (fun y3 T2 =>
  ((¬ y3 = 0 →
  wX12_call_b32 U N a0 x1 0  T2 post) ∧ (y3 = 0 →
  ∃ n0 : Nat, wX12_call_L15 U N a0 x1  post n0 0 T2))))
set_option maxHeartbeats 4000000 in
set_option maxRecDepth 100000 in
theorem c_X12_call (l : Launch) (D : va_G) (cy : Nat → ClassId) (ad : (Nat → Nat) × (Nat → Nat)) (F L : Nat) (U : Nat → kp_S → (kp_S → Prop) → Prop) (N : Nat → kp_S → (kp_S → Prop) → Prop) (hU : ∀ (S : kp_S) (a0 : Nat) (post : kp_S → Prop), kp_ok S → kp_is S a0 12 → U a0 S post → kp_M l yX12_unit cX12_unit 2 none { frames := F, cells := 0, slots := 0, locals := L } D cy ad S [.ref a0] 0 0 (fun A => kp_Qv D cy A S post)) (hN : ∀ (S : kp_S) (a0 : Nat) (post : kp_S → Prop), kp_ok S → kp_is S a0 12 → N a0 S post → kp_M l yX12_turned cX12_turned 1 none { frames := F, cells := 0, slots := 0, locals := L } D cy ad S [.ref a0] 0 0 (fun A => kp_Qv D cy A S post)) (hF : 3 ≤ F) (hL : 63 ≤ L) (S : kp_S) (a0 : Nat) (x1 : Int32) (post : kp_S → Prop) (hS : kp_ok S) (f_a0 : kp_is S a0 12) (hw : wX12_call U N a0 x1 S post) : kp_M l yX12_call cX12_call 3 none { frames := F + 3, cells := 0, slots := 0, locals := L + 62 } D cy ad S [.ref a0, .int x1] 0 0 (fun A => kp_Qv D cy A S post) := by
  refine kp_start (own := RX12) (by decide) rfl (Nat.le_of_ble_eq_true rfl) hS ?_
  intro p e s m below meth c A ls X hr hlocks hname h hl
  have hle : kp_le S S := kp_le.rf
  have hl : lv_has ls 3 [(0, .ref a0), (1, .int x1)] := hl
  have j32 : ∀ (xn2 : Int32) (Sn : kp_S) (H : Heap) (locs : List Loc) (ls : Array Slot), lv_has ls 3 [(0, .ref a0), (1, .int x1), (2, .int xn2)] → kp_H D cy A Sn s.heap H locs → kp_le S Sn → kp_is Sn a0 12 → wX12_call_b32 U N a0 x1 xn2  Sn post → W p l e { frames := F + 3, cells := 0, slots := 0, locals := L + 62 } s m ([.ref a0, .int x1] : List Value).toArray below meth c H locs 0 0 (MQ below (kp_Qv D cy A S post) ([.ref a0, .int x1] : List Value).toArray s 0 0 A) (F0 m 32 ls []) := by
    intro xn2 Sn H locs ls hl h hle f_a0 hw
    unfold wX12_call_b32 at hw
    refine lv_aload_n X.1 X.2.1 dX12_call_32 rfl (lv_at hl 0 rfl) ?_
    refine lv_bipush (v := 41) X.1 X.2.1 dX12_call_33 (by decide) ?_
    refine kp_callv X h (kp_runV (rm := { frames := 2, cells := 0, slots := 0, locals := 42 }) (mc := 0) (ms := 0) (rest := []) (Qc := fun A => kp_Qv D cy A Sn _) X h (c_X12_takeSign l D cy ad Sn a0 41 _ h.2.2.2 f_a0 hw) f_a0 cv_12_429 ⟨by dsimp only; omega, by dsimp only; omega, rfl, rfl, by dsimp only; omega, by dsimp only; omega⟩ rfl hl.1 rfl (Nat.le_of_ble_eq_true rfl) dX12_call_35) (fun T1001 hw l_T1001 H locs h => ?_)
    have f_a0 := l_T1001.is f_a0
    have hle := hle.tr l_T1001
    refine lv_aload_n X.1 X.2.1 dX12_call_38 rfl (lv_at hl 0 rfl) ?_
    refine lv_dup X.1 X.2.1 dX12_call_39 rfl ?_
    refine kp_get X h f_a0 fp_12_388.l (v := .int (kp_I T1001 2411 a0)) rfl dX12_call_40 ?_
    refine lv_iconst (v := 1) X.1 X.2.1 dX12_call_43 (by decide) ?_
    refine lv_isub X.1 X.2.1 dX12_call_44 ?_
    refine kp_putI X h f_a0 fp_12_388 rfl ⟨rfl, rfl⟩ dX12_call_45 (fun T1002 e_T1002 l_T1002 H locs h => ?_)
    have hw := hw T1002 e_T1002
    have f_a0 := l_T1002.is f_a0
    have hle := hle.tr l_T1002
    refine lv_aload_n X.1 X.2.1 dX12_call_48 rfl (lv_at hl 0 rfl) ?_
    refine kp_calli X h (kp_runV (rm := { frames := 0, cells := 0, slots := 0, locals := 0 }) (mc := 0) (ms := 0) (rest := []) (Qc := fun A => kp_Qi D cy A T1002 _) X h (c_X12_fine l D cy ad T1002 a0 _ h.2.2.2 f_a0 hw) f_a0 cv_12_408 ⟨by dsimp only; omega, by dsimp only; omega, rfl, rfl, by dsimp only; omega, by dsimp only; omega⟩ rfl hl.1 rfl (Nat.le_of_ble_eq_true rfl) dX12_call_49) (fun y1004 T1003 hw l_T1003 H locs h => ?_)
    have f_a0 := l_T1003.is f_a0
    have hle := hle.tr l_T1003
    refine lv_if_ne (tgt := 56) X.1 X.2.1 dX12_call_52 (by decide) (fun c1018 => ?_) (fun c1018 => ?_)
    · have hw := hw.1 c1018
      refine lv_aload_n X.1 X.2.1 dX12_call_56 rfl (lv_at hl 0 rfl) ?_
      refine lv_iconst (v := 1) X.1 X.2.1 dX12_call_57 (by decide) ?_
      refine kp_putI X h f_a0 fp_12_471 rfl ⟨by decide, by decide⟩ dX12_call_58 (fun T1005 e_T1005 l_T1005 H locs h => ?_)
      have hw := hw T1005 e_T1005
      have f_a0 := l_T1005.is f_a0
      have hle := hle.tr l_T1005
      refine lv_aload_n X.1 X.2.1 dX12_call_61 rfl (lv_at hl 0 rfl) ?_
      obtain ⟨b1006, e_b1006, hw⟩ := hw
      have f_b1006 := h.2.2.2.rf (c := 12) (k := 34) f_a0 (by decide) (by decide) e_b1006 (t := 15) rfl
      refine kp_get X h f_a0 ff_12_88.l (v := .ref b1006) (congrArg va_rf e_b1006) dX12_call_62 ?_
      refine lv_aload_n X.1 X.2.1 dX12_call_65 rfl (lv_at hl 0 rfl) ?_
      refine kp_get X h f_a0 fp_12_412.l (v := .int (kp_I T1005 2438 a0)) rfl dX12_call_66 ?_
      refine lv_aload_n X.1 X.2.1 dX12_call_69 rfl (lv_at hl 0 rfl) ?_
      obtain ⟨b1007, e_b1007, hw⟩ := hw
      have f_b1007 := h.2.2.2.rf (c := 12) (k := 6) f_a0 (by decide) (by decide) e_b1007 (t := 15) rfl
      refine kp_get X h f_a0 ff_12_37.l (v := .ref b1007) (congrArg va_rf e_b1007) dX12_call_70 ?_
      refine lv_iload_n X.1 X.2.1 dX12_call_73 rfl (lv_at hl 1 rfl) ?_
      obtain ⟨hi, hw⟩ := hw
      refine kp_lald X h f_b1007 hi dX12_call_74 ?_
      obtain ⟨hi, hw⟩ := hw
      refine kp_last X h f_b1006 hi dX12_call_75 (fun T1008 e_T1008 l_T1008 H locs h => ?_)
      have hw := hw T1008 e_T1008
      have f_a0 := l_T1008.is f_a0
      have f_b1006 := l_T1008.is f_b1006
      have f_b1007 := l_T1008.is f_b1007
      have hle := hle.tr l_T1008
      have e_b1006 : kp_R T1008 2434 a0 = some b1006 := by rw [e_T1008]; exact e_b1006
      have e_b1007 : kp_R T1008 2406 a0 = some b1007 := by rw [e_T1008]; exact e_b1007
      refine lv_aload_n X.1 X.2.1 dX12_call_76 rfl (lv_at hl 0 rfl) ?_
      obtain ⟨b1009, e_b1009, hw⟩ := hw
      have f_b1009 := h.2.2.2.rf (c := 12) (k := 35) f_a0 (by decide) (by decide) e_b1009 (t := 14) rfl
      refine kp_get X h f_a0 ff_12_91.l (v := .ref b1009) (congrArg va_rf e_b1009) dX12_call_77 ?_
      refine lv_aload_n X.1 X.2.1 dX12_call_80 rfl (lv_at hl 0 rfl) ?_
      refine kp_get X h f_a0 fp_12_412.l (v := .int (kp_I T1008 2438 a0)) rfl dX12_call_81 ?_
      refine lv_iload_n X.1 X.2.1 dX12_call_84 rfl (lv_at hl 1 rfl) ?_
      obtain ⟨hi, hw⟩ := hw
      refine kp_iast X h f_b1009 hi dX12_call_85 (fun T1010 e_T1010 l_T1010 H locs h => ?_)
      have hw := hw T1010 e_T1010
      have f_a0 := l_T1010.is f_a0
      have f_b1006 := l_T1010.is f_b1006
      have f_b1007 := l_T1010.is f_b1007
      have f_b1009 := l_T1010.is f_b1009
      have hle := hle.tr l_T1010
      have e_b1006 : kp_R T1010 2434 a0 = some b1006 := by rw [e_T1010]; exact e_b1006
      have e_b1007 : kp_R T1010 2406 a0 = some b1007 := by rw [e_T1010]; exact e_b1007
      have e_b1009 : kp_R T1010 2435 a0 = some b1009 := by rw [e_T1010]; exact e_b1009
      refine lv_aload_n X.1 X.2.1 dX12_call_86 rfl (lv_at hl 0 rfl) ?_
      obtain ⟨b1011, e_b1011, hw⟩ := hw
      have f_b1011 := h.2.2.2.rf (c := 12) (k := 36) f_a0 (by decide) (by decide) e_b1011 (t := 14) rfl
      refine kp_get X h f_a0 ff_12_94.l (v := .ref b1011) (congrArg va_rf e_b1011) dX12_call_87 ?_
      refine lv_aload_n X.1 X.2.1 dX12_call_90 rfl (lv_at hl 0 rfl) ?_
      refine kp_get X h f_a0 fp_12_412.l (v := .int (kp_I T1010 2438 a0)) rfl dX12_call_91 ?_
      refine lv_iload_n X.1 X.2.1 dX12_call_94 rfl (lv_at hl 2 rfl) ?_
      obtain ⟨hi, hw⟩ := hw
      refine kp_iast X h f_b1011 hi dX12_call_95 (fun T1012 e_T1012 l_T1012 H locs h => ?_)
      have hw := hw T1012 e_T1012
      have f_a0 := l_T1012.is f_a0
      have f_b1006 := l_T1012.is f_b1006
      have f_b1007 := l_T1012.is f_b1007
      have f_b1009 := l_T1012.is f_b1009
      have f_b1011 := l_T1012.is f_b1011
      have hle := hle.tr l_T1012
      have e_b1006 : kp_R T1012 2434 a0 = some b1006 := by rw [e_T1012]; exact e_b1006
      have e_b1007 : kp_R T1012 2406 a0 = some b1007 := by rw [e_T1012]; exact e_b1007
      have e_b1009 : kp_R T1012 2435 a0 = some b1009 := by rw [e_T1012]; exact e_b1009
      have e_b1011 : kp_R T1012 2436 a0 = some b1011 := by rw [e_T1012]; exact e_b1011
      refine lv_aload_n X.1 X.2.1 dX12_call_96 rfl (lv_at hl 0 rfl) ?_
      obtain ⟨b1013, e_b1013, hw⟩ := hw
      have f_b1013 := h.2.2.2.rf (c := 12) (k := 37) f_a0 (by decide) (by decide) e_b1013 (t := 14) rfl
      refine kp_get X h f_a0 ff_12_97.l (v := .ref b1013) (congrArg va_rf e_b1013) dX12_call_97 ?_
      refine lv_aload_n X.1 X.2.1 dX12_call_100 rfl (lv_at hl 0 rfl) ?_
      refine kp_get X h f_a0 fp_12_412.l (v := .int (kp_I T1012 2438 a0)) rfl dX12_call_101 ?_
      refine lv_aload_n X.1 X.2.1 dX12_call_104 rfl (lv_at hl 0 rfl) ?_
      refine lv_bipush (v := 19) X.1 X.2.1 dX12_call_105 (by decide) ?_
      refine lv_iconst (v := (-1)) X.1 X.2.1 dX12_call_107 (by decide) ?_
      refine lv_iload_n X.1 X.2.1 dX12_call_108 rfl (lv_at hl 2 rfl) ?_
      refine kp_calli X h (kp_runV (rm := { frames := 0, cells := 0, slots := 0, locals := 0 }) (mc := 0) (ms := 0) (rest := [.int (kp_I T1012 2438 a0), .ref b1013]) (Qc := fun A => kp_Qi D cy A T1012 _) X h (c_X12_emit l D cy ad T1012 a0 19 (-1) xn2 _ h.2.2.2 f_a0 hw) f_a0 cv_12_451 ⟨by dsimp only; omega, by dsimp only; omega, rfl, rfl, by dsimp only; omega, by dsimp only; omega⟩ rfl hl.1 rfl (Nat.le_of_ble_eq_true rfl) dX12_call_109) (fun y1015 T1014 hw l_T1014 H locs h => ?_)
      have f_a0 := l_T1014.is f_a0
      have f_b1006 := l_T1014.is f_b1006
      have f_b1007 := l_T1014.is f_b1007
      have f_b1009 := l_T1014.is f_b1009
      have f_b1011 := l_T1014.is f_b1011
      have f_b1013 := l_T1014.is f_b1013
      have hle := hle.tr l_T1014
      obtain ⟨hi, hw⟩ := hw
      refine kp_iast X h f_b1013 hi dX12_call_112 (fun T1016 e_T1016 l_T1016 H locs h => ?_)
      have hw := hw T1016 e_T1016
      have f_a0 := l_T1016.is f_a0
      have f_b1006 := l_T1016.is f_b1006
      have f_b1007 := l_T1016.is f_b1007
      have f_b1009 := l_T1016.is f_b1009
      have f_b1011 := l_T1016.is f_b1011
      have f_b1013 := l_T1016.is f_b1013
      have hle := hle.tr l_T1016
      refine lv_aload_n X.1 X.2.1 dX12_call_113 rfl (lv_at hl 0 rfl) ?_
      refine lv_dup X.1 X.2.1 dX12_call_114 rfl ?_
      refine kp_get X h f_a0 fp_12_412.l (v := .int (kp_I T1016 2438 a0)) rfl dX12_call_115 ?_
      refine lv_iconst (v := 1) X.1 X.2.1 dX12_call_118 (by decide) ?_
      refine lv_iadd X.1 X.2.1 dX12_call_119 ?_
      refine kp_putI X h f_a0 fp_12_412 rfl ⟨rfl, rfl⟩ dX12_call_120 (fun T1017 e_T1017 l_T1017 H locs h => ?_)
      have hw := hw T1017 e_T1017
      have f_a0 := l_T1017.is f_a0
      have f_b1006 := l_T1017.is f_b1006
      have f_b1007 := l_T1017.is f_b1007
      have f_b1009 := l_T1017.is f_b1009
      have f_b1011 := l_T1017.is f_b1011
      have f_b1013 := l_T1017.is f_b1013
      have hle := hle.tr l_T1017
      exact kp_retv X hr hlocks h hle hw dX12_call_123
    · have hw := hw.2 c1018
      exact kp_retv X hr hlocks h hle hw dX12_call_55
  have L15 : ∀ n15 : Nat, ∀ (xn2 : Int32) (Sn : kp_S) (H : Heap) (locs : List Loc) (ls : Array Slot), lv_has ls 3 [(0, .ref a0), (1, .int x1), (2, .int xn2)] → kp_H D cy A Sn s.heap H locs → kp_le S Sn → kp_is Sn a0 12 → wX12_call_L15 U N a0 x1  post n15 xn2 Sn → W p l e { frames := F + 3, cells := 0, slots := 0, locals := L + 62 } s m ([.ref a0, .int x1] : List Value).toArray below meth c H locs 0 0 (MQ below (kp_Qv D cy A S post) ([.ref a0, .int x1] : List Value).toArray s 0 0 A) (F0 m 15 ls []) := by
    intro n15
    induction n15 with
    | zero => intro xn2 Sn H locs ls hl h hle f_a0 hw; exact hw.elim
    | succ n15 ih15 =>
      intro xn2 Sn H locs ls hl h hle f_a0 hw
      unfold wX12_call_L15 at hw
      refine lv_aload_n X.1 X.2.1 dX12_call_15 rfl (lv_at hl 0 rfl) ?_
      refine kp_callv X h (kp_runV (rm := { frames := F + 2, cells := 0, slots := 0, locals := L + 41 }) (mc := 0) (ms := 0) (rest := []) (Qc := fun A => kp_Qv D cy A Sn _) X h (c_X12_expression l D cy ad F L U N hU hN hF hL Sn a0 _ h.2.2.2 f_a0 hw) f_a0 cv_12_520 ⟨by dsimp only; omega, by dsimp only; omega, rfl, rfl, by dsimp only; omega, by dsimp only; omega⟩ rfl hl.1 rfl (Nat.le_of_ble_eq_true rfl) dX12_call_16) (fun T2001 hw l_T2001 H locs h => ?_)
      have f_a0 := l_T2001.is f_a0
      have hle := hle.tr l_T2001
      obtain ⟨y2002, e_y2002⟩ : ∃ y : Int32, y = xn2 + 1 := ⟨_, rfl⟩
      have hw := hw y2002 e_y2002
      refine lv_iinc (v := y2002) (lv' := [(2, .int y2002), (0, .ref a0), (1, .int x1)]) X.1 X.2.1 dX12_call_19 hl (k := 2) rfl (by rw [e_y2002]; rfl) (by decide) rfl (fun ls hl => ?_)
      refine lv_aload_n X.1 X.2.1 dX12_call_22 rfl (lv_at hl 1 rfl) ?_
      refine lv_sipush (v := 144) X.1 X.2.1 dX12_call_23 (by decide) ?_
      refine kp_calli X h (kp_runV (rm := { frames := 1, cells := 0, slots := 0, locals := 21 }) (mc := 0) (ms := 0) (rest := []) (Qc := fun A => kp_Qi D cy A T2001 _) X h (c_X12_skip l D cy ad T2001 a0 144 _ h.2.2.2 f_a0 hw) f_a0 cv_12_440 ⟨by dsimp only; omega, by dsimp only; omega, rfl, rfl, by dsimp only; omega, by dsimp only; omega⟩ rfl hl.1 rfl (Nat.le_of_ble_eq_true rfl) dX12_call_26) (fun y2004 T2003 hw l_T2003 H locs h => ?_)
      have f_a0 := l_T2003.is f_a0
      have hle := hle.tr l_T2003
      refine lv_if_ne (tgt := 15) X.1 X.2.1 dX12_call_29 (by decide) (fun c2005 => ?_) (fun c2005 => ?_)
      · have hw := hw.1 c2005
        exact ih15 y2002 T2003 H locs ls (lv_sub hl [1, 2, 0] rfl) h hle f_a0 hw
      · have hw := hw.2 c2005
        exact j32 y2002 T2003 H locs ls (lv_sub hl [1, 2, 0] rfl) h hle f_a0 hw
  unfold wX12_call at hw
  have h : kp_H D cy A S s.heap s.heap [] := h
  revert h
  intro h
  refine lv_aload_n X.1 X.2.1 dX12_call_0 rfl (lv_at hl 0 rfl) ?_
  refine kp_callv X h (kp_runV (rm := { frames := 0, cells := 0, slots := 0, locals := 0 }) (mc := 0) (ms := 0) (rest := []) (Qc := fun A => kp_Qv D cy A S _) X h (c_X12_nest l D cy ad S a0 _ h.2.2.2 f_a0 hw) f_a0 cv_12_463 ⟨by dsimp only; omega, by dsimp only; omega, rfl, rfl, by dsimp only; omega, by dsimp only; omega⟩ rfl hl.1 rfl (Nat.le_of_ble_eq_true rfl) dX12_call_1) (fun T1 hw l_T1 H locs h => ?_)
  have f_a0 := l_T1.is f_a0
  have hle := hle.tr l_T1
  refine lv_iconst (v := 0) X.1 X.2.1 dX12_call_4 (by decide) ?_
  refine lv_istore_n (lv' := [(2, .int 0), (0, .ref a0), (1, .int x1)]) X.1 X.2.1 dX12_call_5 rfl hl (by decide) rfl (fun ls hl => ?_)
  refine lv_aload_n X.1 X.2.1 dX12_call_6 rfl (lv_at hl 1 rfl) ?_
  refine lv_bipush (v := 41) X.1 X.2.1 dX12_call_7 (by decide) ?_
  refine kp_calli X h (kp_runV (rm := { frames := 1, cells := 0, slots := 0, locals := 21 }) (mc := 0) (ms := 0) (rest := []) (Qc := fun A => kp_Qi D cy A T1 _) X h (c_X12_isSign l D cy ad T1 a0 41 _ h.2.2.2 f_a0 hw) f_a0 cv_12_433 ⟨by dsimp only; omega, by dsimp only; omega, rfl, rfl, by dsimp only; omega, by dsimp only; omega⟩ rfl hl.1 rfl (Nat.le_of_ble_eq_true rfl) dX12_call_9) (fun y3 T2 hw l_T2 H locs h => ?_)
  have f_a0 := l_T2.is f_a0
  have hle := hle.tr l_T2
  refine lv_if_ne (tgt := 32) X.1 X.2.1 dX12_call_12 (by decide) (fun c4 => ?_) (fun c4 => ?_)
  · have hw := hw.1 c4
    exact j32 0 T2 _ _ ls (lv_sub hl [1, 2, 0] rfl) h hle f_a0 hw
  · have hw := hw.2 c4
    obtain ⟨n0, hw⟩ := hw
    exact L15 n0 0 T2 _ _ ls (lv_sub hl [1, 2, 0] rfl) h hle f_a0 hw
theorem dX12_question_0 : decode cX12_question 0 = .ok (.aload_n 0, 1) := by decide +kernel
theorem dX12_question_1 : decode cX12_question 1 = .ok (.dup, 1) := by decide +kernel
theorem dX12_question_2 : decode cX12_question 2 = .ok (.getfield 376, 3) := by decide +kernel
theorem dX12_question_5 : decode cX12_question 5 = .ok (.iconst 1, 1) := by decide +kernel
theorem dX12_question_6 : decode cX12_question 6 = .ok (.iadd, 1) := by decide +kernel
theorem dX12_question_7 : decode cX12_question 7 = .ok (.putfield 376, 3) := by decide +kernel
theorem dX12_question_10 : decode cX12_question 10 = .ok (.aload_n 0, 1) := by decide +kernel
theorem dX12_question_11 : decode cX12_question 11 = .ok (.bipush 40, 2) := by decide +kernel
theorem dX12_question_13 : decode cX12_question 13 = .ok (.invokevirtual 433, 3) := by decide +kernel
theorem dX12_question_16 : decode cX12_question 16 = .ok (.ifCond .ne 8, 3) := by decide +kernel
theorem dX12_question_19 : decode cX12_question 19 = .ok (.aload_n 0, 1) := by decide +kernel
theorem dX12_question_20 : decode cX12_question 20 = .ok (.invokevirtual 382, 3) := by decide +kernel
theorem dX12_question_23 : decode cX12_question 23 = .ok (.return_, 1) := by decide +kernel
theorem dX12_question_24 : decode cX12_question 24 = .ok (.aload_n 0, 1) := by decide +kernel
theorem dX12_question_25 : decode cX12_question 25 = .ok (.invokevirtual 463, 3) := by decide +kernel
theorem dX12_question_28 : decode cX12_question 28 = .ok (.aload_n 0, 1) := by decide +kernel
theorem dX12_question_29 : decode cX12_question 29 = .ok (.invokevirtual 520, 3) := by decide +kernel
theorem dX12_question_32 : decode cX12_question 32 = .ok (.iload_n 1, 1) := by decide +kernel
theorem dX12_question_33 : decode cX12_question 33 = .ok (.iconst 2, 1) := by decide +kernel
theorem dX12_question_34 : decode cX12_question 34 = .ok (.if_icmp .ne 13, 3) := by decide +kernel
theorem dX12_question_37 : decode cX12_question 37 = .ok (.aload_n 0, 1) := by decide +kernel
theorem dX12_question_38 : decode cX12_question 38 = .ok (.bipush 44, 2) := by decide +kernel
theorem dX12_question_40 : decode cX12_question 40 = .ok (.invokevirtual 429, 3) := by decide +kernel
theorem dX12_question_43 : decode cX12_question 43 = .ok (.aload_n 0, 1) := by decide +kernel
theorem dX12_question_44 : decode cX12_question 44 = .ok (.invokevirtual 520, 3) := by decide +kernel
theorem dX12_question_47 : decode cX12_question 47 = .ok (.aload_n 0, 1) := by decide +kernel
theorem dX12_question_48 : decode cX12_question 48 = .ok (.bipush 41, 2) := by decide +kernel
theorem dX12_question_50 : decode cX12_question 50 = .ok (.invokevirtual 429, 3) := by decide +kernel
theorem dX12_question_53 : decode cX12_question 53 = .ok (.aload_n 0, 1) := by decide +kernel
theorem dX12_question_54 : decode cX12_question 54 = .ok (.dup, 1) := by decide +kernel
theorem dX12_question_55 : decode cX12_question 55 = .ok (.getfield 388, 3) := by decide +kernel
theorem dX12_question_58 : decode cX12_question 58 = .ok (.iconst 1, 1) := by decide +kernel
theorem dX12_question_59 : decode cX12_question 59 = .ok (.isub, 1) := by decide +kernel
theorem dX12_question_60 : decode cX12_question 60 = .ok (.putfield 388, 3) := by decide +kernel
theorem dX12_question_63 : decode cX12_question 63 = .ok (.aload_n 0, 1) := by decide +kernel
theorem dX12_question_64 : decode cX12_question 64 = .ok (.iconst 1, 1) := by decide +kernel
theorem dX12_question_65 : decode cX12_question 65 = .ok (.putfield 471, 3) := by decide +kernel
theorem dX12_question_68 : decode cX12_question 68 = .ok (.aload_n 0, 1) := by decide +kernel
theorem dX12_question_69 : decode cX12_question 69 = .ok (.iload_n 2, 1) := by decide +kernel
theorem dX12_question_70 : decode cX12_question 70 = .ok (.iconst 0, 1) := by decide +kernel
theorem dX12_question_71 : decode cX12_question 71 = .ok (.iconst 0, 1) := by decide +kernel
theorem dX12_question_72 : decode cX12_question 72 = .ok (.invokevirtual 451, 3) := by decide +kernel
theorem dX12_question_75 : decode cX12_question 75 = .ok (.pop, 1) := by decide +kernel
theorem dX12_question_76 : decode cX12_question 76 = .ok (.return_, 1) := by decide +kernel
def wX12_question_b47 (U : Nat → kp_S → (kp_S → Prop) → Prop) (N : Nat → kp_S → (kp_S → Prop) → Prop) (a0 : Nat) (x1 : Int32) (x2 : Int32)  (Sn : kp_S) (post : kp_S → Prop) : Prop :=
  wX12_takeSign a0 41 Sn (fun T1001 =>
  ∀ T1002 : kp_S, T1002 = kp_sI T1001 2411 a0 ((kp_I T1001 2411 a0) - 1) →
  ∀ T1003 : kp_S, T1003 = kp_sI T1002 2425 a0 1 →
  wX12_emit a0 x2 0 0 T1003 (fun y1005 T1004 =>
  post T1004))
def wX12_question (U : Nat → kp_S → (kp_S → Prop) → Prop) (N : Nat → kp_S → (kp_S → Prop) → Prop) (a0 : Nat) (x1 : Int32) (x2 : Int32) (S : kp_S) (post : kp_S → Prop) : Prop :=
  ∀ T1 : kp_S, T1 = kp_sI S 2410 a0 ((kp_I S 2410 a0) + 1) →
  wX12_isSign a0 40 T1 (fun y3 T2 =>
  ((¬ y3 = 0 →
  wX12_nest a0 T2 (fun T4 =>
  wX12_expression U N a0 T4 (fun T5 =>
  ((¬ x1 = 2 →
  wX12_question_b47 U N a0 x1 x2   T5 post) ∧ (x1 = 2 →
  wX12_takeSign a0 44 T5 (fun T6 =>
  wX12_expression U N a0 T6 (fun T7 =>
  wX12_question_b47 U N a0 x1 x2   T7 post))))))) ∧ (y3 = 0 →
  wX12_wrong a0 T2 (fun T9 =>
  post T9))))
set_option maxHeartbeats 4000000 in
set_option maxRecDepth 100000 in
theorem c_X12_question (l : Launch) (D : va_G) (cy : Nat → ClassId) (ad : (Nat → Nat) × (Nat → Nat)) (F L : Nat) (U : Nat → kp_S → (kp_S → Prop) → Prop) (N : Nat → kp_S → (kp_S → Prop) → Prop) (hU : ∀ (S : kp_S) (a0 : Nat) (post : kp_S → Prop), kp_ok S → kp_is S a0 12 → U a0 S post → kp_M l yX12_unit cX12_unit 2 none { frames := F, cells := 0, slots := 0, locals := L } D cy ad S [.ref a0] 0 0 (fun A => kp_Qv D cy A S post)) (hN : ∀ (S : kp_S) (a0 : Nat) (post : kp_S → Prop), kp_ok S → kp_is S a0 12 → N a0 S post → kp_M l yX12_turned cX12_turned 1 none { frames := F, cells := 0, slots := 0, locals := L } D cy ad S [.ref a0] 0 0 (fun A => kp_Qv D cy A S post)) (hF : 3 ≤ F) (hL : 63 ≤ L) (S : kp_S) (a0 : Nat) (x1 : Int32) (x2 : Int32) (post : kp_S → Prop) (hS : kp_ok S) (f_a0 : kp_is S a0 12) (hw : wX12_question U N a0 x1 x2 S post) : kp_M l yX12_question cX12_question 3 none { frames := F + 3, cells := 0, slots := 0, locals := L + 62 } D cy ad S [.ref a0, .int x1, .int x2] 0 0 (fun A => kp_Qv D cy A S post) := by
  refine kp_start (own := RX12) (by decide) rfl (Nat.le_of_ble_eq_true rfl) hS ?_
  intro p e s m below meth c A ls X hr hlocks hname h hl
  have hle : kp_le S S := kp_le.rf
  have hl : lv_has ls 3 [(0, .ref a0), (1, .int x1), (2, .int x2)] := hl
  have j47 : ∀  (Sn : kp_S) (H : Heap) (locs : List Loc) (ls : Array Slot), lv_has ls 3 [(0, .ref a0), (2, .int x2)] → kp_H D cy A Sn s.heap H locs → kp_le S Sn → kp_is Sn a0 12 → wX12_question_b47 U N a0 x1 x2   Sn post → W p l e { frames := F + 3, cells := 0, slots := 0, locals := L + 62 } s m ([.ref a0, .int x1, .int x2] : List Value).toArray below meth c H locs 0 0 (MQ below (kp_Qv D cy A S post) ([.ref a0, .int x1, .int x2] : List Value).toArray s 0 0 A) (F0 m 47 ls []) := by
    intro  Sn H locs ls hl h hle f_a0 hw
    unfold wX12_question_b47 at hw
    refine lv_aload_n X.1 X.2.1 dX12_question_47 rfl (lv_at hl 0 rfl) ?_
    refine lv_bipush (v := 41) X.1 X.2.1 dX12_question_48 (by decide) ?_
    refine kp_callv X h (kp_runV (rm := { frames := 2, cells := 0, slots := 0, locals := 42 }) (mc := 0) (ms := 0) (rest := []) (Qc := fun A => kp_Qv D cy A Sn _) X h (c_X12_takeSign l D cy ad Sn a0 41 _ h.2.2.2 f_a0 hw) f_a0 cv_12_429 ⟨by dsimp only; omega, by dsimp only; omega, rfl, rfl, by dsimp only; omega, by dsimp only; omega⟩ rfl hl.1 rfl (Nat.le_of_ble_eq_true rfl) dX12_question_50) (fun T1001 hw l_T1001 H locs h => ?_)
    have f_a0 := l_T1001.is f_a0
    have hle := hle.tr l_T1001
    refine lv_aload_n X.1 X.2.1 dX12_question_53 rfl (lv_at hl 0 rfl) ?_
    refine lv_dup X.1 X.2.1 dX12_question_54 rfl ?_
    refine kp_get X h f_a0 fp_12_388.l (v := .int (kp_I T1001 2411 a0)) rfl dX12_question_55 ?_
    refine lv_iconst (v := 1) X.1 X.2.1 dX12_question_58 (by decide) ?_
    refine lv_isub X.1 X.2.1 dX12_question_59 ?_
    refine kp_putI X h f_a0 fp_12_388 rfl ⟨rfl, rfl⟩ dX12_question_60 (fun T1002 e_T1002 l_T1002 H locs h => ?_)
    have hw := hw T1002 e_T1002
    have f_a0 := l_T1002.is f_a0
    have hle := hle.tr l_T1002
    refine lv_aload_n X.1 X.2.1 dX12_question_63 rfl (lv_at hl 0 rfl) ?_
    refine lv_iconst (v := 1) X.1 X.2.1 dX12_question_64 (by decide) ?_
    refine kp_putI X h f_a0 fp_12_471 rfl ⟨by decide, by decide⟩ dX12_question_65 (fun T1003 e_T1003 l_T1003 H locs h => ?_)
    have hw := hw T1003 e_T1003
    have f_a0 := l_T1003.is f_a0
    have hle := hle.tr l_T1003
    refine lv_aload_n X.1 X.2.1 dX12_question_68 rfl (lv_at hl 0 rfl) ?_
    refine lv_iload_n X.1 X.2.1 dX12_question_69 rfl (lv_at hl 1 rfl) ?_
    refine lv_iconst (v := 0) X.1 X.2.1 dX12_question_70 (by decide) ?_
    refine lv_iconst (v := 0) X.1 X.2.1 dX12_question_71 (by decide) ?_
    refine kp_calli X h (kp_runV (rm := { frames := 0, cells := 0, slots := 0, locals := 0 }) (mc := 0) (ms := 0) (rest := []) (Qc := fun A => kp_Qi D cy A T1003 _) X h (c_X12_emit l D cy ad T1003 a0 x2 0 0 _ h.2.2.2 f_a0 hw) f_a0 cv_12_451 ⟨by dsimp only; omega, by dsimp only; omega, rfl, rfl, by dsimp only; omega, by dsimp only; omega⟩ rfl hl.1 rfl (Nat.le_of_ble_eq_true rfl) dX12_question_72) (fun y1005 T1004 hw l_T1004 H locs h => ?_)
    have f_a0 := l_T1004.is f_a0
    have hle := hle.tr l_T1004
    refine lv_pop X.1 X.2.1 dX12_question_75 rfl ?_
    exact kp_retv X hr hlocks h hle hw dX12_question_76
  unfold wX12_question at hw
  have h : kp_H D cy A S s.heap s.heap [] := h
  revert h
  intro h
  refine lv_aload_n X.1 X.2.1 dX12_question_0 rfl (lv_at hl 0 rfl) ?_
  refine lv_dup X.1 X.2.1 dX12_question_1 rfl ?_
  refine kp_get X h f_a0 fp_12_376.l (v := .int (kp_I S 2410 a0)) rfl dX12_question_2 ?_
  refine lv_iconst (v := 1) X.1 X.2.1 dX12_question_5 (by decide) ?_
  refine lv_iadd X.1 X.2.1 dX12_question_6 ?_
  refine kp_putI X h f_a0 fp_12_376 rfl ⟨rfl, rfl⟩ dX12_question_7 (fun T1 e_T1 l_T1 H locs h => ?_)
  have hw := hw T1 e_T1
  have f_a0 := l_T1.is f_a0
  have hle := hle.tr l_T1
  refine lv_aload_n X.1 X.2.1 dX12_question_10 rfl (lv_at hl 0 rfl) ?_
  refine lv_bipush (v := 40) X.1 X.2.1 dX12_question_11 (by decide) ?_
  refine kp_calli X h (kp_runV (rm := { frames := 1, cells := 0, slots := 0, locals := 21 }) (mc := 0) (ms := 0) (rest := []) (Qc := fun A => kp_Qi D cy A T1 _) X h (c_X12_isSign l D cy ad T1 a0 40 _ h.2.2.2 f_a0 hw) f_a0 cv_12_433 ⟨by dsimp only; omega, by dsimp only; omega, rfl, rfl, by dsimp only; omega, by dsimp only; omega⟩ rfl hl.1 rfl (Nat.le_of_ble_eq_true rfl) dX12_question_13) (fun y3 T2 hw l_T2 H locs h => ?_)
  have f_a0 := l_T2.is f_a0
  have hle := hle.tr l_T2
  refine lv_if_ne (tgt := 24) X.1 X.2.1 dX12_question_16 (by decide) (fun c10 => ?_) (fun c10 => ?_)
  · have hw := hw.1 c10
    refine lv_aload_n X.1 X.2.1 dX12_question_24 rfl (lv_at hl 0 rfl) ?_
    refine kp_callv X h (kp_runV (rm := { frames := 0, cells := 0, slots := 0, locals := 0 }) (mc := 0) (ms := 0) (rest := []) (Qc := fun A => kp_Qv D cy A T2 _) X h (c_X12_nest l D cy ad T2 a0 _ h.2.2.2 f_a0 hw) f_a0 cv_12_463 ⟨by dsimp only; omega, by dsimp only; omega, rfl, rfl, by dsimp only; omega, by dsimp only; omega⟩ rfl hl.1 rfl (Nat.le_of_ble_eq_true rfl) dX12_question_25) (fun T4 hw l_T4 H locs h => ?_)
    have f_a0 := l_T4.is f_a0
    have hle := hle.tr l_T4
    refine lv_aload_n X.1 X.2.1 dX12_question_28 rfl (lv_at hl 0 rfl) ?_
    refine kp_callv X h (kp_runV (rm := { frames := F + 2, cells := 0, slots := 0, locals := L + 41 }) (mc := 0) (ms := 0) (rest := []) (Qc := fun A => kp_Qv D cy A T4 _) X h (c_X12_expression l D cy ad F L U N hU hN hF hL T4 a0 _ h.2.2.2 f_a0 hw) f_a0 cv_12_520 ⟨by dsimp only; omega, by dsimp only; omega, rfl, rfl, by dsimp only; omega, by dsimp only; omega⟩ rfl hl.1 rfl (Nat.le_of_ble_eq_true rfl) dX12_question_29) (fun T5 hw l_T5 H locs h => ?_)
    have f_a0 := l_T5.is f_a0
    have hle := hle.tr l_T5
    refine lv_iload_n X.1 X.2.1 dX12_question_32 rfl (lv_at hl 1 rfl) ?_
    refine lv_iconst (v := 2) X.1 X.2.1 dX12_question_33 (by decide) ?_
    refine lv_icmp_ne (tgt := 47) X.1 X.2.1 dX12_question_34 (by decide) (fun c8 => ?_) (fun c8 => ?_)
    · have hw := hw.1 c8
      exact j47  T5 _ _ ls (lv_sub hl [0, 2] rfl) h hle f_a0 hw
    · have hw := hw.2 c8
      refine lv_aload_n X.1 X.2.1 dX12_question_37 rfl (lv_at hl 0 rfl) ?_
      refine lv_bipush (v := 44) X.1 X.2.1 dX12_question_38 (by decide) ?_
      refine kp_callv X h (kp_runV (rm := { frames := 2, cells := 0, slots := 0, locals := 42 }) (mc := 0) (ms := 0) (rest := []) (Qc := fun A => kp_Qv D cy A T5 _) X h (c_X12_takeSign l D cy ad T5 a0 44 _ h.2.2.2 f_a0 hw) f_a0 cv_12_429 ⟨by dsimp only; omega, by dsimp only; omega, rfl, rfl, by dsimp only; omega, by dsimp only; omega⟩ rfl hl.1 rfl (Nat.le_of_ble_eq_true rfl) dX12_question_40) (fun T6 hw l_T6 H locs h => ?_)
      have f_a0 := l_T6.is f_a0
      have hle := hle.tr l_T6
      refine lv_aload_n X.1 X.2.1 dX12_question_43 rfl (lv_at hl 0 rfl) ?_
      refine kp_callv X h (kp_runV (rm := { frames := F + 2, cells := 0, slots := 0, locals := L + 41 }) (mc := 0) (ms := 0) (rest := []) (Qc := fun A => kp_Qv D cy A T6 _) X h (c_X12_expression l D cy ad F L U N hU hN hF hL T6 a0 _ h.2.2.2 f_a0 hw) f_a0 cv_12_520 ⟨by dsimp only; omega, by dsimp only; omega, rfl, rfl, by dsimp only; omega, by dsimp only; omega⟩ rfl hl.1 rfl (Nat.le_of_ble_eq_true rfl) dX12_question_44) (fun T7 hw l_T7 H locs h => ?_)
      have f_a0 := l_T7.is f_a0
      have hle := hle.tr l_T7
      exact j47  T7 _ _ ls (lv_sub hl [0, 2] rfl) h hle f_a0 hw
  · have hw := hw.2 c10
    refine lv_aload_n X.1 X.2.1 dX12_question_19 rfl (lv_at hl 0 rfl) ?_
    refine kp_callv X h (kp_runV (rm := { frames := 0, cells := 0, slots := 0, locals := 0 }) (mc := 0) (ms := 0) (rest := []) (Qc := fun A => kp_Qv D cy A T2 _) X h (c_X12_wrong l D cy ad T2 a0 _ h.2.2.2 f_a0 hw) f_a0 cv_12_382 ⟨by dsimp only; omega, by dsimp only; omega, rfl, rfl, by dsimp only; omega, by dsimp only; omega⟩ rfl hl.1 rfl (Nat.le_of_ble_eq_true rfl) dX12_question_20) (fun T9 hw l_T9 H locs h => ?_)
    have f_a0 := l_T9.is f_a0
    have hle := hle.tr l_T9
    exact kp_retv X hr hlocks h hle hw dX12_question_23
theorem dX12_product_0 : decode cX12_product 0 = .ok (.aload_n 0, 1) := by decide +kernel
theorem dX12_product_1 : decode cX12_product 1 = .ok (.invokevirtual 565, 3) := by decide +kernel
theorem dX12_product_4 : decode cX12_product 4 = .ok (.aload_n 0, 1) := by decide +kernel
theorem dX12_product_5 : decode cX12_product 5 = .ok (.bipush 42, 2) := by decide +kernel
theorem dX12_product_7 : decode cX12_product 7 = .ok (.invokevirtual 433, 3) := by decide +kernel
theorem dX12_product_10 : decode cX12_product 10 = .ok (.ifCond .ne 21, 3) := by decide +kernel
theorem dX12_product_13 : decode cX12_product 13 = .ok (.aload_n 0, 1) := by decide +kernel
theorem dX12_product_14 : decode cX12_product 14 = .ok (.bipush 47, 2) := by decide +kernel
theorem dX12_product_16 : decode cX12_product 16 = .ok (.invokevirtual 433, 3) := by decide +kernel
theorem dX12_product_19 : decode cX12_product 19 = .ok (.ifCond .ne 12, 3) := by decide +kernel
theorem dX12_product_22 : decode cX12_product 22 = .ok (.aload_n 0, 1) := by decide +kernel
theorem dX12_product_23 : decode cX12_product 23 = .ok (.bipush 37, 2) := by decide +kernel
theorem dX12_product_25 : decode cX12_product 25 = .ok (.invokevirtual 433, 3) := by decide +kernel
theorem dX12_product_28 : decode cX12_product 28 = .ok (.ifCond .eq 94, 3) := by decide +kernel
theorem dX12_product_31 : decode cX12_product 31 = .ok (.aload_n 0, 1) := by decide +kernel
theorem dX12_product_32 : decode cX12_product 32 = .ok (.bipush 42, 2) := by decide +kernel
theorem dX12_product_34 : decode cX12_product 34 = .ok (.invokevirtual 433, 3) := by decide +kernel
theorem dX12_product_37 : decode cX12_product 37 = .ok (.ifCond .eq 8, 3) := by decide +kernel
theorem dX12_product_40 : decode cX12_product 40 = .ok (.bipush 9, 2) := by decide +kernel
theorem dX12_product_42 : decode cX12_product 42 = .ok (.goto 19, 3) := by decide +kernel
theorem dX12_product_45 : decode cX12_product 45 = .ok (.aload_n 0, 1) := by decide +kernel
theorem dX12_product_46 : decode cX12_product 46 = .ok (.bipush 47, 2) := by decide +kernel
theorem dX12_product_48 : decode cX12_product 48 = .ok (.invokevirtual 433, 3) := by decide +kernel
theorem dX12_product_51 : decode cX12_product 51 = .ok (.ifCond .eq 8, 3) := by decide +kernel
theorem dX12_product_54 : decode cX12_product 54 = .ok (.bipush 10, 2) := by decide +kernel
theorem dX12_product_56 : decode cX12_product 56 = .ok (.goto 5, 3) := by decide +kernel
theorem dX12_product_59 : decode cX12_product 59 = .ok (.bipush 11, 2) := by decide +kernel
theorem dX12_product_61 : decode cX12_product 61 = .ok (.istore_n 1, 1) := by decide +kernel
theorem dX12_product_62 : decode cX12_product 62 = .ok (.aload_n 0, 1) := by decide +kernel
theorem dX12_product_63 : decode cX12_product 63 = .ok (.dup, 1) := by decide +kernel
theorem dX12_product_64 : decode cX12_product 64 = .ok (.getfield 376, 3) := by decide +kernel
theorem dX12_product_67 : decode cX12_product 67 = .ok (.iconst 1, 1) := by decide +kernel
theorem dX12_product_68 : decode cX12_product 68 = .ok (.iadd, 1) := by decide +kernel
theorem dX12_product_69 : decode cX12_product 69 = .ok (.putfield 376, 3) := by decide +kernel
theorem dX12_product_72 : decode cX12_product 72 = .ok (.aload_n 0, 1) := by decide +kernel
theorem dX12_product_73 : decode cX12_product 73 = .ok (.getfield 376, 3) := by decide +kernel
theorem dX12_product_76 : decode cX12_product 76 = .ok (.istore_n 2, 1) := by decide +kernel
theorem dX12_product_77 : decode cX12_product 77 = .ok (.aload_n 0, 1) := by decide +kernel
theorem dX12_product_78 : decode cX12_product 78 = .ok (.invokevirtual 565, 3) := by decide +kernel
theorem dX12_product_81 : decode cX12_product 81 = .ok (.aload_n 0, 1) := by decide +kernel
theorem dX12_product_82 : decode cX12_product 82 = .ok (.aload_n 0, 1) := by decide +kernel
theorem dX12_product_83 : decode cX12_product 83 = .ok (.getfield 471, 3) := by decide +kernel
theorem dX12_product_86 : decode cX12_product 86 = .ok (.ifCond .ne 17, 3) := by decide +kernel
theorem dX12_product_89 : decode cX12_product 89 = .ok (.iload_n 1, 1) := by decide +kernel
theorem dX12_product_90 : decode cX12_product 90 = .ok (.bipush 9, 2) := by decide +kernel
theorem dX12_product_92 : decode cX12_product 92 = .ok (.if_icmp .eq 15, 3) := by decide +kernel
theorem dX12_product_95 : decode cX12_product 95 = .ok (.aload_n 0, 1) := by decide +kernel
theorem dX12_product_96 : decode cX12_product 96 = .ok (.iload_n 2, 1) := by decide +kernel
theorem dX12_product_97 : decode cX12_product 97 = .ok (.invokevirtual 568, 3) := by decide +kernel
theorem dX12_product_100 : decode cX12_product 100 = .ok (.ifCond .ne 7, 3) := by decide +kernel
theorem dX12_product_103 : decode cX12_product 103 = .ok (.iconst 1, 1) := by decide +kernel
theorem dX12_product_104 : decode cX12_product 104 = .ok (.goto 4, 3) := by decide +kernel
theorem dX12_product_107 : decode cX12_product 107 = .ok (.iconst 0, 1) := by decide +kernel
theorem dX12_product_108 : decode cX12_product 108 = .ok (.putfield 471, 3) := by decide +kernel
theorem dX12_product_111 : decode cX12_product 111 = .ok (.aload_n 0, 1) := by decide +kernel
theorem dX12_product_112 : decode cX12_product 112 = .ok (.iload_n 1, 1) := by decide +kernel
theorem dX12_product_113 : decode cX12_product 113 = .ok (.iconst 0, 1) := by decide +kernel
theorem dX12_product_114 : decode cX12_product 114 = .ok (.iconst 0, 1) := by decide +kernel
theorem dX12_product_115 : decode cX12_product 115 = .ok (.invokevirtual 451, 3) := by decide +kernel
theorem dX12_product_118 : decode cX12_product 118 = .ok (.pop, 1) := by decide +kernel
theorem dX12_product_119 : decode cX12_product 119 = .ok (.goto (-115), 3) := by decide +kernel
theorem dX12_product_122 : decode cX12_product 122 = .ok (.return_, 1) := by decide +kernel
def wX12_product_b108 (U : Nat → kp_S → (kp_S → Prop) → Prop) (N : Nat → kp_S → (kp_S → Prop) → Prop) (a0 : Nat) (xn1 : Int32) (xt0 : Int32) (at1 : Nat) (K4 : kp_S → Prop) (Sn : kp_S) (post : kp_S → Prop) : Prop :=
  kp_b xt0 ∧
  ∀ T1001 : kp_S, T1001 = kp_sI Sn 2425 at1 xt0 →
  wX12_emit a0 xn1 0 0 T1001 (fun y1003 T1002 =>
  K4  T1002)
def wX12_product_b103 (U : Nat → kp_S → (kp_S → Prop) → Prop) (N : Nat → kp_S → (kp_S → Prop) → Prop) (a0 : Nat) (xn1 : Int32) (at0 : Nat) (K4 : kp_S → Prop) (Sn : kp_S) (post : kp_S → Prop) : Prop :=
  wX12_product_b108 U N a0 xn1 1 at0 K4 Sn post
def wX12_product_b107 (U : Nat → kp_S → (kp_S → Prop) → Prop) (N : Nat → kp_S → (kp_S → Prop) → Prop) (a0 : Nat) (xn1 : Int32) (at0 : Nat) (K4 : kp_S → Prop) (Sn : kp_S) (post : kp_S → Prop) : Prop :=
  wX12_product_b108 U N a0 xn1 0 at0 K4 Sn post
def wX12_product_b61 (U : Nat → kp_S → (kp_S → Prop) → Prop) (N : Nat → kp_S → (kp_S → Prop) → Prop) (a0 : Nat) (xt0 : Int32) (K4 : kp_S → Prop) (Sn : kp_S) (post : kp_S → Prop) : Prop :=
  ∀ T4001 : kp_S, T4001 = kp_sI Sn 2410 a0 ((kp_I Sn 2410 a0) + 1) →
  ∀ y4002 : Int32, y4002 = (kp_I T4001 2410 a0) →
  U a0 T4001 (fun T4003 =>
  ((¬ (kp_I T4003 2425 a0) = 0 →
  wX12_product_b103 U N a0 xt0 a0 K4 T4003 post) ∧ ((kp_I T4003 2425 a0) = 0 →
  ((xt0 = 9 →
  wX12_product_b107 U N a0 xt0 a0 K4 T4003 post) ∧ (¬ xt0 = 9 →
  wX12_isPlain a0 y4002 T4003 (fun y4005 T4004 =>
  ((¬ y4005 = 0 →
  wX12_product_b107 U N a0 xt0 a0 K4 T4004 post) ∧ (y4005 = 0 →
  wX12_product_b103 U N a0 xt0 a0 K4 T4004 post))))))))
def wX12_product_b31 (U : Nat → kp_S → (kp_S → Prop) → Prop) (N : Nat → kp_S → (kp_S → Prop) → Prop) (a0 : Nat) (K4 : kp_S → Prop) (Sn : kp_S) (post : kp_S → Prop) : Prop :=
  wX12_isSign a0 42 Sn (fun y5002 T5001 =>
  ((y5002 = 0 →
  wX12_isSign a0 47 T5001 (fun y5004 T5003 =>
  ((y5004 = 0 →
  wX12_product_b61 U N a0 11 K4 T5003 post) ∧ (¬ y5004 = 0 →
  wX12_product_b61 U N a0 10 K4 T5003 post)))) ∧ (¬ y5002 = 0 →
  wX12_product_b61 U N a0 9 K4 T5001 post)))
def wX12_product_L4 (U : Nat → kp_S → (kp_S → Prop) → Prop) (N : Nat → kp_S → (kp_S → Prop) → Prop) (a0 : Nat)  (post : kp_S → Prop) : Nat → kp_S → Prop
  | 0, _ => False
  | n + 1, Sn =>
  wX12_isSign a0 42 Sn (fun y6002 T6001 =>
  ((¬ y6002 = 0 →
  wX12_product_b31 U N a0  (fun  S_ => wX12_product_L4 U N a0  post n  S_) T6001 post) ∧ (y6002 = 0 →
  wX12_isSign a0 47 T6001 (fun y6004 T6003 =>
  ((¬ y6004 = 0 →
  wX12_product_b31 U N a0  (fun  S_ => wX12_product_L4 U N a0  post n  S_) T6003 post) ∧ (y6004 = 0 →
  wX12_isSign a0 37 T6003 (fun y6006 T6005 =>
  ((y6006 = 0 →
  post T6005) ∧ (¬ y6006 = 0 →
  wX12_product_b31 U N a0  (fun  S_ => wX12_product_L4 U N a0  post n  S_) T6005 post)))))))))
def wX12_product (U : Nat → kp_S → (kp_S → Prop) → Prop) (N : Nat → kp_S → (kp_S → Prop) → Prop) (a0 : Nat) (S : kp_S) (post : kp_S → Prop) : Prop :=
  U a0 S (fun T1 =>
  ∃ n0 : Nat, wX12_product_L4 U N a0  post n0  T1)
set_option maxHeartbeats 4000000 in
set_option maxRecDepth 100000 in
theorem c_X12_product (l : Launch) (D : va_G) (cy : Nat → ClassId) (ad : (Nat → Nat) × (Nat → Nat)) (F L : Nat) (U : Nat → kp_S → (kp_S → Prop) → Prop) (N : Nat → kp_S → (kp_S → Prop) → Prop) (hU : ∀ (S : kp_S) (a0 : Nat) (post : kp_S → Prop), kp_ok S → kp_is S a0 12 → U a0 S post → kp_M l yX12_unit cX12_unit 2 none { frames := F, cells := 0, slots := 0, locals := L } D cy ad S [.ref a0] 0 0 (fun A => kp_Qv D cy A S post)) (hN : ∀ (S : kp_S) (a0 : Nat) (post : kp_S → Prop), kp_ok S → kp_is S a0 12 → N a0 S post → kp_M l yX12_turned cX12_turned 1 none { frames := F, cells := 0, slots := 0, locals := L } D cy ad S [.ref a0] 0 0 (fun A => kp_Qv D cy A S post)) (hF : 3 ≤ F) (hL : 63 ≤ L) (S : kp_S) (a0 : Nat) (post : kp_S → Prop) (hS : kp_ok S) (f_a0 : kp_is S a0 12) (hw : wX12_product U N a0 S post) : kp_M l yX12_product cX12_product 3 none { frames := F + 1, cells := 0, slots := 0, locals := L + 21 } D cy ad S [.ref a0] 0 0 (fun A => kp_Qv D cy A S post) := by
  refine kp_start (own := RX12) (by decide) rfl (Nat.le_of_ble_eq_true rfl) hS ?_
  intro p e s m below meth c A ls X hr hlocks hname h hl
  have hle : kp_le S S := kp_le.rf
  have hl : lv_has ls 3 [(0, .ref a0)] := hl
  have L4 : ∀ n4 : Nat, ∀  (Sn : kp_S) (H : Heap) (locs : List Loc) (ls : Array Slot), lv_has ls 3 [(0, .ref a0)] → kp_H D cy A Sn s.heap H locs → kp_le S Sn → kp_is Sn a0 12 → wX12_product_L4 U N a0  post n4  Sn → W p l e { frames := F + 1, cells := 0, slots := 0, locals := L + 21 } s m ([.ref a0] : List Value).toArray below meth c H locs 0 0 (MQ below (kp_Qv D cy A S post) ([.ref a0] : List Value).toArray s 0 0 A) (F0 m 4 ls []) := by
    intro n4
    induction n4 with
    | zero => intro  Sn H locs ls hl h hle f_a0 hw; exact hw.elim
    | succ n4 ih4 =>
      have j108 : ∀ (xn1 : Int32) (xt0 : Int32) (at1 : Nat) (Sn : kp_S) (H : Heap) (locs : List Loc) (ls : Array Slot), lv_has ls 3 [(0, .ref a0), (1, .int xn1)] → kp_H D cy A Sn s.heap H locs → kp_le S Sn → kp_is Sn a0 12 → kp_is Sn at1 12 → wX12_product_b108 U N a0 xn1 xt0 at1 (fun  S_ => wX12_product_L4 U N a0  post n4  S_) Sn post → W p l e { frames := F + 1, cells := 0, slots := 0, locals := L + 21 } s m ([.ref a0] : List Value).toArray below meth c H locs 0 0 (MQ below (kp_Qv D cy A S post) ([.ref a0] : List Value).toArray s 0 0 A) (F0 m 108 ls [.int xt0, .ref at1]) := by
        intro xn1 xt0 at1 Sn H locs ls hl h hle f_a0 f_at1 hw
        unfold wX12_product_b108 at hw
        obtain ⟨hb, hw⟩ := hw
        refine kp_putI X h f_at1 fp_12_471 rfl (kp_bz hb) dX12_product_108 (fun T1001 e_T1001 l_T1001 H locs h => ?_)
        have hw := hw T1001 e_T1001
        have f_a0 := l_T1001.is f_a0
        have f_at1 := l_T1001.is f_at1
        have hle := hle.tr l_T1001
        refine lv_aload_n X.1 X.2.1 dX12_product_111 rfl (lv_at hl 0 rfl) ?_
        refine lv_iload_n X.1 X.2.1 dX12_product_112 rfl (lv_at hl 1 rfl) ?_
        refine lv_iconst (v := 0) X.1 X.2.1 dX12_product_113 (by decide) ?_
        refine lv_iconst (v := 0) X.1 X.2.1 dX12_product_114 (by decide) ?_
        refine kp_calli X h (kp_runV (rm := { frames := 0, cells := 0, slots := 0, locals := 0 }) (mc := 0) (ms := 0) (rest := []) (Qc := fun A => kp_Qi D cy A T1001 _) X h (c_X12_emit l D cy ad T1001 a0 xn1 0 0 _ h.2.2.2 f_a0 hw) f_a0 cv_12_451 ⟨by dsimp only; omega, by dsimp only; omega, rfl, rfl, by dsimp only; omega, by dsimp only; omega⟩ rfl hl.1 rfl (Nat.le_of_ble_eq_true rfl) dX12_product_115) (fun y1003 T1002 hw l_T1002 H locs h => ?_)
        have f_a0 := l_T1002.is f_a0
        have f_at1 := l_T1002.is f_at1
        have hle := hle.tr l_T1002
        refine lv_pop X.1 X.2.1 dX12_product_118 rfl ?_
        refine lv_goto (tgt := 4) X.1 X.2.1 dX12_product_119 (by decide) ?_
        exact ih4  T1002 H locs ls (lv_sub hl [0] rfl) h hle f_a0 hw
      have j103 : ∀ (xn1 : Int32) (at0 : Nat) (Sn : kp_S) (H : Heap) (locs : List Loc) (ls : Array Slot), lv_has ls 3 [(0, .ref a0), (1, .int xn1)] → kp_H D cy A Sn s.heap H locs → kp_le S Sn → kp_is Sn a0 12 → kp_is Sn at0 12 → wX12_product_b103 U N a0 xn1 at0 (fun  S_ => wX12_product_L4 U N a0  post n4  S_) Sn post → W p l e { frames := F + 1, cells := 0, slots := 0, locals := L + 21 } s m ([.ref a0] : List Value).toArray below meth c H locs 0 0 (MQ below (kp_Qv D cy A S post) ([.ref a0] : List Value).toArray s 0 0 A) (F0 m 103 ls [.ref at0]) := by
        intro xn1 at0 Sn H locs ls hl h hle f_a0 f_at0 hw
        unfold wX12_product_b103 at hw
        refine lv_iconst (v := 1) X.1 X.2.1 dX12_product_103 (by decide) ?_
        refine lv_goto (tgt := 108) X.1 X.2.1 dX12_product_104 (by decide) ?_
        exact j108 xn1 1 at0 Sn H locs ls (lv_sub hl [0, 1] rfl) h hle f_a0 f_at0 hw
      have j107 : ∀ (xn1 : Int32) (at0 : Nat) (Sn : kp_S) (H : Heap) (locs : List Loc) (ls : Array Slot), lv_has ls 3 [(0, .ref a0), (1, .int xn1)] → kp_H D cy A Sn s.heap H locs → kp_le S Sn → kp_is Sn a0 12 → kp_is Sn at0 12 → wX12_product_b107 U N a0 xn1 at0 (fun  S_ => wX12_product_L4 U N a0  post n4  S_) Sn post → W p l e { frames := F + 1, cells := 0, slots := 0, locals := L + 21 } s m ([.ref a0] : List Value).toArray below meth c H locs 0 0 (MQ below (kp_Qv D cy A S post) ([.ref a0] : List Value).toArray s 0 0 A) (F0 m 107 ls [.ref at0]) := by
        intro xn1 at0 Sn H locs ls hl h hle f_a0 f_at0 hw
        unfold wX12_product_b107 at hw
        refine lv_iconst (v := 0) X.1 X.2.1 dX12_product_107 (by decide) ?_
        exact j108 xn1 0 at0 Sn H locs ls (lv_sub hl [0, 1] rfl) h hle f_a0 f_at0 hw
      have j61 : ∀ (xt0 : Int32) (Sn : kp_S) (H : Heap) (locs : List Loc) (ls : Array Slot), lv_has ls 3 [(0, .ref a0)] → kp_H D cy A Sn s.heap H locs → kp_le S Sn → kp_is Sn a0 12 → wX12_product_b61 U N a0 xt0 (fun  S_ => wX12_product_L4 U N a0  post n4  S_) Sn post → W p l e { frames := F + 1, cells := 0, slots := 0, locals := L + 21 } s m ([.ref a0] : List Value).toArray below meth c H locs 0 0 (MQ below (kp_Qv D cy A S post) ([.ref a0] : List Value).toArray s 0 0 A) (F0 m 61 ls [.int xt0]) := by
        intro xt0 Sn H locs ls hl h hle f_a0 hw
        unfold wX12_product_b61 at hw
        refine lv_istore_n (lv' := [(1, .int xt0), (0, .ref a0)]) X.1 X.2.1 dX12_product_61 rfl hl (by decide) rfl (fun ls hl => ?_)
        refine lv_aload_n X.1 X.2.1 dX12_product_62 rfl (lv_at hl 1 rfl) ?_
        refine lv_dup X.1 X.2.1 dX12_product_63 rfl ?_
        refine kp_get X h f_a0 fp_12_376.l (v := .int (kp_I Sn 2410 a0)) rfl dX12_product_64 ?_
        refine lv_iconst (v := 1) X.1 X.2.1 dX12_product_67 (by decide) ?_
        refine lv_iadd X.1 X.2.1 dX12_product_68 ?_
        refine kp_putI X h f_a0 fp_12_376 rfl ⟨rfl, rfl⟩ dX12_product_69 (fun T4001 e_T4001 l_T4001 H locs h => ?_)
        have hw := hw T4001 e_T4001
        have f_a0 := l_T4001.is f_a0
        have hle := hle.tr l_T4001
        refine lv_aload_n X.1 X.2.1 dX12_product_72 rfl (lv_at hl 1 rfl) ?_
        refine kp_get X h f_a0 fp_12_376.l (v := .int (kp_I T4001 2410 a0)) rfl dX12_product_73 ?_
        refine lv_topi (fun y4002 e_y4002 => ?_)
        have hw := hw y4002 e_y4002
        refine lv_istore_n (lv' := [(2, .int y4002), (1, .int xt0), (0, .ref a0)]) X.1 X.2.1 dX12_product_76 rfl hl (by decide) rfl (fun ls hl => ?_)
        refine lv_aload_n X.1 X.2.1 dX12_product_77 rfl (lv_at hl 2 rfl) ?_
        refine kp_callv X h (kp_runV (rm := { frames := F, cells := 0, slots := 0, locals := L }) (mc := 0) (ms := 0) (rest := []) (Qc := fun A => kp_Qv D cy A T4001 _) X h (hU T4001 a0 _ h.2.2.2 f_a0 hw) f_a0 cv_12_565 ⟨by dsimp only; omega, by dsimp only; omega, rfl, rfl, by dsimp only; omega, by dsimp only; omega⟩ rfl hl.1 rfl (Nat.le_of_ble_eq_true rfl) dX12_product_78) (fun T4003 hw l_T4003 H locs h => ?_)
        have f_a0 := l_T4003.is f_a0
        have hle := hle.tr l_T4003
        refine lv_aload_n X.1 X.2.1 dX12_product_81 rfl (lv_at hl 2 rfl) ?_
        refine lv_aload_n X.1 X.2.1 dX12_product_82 rfl (lv_at hl 2 rfl) ?_
        refine kp_get X h f_a0 fp_12_471.l (v := .int (kp_I T4003 2425 a0)) rfl dX12_product_83 ?_
        refine lv_if_ne (tgt := 103) X.1 X.2.1 dX12_product_86 (by decide) (fun c4008 => ?_) (fun c4008 => ?_)
        · have hw := hw.1 c4008
          exact j103 xt0 a0 T4003 H locs ls (lv_sub hl [2, 1] rfl) h hle f_a0 f_a0 hw
        · have hw := hw.2 c4008
          refine lv_iload_n X.1 X.2.1 dX12_product_89 rfl (lv_at hl 1 rfl) ?_
          refine lv_bipush (v := 9) X.1 X.2.1 dX12_product_90 (by decide) ?_
          refine lv_icmp_eq (tgt := 107) X.1 X.2.1 dX12_product_92 (by decide) (fun c4007 => ?_) (fun c4007 => ?_)
          · have hw := hw.1 c4007
            exact j107 xt0 a0 T4003 H locs ls (lv_sub hl [2, 1] rfl) h hle f_a0 f_a0 hw
          · have hw := hw.2 c4007
            refine lv_aload_n X.1 X.2.1 dX12_product_95 rfl (lv_at hl 2 rfl) ?_
            refine lv_iload_n X.1 X.2.1 dX12_product_96 rfl (lv_at hl 0 rfl) ?_
            refine kp_calli X h (kp_runV (rm := { frames := 0, cells := 0, slots := 0, locals := 0 }) (mc := 0) (ms := 0) (rest := [.ref a0]) (Qc := fun A => kp_Qi D cy A T4003 _) X h (c_X12_isPlain l D cy ad T4003 a0 y4002 _ h.2.2.2 f_a0 hw) f_a0 cv_12_568 ⟨by dsimp only; omega, by dsimp only; omega, rfl, rfl, by dsimp only; omega, by dsimp only; omega⟩ rfl hl.1 rfl (Nat.le_of_ble_eq_true rfl) dX12_product_97) (fun y4005 T4004 hw l_T4004 H locs h => ?_)
            have f_a0 := l_T4004.is f_a0
            have hle := hle.tr l_T4004
            refine lv_if_ne (tgt := 107) X.1 X.2.1 dX12_product_100 (by decide) (fun c4006 => ?_) (fun c4006 => ?_)
            · have hw := hw.1 c4006
              exact j107 xt0 a0 T4004 H locs ls (lv_sub hl [2, 1] rfl) h hle f_a0 f_a0 hw
            · have hw := hw.2 c4006
              exact j103 xt0 a0 T4004 H locs ls (lv_sub hl [2, 1] rfl) h hle f_a0 f_a0 hw
      have j31 : ∀  (Sn : kp_S) (H : Heap) (locs : List Loc) (ls : Array Slot), lv_has ls 3 [(0, .ref a0)] → kp_H D cy A Sn s.heap H locs → kp_le S Sn → kp_is Sn a0 12 → wX12_product_b31 U N a0  (fun  S_ => wX12_product_L4 U N a0  post n4  S_) Sn post → W p l e { frames := F + 1, cells := 0, slots := 0, locals := L + 21 } s m ([.ref a0] : List Value).toArray below meth c H locs 0 0 (MQ below (kp_Qv D cy A S post) ([.ref a0] : List Value).toArray s 0 0 A) (F0 m 31 ls []) := by
        intro  Sn H locs ls hl h hle f_a0 hw
        unfold wX12_product_b31 at hw
        refine lv_aload_n X.1 X.2.1 dX12_product_31 rfl (lv_at hl 0 rfl) ?_
        refine lv_bipush (v := 42) X.1 X.2.1 dX12_product_32 (by decide) ?_
        refine kp_calli X h (kp_runV (rm := { frames := 1, cells := 0, slots := 0, locals := 21 }) (mc := 0) (ms := 0) (rest := []) (Qc := fun A => kp_Qi D cy A Sn _) X h (c_X12_isSign l D cy ad Sn a0 42 _ h.2.2.2 f_a0 hw) f_a0 cv_12_433 ⟨by dsimp only; omega, by dsimp only; omega, rfl, rfl, by dsimp only; omega, by dsimp only; omega⟩ rfl hl.1 rfl (Nat.le_of_ble_eq_true rfl) dX12_product_34) (fun y5002 T5001 hw l_T5001 H locs h => ?_)
        have f_a0 := l_T5001.is f_a0
        have hle := hle.tr l_T5001
        refine lv_if_eq (tgt := 45) X.1 X.2.1 dX12_product_37 (by decide) (fun c5006 => ?_) (fun c5006 => ?_)
        · have hw := hw.1 c5006
          refine lv_aload_n X.1 X.2.1 dX12_product_45 rfl (lv_at hl 0 rfl) ?_
          refine lv_bipush (v := 47) X.1 X.2.1 dX12_product_46 (by decide) ?_
          refine kp_calli X h (kp_runV (rm := { frames := 1, cells := 0, slots := 0, locals := 21 }) (mc := 0) (ms := 0) (rest := []) (Qc := fun A => kp_Qi D cy A T5001 _) X h (c_X12_isSign l D cy ad T5001 a0 47 _ h.2.2.2 f_a0 hw) f_a0 cv_12_433 ⟨by dsimp only; omega, by dsimp only; omega, rfl, rfl, by dsimp only; omega, by dsimp only; omega⟩ rfl hl.1 rfl (Nat.le_of_ble_eq_true rfl) dX12_product_48) (fun y5004 T5003 hw l_T5003 H locs h => ?_)
          have f_a0 := l_T5003.is f_a0
          have hle := hle.tr l_T5003
          refine lv_if_eq (tgt := 59) X.1 X.2.1 dX12_product_51 (by decide) (fun c5005 => ?_) (fun c5005 => ?_)
          · have hw := hw.1 c5005
            refine lv_bipush (v := 11) X.1 X.2.1 dX12_product_59 (by decide) ?_
            exact j61 11 T5003 H locs ls (lv_sub hl [0] rfl) h hle f_a0 hw
          · have hw := hw.2 c5005
            refine lv_bipush (v := 10) X.1 X.2.1 dX12_product_54 (by decide) ?_
            refine lv_goto (tgt := 61) X.1 X.2.1 dX12_product_56 (by decide) ?_
            exact j61 10 T5003 H locs ls (lv_sub hl [0] rfl) h hle f_a0 hw
        · have hw := hw.2 c5006
          refine lv_bipush (v := 9) X.1 X.2.1 dX12_product_40 (by decide) ?_
          refine lv_goto (tgt := 61) X.1 X.2.1 dX12_product_42 (by decide) ?_
          exact j61 9 T5001 H locs ls (lv_sub hl [0] rfl) h hle f_a0 hw
      intro  Sn H locs ls hl h hle f_a0 hw
      unfold wX12_product_L4 at hw
      refine lv_aload_n X.1 X.2.1 dX12_product_4 rfl (lv_at hl 0 rfl) ?_
      refine lv_bipush (v := 42) X.1 X.2.1 dX12_product_5 (by decide) ?_
      refine kp_calli X h (kp_runV (rm := { frames := 1, cells := 0, slots := 0, locals := 21 }) (mc := 0) (ms := 0) (rest := []) (Qc := fun A => kp_Qi D cy A Sn _) X h (c_X12_isSign l D cy ad Sn a0 42 _ h.2.2.2 f_a0 hw) f_a0 cv_12_433 ⟨by dsimp only; omega, by dsimp only; omega, rfl, rfl, by dsimp only; omega, by dsimp only; omega⟩ rfl hl.1 rfl (Nat.le_of_ble_eq_true rfl) dX12_product_7) (fun y6002 T6001 hw l_T6001 H locs h => ?_)
      have f_a0 := l_T6001.is f_a0
      have hle := hle.tr l_T6001
      refine lv_if_ne (tgt := 31) X.1 X.2.1 dX12_product_10 (by decide) (fun c6009 => ?_) (fun c6009 => ?_)
      · have hw := hw.1 c6009
        exact j31  T6001 H locs ls (lv_sub hl [0] rfl) h hle f_a0 hw
      · have hw := hw.2 c6009
        refine lv_aload_n X.1 X.2.1 dX12_product_13 rfl (lv_at hl 0 rfl) ?_
        refine lv_bipush (v := 47) X.1 X.2.1 dX12_product_14 (by decide) ?_
        refine kp_calli X h (kp_runV (rm := { frames := 1, cells := 0, slots := 0, locals := 21 }) (mc := 0) (ms := 0) (rest := []) (Qc := fun A => kp_Qi D cy A T6001 _) X h (c_X12_isSign l D cy ad T6001 a0 47 _ h.2.2.2 f_a0 hw) f_a0 cv_12_433 ⟨by dsimp only; omega, by dsimp only; omega, rfl, rfl, by dsimp only; omega, by dsimp only; omega⟩ rfl hl.1 rfl (Nat.le_of_ble_eq_true rfl) dX12_product_16) (fun y6004 T6003 hw l_T6003 H locs h => ?_)
        have f_a0 := l_T6003.is f_a0
        have hle := hle.tr l_T6003
        refine lv_if_ne (tgt := 31) X.1 X.2.1 dX12_product_19 (by decide) (fun c6008 => ?_) (fun c6008 => ?_)
        · have hw := hw.1 c6008
          exact j31  T6003 H locs ls (lv_sub hl [0] rfl) h hle f_a0 hw
        · have hw := hw.2 c6008
          refine lv_aload_n X.1 X.2.1 dX12_product_22 rfl (lv_at hl 0 rfl) ?_
          refine lv_bipush (v := 37) X.1 X.2.1 dX12_product_23 (by decide) ?_
          refine kp_calli X h (kp_runV (rm := { frames := 1, cells := 0, slots := 0, locals := 21 }) (mc := 0) (ms := 0) (rest := []) (Qc := fun A => kp_Qi D cy A T6003 _) X h (c_X12_isSign l D cy ad T6003 a0 37 _ h.2.2.2 f_a0 hw) f_a0 cv_12_433 ⟨by dsimp only; omega, by dsimp only; omega, rfl, rfl, by dsimp only; omega, by dsimp only; omega⟩ rfl hl.1 rfl (Nat.le_of_ble_eq_true rfl) dX12_product_25) (fun y6006 T6005 hw l_T6005 H locs h => ?_)
          have f_a0 := l_T6005.is f_a0
          have hle := hle.tr l_T6005
          refine lv_if_eq (tgt := 122) X.1 X.2.1 dX12_product_28 (by decide) (fun c6007 => ?_) (fun c6007 => ?_)
          · have hw := hw.1 c6007
            exact kp_retv X hr hlocks h hle hw dX12_product_122
          · have hw := hw.2 c6007
            exact j31  T6005 H locs ls (lv_sub hl [0] rfl) h hle f_a0 hw
  unfold wX12_product at hw
  have h : kp_H D cy A S s.heap s.heap [] := h
  revert h
  intro h
  refine lv_aload_n X.1 X.2.1 dX12_product_0 rfl (lv_at hl 0 rfl) ?_
  refine kp_callv X h (kp_runV (rm := { frames := F, cells := 0, slots := 0, locals := L }) (mc := 0) (ms := 0) (rest := []) (Qc := fun A => kp_Qv D cy A S _) X h (hU S a0 _ h.2.2.2 f_a0 hw) f_a0 cv_12_565 ⟨by dsimp only; omega, by dsimp only; omega, rfl, rfl, by dsimp only; omega, by dsimp only; omega⟩ rfl hl.1 rfl (Nat.le_of_ble_eq_true rfl) dX12_product_1) (fun T1 hw l_T1 H locs h => ?_)
  have f_a0 := l_T1.is f_a0
  have hle := hle.tr l_T1
  obtain ⟨n0, hw⟩ := hw
  exact L4 n0  T1 _ _ ls (lv_sub hl [0] rfl) h hle f_a0 hw
theorem dX12_sum_0 : decode cX12_sum 0 = .ok (.aload_n 0, 1) := by decide +kernel
theorem dX12_sum_1 : decode cX12_sum 1 = .ok (.invokevirtual 562, 3) := by decide +kernel
theorem dX12_sum_4 : decode cX12_sum 4 = .ok (.aload_n 0, 1) := by decide +kernel
theorem dX12_sum_5 : decode cX12_sum 5 = .ok (.bipush 43, 2) := by decide +kernel
theorem dX12_sum_7 : decode cX12_sum 7 = .ok (.invokevirtual 433, 3) := by decide +kernel
theorem dX12_sum_10 : decode cX12_sum 10 = .ok (.ifCond .ne 12, 3) := by decide +kernel
theorem dX12_sum_13 : decode cX12_sum 13 = .ok (.aload_n 0, 1) := by decide +kernel
theorem dX12_sum_14 : decode cX12_sum 14 = .ok (.bipush 45, 2) := by decide +kernel
theorem dX12_sum_16 : decode cX12_sum 16 = .ok (.invokevirtual 433, 3) := by decide +kernel
theorem dX12_sum_19 : decode cX12_sum 19 = .ok (.ifCond .eq 45, 3) := by decide +kernel
theorem dX12_sum_22 : decode cX12_sum 22 = .ok (.aload_n 0, 1) := by decide +kernel
theorem dX12_sum_23 : decode cX12_sum 23 = .ok (.bipush 43, 2) := by decide +kernel
theorem dX12_sum_25 : decode cX12_sum 25 = .ok (.invokevirtual 433, 3) := by decide +kernel
theorem dX12_sum_28 : decode cX12_sum 28 = .ok (.ifCond .eq 8, 3) := by decide +kernel
theorem dX12_sum_31 : decode cX12_sum 31 = .ok (.bipush 7, 2) := by decide +kernel
theorem dX12_sum_33 : decode cX12_sum 33 = .ok (.goto 5, 3) := by decide +kernel
theorem dX12_sum_36 : decode cX12_sum 36 = .ok (.bipush 8, 2) := by decide +kernel
theorem dX12_sum_38 : decode cX12_sum 38 = .ok (.istore_n 1, 1) := by decide +kernel
theorem dX12_sum_39 : decode cX12_sum 39 = .ok (.aload_n 0, 1) := by decide +kernel
theorem dX12_sum_40 : decode cX12_sum 40 = .ok (.dup, 1) := by decide +kernel
theorem dX12_sum_41 : decode cX12_sum 41 = .ok (.getfield 376, 3) := by decide +kernel
theorem dX12_sum_44 : decode cX12_sum 44 = .ok (.iconst 1, 1) := by decide +kernel
theorem dX12_sum_45 : decode cX12_sum 45 = .ok (.iadd, 1) := by decide +kernel
theorem dX12_sum_46 : decode cX12_sum 46 = .ok (.putfield 376, 3) := by decide +kernel
theorem dX12_sum_49 : decode cX12_sum 49 = .ok (.aload_n 0, 1) := by decide +kernel
theorem dX12_sum_50 : decode cX12_sum 50 = .ok (.invokevirtual 562, 3) := by decide +kernel
theorem dX12_sum_53 : decode cX12_sum 53 = .ok (.aload_n 0, 1) := by decide +kernel
theorem dX12_sum_54 : decode cX12_sum 54 = .ok (.iload_n 1, 1) := by decide +kernel
theorem dX12_sum_55 : decode cX12_sum 55 = .ok (.iconst 0, 1) := by decide +kernel
theorem dX12_sum_56 : decode cX12_sum 56 = .ok (.iconst 0, 1) := by decide +kernel
theorem dX12_sum_57 : decode cX12_sum 57 = .ok (.invokevirtual 451, 3) := by decide +kernel
theorem dX12_sum_60 : decode cX12_sum 60 = .ok (.pop, 1) := by decide +kernel
theorem dX12_sum_61 : decode cX12_sum 61 = .ok (.goto (-57), 3) := by decide +kernel
theorem dX12_sum_64 : decode cX12_sum 64 = .ok (.return_, 1) := by decide +kernel
def wX12_sum_b38 (U : Nat → kp_S → (kp_S → Prop) → Prop) (N : Nat → kp_S → (kp_S → Prop) → Prop) (a0 : Nat) (xt0 : Int32) (K4 : kp_S → Prop) (Sn : kp_S) (post : kp_S → Prop) : Prop :=
  ∀ T1001 : kp_S, T1001 = kp_sI Sn 2410 a0 ((kp_I Sn 2410 a0) + 1) →
  wX12_product U N a0 T1001 (fun T1002 =>
  wX12_emit a0 xt0 0 0 T1002 (fun y1004 T1003 =>
  K4  T1003))
def wX12_sum_b22 (U : Nat → kp_S → (kp_S → Prop) → Prop) (N : Nat → kp_S → (kp_S → Prop) → Prop) (a0 : Nat) (K4 : kp_S → Prop) (Sn : kp_S) (post : kp_S → Prop) : Prop :=
  wX12_isSign a0 43 Sn (fun y2002 T2001 =>
  ((y2002 = 0 →
  wX12_sum_b38 U N a0 8 K4 T2001 post) ∧ (¬ y2002 = 0 →
  wX12_sum_b38 U N a0 7 K4 T2001 post)))
def wX12_sum_L4 (U : Nat → kp_S → (kp_S → Prop) → Prop) (N : Nat → kp_S → (kp_S → Prop) → Prop) (a0 : Nat)  (post : kp_S → Prop) : Nat → kp_S → Prop
  | 0, _ => False
  | n + 1, Sn =>
  wX12_isSign a0 43 Sn (fun y3002 T3001 =>
  ((¬ y3002 = 0 →
  wX12_sum_b22 U N a0  (fun  S_ => wX12_sum_L4 U N a0  post n  S_) T3001 post) ∧ (y3002 = 0 →
  wX12_isSign a0 45 T3001 (fun y3004 T3003 =>
  ((y3004 = 0 →
  post T3003) ∧ (¬ y3004 = 0 →
  wX12_sum_b22 U N a0  (fun  S_ => wX12_sum_L4 U N a0  post n  S_) T3003 post))))))
def wX12_sum (U : Nat → kp_S → (kp_S → Prop) → Prop) (N : Nat → kp_S → (kp_S → Prop) → Prop) (a0 : Nat) (S : kp_S) (post : kp_S → Prop) : Prop :=
  wX12_product U N a0 S (fun T1 =>
  ∃ n0 : Nat, wX12_sum_L4 U N a0  post n0  T1)
set_option maxHeartbeats 4000000 in
set_option maxRecDepth 100000 in
theorem c_X12_sum (l : Launch) (D : va_G) (cy : Nat → ClassId) (ad : (Nat → Nat) × (Nat → Nat)) (F L : Nat) (U : Nat → kp_S → (kp_S → Prop) → Prop) (N : Nat → kp_S → (kp_S → Prop) → Prop) (hU : ∀ (S : kp_S) (a0 : Nat) (post : kp_S → Prop), kp_ok S → kp_is S a0 12 → U a0 S post → kp_M l yX12_unit cX12_unit 2 none { frames := F, cells := 0, slots := 0, locals := L } D cy ad S [.ref a0] 0 0 (fun A => kp_Qv D cy A S post)) (hN : ∀ (S : kp_S) (a0 : Nat) (post : kp_S → Prop), kp_ok S → kp_is S a0 12 → N a0 S post → kp_M l yX12_turned cX12_turned 1 none { frames := F, cells := 0, slots := 0, locals := L } D cy ad S [.ref a0] 0 0 (fun A => kp_Qv D cy A S post)) (hF : 3 ≤ F) (hL : 63 ≤ L) (S : kp_S) (a0 : Nat) (post : kp_S → Prop) (hS : kp_ok S) (f_a0 : kp_is S a0 12) (hw : wX12_sum U N a0 S post) : kp_M l yX12_sum cX12_sum 2 none { frames := F + 2, cells := 0, slots := 0, locals := L + 43 } D cy ad S [.ref a0] 0 0 (fun A => kp_Qv D cy A S post) := by
  refine kp_start (own := RX12) (by decide) rfl (Nat.le_of_ble_eq_true rfl) hS ?_
  intro p e s m below meth c A ls X hr hlocks hname h hl
  have hle : kp_le S S := kp_le.rf
  have hl : lv_has ls 2 [(0, .ref a0)] := hl
  have L4 : ∀ n4 : Nat, ∀  (Sn : kp_S) (H : Heap) (locs : List Loc) (ls : Array Slot), lv_has ls 2 [(0, .ref a0)] → kp_H D cy A Sn s.heap H locs → kp_le S Sn → kp_is Sn a0 12 → wX12_sum_L4 U N a0  post n4  Sn → W p l e { frames := F + 2, cells := 0, slots := 0, locals := L + 43 } s m ([.ref a0] : List Value).toArray below meth c H locs 0 0 (MQ below (kp_Qv D cy A S post) ([.ref a0] : List Value).toArray s 0 0 A) (F0 m 4 ls []) := by
    intro n4
    induction n4 with
    | zero => intro  Sn H locs ls hl h hle f_a0 hw; exact hw.elim
    | succ n4 ih4 =>
      have j38 : ∀ (xt0 : Int32) (Sn : kp_S) (H : Heap) (locs : List Loc) (ls : Array Slot), lv_has ls 2 [(0, .ref a0)] → kp_H D cy A Sn s.heap H locs → kp_le S Sn → kp_is Sn a0 12 → wX12_sum_b38 U N a0 xt0 (fun  S_ => wX12_sum_L4 U N a0  post n4  S_) Sn post → W p l e { frames := F + 2, cells := 0, slots := 0, locals := L + 43 } s m ([.ref a0] : List Value).toArray below meth c H locs 0 0 (MQ below (kp_Qv D cy A S post) ([.ref a0] : List Value).toArray s 0 0 A) (F0 m 38 ls [.int xt0]) := by
        intro xt0 Sn H locs ls hl h hle f_a0 hw
        unfold wX12_sum_b38 at hw
        refine lv_istore_n (lv' := [(1, .int xt0), (0, .ref a0)]) X.1 X.2.1 dX12_sum_38 rfl hl (by decide) rfl (fun ls hl => ?_)
        refine lv_aload_n X.1 X.2.1 dX12_sum_39 rfl (lv_at hl 1 rfl) ?_
        refine lv_dup X.1 X.2.1 dX12_sum_40 rfl ?_
        refine kp_get X h f_a0 fp_12_376.l (v := .int (kp_I Sn 2410 a0)) rfl dX12_sum_41 ?_
        refine lv_iconst (v := 1) X.1 X.2.1 dX12_sum_44 (by decide) ?_
        refine lv_iadd X.1 X.2.1 dX12_sum_45 ?_
        refine kp_putI X h f_a0 fp_12_376 rfl ⟨rfl, rfl⟩ dX12_sum_46 (fun T1001 e_T1001 l_T1001 H locs h => ?_)
        have hw := hw T1001 e_T1001
        have f_a0 := l_T1001.is f_a0
        have hle := hle.tr l_T1001
        refine lv_aload_n X.1 X.2.1 dX12_sum_49 rfl (lv_at hl 1 rfl) ?_
        refine kp_callv X h (kp_runV (rm := { frames := F + 1, cells := 0, slots := 0, locals := L + 21 }) (mc := 0) (ms := 0) (rest := []) (Qc := fun A => kp_Qv D cy A T1001 _) X h (c_X12_product l D cy ad F L U N hU hN hF hL T1001 a0 _ h.2.2.2 f_a0 hw) f_a0 cv_12_562 ⟨by dsimp only; omega, by dsimp only; omega, rfl, rfl, by dsimp only; omega, by dsimp only; omega⟩ rfl hl.1 rfl (Nat.le_of_ble_eq_true rfl) dX12_sum_50) (fun T1002 hw l_T1002 H locs h => ?_)
        have f_a0 := l_T1002.is f_a0
        have hle := hle.tr l_T1002
        refine lv_aload_n X.1 X.2.1 dX12_sum_53 rfl (lv_at hl 1 rfl) ?_
        refine lv_iload_n X.1 X.2.1 dX12_sum_54 rfl (lv_at hl 0 rfl) ?_
        refine lv_iconst (v := 0) X.1 X.2.1 dX12_sum_55 (by decide) ?_
        refine lv_iconst (v := 0) X.1 X.2.1 dX12_sum_56 (by decide) ?_
        refine kp_calli X h (kp_runV (rm := { frames := 0, cells := 0, slots := 0, locals := 0 }) (mc := 0) (ms := 0) (rest := []) (Qc := fun A => kp_Qi D cy A T1002 _) X h (c_X12_emit l D cy ad T1002 a0 xt0 0 0 _ h.2.2.2 f_a0 hw) f_a0 cv_12_451 ⟨by dsimp only; omega, by dsimp only; omega, rfl, rfl, by dsimp only; omega, by dsimp only; omega⟩ rfl hl.1 rfl (Nat.le_of_ble_eq_true rfl) dX12_sum_57) (fun y1004 T1003 hw l_T1003 H locs h => ?_)
        have f_a0 := l_T1003.is f_a0
        have hle := hle.tr l_T1003
        refine lv_pop X.1 X.2.1 dX12_sum_60 rfl ?_
        refine lv_goto (tgt := 4) X.1 X.2.1 dX12_sum_61 (by decide) ?_
        exact ih4  T1003 H locs ls (lv_sub hl [1] rfl) h hle f_a0 hw
      have j22 : ∀  (Sn : kp_S) (H : Heap) (locs : List Loc) (ls : Array Slot), lv_has ls 2 [(0, .ref a0)] → kp_H D cy A Sn s.heap H locs → kp_le S Sn → kp_is Sn a0 12 → wX12_sum_b22 U N a0  (fun  S_ => wX12_sum_L4 U N a0  post n4  S_) Sn post → W p l e { frames := F + 2, cells := 0, slots := 0, locals := L + 43 } s m ([.ref a0] : List Value).toArray below meth c H locs 0 0 (MQ below (kp_Qv D cy A S post) ([.ref a0] : List Value).toArray s 0 0 A) (F0 m 22 ls []) := by
        intro  Sn H locs ls hl h hle f_a0 hw
        unfold wX12_sum_b22 at hw
        refine lv_aload_n X.1 X.2.1 dX12_sum_22 rfl (lv_at hl 0 rfl) ?_
        refine lv_bipush (v := 43) X.1 X.2.1 dX12_sum_23 (by decide) ?_
        refine kp_calli X h (kp_runV (rm := { frames := 1, cells := 0, slots := 0, locals := 21 }) (mc := 0) (ms := 0) (rest := []) (Qc := fun A => kp_Qi D cy A Sn _) X h (c_X12_isSign l D cy ad Sn a0 43 _ h.2.2.2 f_a0 hw) f_a0 cv_12_433 ⟨by dsimp only; omega, by dsimp only; omega, rfl, rfl, by dsimp only; omega, by dsimp only; omega⟩ rfl hl.1 rfl (Nat.le_of_ble_eq_true rfl) dX12_sum_25) (fun y2002 T2001 hw l_T2001 H locs h => ?_)
        have f_a0 := l_T2001.is f_a0
        have hle := hle.tr l_T2001
        refine lv_if_eq (tgt := 36) X.1 X.2.1 dX12_sum_28 (by decide) (fun c2003 => ?_) (fun c2003 => ?_)
        · have hw := hw.1 c2003
          refine lv_bipush (v := 8) X.1 X.2.1 dX12_sum_36 (by decide) ?_
          exact j38 8 T2001 H locs ls (lv_sub hl [0] rfl) h hle f_a0 hw
        · have hw := hw.2 c2003
          refine lv_bipush (v := 7) X.1 X.2.1 dX12_sum_31 (by decide) ?_
          refine lv_goto (tgt := 38) X.1 X.2.1 dX12_sum_33 (by decide) ?_
          exact j38 7 T2001 H locs ls (lv_sub hl [0] rfl) h hle f_a0 hw
      intro  Sn H locs ls hl h hle f_a0 hw
      unfold wX12_sum_L4 at hw
      refine lv_aload_n X.1 X.2.1 dX12_sum_4 rfl (lv_at hl 0 rfl) ?_
      refine lv_bipush (v := 43) X.1 X.2.1 dX12_sum_5 (by decide) ?_
      refine kp_calli X h (kp_runV (rm := { frames := 1, cells := 0, slots := 0, locals := 21 }) (mc := 0) (ms := 0) (rest := []) (Qc := fun A => kp_Qi D cy A Sn _) X h (c_X12_isSign l D cy ad Sn a0 43 _ h.2.2.2 f_a0 hw) f_a0 cv_12_433 ⟨by dsimp only; omega, by dsimp only; omega, rfl, rfl, by dsimp only; omega, by dsimp only; omega⟩ rfl hl.1 rfl (Nat.le_of_ble_eq_true rfl) dX12_sum_7) (fun y3002 T3001 hw l_T3001 H locs h => ?_)
      have f_a0 := l_T3001.is f_a0
      have hle := hle.tr l_T3001
      refine lv_if_ne (tgt := 22) X.1 X.2.1 dX12_sum_10 (by decide) (fun c3006 => ?_) (fun c3006 => ?_)
      · have hw := hw.1 c3006
        exact j22  T3001 H locs ls (lv_sub hl [0] rfl) h hle f_a0 hw
      · have hw := hw.2 c3006
        refine lv_aload_n X.1 X.2.1 dX12_sum_13 rfl (lv_at hl 0 rfl) ?_
        refine lv_bipush (v := 45) X.1 X.2.1 dX12_sum_14 (by decide) ?_
        refine kp_calli X h (kp_runV (rm := { frames := 1, cells := 0, slots := 0, locals := 21 }) (mc := 0) (ms := 0) (rest := []) (Qc := fun A => kp_Qi D cy A T3001 _) X h (c_X12_isSign l D cy ad T3001 a0 45 _ h.2.2.2 f_a0 hw) f_a0 cv_12_433 ⟨by dsimp only; omega, by dsimp only; omega, rfl, rfl, by dsimp only; omega, by dsimp only; omega⟩ rfl hl.1 rfl (Nat.le_of_ble_eq_true rfl) dX12_sum_16) (fun y3004 T3003 hw l_T3003 H locs h => ?_)
        have f_a0 := l_T3003.is f_a0
        have hle := hle.tr l_T3003
        refine lv_if_eq (tgt := 64) X.1 X.2.1 dX12_sum_19 (by decide) (fun c3005 => ?_) (fun c3005 => ?_)
        · have hw := hw.1 c3005
          exact kp_retv X hr hlocks h hle hw dX12_sum_64
        · have hw := hw.2 c3005
          exact j22  T3003 H locs ls (lv_sub hl [0] rfl) h hle f_a0 hw
  unfold wX12_sum at hw
  have h : kp_H D cy A S s.heap s.heap [] := h
  revert h
  intro h
  refine lv_aload_n X.1 X.2.1 dX12_sum_0 rfl (lv_at hl 0 rfl) ?_
  refine kp_callv X h (kp_runV (rm := { frames := F + 1, cells := 0, slots := 0, locals := L + 21 }) (mc := 0) (ms := 0) (rest := []) (Qc := fun A => kp_Qv D cy A S _) X h (c_X12_product l D cy ad F L U N hU hN hF hL S a0 _ h.2.2.2 f_a0 hw) f_a0 cv_12_562 ⟨by dsimp only; omega, by dsimp only; omega, rfl, rfl, by dsimp only; omega, by dsimp only; omega⟩ rfl hl.1 rfl (Nat.le_of_ble_eq_true rfl) dX12_sum_1) (fun T1 hw l_T1 H locs h => ?_)
  have f_a0 := l_T1.is f_a0
  have hle := hle.tr l_T1
  obtain ⟨n0, hw⟩ := hw
  exact L4 n0  T1 _ _ ls (lv_sub hl [0] rfl) h hle f_a0 hw
theorem dX12_test_0 : decode cX12_test 0 = .ok (.aload_n 0, 1) := by decide +kernel
theorem dX12_test_1 : decode cX12_test 1 = .ok (.invokevirtual 559, 3) := by decide +kernel
theorem dX12_test_4 : decode cX12_test 4 = .ok (.aload_n 0, 1) := by decide +kernel
theorem dX12_test_5 : decode cX12_test 5 = .ok (.sipush 301, 3) := by decide +kernel
theorem dX12_test_8 : decode cX12_test 8 = .ok (.invokevirtual 379, 3) := by decide +kernel
theorem dX12_test_11 : decode cX12_test 11 = .ok (.ifCond .eq 8, 3) := by decide +kernel
theorem dX12_test_14 : decode cX12_test 14 = .ok (.bipush 12, 2) := by decide +kernel
theorem dX12_test_16 : decode cX12_test 16 = .ok (.goto 48, 3) := by decide +kernel
theorem dX12_test_19 : decode cX12_test 19 = .ok (.aload_n 0, 1) := by decide +kernel
theorem dX12_test_20 : decode cX12_test 20 = .ok (.sipush 302, 3) := by decide +kernel
theorem dX12_test_23 : decode cX12_test 23 = .ok (.invokevirtual 379, 3) := by decide +kernel
theorem dX12_test_26 : decode cX12_test 26 = .ok (.ifCond .eq 8, 3) := by decide +kernel
theorem dX12_test_29 : decode cX12_test 29 = .ok (.bipush 13, 2) := by decide +kernel
theorem dX12_test_31 : decode cX12_test 31 = .ok (.goto 33, 3) := by decide +kernel
theorem dX12_test_34 : decode cX12_test 34 = .ok (.aload_n 0, 1) := by decide +kernel
theorem dX12_test_35 : decode cX12_test 35 = .ok (.bipush 60, 2) := by decide +kernel
theorem dX12_test_37 : decode cX12_test 37 = .ok (.invokevirtual 433, 3) := by decide +kernel
theorem dX12_test_40 : decode cX12_test 40 = .ok (.ifCond .eq 8, 3) := by decide +kernel
theorem dX12_test_43 : decode cX12_test 43 = .ok (.bipush 14, 2) := by decide +kernel
theorem dX12_test_45 : decode cX12_test 45 = .ok (.goto 19, 3) := by decide +kernel
theorem dX12_test_48 : decode cX12_test 48 = .ok (.aload_n 0, 1) := by decide +kernel
theorem dX12_test_49 : decode cX12_test 49 = .ok (.sipush 303, 3) := by decide +kernel
theorem dX12_test_52 : decode cX12_test 52 = .ok (.invokevirtual 379, 3) := by decide +kernel
theorem dX12_test_55 : decode cX12_test 55 = .ok (.ifCond .eq 8, 3) := by decide +kernel
theorem dX12_test_58 : decode cX12_test 58 = .ok (.bipush 15, 2) := by decide +kernel
theorem dX12_test_60 : decode cX12_test 60 = .ok (.goto 4, 3) := by decide +kernel
theorem dX12_test_63 : decode cX12_test 63 = .ok (.iconst (-1), 1) := by decide +kernel
theorem dX12_test_64 : decode cX12_test 64 = .ok (.istore_n 1, 1) := by decide +kernel
theorem dX12_test_65 : decode cX12_test 65 = .ok (.iload_n 1, 1) := by decide +kernel
theorem dX12_test_66 : decode cX12_test 66 = .ok (.iconst (-1), 1) := by decide +kernel
theorem dX12_test_67 : decode cX12_test 67 = .ok (.if_icmp .ne 4, 3) := by decide +kernel
theorem dX12_test_70 : decode cX12_test 70 = .ok (.return_, 1) := by decide +kernel
theorem dX12_test_71 : decode cX12_test 71 = .ok (.aload_n 0, 1) := by decide +kernel
theorem dX12_test_72 : decode cX12_test 72 = .ok (.dup, 1) := by decide +kernel
theorem dX12_test_73 : decode cX12_test 73 = .ok (.getfield 376, 3) := by decide +kernel
theorem dX12_test_76 : decode cX12_test 76 = .ok (.iconst 1, 1) := by decide +kernel
theorem dX12_test_77 : decode cX12_test 77 = .ok (.iadd, 1) := by decide +kernel
theorem dX12_test_78 : decode cX12_test 78 = .ok (.putfield 376, 3) := by decide +kernel
theorem dX12_test_81 : decode cX12_test 81 = .ok (.aload_n 0, 1) := by decide +kernel
theorem dX12_test_82 : decode cX12_test 82 = .ok (.invokevirtual 559, 3) := by decide +kernel
theorem dX12_test_85 : decode cX12_test 85 = .ok (.aload_n 0, 1) := by decide +kernel
theorem dX12_test_86 : decode cX12_test 86 = .ok (.iload_n 1, 1) := by decide +kernel
theorem dX12_test_87 : decode cX12_test 87 = .ok (.iconst 0, 1) := by decide +kernel
theorem dX12_test_88 : decode cX12_test 88 = .ok (.iconst 0, 1) := by decide +kernel
theorem dX12_test_89 : decode cX12_test 89 = .ok (.invokevirtual 451, 3) := by decide +kernel
theorem dX12_test_92 : decode cX12_test 92 = .ok (.pop, 1) := by decide +kernel
theorem dX12_test_93 : decode cX12_test 93 = .ok (.return_, 1) := by decide +kernel
def wX12_test_b64 (U : Nat → kp_S → (kp_S → Prop) → Prop) (N : Nat → kp_S → (kp_S → Prop) → Prop) (a0 : Nat) (xt0 : Int32)  (Sn : kp_S) (post : kp_S → Prop) : Prop :=
  ((¬ xt0 = (-1) →
  ∀ T1001 : kp_S, T1001 = kp_sI Sn 2410 a0 ((kp_I Sn 2410 a0) + 1) →
  wX12_sum U N a0 T1001 (fun T1002 =>
  wX12_emit a0 xt0 0 0 T1002 (fun y1004 T1003 =>
  post T1003))) ∧ (xt0 = (-1) →
  post Sn))
def wX12_test (U : Nat → kp_S → (kp_S → Prop) → Prop) (N : Nat → kp_S → (kp_S → Prop) → Prop) (a0 : Nat) (S : kp_S) (post : kp_S → Prop) : Prop :=
  wX12_sum U N a0 S (fun T1 =>
  wX12_is a0 301 T1 (fun y3 T2 =>
  ((y3 = 0 →
  wX12_is a0 302 T2 (fun y5 T4 =>
  ((y5 = 0 →
  wX12_isSign a0 60 T4 (fun y7 T6 =>
  ((y7 = 0 →
  wX12_is a0 303 T6 (fun y9 T8 =>
  ((y9 = 0 →
  wX12_test_b64 U N a0 (-1)  T8 post) ∧ (¬ y9 = 0 →
  wX12_test_b64 U N a0 15  T8 post)))) ∧ (¬ y7 = 0 →
  wX12_test_b64 U N a0 14  T6 post)))) ∧ (¬ y5 = 0 →
  wX12_test_b64 U N a0 13  T4 post)))) ∧ (¬ y3 = 0 →
  wX12_test_b64 U N a0 12  T2 post))))
set_option maxHeartbeats 4000000 in
set_option maxRecDepth 100000 in
theorem c_X12_test (l : Launch) (D : va_G) (cy : Nat → ClassId) (ad : (Nat → Nat) × (Nat → Nat)) (F L : Nat) (U : Nat → kp_S → (kp_S → Prop) → Prop) (N : Nat → kp_S → (kp_S → Prop) → Prop) (hU : ∀ (S : kp_S) (a0 : Nat) (post : kp_S → Prop), kp_ok S → kp_is S a0 12 → U a0 S post → kp_M l yX12_unit cX12_unit 2 none { frames := F, cells := 0, slots := 0, locals := L } D cy ad S [.ref a0] 0 0 (fun A => kp_Qv D cy A S post)) (hN : ∀ (S : kp_S) (a0 : Nat) (post : kp_S → Prop), kp_ok S → kp_is S a0 12 → N a0 S post → kp_M l yX12_turned cX12_turned 1 none { frames := F, cells := 0, slots := 0, locals := L } D cy ad S [.ref a0] 0 0 (fun A => kp_Qv D cy A S post)) (hF : 3 ≤ F) (hL : 63 ≤ L) (S : kp_S) (a0 : Nat) (post : kp_S → Prop) (hS : kp_ok S) (f_a0 : kp_is S a0 12) (hw : wX12_test U N a0 S post) : kp_M l yX12_test cX12_test 2 none { frames := F + 3, cells := 0, slots := 0, locals := L + 64 } D cy ad S [.ref a0] 0 0 (fun A => kp_Qv D cy A S post) := by
  refine kp_start (own := RX12) (by decide) rfl (Nat.le_of_ble_eq_true rfl) hS ?_
  intro p e s m below meth c A ls X hr hlocks hname h hl
  have hle : kp_le S S := kp_le.rf
  have hl : lv_has ls 2 [(0, .ref a0)] := hl
  have j64 : ∀ (xt0 : Int32) (Sn : kp_S) (H : Heap) (locs : List Loc) (ls : Array Slot), lv_has ls 2 [(0, .ref a0)] → kp_H D cy A Sn s.heap H locs → kp_le S Sn → kp_is Sn a0 12 → wX12_test_b64 U N a0 xt0  Sn post → W p l e { frames := F + 3, cells := 0, slots := 0, locals := L + 64 } s m ([.ref a0] : List Value).toArray below meth c H locs 0 0 (MQ below (kp_Qv D cy A S post) ([.ref a0] : List Value).toArray s 0 0 A) (F0 m 64 ls [.int xt0]) := by
    intro xt0 Sn H locs ls hl h hle f_a0 hw
    unfold wX12_test_b64 at hw
    refine lv_istore_n (lv' := [(1, .int xt0), (0, .ref a0)]) X.1 X.2.1 dX12_test_64 rfl hl (by decide) rfl (fun ls hl => ?_)
    refine lv_iload_n X.1 X.2.1 dX12_test_65 rfl (lv_at hl 0 rfl) ?_
    refine lv_iconst (v := (-1)) X.1 X.2.1 dX12_test_66 (by decide) ?_
    refine lv_icmp_ne (tgt := 71) X.1 X.2.1 dX12_test_67 (by decide) (fun c1005 => ?_) (fun c1005 => ?_)
    · have hw := hw.1 c1005
      refine lv_aload_n X.1 X.2.1 dX12_test_71 rfl (lv_at hl 1 rfl) ?_
      refine lv_dup X.1 X.2.1 dX12_test_72 rfl ?_
      refine kp_get X h f_a0 fp_12_376.l (v := .int (kp_I Sn 2410 a0)) rfl dX12_test_73 ?_
      refine lv_iconst (v := 1) X.1 X.2.1 dX12_test_76 (by decide) ?_
      refine lv_iadd X.1 X.2.1 dX12_test_77 ?_
      refine kp_putI X h f_a0 fp_12_376 rfl ⟨rfl, rfl⟩ dX12_test_78 (fun T1001 e_T1001 l_T1001 H locs h => ?_)
      have hw := hw T1001 e_T1001
      have f_a0 := l_T1001.is f_a0
      have hle := hle.tr l_T1001
      refine lv_aload_n X.1 X.2.1 dX12_test_81 rfl (lv_at hl 1 rfl) ?_
      refine kp_callv X h (kp_runV (rm := { frames := F + 2, cells := 0, slots := 0, locals := L + 43 }) (mc := 0) (ms := 0) (rest := []) (Qc := fun A => kp_Qv D cy A T1001 _) X h (c_X12_sum l D cy ad F L U N hU hN hF hL T1001 a0 _ h.2.2.2 f_a0 hw) f_a0 cv_12_559 ⟨by dsimp only; omega, by dsimp only; omega, rfl, rfl, by dsimp only; omega, by dsimp only; omega⟩ rfl hl.1 rfl (Nat.le_of_ble_eq_true rfl) dX12_test_82) (fun T1002 hw l_T1002 H locs h => ?_)
      have f_a0 := l_T1002.is f_a0
      have hle := hle.tr l_T1002
      refine lv_aload_n X.1 X.2.1 dX12_test_85 rfl (lv_at hl 1 rfl) ?_
      refine lv_iload_n X.1 X.2.1 dX12_test_86 rfl (lv_at hl 0 rfl) ?_
      refine lv_iconst (v := 0) X.1 X.2.1 dX12_test_87 (by decide) ?_
      refine lv_iconst (v := 0) X.1 X.2.1 dX12_test_88 (by decide) ?_
      refine kp_calli X h (kp_runV (rm := { frames := 0, cells := 0, slots := 0, locals := 0 }) (mc := 0) (ms := 0) (rest := []) (Qc := fun A => kp_Qi D cy A T1002 _) X h (c_X12_emit l D cy ad T1002 a0 xt0 0 0 _ h.2.2.2 f_a0 hw) f_a0 cv_12_451 ⟨by dsimp only; omega, by dsimp only; omega, rfl, rfl, by dsimp only; omega, by dsimp only; omega⟩ rfl hl.1 rfl (Nat.le_of_ble_eq_true rfl) dX12_test_89) (fun y1004 T1003 hw l_T1003 H locs h => ?_)
      have f_a0 := l_T1003.is f_a0
      have hle := hle.tr l_T1003
      refine lv_pop X.1 X.2.1 dX12_test_92 rfl ?_
      exact kp_retv X hr hlocks h hle hw dX12_test_93
    · have hw := hw.2 c1005
      exact kp_retv X hr hlocks h hle hw dX12_test_70
  unfold wX12_test at hw
  have h : kp_H D cy A S s.heap s.heap [] := h
  revert h
  intro h
  refine lv_aload_n X.1 X.2.1 dX12_test_0 rfl (lv_at hl 0 rfl) ?_
  refine kp_callv X h (kp_runV (rm := { frames := F + 2, cells := 0, slots := 0, locals := L + 43 }) (mc := 0) (ms := 0) (rest := []) (Qc := fun A => kp_Qv D cy A S _) X h (c_X12_sum l D cy ad F L U N hU hN hF hL S a0 _ h.2.2.2 f_a0 hw) f_a0 cv_12_559 ⟨by dsimp only; omega, by dsimp only; omega, rfl, rfl, by dsimp only; omega, by dsimp only; omega⟩ rfl hl.1 rfl (Nat.le_of_ble_eq_true rfl) dX12_test_1) (fun T1 hw l_T1 H locs h => ?_)
  have f_a0 := l_T1.is f_a0
  have hle := hle.tr l_T1
  refine lv_aload_n X.1 X.2.1 dX12_test_4 rfl (lv_at hl 0 rfl) ?_
  refine lv_sipush (v := 301) X.1 X.2.1 dX12_test_5 (by decide) ?_
  refine kp_calli X h (kp_runV (rm := { frames := 0, cells := 0, slots := 0, locals := 0 }) (mc := 0) (ms := 0) (rest := []) (Qc := fun A => kp_Qi D cy A T1 _) X h (c_X12_is l D cy ad T1 a0 301 _ h.2.2.2 f_a0 hw) f_a0 cv_12_379 ⟨by dsimp only; omega, by dsimp only; omega, rfl, rfl, by dsimp only; omega, by dsimp only; omega⟩ rfl hl.1 rfl (Nat.le_of_ble_eq_true rfl) dX12_test_8) (fun y3 T2 hw l_T2 H locs h => ?_)
  have f_a0 := l_T2.is f_a0
  have hle := hle.tr l_T2
  refine lv_if_eq (tgt := 19) X.1 X.2.1 dX12_test_11 (by decide) (fun c13 => ?_) (fun c13 => ?_)
  · have hw := hw.1 c13
    refine lv_aload_n X.1 X.2.1 dX12_test_19 rfl (lv_at hl 0 rfl) ?_
    refine lv_sipush (v := 302) X.1 X.2.1 dX12_test_20 (by decide) ?_
    refine kp_calli X h (kp_runV (rm := { frames := 0, cells := 0, slots := 0, locals := 0 }) (mc := 0) (ms := 0) (rest := []) (Qc := fun A => kp_Qi D cy A T2 _) X h (c_X12_is l D cy ad T2 a0 302 _ h.2.2.2 f_a0 hw) f_a0 cv_12_379 ⟨by dsimp only; omega, by dsimp only; omega, rfl, rfl, by dsimp only; omega, by dsimp only; omega⟩ rfl hl.1 rfl (Nat.le_of_ble_eq_true rfl) dX12_test_23) (fun y5 T4 hw l_T4 H locs h => ?_)
    have f_a0 := l_T4.is f_a0
    have hle := hle.tr l_T4
    refine lv_if_eq (tgt := 34) X.1 X.2.1 dX12_test_26 (by decide) (fun c12 => ?_) (fun c12 => ?_)
    · have hw := hw.1 c12
      refine lv_aload_n X.1 X.2.1 dX12_test_34 rfl (lv_at hl 0 rfl) ?_
      refine lv_bipush (v := 60) X.1 X.2.1 dX12_test_35 (by decide) ?_
      refine kp_calli X h (kp_runV (rm := { frames := 1, cells := 0, slots := 0, locals := 21 }) (mc := 0) (ms := 0) (rest := []) (Qc := fun A => kp_Qi D cy A T4 _) X h (c_X12_isSign l D cy ad T4 a0 60 _ h.2.2.2 f_a0 hw) f_a0 cv_12_433 ⟨by dsimp only; omega, by dsimp only; omega, rfl, rfl, by dsimp only; omega, by dsimp only; omega⟩ rfl hl.1 rfl (Nat.le_of_ble_eq_true rfl) dX12_test_37) (fun y7 T6 hw l_T6 H locs h => ?_)
      have f_a0 := l_T6.is f_a0
      have hle := hle.tr l_T6
      refine lv_if_eq (tgt := 48) X.1 X.2.1 dX12_test_40 (by decide) (fun c11 => ?_) (fun c11 => ?_)
      · have hw := hw.1 c11
        refine lv_aload_n X.1 X.2.1 dX12_test_48 rfl (lv_at hl 0 rfl) ?_
        refine lv_sipush (v := 303) X.1 X.2.1 dX12_test_49 (by decide) ?_
        refine kp_calli X h (kp_runV (rm := { frames := 0, cells := 0, slots := 0, locals := 0 }) (mc := 0) (ms := 0) (rest := []) (Qc := fun A => kp_Qi D cy A T6 _) X h (c_X12_is l D cy ad T6 a0 303 _ h.2.2.2 f_a0 hw) f_a0 cv_12_379 ⟨by dsimp only; omega, by dsimp only; omega, rfl, rfl, by dsimp only; omega, by dsimp only; omega⟩ rfl hl.1 rfl (Nat.le_of_ble_eq_true rfl) dX12_test_52) (fun y9 T8 hw l_T8 H locs h => ?_)
        have f_a0 := l_T8.is f_a0
        have hle := hle.tr l_T8
        refine lv_if_eq (tgt := 63) X.1 X.2.1 dX12_test_55 (by decide) (fun c10 => ?_) (fun c10 => ?_)
        · have hw := hw.1 c10
          refine lv_iconst (v := (-1)) X.1 X.2.1 dX12_test_63 (by decide) ?_
          exact j64 (-1) T8 _ _ ls (lv_sub hl [0] rfl) h hle f_a0 hw
        · have hw := hw.2 c10
          refine lv_bipush (v := 15) X.1 X.2.1 dX12_test_58 (by decide) ?_
          refine lv_goto (tgt := 64) X.1 X.2.1 dX12_test_60 (by decide) ?_
          exact j64 15 T8 _ _ ls (lv_sub hl [0] rfl) h hle f_a0 hw
      · have hw := hw.2 c11
        refine lv_bipush (v := 14) X.1 X.2.1 dX12_test_43 (by decide) ?_
        refine lv_goto (tgt := 64) X.1 X.2.1 dX12_test_45 (by decide) ?_
        exact j64 14 T6 _ _ ls (lv_sub hl [0] rfl) h hle f_a0 hw
    · have hw := hw.2 c12
      refine lv_bipush (v := 13) X.1 X.2.1 dX12_test_29 (by decide) ?_
      refine lv_goto (tgt := 64) X.1 X.2.1 dX12_test_31 (by decide) ?_
      exact j64 13 T4 _ _ ls (lv_sub hl [0] rfl) h hle f_a0 hw
  · have hw := hw.2 c13
    refine lv_bipush (v := 12) X.1 X.2.1 dX12_test_14 (by decide) ?_
    refine lv_goto (tgt := 64) X.1 X.2.1 dX12_test_16 (by decide) ?_
    exact j64 12 T2 _ _ ls (lv_sub hl [0] rfl) h hle f_a0 hw
theorem dX12_unit_0 : decode cX12_unit 0 = .ok (.aload_n 0, 1) := by decide +kernel
theorem dX12_unit_1 : decode cX12_unit 1 = .ok (.invokevirtual 408, 3) := by decide +kernel
theorem dX12_unit_4 : decode cX12_unit 4 = .ok (.ifCond .ne 4, 3) := by decide +kernel
theorem dX12_unit_7 : decode cX12_unit 7 = .ok (.return_, 1) := by decide +kernel
theorem dX12_unit_8 : decode cX12_unit 8 = .ok (.aload_n 0, 1) := by decide +kernel
theorem dX12_unit_9 : decode cX12_unit 9 = .ok (.getfield 376, 3) := by decide +kernel
theorem dX12_unit_12 : decode cX12_unit 12 = .ok (.istore_n 1, 1) := by decide +kernel
theorem dX12_unit_13 : decode cX12_unit 13 = .ok (.aload_n 0, 1) := by decide +kernel
theorem dX12_unit_14 : decode cX12_unit 14 = .ok (.getfield 31, 3) := by decide +kernel
theorem dX12_unit_17 : decode cX12_unit 17 = .ok (.iload_n 1, 1) := by decide +kernel
theorem dX12_unit_18 : decode cX12_unit 18 = .ok (.iaload, 1) := by decide +kernel
theorem dX12_unit_19 : decode cX12_unit 19 = .ok (.lookupswitch 341 #[(2, 153), (3, 126), (37, 247), (38, 257), (39, 267), (40, 277), (41, 287), (42, 297), (43, 319), (140, 220), (145, 97)], 97) := by decide +kernel
theorem dX12_unit_116 : decode cX12_unit 116 = .ok (.aload_n 0, 1) := by decide +kernel
theorem dX12_unit_117 : decode cX12_unit 117 = .ok (.invokevirtual 463, 3) := by decide +kernel
theorem dX12_unit_120 : decode cX12_unit 120 = .ok (.aload_n 0, 1) := by decide +kernel
theorem dX12_unit_121 : decode cX12_unit 121 = .ok (.invokevirtual 565, 3) := by decide +kernel
theorem dX12_unit_124 : decode cX12_unit 124 = .ok (.aload_n 0, 1) := by decide +kernel
theorem dX12_unit_125 : decode cX12_unit 125 = .ok (.dup, 1) := by decide +kernel
theorem dX12_unit_126 : decode cX12_unit 126 = .ok (.getfield 388, 3) := by decide +kernel
theorem dX12_unit_129 : decode cX12_unit 129 = .ok (.iconst 1, 1) := by decide +kernel
theorem dX12_unit_130 : decode cX12_unit 130 = .ok (.isub, 1) := by decide +kernel
theorem dX12_unit_131 : decode cX12_unit 131 = .ok (.putfield 388, 3) := by decide +kernel
theorem dX12_unit_134 : decode cX12_unit 134 = .ok (.aload_n 0, 1) := by decide +kernel
theorem dX12_unit_135 : decode cX12_unit 135 = .ok (.iconst 5, 1) := by decide +kernel
theorem dX12_unit_136 : decode cX12_unit 136 = .ok (.iconst 0, 1) := by decide +kernel
theorem dX12_unit_137 : decode cX12_unit 137 = .ok (.iconst 0, 1) := by decide +kernel
theorem dX12_unit_138 : decode cX12_unit 138 = .ok (.invokevirtual 451, 3) := by decide +kernel
theorem dX12_unit_141 : decode cX12_unit 141 = .ok (.pop, 1) := by decide +kernel
theorem dX12_unit_142 : decode cX12_unit 142 = .ok (.goto 222, 3) := by decide +kernel
theorem dX12_unit_145 : decode cX12_unit 145 = .ok (.aload_n 0, 1) := by decide +kernel
theorem dX12_unit_146 : decode cX12_unit 146 = .ok (.dup, 1) := by decide +kernel
theorem dX12_unit_147 : decode cX12_unit 147 = .ok (.getfield 376, 3) := by decide +kernel
theorem dX12_unit_150 : decode cX12_unit 150 = .ok (.iconst 1, 1) := by decide +kernel
theorem dX12_unit_151 : decode cX12_unit 151 = .ok (.iadd, 1) := by decide +kernel
theorem dX12_unit_152 : decode cX12_unit 152 = .ok (.putfield 376, 3) := by decide +kernel
theorem dX12_unit_155 : decode cX12_unit 155 = .ok (.aload_n 0, 1) := by decide +kernel
theorem dX12_unit_156 : decode cX12_unit 156 = .ok (.iconst 1, 1) := by decide +kernel
theorem dX12_unit_157 : decode cX12_unit 157 = .ok (.aload_n 0, 1) := by decide +kernel
theorem dX12_unit_158 : decode cX12_unit 158 = .ok (.getfield 37, 3) := by decide +kernel
theorem dX12_unit_161 : decode cX12_unit 161 = .ok (.iload_n 1, 1) := by decide +kernel
theorem dX12_unit_162 : decode cX12_unit 162 = .ok (.laload, 1) := by decide +kernel
theorem dX12_unit_163 : decode cX12_unit 163 = .ok (.l2i, 1) := by decide +kernel
theorem dX12_unit_164 : decode cX12_unit 164 = .ok (.iconst 0, 1) := by decide +kernel
theorem dX12_unit_165 : decode cX12_unit 165 = .ok (.invokevirtual 451, 3) := by decide +kernel
theorem dX12_unit_168 : decode cX12_unit 168 = .ok (.pop, 1) := by decide +kernel
theorem dX12_unit_169 : decode cX12_unit 169 = .ok (.goto 195, 3) := by decide +kernel
theorem dX12_unit_172 : decode cX12_unit 172 = .ok (.aload_n 0, 1) := by decide +kernel
theorem dX12_unit_173 : decode cX12_unit 173 = .ok (.dup, 1) := by decide +kernel
theorem dX12_unit_174 : decode cX12_unit 174 = .ok (.getfield 376, 3) := by decide +kernel
theorem dX12_unit_177 : decode cX12_unit 177 = .ok (.iconst 1, 1) := by decide +kernel
theorem dX12_unit_178 : decode cX12_unit 178 = .ok (.iadd, 1) := by decide +kernel
theorem dX12_unit_179 : decode cX12_unit 179 = .ok (.putfield 376, 3) := by decide +kernel
theorem dX12_unit_182 : decode cX12_unit 182 = .ok (.aload_n 0, 1) := by decide +kernel
theorem dX12_unit_183 : decode cX12_unit 183 = .ok (.bipush 40, 2) := by decide +kernel
theorem dX12_unit_185 : decode cX12_unit 185 = .ok (.invokevirtual 433, 3) := by decide +kernel
theorem dX12_unit_188 : decode cX12_unit 188 = .ok (.ifCond .eq 11, 3) := by decide +kernel
theorem dX12_unit_191 : decode cX12_unit 191 = .ok (.aload_n 0, 1) := by decide +kernel
theorem dX12_unit_192 : decode cX12_unit 192 = .ok (.iload_n 1, 1) := by decide +kernel
theorem dX12_unit_193 : decode cX12_unit 193 = .ok (.invokevirtual 532, 3) := by decide +kernel
theorem dX12_unit_196 : decode cX12_unit 196 = .ok (.goto 168, 3) := by decide +kernel
theorem dX12_unit_199 : decode cX12_unit 199 = .ok (.aload_n 0, 1) := by decide +kernel
theorem dX12_unit_200 : decode cX12_unit 200 = .ok (.aload_n 0, 1) := by decide +kernel
theorem dX12_unit_201 : decode cX12_unit 201 = .ok (.getfield 37, 3) := by decide +kernel
theorem dX12_unit_204 : decode cX12_unit 204 = .ok (.iload_n 1, 1) := by decide +kernel
theorem dX12_unit_205 : decode cX12_unit 205 = .ok (.laload, 1) := by decide +kernel
theorem dX12_unit_206 : decode cX12_unit 206 = .ok (.invokevirtual 457, 3) := by decide +kernel
theorem dX12_unit_209 : decode cX12_unit 209 = .ok (.iconst (-1), 1) := by decide +kernel
theorem dX12_unit_210 : decode cX12_unit 210 = .ok (.if_icmp .ne 9, 3) := by decide +kernel
theorem dX12_unit_213 : decode cX12_unit 213 = .ok (.aload_n 0, 1) := by decide +kernel
theorem dX12_unit_214 : decode cX12_unit 214 = .ok (.iconst 5, 1) := by decide +kernel
theorem dX12_unit_215 : decode cX12_unit 215 = .ok (.iload_n 1, 1) := by decide +kernel
theorem dX12_unit_216 : decode cX12_unit 216 = .ok (.invokevirtual 419, 3) := by decide +kernel
theorem dX12_unit_219 : decode cX12_unit 219 = .ok (.aload_n 0, 1) := by decide +kernel
theorem dX12_unit_220 : decode cX12_unit 220 = .ok (.iconst 2, 1) := by decide +kernel
theorem dX12_unit_221 : decode cX12_unit 221 = .ok (.aload_n 0, 1) := by decide +kernel
theorem dX12_unit_222 : decode cX12_unit 222 = .ok (.aload_n 0, 1) := by decide +kernel
theorem dX12_unit_223 : decode cX12_unit 223 = .ok (.getfield 37, 3) := by decide +kernel
theorem dX12_unit_226 : decode cX12_unit 226 = .ok (.iload_n 1, 1) := by decide +kernel
theorem dX12_unit_227 : decode cX12_unit 227 = .ok (.laload, 1) := by decide +kernel
theorem dX12_unit_228 : decode cX12_unit 228 = .ok (.invokevirtual 457, 3) := by decide +kernel
theorem dX12_unit_231 : decode cX12_unit 231 = .ok (.iconst 0, 1) := by decide +kernel
theorem dX12_unit_232 : decode cX12_unit 232 = .ok (.invokevirtual 451, 3) := by decide +kernel
theorem dX12_unit_235 : decode cX12_unit 235 = .ok (.pop, 1) := by decide +kernel
theorem dX12_unit_236 : decode cX12_unit 236 = .ok (.goto 128, 3) := by decide +kernel
theorem dX12_unit_239 : decode cX12_unit 239 = .ok (.aload_n 0, 1) := by decide +kernel
theorem dX12_unit_240 : decode cX12_unit 240 = .ok (.invokevirtual 463, 3) := by decide +kernel
theorem dX12_unit_243 : decode cX12_unit 243 = .ok (.aload_n 0, 1) := by decide +kernel
theorem dX12_unit_244 : decode cX12_unit 244 = .ok (.invokevirtual 520, 3) := by decide +kernel
theorem dX12_unit_247 : decode cX12_unit 247 = .ok (.aload_n 0, 1) := by decide +kernel
theorem dX12_unit_248 : decode cX12_unit 248 = .ok (.bipush 41, 2) := by decide +kernel
theorem dX12_unit_250 : decode cX12_unit 250 = .ok (.invokevirtual 429, 3) := by decide +kernel
theorem dX12_unit_253 : decode cX12_unit 253 = .ok (.aload_n 0, 1) := by decide +kernel
theorem dX12_unit_254 : decode cX12_unit 254 = .ok (.dup, 1) := by decide +kernel
theorem dX12_unit_255 : decode cX12_unit 255 = .ok (.getfield 388, 3) := by decide +kernel
theorem dX12_unit_258 : decode cX12_unit 258 = .ok (.iconst 1, 1) := by decide +kernel
theorem dX12_unit_259 : decode cX12_unit 259 = .ok (.isub, 1) := by decide +kernel
theorem dX12_unit_260 : decode cX12_unit 260 = .ok (.putfield 388, 3) := by decide +kernel
theorem dX12_unit_263 : decode cX12_unit 263 = .ok (.goto 101, 3) := by decide +kernel
theorem dX12_unit_266 : decode cX12_unit 266 = .ok (.aload_n 0, 1) := by decide +kernel
theorem dX12_unit_267 : decode cX12_unit 267 = .ok (.iconst 1, 1) := by decide +kernel
theorem dX12_unit_268 : decode cX12_unit 268 = .ok (.bipush 20, 2) := by decide +kernel
theorem dX12_unit_270 : decode cX12_unit 270 = .ok (.invokevirtual 571, 3) := by decide +kernel
theorem dX12_unit_273 : decode cX12_unit 273 = .ok (.goto 91, 3) := by decide +kernel
theorem dX12_unit_276 : decode cX12_unit 276 = .ok (.aload_n 0, 1) := by decide +kernel
theorem dX12_unit_277 : decode cX12_unit 277 = .ok (.iconst 1, 1) := by decide +kernel
theorem dX12_unit_278 : decode cX12_unit 278 = .ok (.bipush 21, 2) := by decide +kernel
theorem dX12_unit_280 : decode cX12_unit 280 = .ok (.invokevirtual 571, 3) := by decide +kernel
theorem dX12_unit_283 : decode cX12_unit 283 = .ok (.goto 81, 3) := by decide +kernel
theorem dX12_unit_286 : decode cX12_unit 286 = .ok (.aload_n 0, 1) := by decide +kernel
theorem dX12_unit_287 : decode cX12_unit 287 = .ok (.iconst 2, 1) := by decide +kernel
theorem dX12_unit_288 : decode cX12_unit 288 = .ok (.bipush 22, 2) := by decide +kernel
theorem dX12_unit_290 : decode cX12_unit 290 = .ok (.invokevirtual 571, 3) := by decide +kernel
theorem dX12_unit_293 : decode cX12_unit 293 = .ok (.goto 71, 3) := by decide +kernel
theorem dX12_unit_296 : decode cX12_unit 296 = .ok (.aload_n 0, 1) := by decide +kernel
theorem dX12_unit_297 : decode cX12_unit 297 = .ok (.iconst 1, 1) := by decide +kernel
theorem dX12_unit_298 : decode cX12_unit 298 = .ok (.bipush 23, 2) := by decide +kernel
theorem dX12_unit_300 : decode cX12_unit 300 = .ok (.invokevirtual 571, 3) := by decide +kernel
theorem dX12_unit_303 : decode cX12_unit 303 = .ok (.goto 61, 3) := by decide +kernel
theorem dX12_unit_306 : decode cX12_unit 306 = .ok (.aload_n 0, 1) := by decide +kernel
theorem dX12_unit_307 : decode cX12_unit 307 = .ok (.iconst 1, 1) := by decide +kernel
theorem dX12_unit_308 : decode cX12_unit 308 = .ok (.bipush 24, 2) := by decide +kernel
theorem dX12_unit_310 : decode cX12_unit 310 = .ok (.invokevirtual 571, 3) := by decide +kernel
theorem dX12_unit_313 : decode cX12_unit 313 = .ok (.goto 51, 3) := by decide +kernel
theorem dX12_unit_316 : decode cX12_unit 316 = .ok (.aload_n 0, 1) := by decide +kernel
theorem dX12_unit_317 : decode cX12_unit 317 = .ok (.dup, 1) := by decide +kernel
theorem dX12_unit_318 : decode cX12_unit 318 = .ok (.getfield 376, 3) := by decide +kernel
theorem dX12_unit_321 : decode cX12_unit 321 = .ok (.iconst 1, 1) := by decide +kernel
theorem dX12_unit_322 : decode cX12_unit 322 = .ok (.iadd, 1) := by decide +kernel
theorem dX12_unit_323 : decode cX12_unit 323 = .ok (.putfield 376, 3) := by decide +kernel
theorem dX12_unit_326 : decode cX12_unit 326 = .ok (.aload_n 0, 1) := by decide +kernel
theorem dX12_unit_327 : decode cX12_unit 327 = .ok (.bipush 25, 2) := by decide +kernel
theorem dX12_unit_329 : decode cX12_unit 329 = .ok (.iconst 0, 1) := by decide +kernel
theorem dX12_unit_330 : decode cX12_unit 330 = .ok (.iconst 0, 1) := by decide +kernel
theorem dX12_unit_331 : decode cX12_unit 331 = .ok (.invokevirtual 451, 3) := by decide +kernel
theorem dX12_unit_334 : decode cX12_unit 334 = .ok (.pop, 1) := by decide +kernel
theorem dX12_unit_335 : decode cX12_unit 335 = .ok (.goto 29, 3) := by decide +kernel
theorem dX12_unit_338 : decode cX12_unit 338 = .ok (.aload_n 0, 1) := by decide +kernel
theorem dX12_unit_339 : decode cX12_unit 339 = .ok (.dup, 1) := by decide +kernel
theorem dX12_unit_340 : decode cX12_unit 340 = .ok (.getfield 376, 3) := by decide +kernel
theorem dX12_unit_343 : decode cX12_unit 343 = .ok (.iconst 1, 1) := by decide +kernel
theorem dX12_unit_344 : decode cX12_unit 344 = .ok (.iadd, 1) := by decide +kernel
theorem dX12_unit_345 : decode cX12_unit 345 = .ok (.putfield 376, 3) := by decide +kernel
theorem dX12_unit_348 : decode cX12_unit 348 = .ok (.aload_n 0, 1) := by decide +kernel
theorem dX12_unit_349 : decode cX12_unit 349 = .ok (.bipush 26, 2) := by decide +kernel
theorem dX12_unit_351 : decode cX12_unit 351 = .ok (.iconst 0, 1) := by decide +kernel
theorem dX12_unit_352 : decode cX12_unit 352 = .ok (.iconst 0, 1) := by decide +kernel
theorem dX12_unit_353 : decode cX12_unit 353 = .ok (.invokevirtual 451, 3) := by decide +kernel
theorem dX12_unit_356 : decode cX12_unit 356 = .ok (.pop, 1) := by decide +kernel
theorem dX12_unit_357 : decode cX12_unit 357 = .ok (.goto 7, 3) := by decide +kernel
theorem dX12_unit_360 : decode cX12_unit 360 = .ok (.aload_n 0, 1) := by decide +kernel
theorem dX12_unit_361 : decode cX12_unit 361 = .ok (.invokevirtual 382, 3) := by decide +kernel
theorem dX12_unit_364 : decode cX12_unit 364 = .ok (.return_, 1) := by decide +kernel
def wX12_unit_b364 (U : Nat → kp_S → (kp_S → Prop) → Prop) (N : Nat → kp_S → (kp_S → Prop) → Prop) (a0 : Nat)  (Sn : kp_S) (post : kp_S → Prop) : Prop :=
  post Sn
def wX12_unit_b219 (U : Nat → kp_S → (kp_S → Prop) → Prop) (N : Nat → kp_S → (kp_S → Prop) → Prop) (a0 : Nat) (xn1 : Int32)  (Sn : kp_S) (post : kp_S → Prop) : Prop :=
  ∃ b2001 : Nat, kp_R Sn 2406 a0 = some b2001 ∧
  vp_in xn1 (kp_N Sn b2001) ∧
  wX12_known a0 (kp_B Sn b2001 xn1.toNatClampNeg) Sn (fun y2003 T2002 =>
  wX12_emit a0 2 y2003 0 T2002 (fun y2005 T2004 =>
  wX12_unit_b364 U N a0   T2004 post))
