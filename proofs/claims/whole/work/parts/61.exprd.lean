theorem cv_2_102 : kp_CV RX2 102 yX2_register cX2_register 2 (some .int) 1 2 := ⟨⟨kp_mem 953 (by decide +kernel) (by decide +kernel), kp_mem 213 (by decide +kernel) (by decide +kernel), by decide +kernel⟩, kp_mem 950 (by decide +kernel) (by decide +kernel), kp_mem 952 (by decide +kernel) (by decide +kernel), kp_mem 30 (by decide +kernel) (by decide +kernel), by decide, TX2, 3, rfl⟩
theorem cv_2_105 : kp_CV RX2 105 yX9_refuse cX9_refuse 1 none 0 9 := ⟨⟨kp_mem 797 (by decide +kernel) (by decide +kernel), kp_mem 207 (by decide +kernel) (by decide +kernel), by decide +kernel⟩, kp_mem 954 (by decide +kernel) (by decide +kernel), kp_mem 795 (by decide +kernel) (by decide +kernel), kp_mem 796 (by decide +kernel) (by decide +kernel), by decide, TX9, 11, rfl⟩
theorem cv_2_59 : kp_CV RX2 59 yX2_test cX2_test 3 (some .int) 0 2 := ⟨⟨kp_mem 897 (by decide +kernel) (by decide +kernel), kp_mem 213 (by decide +kernel) (by decide +kernel), by decide +kernel⟩, kp_mem 894 (by decide +kernel) (by decide +kernel), kp_mem 896 (by decide +kernel) (by decide +kernel), kp_mem 21 (by decide +kernel) (by decide +kernel), by decide, TX2, 3, rfl⟩
theorem dX2_conjunction_0 : decode cX2_conjunction 0 = .ok (.aload_n 0, 1) := by decide +kernel
theorem dX2_conjunction_1 : decode cX2_conjunction 1 = .ok (.invokevirtual 46, 3) := by decide +kernel
theorem dX2_conjunction_4 : decode cX2_conjunction 4 = .ok (.istore_n 1, 1) := by decide +kernel
theorem dX2_conjunction_5 : decode cX2_conjunction 5 = .ok (.iconst 0, 1) := by decide +kernel
theorem dX2_conjunction_6 : decode cX2_conjunction 6 = .ok (.istore_n 2, 1) := by decide +kernel
theorem dX2_conjunction_7 : decode cX2_conjunction 7 = .ok (.iload_n 2, 1) := by decide +kernel
theorem dX2_conjunction_8 : decode cX2_conjunction 8 = .ok (.sipush 3000, 3) := by decide +kernel
theorem dX2_conjunction_11 : decode cX2_conjunction 11 = .ok (.if_icmp .ge 54, 3) := by decide +kernel
theorem dX2_conjunction_14 : decode cX2_conjunction 14 = .ok (.aload_n 0, 1) := by decide +kernel
theorem dX2_conjunction_15 : decode cX2_conjunction 15 = .ok (.getfield 9, 3) := by decide +kernel
theorem dX2_conjunction_18 : decode cX2_conjunction 18 = .ok (.getfield 27, 3) := by decide +kernel
theorem dX2_conjunction_21 : decode cX2_conjunction 21 = .ok (.sipush 327, 3) := by decide +kernel
theorem dX2_conjunction_24 : decode cX2_conjunction 24 = .ok (.if_icmp .ne 41, 3) := by decide +kernel
theorem dX2_conjunction_27 : decode cX2_conjunction 27 = .ok (.aload_n 0, 1) := by decide +kernel
theorem dX2_conjunction_28 : decode cX2_conjunction 28 = .ok (.getfield 9, 3) := by decide +kernel
theorem dX2_conjunction_31 : decode cX2_conjunction 31 = .ok (.invokevirtual 33, 3) := by decide +kernel
theorem dX2_conjunction_34 : decode cX2_conjunction 34 = .ok (.aload_n 0, 1) := by decide +kernel
theorem dX2_conjunction_35 : decode cX2_conjunction 35 = .ok (.getfield 19, 3) := by decide +kernel
theorem dX2_conjunction_38 : decode cX2_conjunction 38 = .ok (.bipush 25, 2) := by decide +kernel
theorem dX2_conjunction_40 : decode cX2_conjunction 40 = .ok (.iconst 0, 1) := by decide +kernel
theorem dX2_conjunction_41 : decode cX2_conjunction 41 = .ok (.invokevirtual 38, 3) := by decide +kernel
theorem dX2_conjunction_44 : decode cX2_conjunction 44 = .ok (.istore_n 3, 1) := by decide +kernel
theorem dX2_conjunction_45 : decode cX2_conjunction 45 = .ok (.iload_n 1, 1) := by decide +kernel
theorem dX2_conjunction_46 : decode cX2_conjunction 46 = .ok (.aload_n 0, 1) := by decide +kernel
theorem dX2_conjunction_47 : decode cX2_conjunction 47 = .ok (.invokevirtual 46, 3) := by decide +kernel
theorem dX2_conjunction_50 : decode cX2_conjunction 50 = .ok (.ior, 1) := by decide +kernel
theorem dX2_conjunction_51 : decode cX2_conjunction 51 = .ok (.iconst 1, 1) := by decide +kernel
theorem dX2_conjunction_52 : decode cX2_conjunction 52 = .ok (.iand, 1) := by decide +kernel
theorem dX2_conjunction_53 : decode cX2_conjunction 53 = .ok (.istore_n 1, 1) := by decide +kernel
theorem dX2_conjunction_54 : decode cX2_conjunction 54 = .ok (.aload_n 0, 1) := by decide +kernel
theorem dX2_conjunction_55 : decode cX2_conjunction 55 = .ok (.iload_n 3, 1) := by decide +kernel
theorem dX2_conjunction_56 : decode cX2_conjunction 56 = .ok (.invokevirtual 42, 3) := by decide +kernel
theorem dX2_conjunction_59 : decode cX2_conjunction 59 = .ok (.iinc 2 1, 3) := by decide +kernel
theorem dX2_conjunction_62 : decode cX2_conjunction 62 = .ok (.goto (-55), 3) := by decide +kernel
theorem dX2_conjunction_65 : decode cX2_conjunction 65 = .ok (.iload_n 1, 1) := by decide +kernel
theorem dX2_conjunction_66 : decode cX2_conjunction 66 = .ok (.ireturn, 1) := by decide +kernel
def wX2_conjunction_b65 (U : Nat → kp_S → (Int32 → kp_S → Prop) → Prop) (N : Nat → kp_S → (Int32 → kp_S → Prop) → Prop) (a0 : Nat) (xn1 : Int32)  (Sn : kp_S) (post : Int32 → kp_S → Prop) : Prop :=
  post xn1 Sn
def wX2_conjunction_L7 (U : Nat → kp_S → (Int32 → kp_S → Prop) → Prop) (N : Nat → kp_S → (Int32 → kp_S → Prop) → Prop) (a0 : Nat)  (post : Int32 → kp_S → Prop) : Nat → Int32 → Int32 → kp_S → Prop
  | 0, _, _, _ => False
  | n + 1, xn1, xn2, Sn =>
  ((3000 ≤ xn2 →
  wX2_conjunction_b65 U N a0 xn1  Sn post) ∧ (¬ 3000 ≤ xn2 →
  ∃ b2001 : Nat, kp_R Sn 400 a0 = some b2001 ∧
  ((¬ (kp_I Sn 1805 b2001) = 327 →
  wX2_conjunction_b65 U N a0 xn1  Sn post) ∧ ((kp_I Sn 1805 b2001) = 327 →
  wX9_advance b2001 Sn (fun T2002 =>
  ∃ b2003 : Nat, kp_R T2002 402 a0 = some b2003 ∧
  wX0_add_ b2003 25 0 T2002 (fun y2005 T2004 =>
  N a0 T2004 (fun y2007 T2006 =>
  ∀ y2008 : Int32, y2008 = ((xn1 ||| y2007) &&& 1) →
  wX2_endJoined a0 y2005 T2006 (fun T2009 =>
  ∀ y2010 : Int32, y2010 = xn2 + 1 →
  wX2_conjunction_L7 U N a0  post n y2008 y2010 T2009))))))))
def wX2_conjunction (U : Nat → kp_S → (Int32 → kp_S → Prop) → Prop) (N : Nat → kp_S → (Int32 → kp_S → Prop) → Prop) (a0 : Nat) (S : kp_S) (post : Int32 → kp_S → Prop) : Prop :=
  N a0 S (fun y2 T1 =>
  ∃ n0 : Nat, wX2_conjunction_L7 U N a0  post n0 y2 0 T1)
set_option maxHeartbeats 4000000 in
set_option maxRecDepth 100000 in
theorem c_X2_conjunction (l : Launch) (D : va_G) (cy : Nat → ClassId) (ad : (Nat → Nat) × (Nat → Nat)) (F L : Nat) (U : Nat → kp_S → (Int32 → kp_S → Prop) → Prop) (N : Nat → kp_S → (Int32 → kp_S → Prop) → Prop) (hU : ∀ (S : kp_S) (a0 : Nat) (post : Int32 → kp_S → Prop), kp_ok S → kp_is S a0 2 → U a0 S post → kp_M l yX2_unit cX2_unit 1 (some .int) { frames := F, cells := 0, slots := 0, locals := L } D cy ad S [.ref a0] 0 0 (fun A => kp_Qi D cy A S post)) (hN : ∀ (S : kp_S) (a0 : Nat) (post : Int32 → kp_S → Prop), kp_ok S → kp_is S a0 2 → N a0 S post → kp_M l yX2_negation cX2_negation 2 (some .int) { frames := F, cells := 0, slots := 0, locals := L } D cy ad S [.ref a0] 0 0 (fun A => kp_Qi D cy A S post)) (hF : 7 ≤ F) (hL : 155 ≤ L) (S : kp_S) (a0 : Nat) (post : Int32 → kp_S → Prop) (hS : kp_ok S) (f_a0 : kp_is S a0 2) (hw : wX2_conjunction U N a0 S post) : kp_M l yX2_conjunction cX2_conjunction 4 (some .int) { frames := F + 1, cells := 0, slots := 0, locals := L + 21 } D cy ad S [.ref a0] 0 0 (fun A => kp_Qi D cy A S post) := by
  refine kp_start (own := RX2) (by decide) rfl (Nat.le_of_ble_eq_true rfl) hS ?_
  intro p e s m below meth c A ls X hr hlocks hname h hl
  have hle : kp_le S S := kp_le.rf
  have hl : lv_has ls 4 [(0, .ref a0)] := hl
  have j65 : ∀ (xn1 : Int32) (Sn : kp_S) (H : Heap) (locs : List Loc) (ls : Array Slot), lv_has ls 4 [(1, .int xn1)] → kp_H D cy A Sn s.heap H locs → kp_le S Sn → kp_is Sn a0 2 → wX2_conjunction_b65 U N a0 xn1  Sn post → W p l e { frames := F + 1, cells := 0, slots := 0, locals := L + 21 } s m ([.ref a0] : List Value).toArray below meth c H locs 0 0 (MQ below (kp_Qi D cy A S post) ([.ref a0] : List Value).toArray s 0 0 A) (F0 m 65 ls []) := by
    intro xn1 Sn H locs ls hl h hle f_a0 hw
    unfold wX2_conjunction_b65 at hw
    refine lv_iload_n X.1 X.2.1 dX2_conjunction_65 rfl (lv_at hl 0 rfl) ?_
    exact kp_reti X hr hlocks h hle rfl hw dX2_conjunction_66
  have L7 : ∀ n7 : Nat, ∀ (xn1 : Int32) (xn2 : Int32) (Sn : kp_S) (H : Heap) (locs : List Loc) (ls : Array Slot), lv_has ls 4 [(0, .ref a0), (1, .int xn1), (2, .int xn2)] → kp_H D cy A Sn s.heap H locs → kp_le S Sn → kp_is Sn a0 2 → wX2_conjunction_L7 U N a0  post n7 xn1 xn2 Sn → W p l e { frames := F + 1, cells := 0, slots := 0, locals := L + 21 } s m ([.ref a0] : List Value).toArray below meth c H locs 0 0 (MQ below (kp_Qi D cy A S post) ([.ref a0] : List Value).toArray s 0 0 A) (F0 m 7 ls []) := by
    intro n7
    induction n7 with
    | zero => intro xn1 xn2 Sn H locs ls hl h hle f_a0 hw; exact hw.elim
    | succ n7 ih7 =>
      intro xn1 xn2 Sn H locs ls hl h hle f_a0 hw
      unfold wX2_conjunction_L7 at hw
      refine lv_iload_n X.1 X.2.1 dX2_conjunction_7 rfl (lv_at hl 2 rfl) ?_
      refine lv_sipush (v := 3000) X.1 X.2.1 dX2_conjunction_8 (by decide) ?_
      refine lv_icmp_ge (tgt := 65) X.1 X.2.1 dX2_conjunction_11 (by decide) (fun c2012 => ?_) (fun c2012 => ?_)
      · have hw := hw.1 c2012
        exact j65 xn1 Sn H locs ls (lv_sub hl [1] rfl) h hle f_a0 hw
      · have hw := hw.2 c2012
        refine lv_aload_n X.1 X.2.1 dX2_conjunction_14 rfl (lv_at hl 0 rfl) ?_
        obtain ⟨b2001, e_b2001, hw⟩ := hw
        have f_b2001 := h.2.2.2.rf (c := 2) (k := 0) f_a0 (by decide) (by decide) e_b2001 (t := 9) rfl
        refine kp_get X h f_a0 ff_2_9.l (v := .ref b2001) (congrArg va_rf e_b2001) dX2_conjunction_15 ?_
        refine kp_get X h f_b2001 fp_2_27.l (v := .int (kp_I Sn 1805 b2001)) rfl dX2_conjunction_18 ?_
        refine lv_sipush (v := 327) X.1 X.2.1 dX2_conjunction_21 (by decide) ?_
        refine lv_icmp_ne (tgt := 65) X.1 X.2.1 dX2_conjunction_24 (by decide) (fun c2011 => ?_) (fun c2011 => ?_)
        · have hw := hw.1 c2011
          exact j65 xn1 Sn H locs ls (lv_sub hl [1] rfl) h hle f_a0 hw
        · have hw := hw.2 c2011
          refine lv_aload_n X.1 X.2.1 dX2_conjunction_27 rfl (lv_at hl 0 rfl) ?_
          refine kp_get X h f_a0 ff_2_9.l (v := .ref b2001) (congrArg va_rf e_b2001) dX2_conjunction_28 ?_
          refine kp_callv X h (kp_runV (rm := { frames := 5, cells := 0, slots := 0, locals := 113 }) (mc := 0) (ms := 0) (rest := []) (Qc := fun A => kp_Qv D cy A Sn _) X h (c_X9_advance l D cy ad Sn b2001 _ h.2.2.2 f_b2001 hw) f_b2001 cv_2_33 ⟨by dsimp only; omega, by dsimp only; omega, rfl, rfl, by dsimp only; omega, by dsimp only; omega⟩ rfl hl.1 rfl (Nat.le_of_ble_eq_true rfl) dX2_conjunction_31) (fun T2002 hw l_T2002 H locs h => ?_)
          have f_a0 := l_T2002.is f_a0
          have f_b2001 := l_T2002.is f_b2001
          have hle := hle.tr l_T2002
          refine lv_aload_n X.1 X.2.1 dX2_conjunction_34 rfl (lv_at hl 0 rfl) ?_
          obtain ⟨b2003, e_b2003, hw⟩ := hw
          have f_b2003 := h.2.2.2.rf (c := 2) (k := 2) f_a0 (by decide) (by decide) e_b2003 (t := 0) rfl
          refine kp_get X h f_a0 fp_2_19.l (v := .ref b2003) (congrArg va_rf e_b2003) dX2_conjunction_35 ?_
          refine lv_bipush (v := 25) X.1 X.2.1 dX2_conjunction_38 (by decide) ?_
          refine lv_iconst (v := 0) X.1 X.2.1 dX2_conjunction_40 (by decide) ?_
          refine kp_calli X h (kp_runV (rm := { frames := 1, cells := 0, slots := 0, locals := 22 }) (mc := 0) (ms := 0) (rest := []) (Qc := fun A => kp_Qi D cy A T2002 _) X h (c_X0_add_ l D cy ad T2002 b2003 25 0 _ h.2.2.2 f_b2003 hw) f_b2003 cv_2_38 ⟨by dsimp only; omega, by dsimp only; omega, rfl, rfl, by dsimp only; omega, by dsimp only; omega⟩ rfl hl.1 rfl (Nat.le_of_ble_eq_true rfl) dX2_conjunction_41) (fun y2005 T2004 hw l_T2004 H locs h => ?_)
          have f_a0 := l_T2004.is f_a0
          have f_b2001 := l_T2004.is f_b2001
          have f_b2003 := l_T2004.is f_b2003
          have hle := hle.tr l_T2004
          refine lv_istore_n (lv' := [(3, .int y2005), (0, .ref a0), (1, .int xn1), (2, .int xn2)]) X.1 X.2.1 dX2_conjunction_44 rfl hl (by decide) rfl (fun ls hl => ?_)
          refine lv_iload_n X.1 X.2.1 dX2_conjunction_45 rfl (lv_at hl 2 rfl) ?_
          refine lv_aload_n X.1 X.2.1 dX2_conjunction_46 rfl (lv_at hl 1 rfl) ?_
          refine kp_calli X h (kp_runV (rm := { frames := F, cells := 0, slots := 0, locals := L }) (mc := 0) (ms := 0) (rest := [.int xn1]) (Qc := fun A => kp_Qi D cy A T2004 _) X h (hN T2004 a0 _ h.2.2.2 f_a0 hw) f_a0 cv_2_46 ⟨by dsimp only; omega, by dsimp only; omega, rfl, rfl, by dsimp only; omega, by dsimp only; omega⟩ rfl hl.1 rfl (Nat.le_of_ble_eq_true rfl) dX2_conjunction_47) (fun y2007 T2006 hw l_T2006 H locs h => ?_)
          have f_a0 := l_T2006.is f_a0
          have f_b2001 := l_T2006.is f_b2001
          have f_b2003 := l_T2006.is f_b2003
          have hle := hle.tr l_T2006
          refine lv_ior X.1 X.2.1 dX2_conjunction_50 ?_
          refine lv_iconst (v := 1) X.1 X.2.1 dX2_conjunction_51 (by decide) ?_
          refine lv_iand X.1 X.2.1 dX2_conjunction_52 ?_
          refine lv_topi (fun y2008 e_y2008 => ?_)
          have hw := hw y2008 e_y2008
          refine lv_istore_n (lv' := [(1, .int y2008), (3, .int y2005), (0, .ref a0), (2, .int xn2)]) X.1 X.2.1 dX2_conjunction_53 rfl hl (by decide) rfl (fun ls hl => ?_)
          refine lv_aload_n X.1 X.2.1 dX2_conjunction_54 rfl (lv_at hl 2 rfl) ?_
          refine lv_iload_n X.1 X.2.1 dX2_conjunction_55 rfl (lv_at hl 1 rfl) ?_
          refine kp_callv X h (kp_runV (rm := { frames := 1, cells := 0, slots := 0, locals := 22 }) (mc := 0) (ms := 0) (rest := []) (Qc := fun A => kp_Qv D cy A T2006 _) X h (c_X2_endJoined l D cy ad T2006 a0 y2005 _ h.2.2.2 f_a0 hw) f_a0 cv_2_42 ⟨by dsimp only; omega, by dsimp only; omega, rfl, rfl, by dsimp only; omega, by dsimp only; omega⟩ rfl hl.1 rfl (Nat.le_of_ble_eq_true rfl) dX2_conjunction_56) (fun T2009 hw l_T2009 H locs h => ?_)
          have f_a0 := l_T2009.is f_a0
          have f_b2001 := l_T2009.is f_b2001
          have f_b2003 := l_T2009.is f_b2003
          have hle := hle.tr l_T2009
          obtain ⟨y2010, e_y2010⟩ : ∃ y : Int32, y = xn2 + 1 := ⟨_, rfl⟩
          have hw := hw y2010 e_y2010
          refine lv_iinc (v := y2010) (lv' := [(2, .int y2010), (1, .int y2008), (3, .int y2005), (0, .ref a0)]) X.1 X.2.1 dX2_conjunction_59 hl (k := 3) rfl (by rw [e_y2010]; rfl) (by decide) rfl (fun ls hl => ?_)
          refine lv_goto (tgt := 7) X.1 X.2.1 dX2_conjunction_62 (by decide) ?_
          exact ih7 y2008 y2010 T2009 H locs ls (lv_sub hl [3, 1, 0] rfl) h hle f_a0 hw
  unfold wX2_conjunction at hw
  have h : kp_H D cy A S s.heap s.heap [] := h
  revert h
  intro h
  refine lv_aload_n X.1 X.2.1 dX2_conjunction_0 rfl (lv_at hl 0 rfl) ?_
  refine kp_calli X h (kp_runV (rm := { frames := F, cells := 0, slots := 0, locals := L }) (mc := 0) (ms := 0) (rest := []) (Qc := fun A => kp_Qi D cy A S _) X h (hN S a0 _ h.2.2.2 f_a0 hw) f_a0 cv_2_46 ⟨by dsimp only; omega, by dsimp only; omega, rfl, rfl, by dsimp only; omega, by dsimp only; omega⟩ rfl hl.1 rfl (Nat.le_of_ble_eq_true rfl) dX2_conjunction_1) (fun y2 T1 hw l_T1 H locs h => ?_)
  have f_a0 := l_T1.is f_a0
  have hle := hle.tr l_T1
  refine lv_istore_n (lv' := [(1, .int y2), (0, .ref a0)]) X.1 X.2.1 dX2_conjunction_4 rfl hl (by decide) rfl (fun ls hl => ?_)
  refine lv_iconst (v := 0) X.1 X.2.1 dX2_conjunction_5 (by decide) ?_
  refine lv_istore_n (lv' := [(2, .int 0), (1, .int y2), (0, .ref a0)]) X.1 X.2.1 dX2_conjunction_6 rfl hl (by decide) rfl (fun ls hl => ?_)
  obtain ⟨n0, hw⟩ := hw
  exact L7 n0 y2 0 T1 _ _ ls (lv_sub hl [2, 1, 0] rfl) h hle f_a0 hw
theorem dX2_whole_0 : decode cX2_whole 0 = .ok (.aload_n 0, 1) := by decide +kernel
theorem dX2_whole_1 : decode cX2_whole 1 = .ok (.invokevirtual 23, 3) := by decide +kernel
theorem dX2_whole_4 : decode cX2_whole 4 = .ok (.istore_n 1, 1) := by decide +kernel
theorem dX2_whole_5 : decode cX2_whole 5 = .ok (.iconst 0, 1) := by decide +kernel
theorem dX2_whole_6 : decode cX2_whole 6 = .ok (.istore_n 2, 1) := by decide +kernel
theorem dX2_whole_7 : decode cX2_whole 7 = .ok (.iload_n 2, 1) := by decide +kernel
theorem dX2_whole_8 : decode cX2_whole 8 = .ok (.sipush 3000, 3) := by decide +kernel
theorem dX2_whole_11 : decode cX2_whole 11 = .ok (.if_icmp .ge 54, 3) := by decide +kernel
theorem dX2_whole_14 : decode cX2_whole 14 = .ok (.aload_n 0, 1) := by decide +kernel
theorem dX2_whole_15 : decode cX2_whole 15 = .ok (.getfield 9, 3) := by decide +kernel
theorem dX2_whole_18 : decode cX2_whole 18 = .ok (.getfield 27, 3) := by decide +kernel
theorem dX2_whole_21 : decode cX2_whole 21 = .ok (.sipush 326, 3) := by decide +kernel
theorem dX2_whole_24 : decode cX2_whole 24 = .ok (.if_icmp .ne 41, 3) := by decide +kernel
theorem dX2_whole_27 : decode cX2_whole 27 = .ok (.aload_n 0, 1) := by decide +kernel
theorem dX2_whole_28 : decode cX2_whole 28 = .ok (.getfield 9, 3) := by decide +kernel
theorem dX2_whole_31 : decode cX2_whole 31 = .ok (.invokevirtual 33, 3) := by decide +kernel
theorem dX2_whole_34 : decode cX2_whole 34 = .ok (.aload_n 0, 1) := by decide +kernel
theorem dX2_whole_35 : decode cX2_whole 35 = .ok (.getfield 19, 3) := by decide +kernel
theorem dX2_whole_38 : decode cX2_whole 38 = .ok (.bipush 24, 2) := by decide +kernel
theorem dX2_whole_40 : decode cX2_whole 40 = .ok (.iconst 0, 1) := by decide +kernel
theorem dX2_whole_41 : decode cX2_whole 41 = .ok (.invokevirtual 38, 3) := by decide +kernel
theorem dX2_whole_44 : decode cX2_whole 44 = .ok (.istore_n 3, 1) := by decide +kernel
theorem dX2_whole_45 : decode cX2_whole 45 = .ok (.iload_n 1, 1) := by decide +kernel
theorem dX2_whole_46 : decode cX2_whole 46 = .ok (.aload_n 0, 1) := by decide +kernel
theorem dX2_whole_47 : decode cX2_whole 47 = .ok (.invokevirtual 23, 3) := by decide +kernel
theorem dX2_whole_50 : decode cX2_whole 50 = .ok (.ior, 1) := by decide +kernel
theorem dX2_whole_51 : decode cX2_whole 51 = .ok (.iconst 1, 1) := by decide +kernel
theorem dX2_whole_52 : decode cX2_whole 52 = .ok (.iand, 1) := by decide +kernel
theorem dX2_whole_53 : decode cX2_whole 53 = .ok (.istore_n 1, 1) := by decide +kernel
theorem dX2_whole_54 : decode cX2_whole 54 = .ok (.aload_n 0, 1) := by decide +kernel
theorem dX2_whole_55 : decode cX2_whole 55 = .ok (.iload_n 3, 1) := by decide +kernel
theorem dX2_whole_56 : decode cX2_whole 56 = .ok (.invokevirtual 42, 3) := by decide +kernel
theorem dX2_whole_59 : decode cX2_whole 59 = .ok (.iinc 2 1, 3) := by decide +kernel
theorem dX2_whole_62 : decode cX2_whole 62 = .ok (.goto (-55), 3) := by decide +kernel
theorem dX2_whole_65 : decode cX2_whole 65 = .ok (.iload_n 1, 1) := by decide +kernel
theorem dX2_whole_66 : decode cX2_whole 66 = .ok (.ireturn, 1) := by decide +kernel
def wX2_whole_b65 (U : Nat → kp_S → (Int32 → kp_S → Prop) → Prop) (N : Nat → kp_S → (Int32 → kp_S → Prop) → Prop) (a0 : Nat) (xn1 : Int32)  (Sn : kp_S) (post : Int32 → kp_S → Prop) : Prop :=
  post xn1 Sn
def wX2_whole_L7 (U : Nat → kp_S → (Int32 → kp_S → Prop) → Prop) (N : Nat → kp_S → (Int32 → kp_S → Prop) → Prop) (a0 : Nat)  (post : Int32 → kp_S → Prop) : Nat → Int32 → Int32 → kp_S → Prop
  | 0, _, _, _ => False
  | n + 1, xn1, xn2, Sn =>
  ((3000 ≤ xn2 →
  wX2_whole_b65 U N a0 xn1  Sn post) ∧ (¬ 3000 ≤ xn2 →
  ∃ b2001 : Nat, kp_R Sn 400 a0 = some b2001 ∧
  ((¬ (kp_I Sn 1805 b2001) = 326 →
  wX2_whole_b65 U N a0 xn1  Sn post) ∧ ((kp_I Sn 1805 b2001) = 326 →
  wX9_advance b2001 Sn (fun T2002 =>
  ∃ b2003 : Nat, kp_R T2002 402 a0 = some b2003 ∧
  wX0_add_ b2003 24 0 T2002 (fun y2005 T2004 =>
  wX2_conjunction U N a0 T2004 (fun y2007 T2006 =>
  ∀ y2008 : Int32, y2008 = ((xn1 ||| y2007) &&& 1) →
  wX2_endJoined a0 y2005 T2006 (fun T2009 =>
  ∀ y2010 : Int32, y2010 = xn2 + 1 →
  wX2_whole_L7 U N a0  post n y2008 y2010 T2009))))))))
def wX2_whole (U : Nat → kp_S → (Int32 → kp_S → Prop) → Prop) (N : Nat → kp_S → (Int32 → kp_S → Prop) → Prop) (a0 : Nat) (S : kp_S) (post : Int32 → kp_S → Prop) : Prop :=
  wX2_conjunction U N a0 S (fun y2 T1 =>
  ∃ n0 : Nat, wX2_whole_L7 U N a0  post n0 y2 0 T1)
set_option maxHeartbeats 4000000 in
set_option maxRecDepth 100000 in
theorem c_X2_whole (l : Launch) (D : va_G) (cy : Nat → ClassId) (ad : (Nat → Nat) × (Nat → Nat)) (F L : Nat) (U : Nat → kp_S → (Int32 → kp_S → Prop) → Prop) (N : Nat → kp_S → (Int32 → kp_S → Prop) → Prop) (hU : ∀ (S : kp_S) (a0 : Nat) (post : Int32 → kp_S → Prop), kp_ok S → kp_is S a0 2 → U a0 S post → kp_M l yX2_unit cX2_unit 1 (some .int) { frames := F, cells := 0, slots := 0, locals := L } D cy ad S [.ref a0] 0 0 (fun A => kp_Qi D cy A S post)) (hN : ∀ (S : kp_S) (a0 : Nat) (post : Int32 → kp_S → Prop), kp_ok S → kp_is S a0 2 → N a0 S post → kp_M l yX2_negation cX2_negation 2 (some .int) { frames := F, cells := 0, slots := 0, locals := L } D cy ad S [.ref a0] 0 0 (fun A => kp_Qi D cy A S post)) (hF : 7 ≤ F) (hL : 155 ≤ L) (S : kp_S) (a0 : Nat) (post : Int32 → kp_S → Prop) (hS : kp_ok S) (f_a0 : kp_is S a0 2) (hw : wX2_whole U N a0 S post) : kp_M l yX2_whole cX2_whole 4 (some .int) { frames := F + 2, cells := 0, slots := 0, locals := L + 44 } D cy ad S [.ref a0] 0 0 (fun A => kp_Qi D cy A S post) := by
  refine kp_start (own := RX2) (by decide) rfl (Nat.le_of_ble_eq_true rfl) hS ?_
  intro p e s m below meth c A ls X hr hlocks hname h hl
  have hle : kp_le S S := kp_le.rf
  have hl : lv_has ls 4 [(0, .ref a0)] := hl
  have j65 : ∀ (xn1 : Int32) (Sn : kp_S) (H : Heap) (locs : List Loc) (ls : Array Slot), lv_has ls 4 [(1, .int xn1)] → kp_H D cy A Sn s.heap H locs → kp_le S Sn → kp_is Sn a0 2 → wX2_whole_b65 U N a0 xn1  Sn post → W p l e { frames := F + 2, cells := 0, slots := 0, locals := L + 44 } s m ([.ref a0] : List Value).toArray below meth c H locs 0 0 (MQ below (kp_Qi D cy A S post) ([.ref a0] : List Value).toArray s 0 0 A) (F0 m 65 ls []) := by
    intro xn1 Sn H locs ls hl h hle f_a0 hw
    unfold wX2_whole_b65 at hw
    refine lv_iload_n X.1 X.2.1 dX2_whole_65 rfl (lv_at hl 0 rfl) ?_
    exact kp_reti X hr hlocks h hle rfl hw dX2_whole_66
  have L7 : ∀ n7 : Nat, ∀ (xn1 : Int32) (xn2 : Int32) (Sn : kp_S) (H : Heap) (locs : List Loc) (ls : Array Slot), lv_has ls 4 [(0, .ref a0), (1, .int xn1), (2, .int xn2)] → kp_H D cy A Sn s.heap H locs → kp_le S Sn → kp_is Sn a0 2 → wX2_whole_L7 U N a0  post n7 xn1 xn2 Sn → W p l e { frames := F + 2, cells := 0, slots := 0, locals := L + 44 } s m ([.ref a0] : List Value).toArray below meth c H locs 0 0 (MQ below (kp_Qi D cy A S post) ([.ref a0] : List Value).toArray s 0 0 A) (F0 m 7 ls []) := by
    intro n7
    induction n7 with
    | zero => intro xn1 xn2 Sn H locs ls hl h hle f_a0 hw; exact hw.elim
    | succ n7 ih7 =>
      intro xn1 xn2 Sn H locs ls hl h hle f_a0 hw
      unfold wX2_whole_L7 at hw
      refine lv_iload_n X.1 X.2.1 dX2_whole_7 rfl (lv_at hl 2 rfl) ?_
      refine lv_sipush (v := 3000) X.1 X.2.1 dX2_whole_8 (by decide) ?_
      refine lv_icmp_ge (tgt := 65) X.1 X.2.1 dX2_whole_11 (by decide) (fun c2012 => ?_) (fun c2012 => ?_)
      · have hw := hw.1 c2012
        exact j65 xn1 Sn H locs ls (lv_sub hl [1] rfl) h hle f_a0 hw
      · have hw := hw.2 c2012
        refine lv_aload_n X.1 X.2.1 dX2_whole_14 rfl (lv_at hl 0 rfl) ?_
        obtain ⟨b2001, e_b2001, hw⟩ := hw
        have f_b2001 := h.2.2.2.rf (c := 2) (k := 0) f_a0 (by decide) (by decide) e_b2001 (t := 9) rfl
        refine kp_get X h f_a0 ff_2_9.l (v := .ref b2001) (congrArg va_rf e_b2001) dX2_whole_15 ?_
        refine kp_get X h f_b2001 fp_2_27.l (v := .int (kp_I Sn 1805 b2001)) rfl dX2_whole_18 ?_
        refine lv_sipush (v := 326) X.1 X.2.1 dX2_whole_21 (by decide) ?_
        refine lv_icmp_ne (tgt := 65) X.1 X.2.1 dX2_whole_24 (by decide) (fun c2011 => ?_) (fun c2011 => ?_)
        · have hw := hw.1 c2011
          exact j65 xn1 Sn H locs ls (lv_sub hl [1] rfl) h hle f_a0 hw
        · have hw := hw.2 c2011
          refine lv_aload_n X.1 X.2.1 dX2_whole_27 rfl (lv_at hl 0 rfl) ?_
          refine kp_get X h f_a0 ff_2_9.l (v := .ref b2001) (congrArg va_rf e_b2001) dX2_whole_28 ?_
          refine kp_callv X h (kp_runV (rm := { frames := 5, cells := 0, slots := 0, locals := 113 }) (mc := 0) (ms := 0) (rest := []) (Qc := fun A => kp_Qv D cy A Sn _) X h (c_X9_advance l D cy ad Sn b2001 _ h.2.2.2 f_b2001 hw) f_b2001 cv_2_33 ⟨by dsimp only; omega, by dsimp only; omega, rfl, rfl, by dsimp only; omega, by dsimp only; omega⟩ rfl hl.1 rfl (Nat.le_of_ble_eq_true rfl) dX2_whole_31) (fun T2002 hw l_T2002 H locs h => ?_)
          have f_a0 := l_T2002.is f_a0
          have f_b2001 := l_T2002.is f_b2001
          have hle := hle.tr l_T2002
          refine lv_aload_n X.1 X.2.1 dX2_whole_34 rfl (lv_at hl 0 rfl) ?_
          obtain ⟨b2003, e_b2003, hw⟩ := hw
          have f_b2003 := h.2.2.2.rf (c := 2) (k := 2) f_a0 (by decide) (by decide) e_b2003 (t := 0) rfl
          refine kp_get X h f_a0 fp_2_19.l (v := .ref b2003) (congrArg va_rf e_b2003) dX2_whole_35 ?_
          refine lv_bipush (v := 24) X.1 X.2.1 dX2_whole_38 (by decide) ?_
          refine lv_iconst (v := 0) X.1 X.2.1 dX2_whole_40 (by decide) ?_
          refine kp_calli X h (kp_runV (rm := { frames := 1, cells := 0, slots := 0, locals := 22 }) (mc := 0) (ms := 0) (rest := []) (Qc := fun A => kp_Qi D cy A T2002 _) X h (c_X0_add_ l D cy ad T2002 b2003 24 0 _ h.2.2.2 f_b2003 hw) f_b2003 cv_2_38 ⟨by dsimp only; omega, by dsimp only; omega, rfl, rfl, by dsimp only; omega, by dsimp only; omega⟩ rfl hl.1 rfl (Nat.le_of_ble_eq_true rfl) dX2_whole_41) (fun y2005 T2004 hw l_T2004 H locs h => ?_)
          have f_a0 := l_T2004.is f_a0
          have f_b2001 := l_T2004.is f_b2001
          have f_b2003 := l_T2004.is f_b2003
          have hle := hle.tr l_T2004
          refine lv_istore_n (lv' := [(3, .int y2005), (0, .ref a0), (1, .int xn1), (2, .int xn2)]) X.1 X.2.1 dX2_whole_44 rfl hl (by decide) rfl (fun ls hl => ?_)
          refine lv_iload_n X.1 X.2.1 dX2_whole_45 rfl (lv_at hl 2 rfl) ?_
          refine lv_aload_n X.1 X.2.1 dX2_whole_46 rfl (lv_at hl 1 rfl) ?_
          refine kp_calli X h (kp_runV (rm := { frames := F + 1, cells := 0, slots := 0, locals := L + 21 }) (mc := 0) (ms := 0) (rest := [.int xn1]) (Qc := fun A => kp_Qi D cy A T2004 _) X h (c_X2_conjunction l D cy ad F L U N hU hN hF hL T2004 a0 _ h.2.2.2 f_a0 hw) f_a0 cv_2_23 ⟨by dsimp only; omega, by dsimp only; omega, rfl, rfl, by dsimp only; omega, by dsimp only; omega⟩ rfl hl.1 rfl (Nat.le_of_ble_eq_true rfl) dX2_whole_47) (fun y2007 T2006 hw l_T2006 H locs h => ?_)
          have f_a0 := l_T2006.is f_a0
          have f_b2001 := l_T2006.is f_b2001
          have f_b2003 := l_T2006.is f_b2003
          have hle := hle.tr l_T2006
          refine lv_ior X.1 X.2.1 dX2_whole_50 ?_
          refine lv_iconst (v := 1) X.1 X.2.1 dX2_whole_51 (by decide) ?_
          refine lv_iand X.1 X.2.1 dX2_whole_52 ?_
          refine lv_topi (fun y2008 e_y2008 => ?_)
          have hw := hw y2008 e_y2008
          refine lv_istore_n (lv' := [(1, .int y2008), (3, .int y2005), (0, .ref a0), (2, .int xn2)]) X.1 X.2.1 dX2_whole_53 rfl hl (by decide) rfl (fun ls hl => ?_)
          refine lv_aload_n X.1 X.2.1 dX2_whole_54 rfl (lv_at hl 2 rfl) ?_
          refine lv_iload_n X.1 X.2.1 dX2_whole_55 rfl (lv_at hl 1 rfl) ?_
          refine kp_callv X h (kp_runV (rm := { frames := 1, cells := 0, slots := 0, locals := 22 }) (mc := 0) (ms := 0) (rest := []) (Qc := fun A => kp_Qv D cy A T2006 _) X h (c_X2_endJoined l D cy ad T2006 a0 y2005 _ h.2.2.2 f_a0 hw) f_a0 cv_2_42 ⟨by dsimp only; omega, by dsimp only; omega, rfl, rfl, by dsimp only; omega, by dsimp only; omega⟩ rfl hl.1 rfl (Nat.le_of_ble_eq_true rfl) dX2_whole_56) (fun T2009 hw l_T2009 H locs h => ?_)
          have f_a0 := l_T2009.is f_a0
          have f_b2001 := l_T2009.is f_b2001
          have f_b2003 := l_T2009.is f_b2003
          have hle := hle.tr l_T2009
          obtain ⟨y2010, e_y2010⟩ : ∃ y : Int32, y = xn2 + 1 := ⟨_, rfl⟩
          have hw := hw y2010 e_y2010
          refine lv_iinc (v := y2010) (lv' := [(2, .int y2010), (1, .int y2008), (3, .int y2005), (0, .ref a0)]) X.1 X.2.1 dX2_whole_59 hl (k := 3) rfl (by rw [e_y2010]; rfl) (by decide) rfl (fun ls hl => ?_)
          refine lv_goto (tgt := 7) X.1 X.2.1 dX2_whole_62 (by decide) ?_
          exact ih7 y2008 y2010 T2009 H locs ls (lv_sub hl [3, 1, 0] rfl) h hle f_a0 hw
  unfold wX2_whole at hw
  have h : kp_H D cy A S s.heap s.heap [] := h
  revert h
  intro h
  refine lv_aload_n X.1 X.2.1 dX2_whole_0 rfl (lv_at hl 0 rfl) ?_
  refine kp_calli X h (kp_runV (rm := { frames := F + 1, cells := 0, slots := 0, locals := L + 21 }) (mc := 0) (ms := 0) (rest := []) (Qc := fun A => kp_Qi D cy A S _) X h (c_X2_conjunction l D cy ad F L U N hU hN hF hL S a0 _ h.2.2.2 f_a0 hw) f_a0 cv_2_23 ⟨by dsimp only; omega, by dsimp only; omega, rfl, rfl, by dsimp only; omega, by dsimp only; omega⟩ rfl hl.1 rfl (Nat.le_of_ble_eq_true rfl) dX2_whole_1) (fun y2 T1 hw l_T1 H locs h => ?_)
  have f_a0 := l_T1.is f_a0
  have hle := hle.tr l_T1
  refine lv_istore_n (lv' := [(1, .int y2), (0, .ref a0)]) X.1 X.2.1 dX2_whole_4 rfl hl (by decide) rfl (fun ls hl => ?_)
  refine lv_iconst (v := 0) X.1 X.2.1 dX2_whole_5 (by decide) ?_
  refine lv_istore_n (lv' := [(2, .int 0), (1, .int y2), (0, .ref a0)]) X.1 X.2.1 dX2_whole_6 rfl hl (by decide) rfl (fun ls hl => ?_)
  obtain ⟨n0, hw⟩ := hw
  exact L7 n0 y2 0 T1 _ _ ls (lv_sub hl [2, 1, 0] rfl) h hle f_a0 hw
theorem dX2_inBrackets_0 : decode cX2_inBrackets 0 = .ok (.aload_n 0, 1) := by decide +kernel
theorem dX2_inBrackets_1 : decode cX2_inBrackets 1 = .ok (.getfield 9, 3) := by decide +kernel
theorem dX2_inBrackets_4 : decode cX2_inBrackets 4 = .ok (.bipush 40, 2) := by decide +kernel
theorem dX2_inBrackets_6 : decode cX2_inBrackets 6 = .ok (.invokevirtual 62, 3) := by decide +kernel
theorem dX2_inBrackets_9 : decode cX2_inBrackets 9 = .ok (.aload_n 0, 1) := by decide +kernel
theorem dX2_inBrackets_10 : decode cX2_inBrackets 10 = .ok (.getfield 9, 3) := by decide +kernel
theorem dX2_inBrackets_13 : decode cX2_inBrackets 13 = .ok (.invokevirtual 65, 3) := by decide +kernel
theorem dX2_inBrackets_16 : decode cX2_inBrackets 16 = .ok (.ifCond .eq 7, 3) := by decide +kernel
theorem dX2_inBrackets_19 : decode cX2_inBrackets 19 = .ok (.iconst 0, 1) := by decide +kernel
theorem dX2_inBrackets_20 : decode cX2_inBrackets 20 = .ok (.goto 7, 3) := by decide +kernel
theorem dX2_inBrackets_23 : decode cX2_inBrackets 23 = .ok (.aload_n 0, 1) := by decide +kernel
theorem dX2_inBrackets_24 : decode cX2_inBrackets 24 = .ok (.invokevirtual 108, 3) := by decide +kernel
theorem dX2_inBrackets_27 : decode cX2_inBrackets 27 = .ok (.istore_n 1, 1) := by decide +kernel
theorem dX2_inBrackets_28 : decode cX2_inBrackets 28 = .ok (.aload_n 0, 1) := by decide +kernel
theorem dX2_inBrackets_29 : decode cX2_inBrackets 29 = .ok (.getfield 9, 3) := by decide +kernel
theorem dX2_inBrackets_32 : decode cX2_inBrackets 32 = .ok (.invokevirtual 69, 3) := by decide +kernel
theorem dX2_inBrackets_35 : decode cX2_inBrackets 35 = .ok (.aload_n 0, 1) := by decide +kernel
theorem dX2_inBrackets_36 : decode cX2_inBrackets 36 = .ok (.getfield 9, 3) := by decide +kernel
theorem dX2_inBrackets_39 : decode cX2_inBrackets 39 = .ok (.bipush 41, 2) := by decide +kernel
theorem dX2_inBrackets_41 : decode cX2_inBrackets 41 = .ok (.invokevirtual 111, 3) := by decide +kernel
theorem dX2_inBrackets_44 : decode cX2_inBrackets 44 = .ok (.iload_n 1, 1) := by decide +kernel
theorem dX2_inBrackets_45 : decode cX2_inBrackets 45 = .ok (.ireturn, 1) := by decide +kernel
def wX2_inBrackets_b27 (U : Nat → kp_S → (Int32 → kp_S → Prop) → Prop) (N : Nat → kp_S → (Int32 → kp_S → Prop) → Prop) (a0 : Nat) (xt0 : Int32)  (Sn : kp_S) (post : Int32 → kp_S → Prop) : Prop :=
  ∃ b1001 : Nat, kp_R Sn 400 a0 = some b1001 ∧
  wX9_endNest b1001 Sn (fun T1002 =>
  ∃ b1003 : Nat, kp_R T1002 400 a0 = some b1003 ∧
  wX9_expect b1003 41 T1002 (fun T1004 =>
  post xt0 T1004))
def wX2_inBrackets (U : Nat → kp_S → (Int32 → kp_S → Prop) → Prop) (N : Nat → kp_S → (Int32 → kp_S → Prop) → Prop) (a0 : Nat) (S : kp_S) (post : Int32 → kp_S → Prop) : Prop :=
  ∃ b1 : Nat, kp_R S 400 a0 = some b1 ∧
  wX9_expectNest b1 40 S (fun T2 =>
  ∃ b3 : Nat, kp_R T2 400 a0 = some b3 ∧
  wX9_isStopped b3 T2 (fun y5 T4 =>
  ((y5 = 0 →
  wX2_whole U N a0 T4 (fun y7 T6 =>
  wX2_inBrackets_b27 U N a0 y7  T6 post)) ∧ (¬ y5 = 0 →
  wX2_inBrackets_b27 U N a0 0  T4 post))))
set_option maxHeartbeats 4000000 in
set_option maxRecDepth 100000 in
theorem c_X2_inBrackets (l : Launch) (D : va_G) (cy : Nat → ClassId) (ad : (Nat → Nat) × (Nat → Nat)) (F L : Nat) (U : Nat → kp_S → (Int32 → kp_S → Prop) → Prop) (N : Nat → kp_S → (Int32 → kp_S → Prop) → Prop) (hU : ∀ (S : kp_S) (a0 : Nat) (post : Int32 → kp_S → Prop), kp_ok S → kp_is S a0 2 → U a0 S post → kp_M l yX2_unit cX2_unit 1 (some .int) { frames := F, cells := 0, slots := 0, locals := L } D cy ad S [.ref a0] 0 0 (fun A => kp_Qi D cy A S post)) (hN : ∀ (S : kp_S) (a0 : Nat) (post : Int32 → kp_S → Prop), kp_ok S → kp_is S a0 2 → N a0 S post → kp_M l yX2_negation cX2_negation 2 (some .int) { frames := F, cells := 0, slots := 0, locals := L } D cy ad S [.ref a0] 0 0 (fun A => kp_Qi D cy A S post)) (hF : 7 ≤ F) (hL : 155 ≤ L) (S : kp_S) (a0 : Nat) (post : Int32 → kp_S → Prop) (hS : kp_ok S) (f_a0 : kp_is S a0 2) (hw : wX2_inBrackets U N a0 S post) : kp_M l yX2_inBrackets cX2_inBrackets 2 (some .int) { frames := F + 3, cells := 0, slots := 0, locals := L + 67 } D cy ad S [.ref a0] 0 0 (fun A => kp_Qi D cy A S post) := by
  refine kp_start (own := RX2) (by decide) rfl (Nat.le_of_ble_eq_true rfl) hS ?_
  intro p e s m below meth c A ls X hr hlocks hname h hl
  have hle : kp_le S S := kp_le.rf
  have hl : lv_has ls 2 [(0, .ref a0)] := hl
  have j27 : ∀ (xt0 : Int32) (Sn : kp_S) (H : Heap) (locs : List Loc) (ls : Array Slot), lv_has ls 2 [(0, .ref a0)] → kp_H D cy A Sn s.heap H locs → kp_le S Sn → kp_is Sn a0 2 → wX2_inBrackets_b27 U N a0 xt0  Sn post → W p l e { frames := F + 3, cells := 0, slots := 0, locals := L + 67 } s m ([.ref a0] : List Value).toArray below meth c H locs 0 0 (MQ below (kp_Qi D cy A S post) ([.ref a0] : List Value).toArray s 0 0 A) (F0 m 27 ls [.int xt0]) := by
    intro xt0 Sn H locs ls hl h hle f_a0 hw
    unfold wX2_inBrackets_b27 at hw
    refine lv_istore_n (lv' := [(1, .int xt0), (0, .ref a0)]) X.1 X.2.1 dX2_inBrackets_27 rfl hl (by decide) rfl (fun ls hl => ?_)
    refine lv_aload_n X.1 X.2.1 dX2_inBrackets_28 rfl (lv_at hl 1 rfl) ?_
    obtain ⟨b1001, e_b1001, hw⟩ := hw
    have f_b1001 := h.2.2.2.rf (c := 2) (k := 0) f_a0 (by decide) (by decide) e_b1001 (t := 9) rfl
    refine kp_get X h f_a0 ff_2_9.l (v := .ref b1001) (congrArg va_rf e_b1001) dX2_inBrackets_29 ?_
    refine kp_callv X h (kp_runV (rm := { frames := 0, cells := 0, slots := 0, locals := 0 }) (mc := 0) (ms := 0) (rest := []) (Qc := fun A => kp_Qv D cy A Sn _) X h (c_X9_endNest l D cy ad Sn b1001 _ h.2.2.2 f_b1001 hw) f_b1001 cv_2_69 ⟨by dsimp only; omega, by dsimp only; omega, rfl, rfl, by dsimp only; omega, by dsimp only; omega⟩ rfl hl.1 rfl (Nat.le_of_ble_eq_true rfl) dX2_inBrackets_32) (fun T1002 hw l_T1002 H locs h => ?_)
    have f_a0 := l_T1002.is f_a0
    have f_b1001 := l_T1002.is f_b1001
    have hle := hle.tr l_T1002
    refine lv_aload_n X.1 X.2.1 dX2_inBrackets_35 rfl (lv_at hl 1 rfl) ?_
    obtain ⟨b1003, e_b1003, hw⟩ := hw
    have f_b1003 := h.2.2.2.rf (c := 2) (k := 0) f_a0 (by decide) (by decide) e_b1003 (t := 9) rfl
    refine kp_get X h f_a0 ff_2_9.l (v := .ref b1003) (congrArg va_rf e_b1003) dX2_inBrackets_36 ?_
    refine lv_bipush (v := 41) X.1 X.2.1 dX2_inBrackets_39 (by decide) ?_
    refine kp_callv X h (kp_runV (rm := { frames := 6, cells := 0, slots := 0, locals := 134 }) (mc := 0) (ms := 0) (rest := []) (Qc := fun A => kp_Qv D cy A T1002 _) X h (c_X9_expect l D cy ad T1002 b1003 41 _ h.2.2.2 f_b1003 hw) f_b1003 cv_2_111 ⟨by dsimp only; omega, by dsimp only; omega, rfl, rfl, by dsimp only; omega, by dsimp only; omega⟩ rfl hl.1 rfl (Nat.le_of_ble_eq_true rfl) dX2_inBrackets_41) (fun T1004 hw l_T1004 H locs h => ?_)
    have f_a0 := l_T1004.is f_a0
    have f_b1001 := l_T1004.is f_b1001
    have f_b1003 := l_T1004.is f_b1003
    have hle := hle.tr l_T1004
    refine lv_iload_n X.1 X.2.1 dX2_inBrackets_44 rfl (lv_at hl 0 rfl) ?_
    exact kp_reti X hr hlocks h hle rfl hw dX2_inBrackets_45
  unfold wX2_inBrackets at hw
  have h : kp_H D cy A S s.heap s.heap [] := h
  revert h
  intro h
  refine lv_aload_n X.1 X.2.1 dX2_inBrackets_0 rfl (lv_at hl 0 rfl) ?_
  obtain ⟨b1, e_b1, hw⟩ := hw
  have f_b1 := h.2.2.2.rf (c := 2) (k := 0) f_a0 (by decide) (by decide) e_b1 (t := 9) rfl
  refine kp_get X h f_a0 ff_2_9.l (v := .ref b1) (congrArg va_rf e_b1) dX2_inBrackets_1 ?_
  refine lv_bipush (v := 40) X.1 X.2.1 dX2_inBrackets_4 (by decide) ?_
  refine kp_callv X h (kp_runV (rm := { frames := 6, cells := 0, slots := 0, locals := 134 }) (mc := 0) (ms := 0) (rest := []) (Qc := fun A => kp_Qv D cy A S _) X h (c_X9_expectNest l D cy ad S b1 40 _ h.2.2.2 f_b1 hw) f_b1 cv_2_62 ⟨by dsimp only; omega, by dsimp only; omega, rfl, rfl, by dsimp only; omega, by dsimp only; omega⟩ rfl hl.1 rfl (Nat.le_of_ble_eq_true rfl) dX2_inBrackets_6) (fun T2 hw l_T2 H locs h => ?_)
  have f_a0 := l_T2.is f_a0
  have f_b1 := l_T2.is f_b1
  have hle := hle.tr l_T2
  refine lv_aload_n X.1 X.2.1 dX2_inBrackets_9 rfl (lv_at hl 0 rfl) ?_
  obtain ⟨b3, e_b3, hw⟩ := hw
  have f_b3 := h.2.2.2.rf (c := 2) (k := 0) f_a0 (by decide) (by decide) e_b3 (t := 9) rfl
  refine kp_get X h f_a0 ff_2_9.l (v := .ref b3) (congrArg va_rf e_b3) dX2_inBrackets_10 ?_
  refine kp_calli X h (kp_runV (rm := { frames := 0, cells := 0, slots := 0, locals := 0 }) (mc := 0) (ms := 0) (rest := []) (Qc := fun A => kp_Qi D cy A T2 _) X h (c_X9_isStopped l D cy ad T2 b3 _ h.2.2.2 f_b3 hw) f_b3 cv_2_65 ⟨by dsimp only; omega, by dsimp only; omega, rfl, rfl, by dsimp only; omega, by dsimp only; omega⟩ rfl hl.1 rfl (Nat.le_of_ble_eq_true rfl) dX2_inBrackets_13) (fun y5 T4 hw l_T4 H locs h => ?_)
  have f_a0 := l_T4.is f_a0
  have f_b1 := l_T4.is f_b1
  have f_b3 := l_T4.is f_b3
  have hle := hle.tr l_T4
  refine lv_if_eq (tgt := 23) X.1 X.2.1 dX2_inBrackets_16 (by decide) (fun c8 => ?_) (fun c8 => ?_)
  · have hw := hw.1 c8
    refine lv_aload_n X.1 X.2.1 dX2_inBrackets_23 rfl (lv_at hl 0 rfl) ?_
    refine kp_calli X h (kp_runV (rm := { frames := F + 2, cells := 0, slots := 0, locals := L + 44 }) (mc := 0) (ms := 0) (rest := []) (Qc := fun A => kp_Qi D cy A T4 _) X h (c_X2_whole l D cy ad F L U N hU hN hF hL T4 a0 _ h.2.2.2 f_a0 hw) f_a0 cv_2_108 ⟨by dsimp only; omega, by dsimp only; omega, rfl, rfl, by dsimp only; omega, by dsimp only; omega⟩ rfl hl.1 rfl (Nat.le_of_ble_eq_true rfl) dX2_inBrackets_24) (fun y7 T6 hw l_T6 H locs h => ?_)
    have f_a0 := l_T6.is f_a0
    have f_b1 := l_T6.is f_b1
    have f_b3 := l_T6.is f_b3
    have hle := hle.tr l_T6
    exact j27 y7 T6 _ _ ls (lv_sub hl [0] rfl) h hle f_a0 hw
  · have hw := hw.2 c8
    refine lv_iconst (v := 0) X.1 X.2.1 dX2_inBrackets_19 (by decide) ?_
    refine lv_goto (tgt := 27) X.1 X.2.1 dX2_inBrackets_20 (by decide) ?_
    exact j27 0 T4 _ _ ls (lv_sub hl [0] rfl) h hle f_a0 hw
theorem dX2_callOf_0 : decode cX2_callOf 0 = .ok (.aload_n 0, 1) := by decide +kernel
theorem dX2_callOf_1 : decode cX2_callOf 1 = .ok (.getfield 9, 3) := by decide +kernel
theorem dX2_callOf_4 : decode cX2_callOf 4 = .ok (.bipush 40, 2) := by decide +kernel
theorem dX2_callOf_6 : decode cX2_callOf 6 = .ok (.invokevirtual 62, 3) := by decide +kernel
theorem dX2_callOf_9 : decode cX2_callOf 9 = .ok (.iconst 0, 1) := by decide +kernel
theorem dX2_callOf_10 : decode cX2_callOf 10 = .ok (.istore 4, 2) := by decide +kernel
theorem dX2_callOf_12 : decode cX2_callOf 12 = .ok (.aload_n 0, 1) := by decide +kernel
theorem dX2_callOf_13 : decode cX2_callOf 13 = .ok (.getfield 9, 3) := by decide +kernel
theorem dX2_callOf_16 : decode cX2_callOf 16 = .ok (.getfield 27, 3) := by decide +kernel
theorem dX2_callOf_19 : decode cX2_callOf 19 = .ok (.bipush 41, 2) := by decide +kernel
theorem dX2_callOf_21 : decode cX2_callOf 21 = .ok (.if_icmp .eq 65, 3) := by decide +kernel
theorem dX2_callOf_24 : decode cX2_callOf 24 = .ok (.aload_n 0, 1) := by decide +kernel
theorem dX2_callOf_25 : decode cX2_callOf 25 = .ok (.getfield 9, 3) := by decide +kernel
theorem dX2_callOf_28 : decode cX2_callOf 28 = .ok (.invokevirtual 65, 3) := by decide +kernel
theorem dX2_callOf_31 : decode cX2_callOf 31 = .ok (.ifCond .ne 55, 3) := by decide +kernel
theorem dX2_callOf_34 : decode cX2_callOf 34 = .ok (.aload_n 0, 1) := by decide +kernel
theorem dX2_callOf_35 : decode cX2_callOf 35 = .ok (.invokevirtual 108, 3) := by decide +kernel
theorem dX2_callOf_38 : decode cX2_callOf 38 = .ok (.pop, 1) := by decide +kernel
theorem dX2_callOf_39 : decode cX2_callOf 39 = .ok (.iinc 4 1, 3) := by decide +kernel
theorem dX2_callOf_42 : decode cX2_callOf 42 = .ok (.iconst 0, 1) := by decide +kernel
theorem dX2_callOf_43 : decode cX2_callOf 43 = .ok (.istore 5, 2) := by decide +kernel
theorem dX2_callOf_45 : decode cX2_callOf 45 = .ok (.iload 5, 2) := by decide +kernel
theorem dX2_callOf_47 : decode cX2_callOf 47 = .ok (.sipush 3000, 3) := by decide +kernel
theorem dX2_callOf_50 : decode cX2_callOf 50 = .ok (.if_icmp .ge 36, 3) := by decide +kernel
theorem dX2_callOf_53 : decode cX2_callOf 53 = .ok (.aload_n 0, 1) := by decide +kernel
theorem dX2_callOf_54 : decode cX2_callOf 54 = .ok (.getfield 9, 3) := by decide +kernel
theorem dX2_callOf_57 : decode cX2_callOf 57 = .ok (.getfield 27, 3) := by decide +kernel
theorem dX2_callOf_60 : decode cX2_callOf 60 = .ok (.bipush 44, 2) := by decide +kernel
theorem dX2_callOf_62 : decode cX2_callOf 62 = .ok (.if_icmp .ne 24, 3) := by decide +kernel
theorem dX2_callOf_65 : decode cX2_callOf 65 = .ok (.aload_n 0, 1) := by decide +kernel
theorem dX2_callOf_66 : decode cX2_callOf 66 = .ok (.getfield 9, 3) := by decide +kernel
theorem dX2_callOf_69 : decode cX2_callOf 69 = .ok (.invokevirtual 33, 3) := by decide +kernel
theorem dX2_callOf_72 : decode cX2_callOf 72 = .ok (.aload_n 0, 1) := by decide +kernel
theorem dX2_callOf_73 : decode cX2_callOf 73 = .ok (.invokevirtual 108, 3) := by decide +kernel
theorem dX2_callOf_76 : decode cX2_callOf 76 = .ok (.pop, 1) := by decide +kernel
theorem dX2_callOf_77 : decode cX2_callOf 77 = .ok (.iinc 4 1, 3) := by decide +kernel
theorem dX2_callOf_80 : decode cX2_callOf 80 = .ok (.iinc 5 1, 3) := by decide +kernel
theorem dX2_callOf_83 : decode cX2_callOf 83 = .ok (.goto (-38), 3) := by decide +kernel
theorem dX2_callOf_86 : decode cX2_callOf 86 = .ok (.aload_n 0, 1) := by decide +kernel
theorem dX2_callOf_87 : decode cX2_callOf 87 = .ok (.getfield 9, 3) := by decide +kernel
theorem dX2_callOf_90 : decode cX2_callOf 90 = .ok (.invokevirtual 69, 3) := by decide +kernel
theorem dX2_callOf_93 : decode cX2_callOf 93 = .ok (.aload_n 0, 1) := by decide +kernel
theorem dX2_callOf_94 : decode cX2_callOf 94 = .ok (.getfield 9, 3) := by decide +kernel
theorem dX2_callOf_97 : decode cX2_callOf 97 = .ok (.bipush 41, 2) := by decide +kernel
theorem dX2_callOf_99 : decode cX2_callOf 99 = .ok (.invokevirtual 111, 3) := by decide +kernel
theorem dX2_callOf_102 : decode cX2_callOf 102 = .ok (.aload_n 0, 1) := by decide +kernel
theorem dX2_callOf_103 : decode cX2_callOf 103 = .ok (.getfield 19, 3) := by decide +kernel
theorem dX2_callOf_106 : decode cX2_callOf 106 = .ok (.bipush 53, 2) := by decide +kernel
theorem dX2_callOf_108 : decode cX2_callOf 108 = .ok (.aload_n 0, 1) := by decide +kernel
theorem dX2_callOf_109 : decode cX2_callOf 109 = .ok (.getfield 15, 3) := by decide +kernel
theorem dX2_callOf_112 : decode cX2_callOf 112 = .ok (.lload_n 1, 1) := by decide +kernel
theorem dX2_callOf_113 : decode cX2_callOf 113 = .ok (.iload_n 3, 1) := by decide +kernel
theorem dX2_callOf_114 : decode cX2_callOf 114 = .ok (.iload 4, 2) := by decide +kernel
theorem dX2_callOf_116 : decode cX2_callOf 116 = .ok (.invokevirtual 133, 3) := by decide +kernel
theorem dX2_callOf_119 : decode cX2_callOf 119 = .ok (.invokevirtual 38, 3) := by decide +kernel
theorem dX2_callOf_122 : decode cX2_callOf 122 = .ok (.pop, 1) := by decide +kernel
theorem dX2_callOf_123 : decode cX2_callOf 123 = .ok (.return_, 1) := by decide +kernel
def wX2_callOf_b86 (U : Nat → kp_S → (Int32 → kp_S → Prop) → Prop) (N : Nat → kp_S → (Int32 → kp_S → Prop) → Prop) (a0 : Nat) (w1 : Int64) (x3 : Int32) (xn4 : Int32)  (Sn : kp_S) (post : kp_S → Prop) : Prop :=
  ∃ b1001 : Nat, kp_R Sn 400 a0 = some b1001 ∧
  wX9_endNest b1001 Sn (fun T1002 =>
  ∃ b1003 : Nat, kp_R T1002 400 a0 = some b1003 ∧
  wX9_expect b1003 41 T1002 (fun T1004 =>
  ∃ b1005 : Nat, kp_R T1004 402 a0 = some b1005 ∧
  ∃ b1006 : Nat, kp_R T1004 401 a0 = some b1006 ∧
  wX5_callee b1006 w1 x3 xn4 T1004 (fun y1008 T1007 =>
  wX0_add_ b1005 53 y1008 T1007 (fun y1010 T1009 =>
  post T1009))))
def wX2_callOf_L45 (U : Nat → kp_S → (Int32 → kp_S → Prop) → Prop) (N : Nat → kp_S → (Int32 → kp_S → Prop) → Prop) (a0 : Nat) (w1 : Int64) (x3 : Int32)  (post : kp_S → Prop) : Nat → Int32 → Int32 → kp_S → Prop
  | 0, _, _, _ => False
  | n + 1, xn4, xn5, Sn =>
  ((3000 ≤ xn5 →
  wX2_callOf_b86 U N a0 w1 x3 xn4  Sn post) ∧ (¬ 3000 ≤ xn5 →
  ∃ b2001 : Nat, kp_R Sn 400 a0 = some b2001 ∧
  ((¬ (kp_I Sn 1805 b2001) = 44 →
  wX2_callOf_b86 U N a0 w1 x3 xn4  Sn post) ∧ ((kp_I Sn 1805 b2001) = 44 →
  wX9_advance b2001 Sn (fun T2002 =>
  wX2_whole U N a0 T2002 (fun y2004 T2003 =>
  ∀ y2005 : Int32, y2005 = xn4 + 1 →
  ∀ y2006 : Int32, y2006 = xn5 + 1 →
  wX2_callOf_L45 U N a0 w1 x3  post n y2005 y2006 T2003))))))
def wX2_callOf (U : Nat → kp_S → (Int32 → kp_S → Prop) → Prop) (N : Nat → kp_S → (Int32 → kp_S → Prop) → Prop) (a0 : Nat) (w1 : Int64) (x3 : Int32) (S : kp_S) (post : kp_S → Prop) : Prop :=
  ∃ b1 : Nat, kp_R S 400 a0 = some b1 ∧
  wX9_expectNest b1 40 S (fun T2 =>
  ∃ b3 : Nat, kp_R T2 400 a0 = some b3 ∧
  (((kp_I T2 1805 b3) = 41 →
  wX2_callOf_b86 U N a0 w1 x3 0  T2 post) ∧ (¬ (kp_I T2 1805 b3) = 41 →
  wX9_isStopped b3 T2 (fun y5 T4 =>
  ((¬ y5 = 0 →
  wX2_callOf_b86 U N a0 w1 x3 0  T4 post) ∧ (y5 = 0 →
  wX2_whole U N a0 T4 (fun y7 T6 =>
  ∀ y8 : Int32, y8 = 0 + 1 →
  ∃ n0 : Nat, wX2_callOf_L45 U N a0 w1 x3  post n0 y8 0 T6)))))))
set_option maxHeartbeats 4000000 in
set_option maxRecDepth 100000 in
theorem c_X2_callOf (l : Launch) (D : va_G) (cy : Nat → ClassId) (ad : (Nat → Nat) × (Nat → Nat)) (F L : Nat) (U : Nat → kp_S → (Int32 → kp_S → Prop) → Prop) (N : Nat → kp_S → (Int32 → kp_S → Prop) → Prop) (hU : ∀ (S : kp_S) (a0 : Nat) (post : Int32 → kp_S → Prop), kp_ok S → kp_is S a0 2 → U a0 S post → kp_M l yX2_unit cX2_unit 1 (some .int) { frames := F, cells := 0, slots := 0, locals := L } D cy ad S [.ref a0] 0 0 (fun A => kp_Qi D cy A S post)) (hN : ∀ (S : kp_S) (a0 : Nat) (post : Int32 → kp_S → Prop), kp_ok S → kp_is S a0 2 → N a0 S post → kp_M l yX2_negation cX2_negation 2 (some .int) { frames := F, cells := 0, slots := 0, locals := L } D cy ad S [.ref a0] 0 0 (fun A => kp_Qi D cy A S post)) (hF : 7 ≤ F) (hL : 155 ≤ L) (S : kp_S) (a0 : Nat) (w1 : Int64) (x3 : Int32) (post : kp_S → Prop) (hS : kp_ok S) (f_a0 : kp_is S a0 2) (hw : wX2_callOf U N a0 w1 x3 S post) : kp_M l yX2_callOf cX2_callOf 6 none { frames := F + 3, cells := 0, slots := 0, locals := L + 67 } D cy ad S [.ref a0, .long w1, .int x3] 0 0 (fun A => kp_Qv D cy A S post) := by
  refine kp_start (own := RX2) (by decide) rfl (Nat.le_of_ble_eq_true rfl) hS ?_
  intro p e s m below meth c A ls X hr hlocks hname h hl
  have hle : kp_le S S := kp_le.rf
  have hl : lv_has ls 6 [(0, .ref a0), (1, .long w1), (3, .int x3)] := hl
  have j86 : ∀ (xn4 : Int32) (Sn : kp_S) (H : Heap) (locs : List Loc) (ls : Array Slot), lv_has ls 6 [(0, .ref a0), (1, .long w1), (3, .int x3), (4, .int xn4)] → kp_H D cy A Sn s.heap H locs → kp_le S Sn → kp_is Sn a0 2 → wX2_callOf_b86 U N a0 w1 x3 xn4  Sn post → W p l e { frames := F + 3, cells := 0, slots := 0, locals := L + 67 } s m ([.ref a0, .long w1, .int x3] : List Value).toArray below meth c H locs 0 0 (MQ below (kp_Qv D cy A S post) ([.ref a0, .long w1, .int x3] : List Value).toArray s 0 0 A) (F0 m 86 ls []) := by
    intro xn4 Sn H locs ls hl h hle f_a0 hw
    unfold wX2_callOf_b86 at hw
    refine lv_aload_n X.1 X.2.1 dX2_callOf_86 rfl (lv_at hl 0 rfl) ?_
    obtain ⟨b1001, e_b1001, hw⟩ := hw
    have f_b1001 := h.2.2.2.rf (c := 2) (k := 0) f_a0 (by decide) (by decide) e_b1001 (t := 9) rfl
    refine kp_get X h f_a0 ff_2_9.l (v := .ref b1001) (congrArg va_rf e_b1001) dX2_callOf_87 ?_
    refine kp_callv X h (kp_runV (rm := { frames := 0, cells := 0, slots := 0, locals := 0 }) (mc := 0) (ms := 0) (rest := []) (Qc := fun A => kp_Qv D cy A Sn _) X h (c_X9_endNest l D cy ad Sn b1001 _ h.2.2.2 f_b1001 hw) f_b1001 cv_2_69 ⟨by dsimp only; omega, by dsimp only; omega, rfl, rfl, by dsimp only; omega, by dsimp only; omega⟩ rfl hl.1 rfl (Nat.le_of_ble_eq_true rfl) dX2_callOf_90) (fun T1002 hw l_T1002 H locs h => ?_)
    have f_a0 := l_T1002.is f_a0
    have f_b1001 := l_T1002.is f_b1001
    have hle := hle.tr l_T1002
    refine lv_aload_n X.1 X.2.1 dX2_callOf_93 rfl (lv_at hl 0 rfl) ?_
    obtain ⟨b1003, e_b1003, hw⟩ := hw
    have f_b1003 := h.2.2.2.rf (c := 2) (k := 0) f_a0 (by decide) (by decide) e_b1003 (t := 9) rfl
    refine kp_get X h f_a0 ff_2_9.l (v := .ref b1003) (congrArg va_rf e_b1003) dX2_callOf_94 ?_
    refine lv_bipush (v := 41) X.1 X.2.1 dX2_callOf_97 (by decide) ?_
    refine kp_callv X h (kp_runV (rm := { frames := 6, cells := 0, slots := 0, locals := 134 }) (mc := 0) (ms := 0) (rest := []) (Qc := fun A => kp_Qv D cy A T1002 _) X h (c_X9_expect l D cy ad T1002 b1003 41 _ h.2.2.2 f_b1003 hw) f_b1003 cv_2_111 ⟨by dsimp only; omega, by dsimp only; omega, rfl, rfl, by dsimp only; omega, by dsimp only; omega⟩ rfl hl.1 rfl (Nat.le_of_ble_eq_true rfl) dX2_callOf_99) (fun T1004 hw l_T1004 H locs h => ?_)
    have f_a0 := l_T1004.is f_a0
    have f_b1001 := l_T1004.is f_b1001
    have f_b1003 := l_T1004.is f_b1003
    have hle := hle.tr l_T1004
    refine lv_aload_n X.1 X.2.1 dX2_callOf_102 rfl (lv_at hl 0 rfl) ?_
    obtain ⟨b1005, e_b1005, hw⟩ := hw
    have f_b1005 := h.2.2.2.rf (c := 2) (k := 2) f_a0 (by decide) (by decide) e_b1005 (t := 0) rfl
    refine kp_get X h f_a0 fp_2_19.l (v := .ref b1005) (congrArg va_rf e_b1005) dX2_callOf_103 ?_
    refine lv_bipush (v := 53) X.1 X.2.1 dX2_callOf_106 (by decide) ?_
    refine lv_aload_n X.1 X.2.1 dX2_callOf_108 rfl (lv_at hl 0 rfl) ?_
    obtain ⟨b1006, e_b1006, hw⟩ := hw
    have f_b1006 := h.2.2.2.rf (c := 2) (k := 1) f_a0 (by decide) (by decide) e_b1006 (t := 5) rfl
    refine kp_get X h f_a0 ff_2_15.l (v := .ref b1006) (congrArg va_rf e_b1006) dX2_callOf_109 ?_
    refine lv_lload_n X.1 X.2.1 dX2_callOf_112 rfl (lv_at hl 1 rfl) ?_
    refine lv_iload_n X.1 X.2.1 dX2_callOf_113 rfl (lv_at hl 2 rfl) ?_
    refine lv_iload X.1 X.2.1 dX2_callOf_114 (lv_at hl 3 rfl) ?_
    refine kp_calli X h (kp_runV (rm := { frames := 1, cells := 0, slots := 0, locals := 23 }) (mc := 0) (ms := 0) (rest := [.int 53, .ref b1005]) (Qc := fun A => kp_Qi D cy A T1004 _) X h (c_X5_callee l D cy ad T1004 b1006 w1 x3 xn4 _ h.2.2.2 f_b1006 hw) f_b1006 cv_2_133 ⟨by dsimp only; omega, by dsimp only; omega, rfl, rfl, by dsimp only; omega, by dsimp only; omega⟩ rfl hl.1 rfl (Nat.le_of_ble_eq_true rfl) dX2_callOf_116) (fun y1008 T1007 hw l_T1007 H locs h => ?_)
    have f_a0 := l_T1007.is f_a0
    have f_b1001 := l_T1007.is f_b1001
    have f_b1003 := l_T1007.is f_b1003
    have f_b1005 := l_T1007.is f_b1005
    have f_b1006 := l_T1007.is f_b1006
    have hle := hle.tr l_T1007
    refine kp_calli X h (kp_runV (rm := { frames := 1, cells := 0, slots := 0, locals := 22 }) (mc := 0) (ms := 0) (rest := []) (Qc := fun A => kp_Qi D cy A T1007 _) X h (c_X0_add_ l D cy ad T1007 b1005 53 y1008 _ h.2.2.2 f_b1005 hw) f_b1005 cv_2_38 ⟨by dsimp only; omega, by dsimp only; omega, rfl, rfl, by dsimp only; omega, by dsimp only; omega⟩ rfl hl.1 rfl (Nat.le_of_ble_eq_true rfl) dX2_callOf_119) (fun y1010 T1009 hw l_T1009 H locs h => ?_)
    have f_a0 := l_T1009.is f_a0
    have f_b1001 := l_T1009.is f_b1001
    have f_b1003 := l_T1009.is f_b1003
    have f_b1005 := l_T1009.is f_b1005
    have f_b1006 := l_T1009.is f_b1006
    have hle := hle.tr l_T1009
    refine lv_pop X.1 X.2.1 dX2_callOf_122 rfl ?_
    exact kp_retv X hr hlocks h hle hw dX2_callOf_123
  have L45 : ∀ n45 : Nat, ∀ (xn4 : Int32) (xn5 : Int32) (Sn : kp_S) (H : Heap) (locs : List Loc) (ls : Array Slot), lv_has ls 6 [(0, .ref a0), (1, .long w1), (3, .int x3), (4, .int xn4), (5, .int xn5)] → kp_H D cy A Sn s.heap H locs → kp_le S Sn → kp_is Sn a0 2 → wX2_callOf_L45 U N a0 w1 x3  post n45 xn4 xn5 Sn → W p l e { frames := F + 3, cells := 0, slots := 0, locals := L + 67 } s m ([.ref a0, .long w1, .int x3] : List Value).toArray below meth c H locs 0 0 (MQ below (kp_Qv D cy A S post) ([.ref a0, .long w1, .int x3] : List Value).toArray s 0 0 A) (F0 m 45 ls []) := by
    intro n45
    induction n45 with
    | zero => intro xn4 xn5 Sn H locs ls hl h hle f_a0 hw; exact hw.elim
    | succ n45 ih45 =>
      intro xn4 xn5 Sn H locs ls hl h hle f_a0 hw
      unfold wX2_callOf_L45 at hw
      refine lv_iload X.1 X.2.1 dX2_callOf_45 (lv_at hl 4 rfl) ?_
      refine lv_sipush (v := 3000) X.1 X.2.1 dX2_callOf_47 (by decide) ?_
      refine lv_icmp_ge (tgt := 86) X.1 X.2.1 dX2_callOf_50 (by decide) (fun c2008 => ?_) (fun c2008 => ?_)
      · have hw := hw.1 c2008
        exact j86 xn4 Sn H locs ls (lv_sub hl [0, 1, 2, 3] rfl) h hle f_a0 hw
      · have hw := hw.2 c2008
        refine lv_aload_n X.1 X.2.1 dX2_callOf_53 rfl (lv_at hl 0 rfl) ?_
        obtain ⟨b2001, e_b2001, hw⟩ := hw
        have f_b2001 := h.2.2.2.rf (c := 2) (k := 0) f_a0 (by decide) (by decide) e_b2001 (t := 9) rfl
        refine kp_get X h f_a0 ff_2_9.l (v := .ref b2001) (congrArg va_rf e_b2001) dX2_callOf_54 ?_
        refine kp_get X h f_b2001 fp_2_27.l (v := .int (kp_I Sn 1805 b2001)) rfl dX2_callOf_57 ?_
        refine lv_bipush (v := 44) X.1 X.2.1 dX2_callOf_60 (by decide) ?_
        refine lv_icmp_ne (tgt := 86) X.1 X.2.1 dX2_callOf_62 (by decide) (fun c2007 => ?_) (fun c2007 => ?_)
        · have hw := hw.1 c2007
          exact j86 xn4 Sn H locs ls (lv_sub hl [0, 1, 2, 3] rfl) h hle f_a0 hw
        · have hw := hw.2 c2007
          refine lv_aload_n X.1 X.2.1 dX2_callOf_65 rfl (lv_at hl 0 rfl) ?_
          refine kp_get X h f_a0 ff_2_9.l (v := .ref b2001) (congrArg va_rf e_b2001) dX2_callOf_66 ?_
          refine kp_callv X h (kp_runV (rm := { frames := 5, cells := 0, slots := 0, locals := 113 }) (mc := 0) (ms := 0) (rest := []) (Qc := fun A => kp_Qv D cy A Sn _) X h (c_X9_advance l D cy ad Sn b2001 _ h.2.2.2 f_b2001 hw) f_b2001 cv_2_33 ⟨by dsimp only; omega, by dsimp only; omega, rfl, rfl, by dsimp only; omega, by dsimp only; omega⟩ rfl hl.1 rfl (Nat.le_of_ble_eq_true rfl) dX2_callOf_69) (fun T2002 hw l_T2002 H locs h => ?_)
          have f_a0 := l_T2002.is f_a0
          have f_b2001 := l_T2002.is f_b2001
          have hle := hle.tr l_T2002
          refine lv_aload_n X.1 X.2.1 dX2_callOf_72 rfl (lv_at hl 0 rfl) ?_
          refine kp_calli X h (kp_runV (rm := { frames := F + 2, cells := 0, slots := 0, locals := L + 44 }) (mc := 0) (ms := 0) (rest := []) (Qc := fun A => kp_Qi D cy A T2002 _) X h (c_X2_whole l D cy ad F L U N hU hN hF hL T2002 a0 _ h.2.2.2 f_a0 hw) f_a0 cv_2_108 ⟨by dsimp only; omega, by dsimp only; omega, rfl, rfl, by dsimp only; omega, by dsimp only; omega⟩ rfl hl.1 rfl (Nat.le_of_ble_eq_true rfl) dX2_callOf_73) (fun y2004 T2003 hw l_T2003 H locs h => ?_)
          have f_a0 := l_T2003.is f_a0
          have f_b2001 := l_T2003.is f_b2001
          have hle := hle.tr l_T2003
          refine lv_pop X.1 X.2.1 dX2_callOf_76 rfl ?_
          obtain ⟨y2005, e_y2005⟩ : ∃ y : Int32, y = xn4 + 1 := ⟨_, rfl⟩
          have hw := hw y2005 e_y2005
          refine lv_iinc (v := y2005) (lv' := [(4, .int y2005), (0, .ref a0), (1, .long w1), (3, .int x3), (5, .int xn5)]) X.1 X.2.1 dX2_callOf_77 hl (k := 3) rfl (by rw [e_y2005]; rfl) (by decide) rfl (fun ls hl => ?_)
          obtain ⟨y2006, e_y2006⟩ : ∃ y : Int32, y = xn5 + 1 := ⟨_, rfl⟩
          have hw := hw y2006 e_y2006
          refine lv_iinc (v := y2006) (lv' := [(5, .int y2006), (4, .int y2005), (0, .ref a0), (1, .long w1), (3, .int x3)]) X.1 X.2.1 dX2_callOf_80 hl (k := 4) rfl (by rw [e_y2006]; rfl) (by decide) rfl (fun ls hl => ?_)
          refine lv_goto (tgt := 45) X.1 X.2.1 dX2_callOf_83 (by decide) ?_
          exact ih45 y2005 y2006 T2003 H locs ls (lv_sub hl [2, 3, 4, 1, 0] rfl) h hle f_a0 hw
  unfold wX2_callOf at hw
  have h : kp_H D cy A S s.heap s.heap [] := h
  revert h
  intro h
  refine lv_aload_n X.1 X.2.1 dX2_callOf_0 rfl (lv_at hl 0 rfl) ?_
  obtain ⟨b1, e_b1, hw⟩ := hw
  have f_b1 := h.2.2.2.rf (c := 2) (k := 0) f_a0 (by decide) (by decide) e_b1 (t := 9) rfl
  refine kp_get X h f_a0 ff_2_9.l (v := .ref b1) (congrArg va_rf e_b1) dX2_callOf_1 ?_
  refine lv_bipush (v := 40) X.1 X.2.1 dX2_callOf_4 (by decide) ?_
  refine kp_callv X h (kp_runV (rm := { frames := 6, cells := 0, slots := 0, locals := 134 }) (mc := 0) (ms := 0) (rest := []) (Qc := fun A => kp_Qv D cy A S _) X h (c_X9_expectNest l D cy ad S b1 40 _ h.2.2.2 f_b1 hw) f_b1 cv_2_62 ⟨by dsimp only; omega, by dsimp only; omega, rfl, rfl, by dsimp only; omega, by dsimp only; omega⟩ rfl hl.1 rfl (Nat.le_of_ble_eq_true rfl) dX2_callOf_6) (fun T2 hw l_T2 H locs h => ?_)
  have f_a0 := l_T2.is f_a0
  have f_b1 := l_T2.is f_b1
  have hle := hle.tr l_T2
  refine lv_iconst (v := 0) X.1 X.2.1 dX2_callOf_9 (by decide) ?_
  refine lv_istore (lv' := [(4, .int 0), (0, .ref a0), (1, .long w1), (3, .int x3)]) X.1 X.2.1 dX2_callOf_10 hl (by decide) rfl (fun ls hl => ?_)
  refine lv_aload_n X.1 X.2.1 dX2_callOf_12 rfl (lv_at hl 1 rfl) ?_
  obtain ⟨b3, e_b3, hw⟩ := hw
  have f_b3 := h.2.2.2.rf (c := 2) (k := 0) f_a0 (by decide) (by decide) e_b3 (t := 9) rfl
  refine kp_get X h f_a0 ff_2_9.l (v := .ref b3) (congrArg va_rf e_b3) dX2_callOf_13 ?_
  refine kp_get X h f_b3 fp_2_27.l (v := .int (kp_I T2 1805 b3)) rfl dX2_callOf_16 ?_
  refine lv_bipush (v := 41) X.1 X.2.1 dX2_callOf_19 (by decide) ?_
  refine lv_icmp_eq (tgt := 86) X.1 X.2.1 dX2_callOf_21 (by decide) (fun c10 => ?_) (fun c10 => ?_)
  · have hw := hw.1 c10
    exact j86 0 T2 _ _ ls (lv_sub hl [1, 2, 3, 0] rfl) h hle f_a0 hw
  · have hw := hw.2 c10
    refine lv_aload_n X.1 X.2.1 dX2_callOf_24 rfl (lv_at hl 1 rfl) ?_
    refine kp_get X h f_a0 ff_2_9.l (v := .ref b3) (congrArg va_rf e_b3) dX2_callOf_25 ?_
    refine kp_calli X h (kp_runV (rm := { frames := 0, cells := 0, slots := 0, locals := 0 }) (mc := 0) (ms := 0) (rest := []) (Qc := fun A => kp_Qi D cy A T2 _) X h (c_X9_isStopped l D cy ad T2 b3 _ h.2.2.2 f_b3 hw) f_b3 cv_2_65 ⟨by dsimp only; omega, by dsimp only; omega, rfl, rfl, by dsimp only; omega, by dsimp only; omega⟩ rfl hl.1 rfl (Nat.le_of_ble_eq_true rfl) dX2_callOf_28) (fun y5 T4 hw l_T4 H locs h => ?_)
    have f_a0 := l_T4.is f_a0
    have f_b1 := l_T4.is f_b1
    have f_b3 := l_T4.is f_b3
    have hle := hle.tr l_T4
    refine lv_if_ne (tgt := 86) X.1 X.2.1 dX2_callOf_31 (by decide) (fun c9 => ?_) (fun c9 => ?_)
    · have hw := hw.1 c9
      exact j86 0 T4 _ _ ls (lv_sub hl [1, 2, 3, 0] rfl) h hle f_a0 hw
    · have hw := hw.2 c9
      refine lv_aload_n X.1 X.2.1 dX2_callOf_34 rfl (lv_at hl 1 rfl) ?_
      refine kp_calli X h (kp_runV (rm := { frames := F + 2, cells := 0, slots := 0, locals := L + 44 }) (mc := 0) (ms := 0) (rest := []) (Qc := fun A => kp_Qi D cy A T4 _) X h (c_X2_whole l D cy ad F L U N hU hN hF hL T4 a0 _ h.2.2.2 f_a0 hw) f_a0 cv_2_108 ⟨by dsimp only; omega, by dsimp only; omega, rfl, rfl, by dsimp only; omega, by dsimp only; omega⟩ rfl hl.1 rfl (Nat.le_of_ble_eq_true rfl) dX2_callOf_35) (fun y7 T6 hw l_T6 H locs h => ?_)
      have f_a0 := l_T6.is f_a0
      have f_b1 := l_T6.is f_b1
      have f_b3 := l_T6.is f_b3
      have hle := hle.tr l_T6
      refine lv_pop X.1 X.2.1 dX2_callOf_38 rfl ?_
      obtain ⟨y8, e_y8⟩ : ∃ y : Int32, y = 0 + 1 := ⟨_, rfl⟩
      have hw := hw y8 e_y8
      refine lv_iinc (v := y8) (lv' := [(4, .int y8), (0, .ref a0), (1, .long w1), (3, .int x3)]) X.1 X.2.1 dX2_callOf_39 hl (k := 0) rfl (by rw [e_y8]; rfl) (by decide) rfl (fun ls hl => ?_)
      refine lv_iconst (v := 0) X.1 X.2.1 dX2_callOf_42 (by decide) ?_
      refine lv_istore (lv' := [(5, .int 0), (4, .int y8), (0, .ref a0), (1, .long w1), (3, .int x3)]) X.1 X.2.1 dX2_callOf_43 hl (by decide) rfl (fun ls hl => ?_)
      obtain ⟨n0, hw⟩ := hw
      exact L45 n0 y8 0 T6 _ _ ls (lv_sub hl [2, 3, 4, 1, 0] rfl) h hle f_a0 hw
theorem dX2_nameOrCall_0 : decode cX2_nameOrCall 0 = .ok (.aload_n 0, 1) := by decide +kernel
theorem dX2_nameOrCall_1 : decode cX2_nameOrCall 1 = .ok (.getfield 9, 3) := by decide +kernel
theorem dX2_nameOrCall_4 : decode cX2_nameOrCall 4 = .ok (.getfield 116, 3) := by decide +kernel
theorem dX2_nameOrCall_7 : decode cX2_nameOrCall 7 = .ok (.lstore_n 1, 1) := by decide +kernel
theorem dX2_nameOrCall_8 : decode cX2_nameOrCall 8 = .ok (.aload_n 0, 1) := by decide +kernel
theorem dX2_nameOrCall_9 : decode cX2_nameOrCall 9 = .ok (.getfield 9, 3) := by decide +kernel
theorem dX2_nameOrCall_12 : decode cX2_nameOrCall 12 = .ok (.getfield 120, 3) := by decide +kernel
theorem dX2_nameOrCall_15 : decode cX2_nameOrCall 15 = .ok (.istore_n 3, 1) := by decide +kernel
theorem dX2_nameOrCall_16 : decode cX2_nameOrCall 16 = .ok (.aload_n 0, 1) := by decide +kernel
theorem dX2_nameOrCall_17 : decode cX2_nameOrCall 17 = .ok (.getfield 9, 3) := by decide +kernel
theorem dX2_nameOrCall_20 : decode cX2_nameOrCall 20 = .ok (.invokevirtual 33, 3) := by decide +kernel
theorem dX2_nameOrCall_23 : decode cX2_nameOrCall 23 = .ok (.aload_n 0, 1) := by decide +kernel
theorem dX2_nameOrCall_24 : decode cX2_nameOrCall 24 = .ok (.getfield 9, 3) := by decide +kernel
theorem dX2_nameOrCall_27 : decode cX2_nameOrCall 27 = .ok (.getfield 27, 3) := by decide +kernel
theorem dX2_nameOrCall_30 : decode cX2_nameOrCall 30 = .ok (.bipush 40, 2) := by decide +kernel
theorem dX2_nameOrCall_32 : decode cX2_nameOrCall 32 = .ok (.if_icmp .ne 11, 3) := by decide +kernel
theorem dX2_nameOrCall_35 : decode cX2_nameOrCall 35 = .ok (.aload_n 0, 1) := by decide +kernel
theorem dX2_nameOrCall_36 : decode cX2_nameOrCall 36 = .ok (.lload_n 1, 1) := by decide +kernel
theorem dX2_nameOrCall_37 : decode cX2_nameOrCall 37 = .ok (.iload_n 3, 1) := by decide +kernel
theorem dX2_nameOrCall_38 : decode cX2_nameOrCall 38 = .ok (.invokevirtual 123, 3) := by decide +kernel
theorem dX2_nameOrCall_41 : decode cX2_nameOrCall 41 = .ok (.iconst 1, 1) := by decide +kernel
theorem dX2_nameOrCall_42 : decode cX2_nameOrCall 42 = .ok (.ireturn, 1) := by decide +kernel
theorem dX2_nameOrCall_43 : decode cX2_nameOrCall 43 = .ok (.aload_n 0, 1) := by decide +kernel
theorem dX2_nameOrCall_44 : decode cX2_nameOrCall 44 = .ok (.getfield 19, 3) := by decide +kernel
theorem dX2_nameOrCall_47 : decode cX2_nameOrCall 47 = .ok (.iconst 2, 1) := by decide +kernel
theorem dX2_nameOrCall_48 : decode cX2_nameOrCall 48 = .ok (.aload_n 0, 1) := by decide +kernel
theorem dX2_nameOrCall_49 : decode cX2_nameOrCall 49 = .ok (.getfield 15, 3) := by decide +kernel
theorem dX2_nameOrCall_52 : decode cX2_nameOrCall 52 = .ok (.lload_n 1, 1) := by decide +kernel
theorem dX2_nameOrCall_53 : decode cX2_nameOrCall 53 = .ok (.iload_n 3, 1) := by decide +kernel
theorem dX2_nameOrCall_54 : decode cX2_nameOrCall 54 = .ok (.invokevirtual 127, 3) := by decide +kernel
theorem dX2_nameOrCall_57 : decode cX2_nameOrCall 57 = .ok (.invokevirtual 38, 3) := by decide +kernel
theorem dX2_nameOrCall_60 : decode cX2_nameOrCall 60 = .ok (.pop, 1) := by decide +kernel
theorem dX2_nameOrCall_61 : decode cX2_nameOrCall 61 = .ok (.iconst 0, 1) := by decide +kernel
theorem dX2_nameOrCall_62 : decode cX2_nameOrCall 62 = .ok (.ireturn, 1) := by decide +kernel
def wX2_nameOrCall (U : Nat → kp_S → (Int32 → kp_S → Prop) → Prop) (N : Nat → kp_S → (Int32 → kp_S → Prop) → Prop) (a0 : Nat) (S : kp_S) (post : Int32 → kp_S → Prop) : Prop :=
  ∃ b1 : Nat, kp_R S 400 a0 = some b1 ∧
  ∀ z2 : Int64, z2 = (kp_J S 1808 b1) →
  ∀ y3 : Int32, y3 = (kp_I S 1806 b1) →
  wX9_advance b1 S (fun T4 =>
  ∃ b5 : Nat, kp_R T4 400 a0 = some b5 ∧
  ((¬ (kp_I T4 1805 b5) = 40 →
  ∃ b6 : Nat, kp_R T4 402 a0 = some b6 ∧
  ∃ b7 : Nat, kp_R T4 401 a0 = some b7 ∧
  wX5_slotOf b7 z2 y3 T4 (fun y9 T8 =>
  wX0_add_ b6 2 y9 T8 (fun y11 T10 =>
  post 0 T10))) ∧ ((kp_I T4 1805 b5) = 40 →
  wX2_callOf U N a0 z2 y3 T4 (fun T12 =>
  post 1 T12))))
set_option maxHeartbeats 4000000 in
set_option maxRecDepth 100000 in
theorem c_X2_nameOrCall (l : Launch) (D : va_G) (cy : Nat → ClassId) (ad : (Nat → Nat) × (Nat → Nat)) (F L : Nat) (U : Nat → kp_S → (Int32 → kp_S → Prop) → Prop) (N : Nat → kp_S → (Int32 → kp_S → Prop) → Prop) (hU : ∀ (S : kp_S) (a0 : Nat) (post : Int32 → kp_S → Prop), kp_ok S → kp_is S a0 2 → U a0 S post → kp_M l yX2_unit cX2_unit 1 (some .int) { frames := F, cells := 0, slots := 0, locals := L } D cy ad S [.ref a0] 0 0 (fun A => kp_Qi D cy A S post)) (hN : ∀ (S : kp_S) (a0 : Nat) (post : Int32 → kp_S → Prop), kp_ok S → kp_is S a0 2 → N a0 S post → kp_M l yX2_negation cX2_negation 2 (some .int) { frames := F, cells := 0, slots := 0, locals := L } D cy ad S [.ref a0] 0 0 (fun A => kp_Qi D cy A S post)) (hF : 7 ≤ F) (hL : 155 ≤ L) (S : kp_S) (a0 : Nat) (post : Int32 → kp_S → Prop) (hS : kp_ok S) (f_a0 : kp_is S a0 2) (hw : wX2_nameOrCall U N a0 S post) : kp_M l yX2_nameOrCall cX2_nameOrCall 4 (some .int) { frames := F + 4, cells := 0, slots := 0, locals := L + 92 } D cy ad S [.ref a0] 0 0 (fun A => kp_Qi D cy A S post) := by
  refine kp_start (own := RX2) (by decide) rfl (Nat.le_of_ble_eq_true rfl) hS ?_
  intro p e s m below meth c A ls X hr hlocks hname h hl
  have hle : kp_le S S := kp_le.rf
  have hl : lv_has ls 4 [(0, .ref a0)] := hl
  unfold wX2_nameOrCall at hw
  have h : kp_H D cy A S s.heap s.heap [] := h
  revert h
  intro h
  refine lv_aload_n X.1 X.2.1 dX2_nameOrCall_0 rfl (lv_at hl 0 rfl) ?_
  obtain ⟨b1, e_b1, hw⟩ := hw
  have f_b1 := h.2.2.2.rf (c := 2) (k := 0) f_a0 (by decide) (by decide) e_b1 (t := 9) rfl
  refine kp_get X h f_a0 ff_2_9.l (v := .ref b1) (congrArg va_rf e_b1) dX2_nameOrCall_1 ?_
  refine kp_get X h f_b1 fp_2_116.l (v := .long (kp_J S 1808 b1)) rfl dX2_nameOrCall_4 ?_
  refine lv_topl (fun z2 e_z2 => ?_)
  have hw := hw z2 e_z2
  refine lv_lstore_n (lv' := [(1, .long z2), (0, .ref a0)]) X.1 X.2.1 dX2_nameOrCall_7 rfl hl (by decide) rfl (fun ls hl => ?_)
  refine lv_aload_n X.1 X.2.1 dX2_nameOrCall_8 rfl (lv_at hl 1 rfl) ?_
  refine kp_get X h f_a0 ff_2_9.l (v := .ref b1) (congrArg va_rf e_b1) dX2_nameOrCall_9 ?_
  refine kp_get X h f_b1 fp_2_120.l (v := .int (kp_I S 1806 b1)) rfl dX2_nameOrCall_12 ?_
  refine lv_topi (fun y3 e_y3 => ?_)
  have hw := hw y3 e_y3
  refine lv_istore_n (lv' := [(3, .int y3), (1, .long z2), (0, .ref a0)]) X.1 X.2.1 dX2_nameOrCall_15 rfl hl (by decide) rfl (fun ls hl => ?_)
  refine lv_aload_n X.1 X.2.1 dX2_nameOrCall_16 rfl (lv_at hl 2 rfl) ?_
  refine kp_get X h f_a0 ff_2_9.l (v := .ref b1) (congrArg va_rf e_b1) dX2_nameOrCall_17 ?_
  refine kp_callv X h (kp_runV (rm := { frames := 5, cells := 0, slots := 0, locals := 113 }) (mc := 0) (ms := 0) (rest := []) (Qc := fun A => kp_Qv D cy A S _) X h (c_X9_advance l D cy ad S b1 _ h.2.2.2 f_b1 hw) f_b1 cv_2_33 ⟨by dsimp only; omega, by dsimp only; omega, rfl, rfl, by dsimp only; omega, by dsimp only; omega⟩ rfl hl.1 rfl (Nat.le_of_ble_eq_true rfl) dX2_nameOrCall_20) (fun T4 hw l_T4 H locs h => ?_)
  have f_a0 := l_T4.is f_a0
  have f_b1 := l_T4.is f_b1
  have hle := hle.tr l_T4
  refine lv_aload_n X.1 X.2.1 dX2_nameOrCall_23 rfl (lv_at hl 2 rfl) ?_
  obtain ⟨b5, e_b5, hw⟩ := hw
  have f_b5 := h.2.2.2.rf (c := 2) (k := 0) f_a0 (by decide) (by decide) e_b5 (t := 9) rfl
  refine kp_get X h f_a0 ff_2_9.l (v := .ref b5) (congrArg va_rf e_b5) dX2_nameOrCall_24 ?_
  refine kp_get X h f_b5 fp_2_27.l (v := .int (kp_I T4 1805 b5)) rfl dX2_nameOrCall_27 ?_
  refine lv_bipush (v := 40) X.1 X.2.1 dX2_nameOrCall_30 (by decide) ?_
  refine lv_icmp_ne (tgt := 43) X.1 X.2.1 dX2_nameOrCall_32 (by decide) (fun c13 => ?_) (fun c13 => ?_)
  · have hw := hw.1 c13
    refine lv_aload_n X.1 X.2.1 dX2_nameOrCall_43 rfl (lv_at hl 2 rfl) ?_
    obtain ⟨b6, e_b6, hw⟩ := hw
    have f_b6 := h.2.2.2.rf (c := 2) (k := 2) f_a0 (by decide) (by decide) e_b6 (t := 0) rfl
    refine kp_get X h f_a0 fp_2_19.l (v := .ref b6) (congrArg va_rf e_b6) dX2_nameOrCall_44 ?_
    refine lv_iconst (v := 2) X.1 X.2.1 dX2_nameOrCall_47 (by decide) ?_
    refine lv_aload_n X.1 X.2.1 dX2_nameOrCall_48 rfl (lv_at hl 2 rfl) ?_
    obtain ⟨b7, e_b7, hw⟩ := hw
    have f_b7 := h.2.2.2.rf (c := 2) (k := 1) f_a0 (by decide) (by decide) e_b7 (t := 5) rfl
    refine kp_get X h f_a0 ff_2_15.l (v := .ref b7) (congrArg va_rf e_b7) dX2_nameOrCall_49 ?_
    refine lv_lload_n X.1 X.2.1 dX2_nameOrCall_52 rfl (lv_at hl 1 rfl) ?_
    refine lv_iload_n X.1 X.2.1 dX2_nameOrCall_53 rfl (lv_at hl 0 rfl) ?_
    refine kp_calli X h (kp_runV (rm := { frames := 1, cells := 0, slots := 0, locals := 23 }) (mc := 0) (ms := 0) (rest := [.int 2, .ref b6]) (Qc := fun A => kp_Qi D cy A T4 _) X h (c_X5_slotOf l D cy ad T4 b7 z2 y3 _ h.2.2.2 f_b7 hw) f_b7 cv_2_127 ⟨by dsimp only; omega, by dsimp only; omega, rfl, rfl, by dsimp only; omega, by dsimp only; omega⟩ rfl hl.1 rfl (Nat.le_of_ble_eq_true rfl) dX2_nameOrCall_54) (fun y9 T8 hw l_T8 H locs h => ?_)
    have f_a0 := l_T8.is f_a0
    have f_b1 := l_T8.is f_b1
    have f_b5 := l_T8.is f_b5
    have f_b6 := l_T8.is f_b6
    have f_b7 := l_T8.is f_b7
    have hle := hle.tr l_T8
    refine kp_calli X h (kp_runV (rm := { frames := 1, cells := 0, slots := 0, locals := 22 }) (mc := 0) (ms := 0) (rest := []) (Qc := fun A => kp_Qi D cy A T8 _) X h (c_X0_add_ l D cy ad T8 b6 2 y9 _ h.2.2.2 f_b6 hw) f_b6 cv_2_38 ⟨by dsimp only; omega, by dsimp only; omega, rfl, rfl, by dsimp only; omega, by dsimp only; omega⟩ rfl hl.1 rfl (Nat.le_of_ble_eq_true rfl) dX2_nameOrCall_57) (fun y11 T10 hw l_T10 H locs h => ?_)
    have f_a0 := l_T10.is f_a0
    have f_b1 := l_T10.is f_b1
    have f_b5 := l_T10.is f_b5
    have f_b6 := l_T10.is f_b6
    have f_b7 := l_T10.is f_b7
    have hle := hle.tr l_T10
    refine lv_pop X.1 X.2.1 dX2_nameOrCall_60 rfl ?_
    refine lv_iconst (v := 0) X.1 X.2.1 dX2_nameOrCall_61 (by decide) ?_
    exact kp_reti X hr hlocks h hle rfl hw dX2_nameOrCall_62
  · have hw := hw.2 c13
    refine lv_aload_n X.1 X.2.1 dX2_nameOrCall_35 rfl (lv_at hl 2 rfl) ?_
    refine lv_lload_n X.1 X.2.1 dX2_nameOrCall_36 rfl (lv_at hl 1 rfl) ?_
    refine lv_iload_n X.1 X.2.1 dX2_nameOrCall_37 rfl (lv_at hl 0 rfl) ?_
    refine kp_callv X h (kp_runV (rm := { frames := F + 3, cells := 0, slots := 0, locals := L + 67 }) (mc := 0) (ms := 0) (rest := []) (Qc := fun A => kp_Qv D cy A T4 _) X h (c_X2_callOf l D cy ad F L U N hU hN hF hL T4 a0 z2 y3 _ h.2.2.2 f_a0 hw) f_a0 cv_2_123 ⟨by dsimp only; omega, by dsimp only; omega, rfl, rfl, by dsimp only; omega, by dsimp only; omega⟩ rfl hl.1 rfl (Nat.le_of_ble_eq_true rfl) dX2_nameOrCall_38) (fun T12 hw l_T12 H locs h => ?_)
    have f_a0 := l_T12.is f_a0
    have f_b1 := l_T12.is f_b1
    have f_b5 := l_T12.is f_b5
    have hle := hle.tr l_T12
    refine lv_iconst (v := 1) X.1 X.2.1 dX2_nameOrCall_41 (by decide) ?_
    exact kp_reti X hr hlocks h hle rfl hw dX2_nameOrCall_42
theorem dX2_query_0 : decode cX2_query 0 = .ok (.aload_n 0, 1) := by decide +kernel
theorem dX2_query_1 : decode cX2_query 1 = .ok (.getfield 9, 3) := by decide +kernel
theorem dX2_query_4 : decode cX2_query 4 = .ok (.invokevirtual 33, 3) := by decide +kernel
theorem dX2_query_7 : decode cX2_query 7 = .ok (.aload_n 0, 1) := by decide +kernel
theorem dX2_query_8 : decode cX2_query 8 = .ok (.getfield 9, 3) := by decide +kernel
theorem dX2_query_11 : decode cX2_query 11 = .ok (.bipush 40, 2) := by decide +kernel
theorem dX2_query_13 : decode cX2_query 13 = .ok (.invokevirtual 62, 3) := by decide +kernel
theorem dX2_query_16 : decode cX2_query 16 = .ok (.iconst 0, 1) := by decide +kernel
theorem dX2_query_17 : decode cX2_query 17 = .ok (.istore_n 3, 1) := by decide +kernel
theorem dX2_query_18 : decode cX2_query 18 = .ok (.iload_n 3, 1) := by decide +kernel
theorem dX2_query_19 : decode cX2_query 19 = .ok (.iload_n 2, 1) := by decide +kernel
theorem dX2_query_20 : decode cX2_query 20 = .ok (.if_icmp .ge 37, 3) := by decide +kernel
theorem dX2_query_23 : decode cX2_query 23 = .ok (.aload_n 0, 1) := by decide +kernel
theorem dX2_query_24 : decode cX2_query 24 = .ok (.getfield 9, 3) := by decide +kernel
theorem dX2_query_27 : decode cX2_query 27 = .ok (.invokevirtual 65, 3) := by decide +kernel
theorem dX2_query_30 : decode cX2_query 30 = .ok (.ifCond .ne 27, 3) := by decide +kernel
theorem dX2_query_33 : decode cX2_query 33 = .ok (.iload_n 3, 1) := by decide +kernel
theorem dX2_query_34 : decode cX2_query 34 = .ok (.ifCond .le 12, 3) := by decide +kernel
theorem dX2_query_37 : decode cX2_query 37 = .ok (.aload_n 0, 1) := by decide +kernel
theorem dX2_query_38 : decode cX2_query 38 = .ok (.getfield 9, 3) := by decide +kernel
theorem dX2_query_41 : decode cX2_query 41 = .ok (.bipush 44, 2) := by decide +kernel
theorem dX2_query_43 : decode cX2_query 43 = .ok (.invokevirtual 111, 3) := by decide +kernel
theorem dX2_query_46 : decode cX2_query 46 = .ok (.aload_n 0, 1) := by decide +kernel
theorem dX2_query_47 : decode cX2_query 47 = .ok (.invokevirtual 108, 3) := by decide +kernel
theorem dX2_query_50 : decode cX2_query 50 = .ok (.pop, 1) := by decide +kernel
theorem dX2_query_51 : decode cX2_query 51 = .ok (.iinc 3 1, 3) := by decide +kernel
theorem dX2_query_54 : decode cX2_query 54 = .ok (.goto (-36), 3) := by decide +kernel
theorem dX2_query_57 : decode cX2_query 57 = .ok (.aload_n 0, 1) := by decide +kernel
theorem dX2_query_58 : decode cX2_query 58 = .ok (.getfield 9, 3) := by decide +kernel
theorem dX2_query_61 : decode cX2_query 61 = .ok (.invokevirtual 69, 3) := by decide +kernel
theorem dX2_query_64 : decode cX2_query 64 = .ok (.aload_n 0, 1) := by decide +kernel
theorem dX2_query_65 : decode cX2_query 65 = .ok (.getfield 9, 3) := by decide +kernel
theorem dX2_query_68 : decode cX2_query 68 = .ok (.bipush 41, 2) := by decide +kernel
theorem dX2_query_70 : decode cX2_query 70 = .ok (.invokevirtual 111, 3) := by decide +kernel
theorem dX2_query_73 : decode cX2_query 73 = .ok (.aload_n 0, 1) := by decide +kernel
theorem dX2_query_74 : decode cX2_query 74 = .ok (.getfield 19, 3) := by decide +kernel
theorem dX2_query_77 : decode cX2_query 77 = .ok (.iload_n 1, 1) := by decide +kernel
theorem dX2_query_78 : decode cX2_query 78 = .ok (.invokevirtual 49, 3) := by decide +kernel
theorem dX2_query_81 : decode cX2_query 81 = .ok (.pop, 1) := by decide +kernel
theorem dX2_query_82 : decode cX2_query 82 = .ok (.iconst 1, 1) := by decide +kernel
theorem dX2_query_83 : decode cX2_query 83 = .ok (.ireturn, 1) := by decide +kernel
def wX2_query_b57 (U : Nat → kp_S → (Int32 → kp_S → Prop) → Prop) (N : Nat → kp_S → (Int32 → kp_S → Prop) → Prop) (a0 : Nat) (x1 : Int32) (x2 : Int32)  (Sn : kp_S) (post : Int32 → kp_S → Prop) : Prop :=
  ∃ b1001 : Nat, kp_R Sn 400 a0 = some b1001 ∧
  wX9_endNest b1001 Sn (fun T1002 =>
  ∃ b1003 : Nat, kp_R T1002 400 a0 = some b1003 ∧
  wX9_expect b1003 41 T1002 (fun T1004 =>
  ∃ b1005 : Nat, kp_R T1004 402 a0 = some b1005 ∧
  wX0_add b1005 x1 T1004 (fun y1007 T1006 =>
  post 1 T1006)))
def wX2_query_b46 (U : Nat → kp_S → (Int32 → kp_S → Prop) → Prop) (N : Nat → kp_S → (Int32 → kp_S → Prop) → Prop) (a0 : Nat) (x1 : Int32) (x2 : Int32) (xn3 : Int32) (K18 : Int32 → kp_S → Prop) (Sn : kp_S) (post : Int32 → kp_S → Prop) : Prop :=
  wX2_whole U N a0 Sn (fun y2002 T2001 =>
  ∀ y2003 : Int32, y2003 = xn3 + 1 →
  K18 y2003 T2001)
def wX2_query_L18 (U : Nat → kp_S → (Int32 → kp_S → Prop) → Prop) (N : Nat → kp_S → (Int32 → kp_S → Prop) → Prop) (a0 : Nat) (x1 : Int32) (x2 : Int32)  (post : Int32 → kp_S → Prop) : Nat → Int32 → kp_S → Prop
  | 0, _, _ => False
  | n + 1, xn3, Sn =>
  ((x2 ≤ xn3 →
  wX2_query_b57 U N a0 x1 x2   Sn post) ∧ (¬ x2 ≤ xn3 →
  ∃ b3001 : Nat, kp_R Sn 400 a0 = some b3001 ∧
  wX9_isStopped b3001 Sn (fun y3003 T3002 =>
  ((¬ y3003 = 0 →
  wX2_query_b57 U N a0 x1 x2   T3002 post) ∧ (y3003 = 0 →
  ((xn3 ≤ 0 →
  wX2_query_b46 U N a0 x1 x2 xn3 (fun xn3_ S_ => wX2_query_L18 U N a0 x1 x2  post n xn3_ S_) T3002 post) ∧ (¬ xn3 ≤ 0 →
  ∃ b3004 : Nat, kp_R T3002 400 a0 = some b3004 ∧
  wX9_expect b3004 44 T3002 (fun T3005 =>
  wX2_query_b46 U N a0 x1 x2 xn3 (fun xn3_ S_ => wX2_query_L18 U N a0 x1 x2  post n xn3_ S_) T3005 post))))))))
def wX2_query (U : Nat → kp_S → (Int32 → kp_S → Prop) → Prop) (N : Nat → kp_S → (Int32 → kp_S → Prop) → Prop) (a0 : Nat) (x1 : Int32) (x2 : Int32) (S : kp_S) (post : Int32 → kp_S → Prop) : Prop :=
  ∃ b1 : Nat, kp_R S 400 a0 = some b1 ∧
  wX9_advance b1 S (fun T2 =>
  ∃ b3 : Nat, kp_R T2 400 a0 = some b3 ∧
  wX9_expectNest b3 40 T2 (fun T4 =>
  ∃ n0 : Nat, wX2_query_L18 U N a0 x1 x2  post n0 0 T4))
set_option maxHeartbeats 4000000 in
set_option maxRecDepth 100000 in
theorem c_X2_query (l : Launch) (D : va_G) (cy : Nat → ClassId) (ad : (Nat → Nat) × (Nat → Nat)) (F L : Nat) (U : Nat → kp_S → (Int32 → kp_S → Prop) → Prop) (N : Nat → kp_S → (Int32 → kp_S → Prop) → Prop) (hU : ∀ (S : kp_S) (a0 : Nat) (post : Int32 → kp_S → Prop), kp_ok S → kp_is S a0 2 → U a0 S post → kp_M l yX2_unit cX2_unit 1 (some .int) { frames := F, cells := 0, slots := 0, locals := L } D cy ad S [.ref a0] 0 0 (fun A => kp_Qi D cy A S post)) (hN : ∀ (S : kp_S) (a0 : Nat) (post : Int32 → kp_S → Prop), kp_ok S → kp_is S a0 2 → N a0 S post → kp_M l yX2_negation cX2_negation 2 (some .int) { frames := F, cells := 0, slots := 0, locals := L } D cy ad S [.ref a0] 0 0 (fun A => kp_Qi D cy A S post)) (hF : 7 ≤ F) (hL : 155 ≤ L) (S : kp_S) (a0 : Nat) (x1 : Int32) (x2 : Int32) (post : Int32 → kp_S → Prop) (hS : kp_ok S) (f_a0 : kp_is S a0 2) (hw : wX2_query U N a0 x1 x2 S post) : kp_M l yX2_query cX2_query 4 (some .int) { frames := F + 3, cells := 0, slots := 0, locals := L + 67 } D cy ad S [.ref a0, .int x1, .int x2] 0 0 (fun A => kp_Qi D cy A S post) := by
  refine kp_start (own := RX2) (by decide) rfl (Nat.le_of_ble_eq_true rfl) hS ?_
  intro p e s m below meth c A ls X hr hlocks hname h hl
  have hle : kp_le S S := kp_le.rf
  have hl : lv_has ls 4 [(0, .ref a0), (1, .int x1), (2, .int x2)] := hl
  have j57 : ∀  (Sn : kp_S) (H : Heap) (locs : List Loc) (ls : Array Slot), lv_has ls 4 [(0, .ref a0), (1, .int x1)] → kp_H D cy A Sn s.heap H locs → kp_le S Sn → kp_is Sn a0 2 → wX2_query_b57 U N a0 x1 x2   Sn post → W p l e { frames := F + 3, cells := 0, slots := 0, locals := L + 67 } s m ([.ref a0, .int x1, .int x2] : List Value).toArray below meth c H locs 0 0 (MQ below (kp_Qi D cy A S post) ([.ref a0, .int x1, .int x2] : List Value).toArray s 0 0 A) (F0 m 57 ls []) := by
    intro  Sn H locs ls hl h hle f_a0 hw
    unfold wX2_query_b57 at hw
    refine lv_aload_n X.1 X.2.1 dX2_query_57 rfl (lv_at hl 0 rfl) ?_
    obtain ⟨b1001, e_b1001, hw⟩ := hw
    have f_b1001 := h.2.2.2.rf (c := 2) (k := 0) f_a0 (by decide) (by decide) e_b1001 (t := 9) rfl
    refine kp_get X h f_a0 ff_2_9.l (v := .ref b1001) (congrArg va_rf e_b1001) dX2_query_58 ?_
    refine kp_callv X h (kp_runV (rm := { frames := 0, cells := 0, slots := 0, locals := 0 }) (mc := 0) (ms := 0) (rest := []) (Qc := fun A => kp_Qv D cy A Sn _) X h (c_X9_endNest l D cy ad Sn b1001 _ h.2.2.2 f_b1001 hw) f_b1001 cv_2_69 ⟨by dsimp only; omega, by dsimp only; omega, rfl, rfl, by dsimp only; omega, by dsimp only; omega⟩ rfl hl.1 rfl (Nat.le_of_ble_eq_true rfl) dX2_query_61) (fun T1002 hw l_T1002 H locs h => ?_)
    have f_a0 := l_T1002.is f_a0
    have f_b1001 := l_T1002.is f_b1001
    have hle := hle.tr l_T1002
    refine lv_aload_n X.1 X.2.1 dX2_query_64 rfl (lv_at hl 0 rfl) ?_
    obtain ⟨b1003, e_b1003, hw⟩ := hw
    have f_b1003 := h.2.2.2.rf (c := 2) (k := 0) f_a0 (by decide) (by decide) e_b1003 (t := 9) rfl
    refine kp_get X h f_a0 ff_2_9.l (v := .ref b1003) (congrArg va_rf e_b1003) dX2_query_65 ?_
    refine lv_bipush (v := 41) X.1 X.2.1 dX2_query_68 (by decide) ?_
    refine kp_callv X h (kp_runV (rm := { frames := 6, cells := 0, slots := 0, locals := 134 }) (mc := 0) (ms := 0) (rest := []) (Qc := fun A => kp_Qv D cy A T1002 _) X h (c_X9_expect l D cy ad T1002 b1003 41 _ h.2.2.2 f_b1003 hw) f_b1003 cv_2_111 ⟨by dsimp only; omega, by dsimp only; omega, rfl, rfl, by dsimp only; omega, by dsimp only; omega⟩ rfl hl.1 rfl (Nat.le_of_ble_eq_true rfl) dX2_query_70) (fun T1004 hw l_T1004 H locs h => ?_)
    have f_a0 := l_T1004.is f_a0
    have f_b1001 := l_T1004.is f_b1001
    have f_b1003 := l_T1004.is f_b1003
    have hle := hle.tr l_T1004
    refine lv_aload_n X.1 X.2.1 dX2_query_73 rfl (lv_at hl 0 rfl) ?_
    obtain ⟨b1005, e_b1005, hw⟩ := hw
    have f_b1005 := h.2.2.2.rf (c := 2) (k := 2) f_a0 (by decide) (by decide) e_b1005 (t := 0) rfl
    refine kp_get X h f_a0 fp_2_19.l (v := .ref b1005) (congrArg va_rf e_b1005) dX2_query_74 ?_
    refine lv_iload_n X.1 X.2.1 dX2_query_77 rfl (lv_at hl 1 rfl) ?_
    refine kp_calli X h (kp_runV (rm := { frames := 0, cells := 0, slots := 0, locals := 0 }) (mc := 0) (ms := 0) (rest := []) (Qc := fun A => kp_Qi D cy A T1004 _) X h (c_X0_add l D cy ad T1004 b1005 x1 _ h.2.2.2 f_b1005 hw) f_b1005 cv_2_49 ⟨by dsimp only; omega, by dsimp only; omega, rfl, rfl, by dsimp only; omega, by dsimp only; omega⟩ rfl hl.1 rfl (Nat.le_of_ble_eq_true rfl) dX2_query_78) (fun y1007 T1006 hw l_T1006 H locs h => ?_)
    have f_a0 := l_T1006.is f_a0
    have f_b1001 := l_T1006.is f_b1001
    have f_b1003 := l_T1006.is f_b1003
    have f_b1005 := l_T1006.is f_b1005
    have hle := hle.tr l_T1006
    refine lv_pop X.1 X.2.1 dX2_query_81 rfl ?_
    refine lv_iconst (v := 1) X.1 X.2.1 dX2_query_82 (by decide) ?_
    exact kp_reti X hr hlocks h hle rfl hw dX2_query_83
  have L18 : ∀ n18 : Nat, ∀ (xn3 : Int32) (Sn : kp_S) (H : Heap) (locs : List Loc) (ls : Array Slot), lv_has ls 4 [(0, .ref a0), (1, .int x1), (2, .int x2), (3, .int xn3)] → kp_H D cy A Sn s.heap H locs → kp_le S Sn → kp_is Sn a0 2 → wX2_query_L18 U N a0 x1 x2  post n18 xn3 Sn → W p l e { frames := F + 3, cells := 0, slots := 0, locals := L + 67 } s m ([.ref a0, .int x1, .int x2] : List Value).toArray below meth c H locs 0 0 (MQ below (kp_Qi D cy A S post) ([.ref a0, .int x1, .int x2] : List Value).toArray s 0 0 A) (F0 m 18 ls []) := by
    intro n18
    induction n18 with
    | zero => intro xn3 Sn H locs ls hl h hle f_a0 hw; exact hw.elim
    | succ n18 ih18 =>
      have j46 : ∀ (xn3 : Int32) (Sn : kp_S) (H : Heap) (locs : List Loc) (ls : Array Slot), lv_has ls 4 [(0, .ref a0), (1, .int x1), (2, .int x2), (3, .int xn3)] → kp_H D cy A Sn s.heap H locs → kp_le S Sn → kp_is Sn a0 2 → wX2_query_b46 U N a0 x1 x2 xn3 (fun xn3_ S_ => wX2_query_L18 U N a0 x1 x2  post n18 xn3_ S_) Sn post → W p l e { frames := F + 3, cells := 0, slots := 0, locals := L + 67 } s m ([.ref a0, .int x1, .int x2] : List Value).toArray below meth c H locs 0 0 (MQ below (kp_Qi D cy A S post) ([.ref a0, .int x1, .int x2] : List Value).toArray s 0 0 A) (F0 m 46 ls []) := by
        intro xn3 Sn H locs ls hl h hle f_a0 hw
        unfold wX2_query_b46 at hw
        refine lv_aload_n X.1 X.2.1 dX2_query_46 rfl (lv_at hl 0 rfl) ?_
        refine kp_calli X h (kp_runV (rm := { frames := F + 2, cells := 0, slots := 0, locals := L + 44 }) (mc := 0) (ms := 0) (rest := []) (Qc := fun A => kp_Qi D cy A Sn _) X h (c_X2_whole l D cy ad F L U N hU hN hF hL Sn a0 _ h.2.2.2 f_a0 hw) f_a0 cv_2_108 ⟨by dsimp only; omega, by dsimp only; omega, rfl, rfl, by dsimp only; omega, by dsimp only; omega⟩ rfl hl.1 rfl (Nat.le_of_ble_eq_true rfl) dX2_query_47) (fun y2002 T2001 hw l_T2001 H locs h => ?_)
        have f_a0 := l_T2001.is f_a0
        have hle := hle.tr l_T2001
        refine lv_pop X.1 X.2.1 dX2_query_50 rfl ?_
        obtain ⟨y2003, e_y2003⟩ : ∃ y : Int32, y = xn3 + 1 := ⟨_, rfl⟩
        have hw := hw y2003 e_y2003
        refine lv_iinc (v := y2003) (lv' := [(3, .int y2003), (0, .ref a0), (1, .int x1), (2, .int x2)]) X.1 X.2.1 dX2_query_51 hl (k := 3) rfl (by rw [e_y2003]; rfl) (by decide) rfl (fun ls hl => ?_)
        refine lv_goto (tgt := 18) X.1 X.2.1 dX2_query_54 (by decide) ?_
        exact ih18 y2003 T2001 H locs ls (lv_sub hl [1, 2, 3, 0] rfl) h hle f_a0 hw
      intro xn3 Sn H locs ls hl h hle f_a0 hw
      unfold wX2_query_L18 at hw
      refine lv_iload_n X.1 X.2.1 dX2_query_18 rfl (lv_at hl 3 rfl) ?_
      refine lv_iload_n X.1 X.2.1 dX2_query_19 rfl (lv_at hl 2 rfl) ?_
      refine lv_icmp_ge (tgt := 57) X.1 X.2.1 dX2_query_20 (by decide) (fun c3008 => ?_) (fun c3008 => ?_)
      · have hw := hw.1 c3008
        exact j57  Sn H locs ls (lv_sub hl [0, 1] rfl) h hle f_a0 hw
      · have hw := hw.2 c3008
        refine lv_aload_n X.1 X.2.1 dX2_query_23 rfl (lv_at hl 0 rfl) ?_
        obtain ⟨b3001, e_b3001, hw⟩ := hw
        have f_b3001 := h.2.2.2.rf (c := 2) (k := 0) f_a0 (by decide) (by decide) e_b3001 (t := 9) rfl
        refine kp_get X h f_a0 ff_2_9.l (v := .ref b3001) (congrArg va_rf e_b3001) dX2_query_24 ?_
        refine kp_calli X h (kp_runV (rm := { frames := 0, cells := 0, slots := 0, locals := 0 }) (mc := 0) (ms := 0) (rest := []) (Qc := fun A => kp_Qi D cy A Sn _) X h (c_X9_isStopped l D cy ad Sn b3001 _ h.2.2.2 f_b3001 hw) f_b3001 cv_2_65 ⟨by dsimp only; omega, by dsimp only; omega, rfl, rfl, by dsimp only; omega, by dsimp only; omega⟩ rfl hl.1 rfl (Nat.le_of_ble_eq_true rfl) dX2_query_27) (fun y3003 T3002 hw l_T3002 H locs h => ?_)
        have f_a0 := l_T3002.is f_a0
        have f_b3001 := l_T3002.is f_b3001
        have hle := hle.tr l_T3002
        refine lv_if_ne (tgt := 57) X.1 X.2.1 dX2_query_30 (by decide) (fun c3007 => ?_) (fun c3007 => ?_)
        · have hw := hw.1 c3007
          exact j57  T3002 H locs ls (lv_sub hl [0, 1] rfl) h hle f_a0 hw
        · have hw := hw.2 c3007
          refine lv_iload_n X.1 X.2.1 dX2_query_33 rfl (lv_at hl 3 rfl) ?_
          refine lv_if_le (tgt := 46) X.1 X.2.1 dX2_query_34 (by decide) (fun c3006 => ?_) (fun c3006 => ?_)
          · have hw := hw.1 c3006
            exact j46 xn3 T3002 H locs ls (lv_sub hl [0, 1, 2, 3] rfl) h hle f_a0 hw
          · have hw := hw.2 c3006
            refine lv_aload_n X.1 X.2.1 dX2_query_37 rfl (lv_at hl 0 rfl) ?_
            obtain ⟨b3004, e_b3004, hw⟩ := hw
            have f_b3004 := h.2.2.2.rf (c := 2) (k := 0) f_a0 (by decide) (by decide) e_b3004 (t := 9) rfl
            refine kp_get X h f_a0 ff_2_9.l (v := .ref b3004) (congrArg va_rf e_b3004) dX2_query_38 ?_
            refine lv_bipush (v := 44) X.1 X.2.1 dX2_query_41 (by decide) ?_
            refine kp_callv X h (kp_runV (rm := { frames := 6, cells := 0, slots := 0, locals := 134 }) (mc := 0) (ms := 0) (rest := []) (Qc := fun A => kp_Qv D cy A T3002 _) X h (c_X9_expect l D cy ad T3002 b3004 44 _ h.2.2.2 f_b3004 hw) f_b3004 cv_2_111 ⟨by dsimp only; omega, by dsimp only; omega, rfl, rfl, by dsimp only; omega, by dsimp only; omega⟩ rfl hl.1 rfl (Nat.le_of_ble_eq_true rfl) dX2_query_43) (fun T3005 hw l_T3005 H locs h => ?_)
            have f_a0 := l_T3005.is f_a0
            have f_b3001 := l_T3005.is f_b3001
            have f_b3004 := l_T3005.is f_b3004
            have hle := hle.tr l_T3005
            exact j46 xn3 T3005 H locs ls (lv_sub hl [0, 1, 2, 3] rfl) h hle f_a0 hw
  unfold wX2_query at hw
  have h : kp_H D cy A S s.heap s.heap [] := h
  revert h
  intro h
  refine lv_aload_n X.1 X.2.1 dX2_query_0 rfl (lv_at hl 0 rfl) ?_
  obtain ⟨b1, e_b1, hw⟩ := hw
  have f_b1 := h.2.2.2.rf (c := 2) (k := 0) f_a0 (by decide) (by decide) e_b1 (t := 9) rfl
  refine kp_get X h f_a0 ff_2_9.l (v := .ref b1) (congrArg va_rf e_b1) dX2_query_1 ?_
  refine kp_callv X h (kp_runV (rm := { frames := 5, cells := 0, slots := 0, locals := 113 }) (mc := 0) (ms := 0) (rest := []) (Qc := fun A => kp_Qv D cy A S _) X h (c_X9_advance l D cy ad S b1 _ h.2.2.2 f_b1 hw) f_b1 cv_2_33 ⟨by dsimp only; omega, by dsimp only; omega, rfl, rfl, by dsimp only; omega, by dsimp only; omega⟩ rfl hl.1 rfl (Nat.le_of_ble_eq_true rfl) dX2_query_4) (fun T2 hw l_T2 H locs h => ?_)
  have f_a0 := l_T2.is f_a0
  have f_b1 := l_T2.is f_b1
  have hle := hle.tr l_T2
  refine lv_aload_n X.1 X.2.1 dX2_query_7 rfl (lv_at hl 0 rfl) ?_
  obtain ⟨b3, e_b3, hw⟩ := hw
  have f_b3 := h.2.2.2.rf (c := 2) (k := 0) f_a0 (by decide) (by decide) e_b3 (t := 9) rfl
  refine kp_get X h f_a0 ff_2_9.l (v := .ref b3) (congrArg va_rf e_b3) dX2_query_8 ?_
  refine lv_bipush (v := 40) X.1 X.2.1 dX2_query_11 (by decide) ?_
  refine kp_callv X h (kp_runV (rm := { frames := 6, cells := 0, slots := 0, locals := 134 }) (mc := 0) (ms := 0) (rest := []) (Qc := fun A => kp_Qv D cy A T2 _) X h (c_X9_expectNest l D cy ad T2 b3 40 _ h.2.2.2 f_b3 hw) f_b3 cv_2_62 ⟨by dsimp only; omega, by dsimp only; omega, rfl, rfl, by dsimp only; omega, by dsimp only; omega⟩ rfl hl.1 rfl (Nat.le_of_ble_eq_true rfl) dX2_query_13) (fun T4 hw l_T4 H locs h => ?_)
  have f_a0 := l_T4.is f_a0
  have f_b1 := l_T4.is f_b1
  have f_b3 := l_T4.is f_b3
  have hle := hle.tr l_T4
  refine lv_iconst (v := 0) X.1 X.2.1 dX2_query_16 (by decide) ?_
  refine lv_istore_n (lv' := [(3, .int 0), (0, .ref a0), (1, .int x1), (2, .int x2)]) X.1 X.2.1 dX2_query_17 rfl hl (by decide) rfl (fun ls hl => ?_)
  obtain ⟨n0, hw⟩ := hw
  exact L18 n0 0 T4 _ _ ls (lv_sub hl [1, 2, 3, 0] rfl) h hle f_a0 hw
theorem dX2_negative_0 : decode cX2_negative 0 = .ok (.aload_n 0, 1) := by decide +kernel
theorem dX2_negative_1 : decode cX2_negative 1 = .ok (.getfield 9, 3) := by decide +kernel
theorem dX2_negative_4 : decode cX2_negative 4 = .ok (.bipush 45, 2) := by decide +kernel
theorem dX2_negative_6 : decode cX2_negative 6 = .ok (.invokevirtual 62, 3) := by decide +kernel
theorem dX2_negative_9 : decode cX2_negative 9 = .ok (.aload_n 0, 1) := by decide +kernel
theorem dX2_negative_10 : decode cX2_negative 10 = .ok (.getfield 9, 3) := by decide +kernel
theorem dX2_negative_13 : decode cX2_negative 13 = .ok (.invokevirtual 65, 3) := by decide +kernel
theorem dX2_negative_16 : decode cX2_negative 16 = .ok (.ifCond .eq 7, 3) := by decide +kernel
theorem dX2_negative_19 : decode cX2_negative 19 = .ok (.iconst 0, 1) := by decide +kernel
theorem dX2_negative_20 : decode cX2_negative 20 = .ok (.goto 9, 3) := by decide +kernel
theorem dX2_negative_23 : decode cX2_negative 23 = .ok (.aload_n 0, 1) := by decide +kernel
theorem dX2_negative_24 : decode cX2_negative 24 = .ok (.invokevirtual 81, 3) := by decide +kernel
theorem dX2_negative_27 : decode cX2_negative 27 = .ok (.iconst 1, 1) := by decide +kernel
theorem dX2_negative_28 : decode cX2_negative 28 = .ok (.iand, 1) := by decide +kernel
theorem dX2_negative_29 : decode cX2_negative 29 = .ok (.istore_n 1, 1) := by decide +kernel
theorem dX2_negative_30 : decode cX2_negative 30 = .ok (.aload_n 0, 1) := by decide +kernel
theorem dX2_negative_31 : decode cX2_negative 31 = .ok (.getfield 9, 3) := by decide +kernel
theorem dX2_negative_34 : decode cX2_negative 34 = .ok (.invokevirtual 69, 3) := by decide +kernel
theorem dX2_negative_37 : decode cX2_negative 37 = .ok (.aload_n 0, 1) := by decide +kernel
theorem dX2_negative_38 : decode cX2_negative 38 = .ok (.getfield 19, 3) := by decide +kernel
theorem dX2_negative_41 : decode cX2_negative 41 = .ok (.iconst 5, 1) := by decide +kernel
theorem dX2_negative_42 : decode cX2_negative 42 = .ok (.invokevirtual 49, 3) := by decide +kernel
theorem dX2_negative_45 : decode cX2_negative 45 = .ok (.pop, 1) := by decide +kernel
theorem dX2_negative_46 : decode cX2_negative 46 = .ok (.iload_n 1, 1) := by decide +kernel
theorem dX2_negative_47 : decode cX2_negative 47 = .ok (.ireturn, 1) := by decide +kernel
def wX2_negative_b29 (U : Nat → kp_S → (Int32 → kp_S → Prop) → Prop) (N : Nat → kp_S → (Int32 → kp_S → Prop) → Prop) (a0 : Nat) (xt0 : Int32)  (Sn : kp_S) (post : Int32 → kp_S → Prop) : Prop :=
  ∃ b1001 : Nat, kp_R Sn 400 a0 = some b1001 ∧
  wX9_endNest b1001 Sn (fun T1002 =>
  ∃ b1003 : Nat, kp_R T1002 402 a0 = some b1003 ∧
  wX0_add b1003 5 T1002 (fun y1005 T1004 =>
  post xt0 T1004))
def wX2_negative (U : Nat → kp_S → (Int32 → kp_S → Prop) → Prop) (N : Nat → kp_S → (Int32 → kp_S → Prop) → Prop) (a0 : Nat) (S : kp_S) (post : Int32 → kp_S → Prop) : Prop :=
  ∃ b1 : Nat, kp_R S 400 a0 = some b1 ∧
  wX9_expectNest b1 45 S (fun T2 =>
  ∃ b3 : Nat, kp_R T2 400 a0 = some b3 ∧
  wX9_isStopped b3 T2 (fun y5 T4 =>
  ((y5 = 0 →
  U a0 T4 (fun y7 T6 =>
  wX2_negative_b29 U N a0 (y7 &&& 1)  T6 post)) ∧ (¬ y5 = 0 →
  wX2_negative_b29 U N a0 0  T4 post))))
set_option maxHeartbeats 4000000 in
set_option maxRecDepth 100000 in
theorem c_X2_negative (l : Launch) (D : va_G) (cy : Nat → ClassId) (ad : (Nat → Nat) × (Nat → Nat)) (F L : Nat) (U : Nat → kp_S → (Int32 → kp_S → Prop) → Prop) (N : Nat → kp_S → (Int32 → kp_S → Prop) → Prop) (hU : ∀ (S : kp_S) (a0 : Nat) (post : Int32 → kp_S → Prop), kp_ok S → kp_is S a0 2 → U a0 S post → kp_M l yX2_unit cX2_unit 1 (some .int) { frames := F, cells := 0, slots := 0, locals := L } D cy ad S [.ref a0] 0 0 (fun A => kp_Qi D cy A S post)) (hN : ∀ (S : kp_S) (a0 : Nat) (post : Int32 → kp_S → Prop), kp_ok S → kp_is S a0 2 → N a0 S post → kp_M l yX2_negation cX2_negation 2 (some .int) { frames := F, cells := 0, slots := 0, locals := L } D cy ad S [.ref a0] 0 0 (fun A => kp_Qi D cy A S post)) (hF : 7 ≤ F) (hL : 155 ≤ L) (S : kp_S) (a0 : Nat) (post : Int32 → kp_S → Prop) (hS : kp_ok S) (f_a0 : kp_is S a0 2) (hw : wX2_negative U N a0 S post) : kp_M l yX2_negative cX2_negative 2 (some .int) { frames := F + 1, cells := 0, slots := 0, locals := L + 20 } D cy ad S [.ref a0] 0 0 (fun A => kp_Qi D cy A S post) := by
  refine kp_start (own := RX2) (by decide) rfl (Nat.le_of_ble_eq_true rfl) hS ?_
  intro p e s m below meth c A ls X hr hlocks hname h hl
  have hle : kp_le S S := kp_le.rf
  have hl : lv_has ls 2 [(0, .ref a0)] := hl
  have j29 : ∀ (xt0 : Int32) (Sn : kp_S) (H : Heap) (locs : List Loc) (ls : Array Slot), lv_has ls 2 [(0, .ref a0)] → kp_H D cy A Sn s.heap H locs → kp_le S Sn → kp_is Sn a0 2 → wX2_negative_b29 U N a0 xt0  Sn post → W p l e { frames := F + 1, cells := 0, slots := 0, locals := L + 20 } s m ([.ref a0] : List Value).toArray below meth c H locs 0 0 (MQ below (kp_Qi D cy A S post) ([.ref a0] : List Value).toArray s 0 0 A) (F0 m 29 ls [.int xt0]) := by
    intro xt0 Sn H locs ls hl h hle f_a0 hw
    unfold wX2_negative_b29 at hw
    refine lv_istore_n (lv' := [(1, .int xt0), (0, .ref a0)]) X.1 X.2.1 dX2_negative_29 rfl hl (by decide) rfl (fun ls hl => ?_)
    refine lv_aload_n X.1 X.2.1 dX2_negative_30 rfl (lv_at hl 1 rfl) ?_
    obtain ⟨b1001, e_b1001, hw⟩ := hw
    have f_b1001 := h.2.2.2.rf (c := 2) (k := 0) f_a0 (by decide) (by decide) e_b1001 (t := 9) rfl
    refine kp_get X h f_a0 ff_2_9.l (v := .ref b1001) (congrArg va_rf e_b1001) dX2_negative_31 ?_
    refine kp_callv X h (kp_runV (rm := { frames := 0, cells := 0, slots := 0, locals := 0 }) (mc := 0) (ms := 0) (rest := []) (Qc := fun A => kp_Qv D cy A Sn _) X h (c_X9_endNest l D cy ad Sn b1001 _ h.2.2.2 f_b1001 hw) f_b1001 cv_2_69 ⟨by dsimp only; omega, by dsimp only; omega, rfl, rfl, by dsimp only; omega, by dsimp only; omega⟩ rfl hl.1 rfl (Nat.le_of_ble_eq_true rfl) dX2_negative_34) (fun T1002 hw l_T1002 H locs h => ?_)
    have f_a0 := l_T1002.is f_a0
    have f_b1001 := l_T1002.is f_b1001
    have hle := hle.tr l_T1002
    refine lv_aload_n X.1 X.2.1 dX2_negative_37 rfl (lv_at hl 1 rfl) ?_
    obtain ⟨b1003, e_b1003, hw⟩ := hw
    have f_b1003 := h.2.2.2.rf (c := 2) (k := 2) f_a0 (by decide) (by decide) e_b1003 (t := 0) rfl
    refine kp_get X h f_a0 fp_2_19.l (v := .ref b1003) (congrArg va_rf e_b1003) dX2_negative_38 ?_
    refine lv_iconst (v := 5) X.1 X.2.1 dX2_negative_41 (by decide) ?_
    refine kp_calli X h (kp_runV (rm := { frames := 0, cells := 0, slots := 0, locals := 0 }) (mc := 0) (ms := 0) (rest := []) (Qc := fun A => kp_Qi D cy A T1002 _) X h (c_X0_add l D cy ad T1002 b1003 5 _ h.2.2.2 f_b1003 hw) f_b1003 cv_2_49 ⟨by dsimp only; omega, by dsimp only; omega, rfl, rfl, by dsimp only; omega, by dsimp only; omega⟩ rfl hl.1 rfl (Nat.le_of_ble_eq_true rfl) dX2_negative_42) (fun y1005 T1004 hw l_T1004 H locs h => ?_)
    have f_a0 := l_T1004.is f_a0
    have f_b1001 := l_T1004.is f_b1001
    have f_b1003 := l_T1004.is f_b1003
    have hle := hle.tr l_T1004
    refine lv_pop X.1 X.2.1 dX2_negative_45 rfl ?_
    refine lv_iload_n X.1 X.2.1 dX2_negative_46 rfl (lv_at hl 0 rfl) ?_
    exact kp_reti X hr hlocks h hle rfl hw dX2_negative_47
  unfold wX2_negative at hw
  have h : kp_H D cy A S s.heap s.heap [] := h
  revert h
  intro h
  refine lv_aload_n X.1 X.2.1 dX2_negative_0 rfl (lv_at hl 0 rfl) ?_
  obtain ⟨b1, e_b1, hw⟩ := hw
  have f_b1 := h.2.2.2.rf (c := 2) (k := 0) f_a0 (by decide) (by decide) e_b1 (t := 9) rfl
  refine kp_get X h f_a0 ff_2_9.l (v := .ref b1) (congrArg va_rf e_b1) dX2_negative_1 ?_
  refine lv_bipush (v := 45) X.1 X.2.1 dX2_negative_4 (by decide) ?_
  refine kp_callv X h (kp_runV (rm := { frames := 6, cells := 0, slots := 0, locals := 134 }) (mc := 0) (ms := 0) (rest := []) (Qc := fun A => kp_Qv D cy A S _) X h (c_X9_expectNest l D cy ad S b1 45 _ h.2.2.2 f_b1 hw) f_b1 cv_2_62 ⟨by dsimp only; omega, by dsimp only; omega, rfl, rfl, by dsimp only; omega, by dsimp only; omega⟩ rfl hl.1 rfl (Nat.le_of_ble_eq_true rfl) dX2_negative_6) (fun T2 hw l_T2 H locs h => ?_)
  have f_a0 := l_T2.is f_a0
  have f_b1 := l_T2.is f_b1
  have hle := hle.tr l_T2
  refine lv_aload_n X.1 X.2.1 dX2_negative_9 rfl (lv_at hl 0 rfl) ?_
  obtain ⟨b3, e_b3, hw⟩ := hw
  have f_b3 := h.2.2.2.rf (c := 2) (k := 0) f_a0 (by decide) (by decide) e_b3 (t := 9) rfl
  refine kp_get X h f_a0 ff_2_9.l (v := .ref b3) (congrArg va_rf e_b3) dX2_negative_10 ?_
  refine kp_calli X h (kp_runV (rm := { frames := 0, cells := 0, slots := 0, locals := 0 }) (mc := 0) (ms := 0) (rest := []) (Qc := fun A => kp_Qi D cy A T2 _) X h (c_X9_isStopped l D cy ad T2 b3 _ h.2.2.2 f_b3 hw) f_b3 cv_2_65 ⟨by dsimp only; omega, by dsimp only; omega, rfl, rfl, by dsimp only; omega, by dsimp only; omega⟩ rfl hl.1 rfl (Nat.le_of_ble_eq_true rfl) dX2_negative_13) (fun y5 T4 hw l_T4 H locs h => ?_)
  have f_a0 := l_T4.is f_a0
  have f_b1 := l_T4.is f_b1
  have f_b3 := l_T4.is f_b3
  have hle := hle.tr l_T4
  refine lv_if_eq (tgt := 23) X.1 X.2.1 dX2_negative_16 (by decide) (fun c8 => ?_) (fun c8 => ?_)
  · have hw := hw.1 c8
    refine lv_aload_n X.1 X.2.1 dX2_negative_23 rfl (lv_at hl 0 rfl) ?_
    refine kp_calli X h (kp_runV (rm := { frames := F, cells := 0, slots := 0, locals := L }) (mc := 0) (ms := 0) (rest := []) (Qc := fun A => kp_Qi D cy A T4 _) X h (hU T4 a0 _ h.2.2.2 f_a0 hw) f_a0 cv_2_81 ⟨by dsimp only; omega, by dsimp only; omega, rfl, rfl, by dsimp only; omega, by dsimp only; omega⟩ rfl hl.1 rfl (Nat.le_of_ble_eq_true rfl) dX2_negative_24) (fun y7 T6 hw l_T6 H locs h => ?_)
    have f_a0 := l_T6.is f_a0
    have f_b1 := l_T6.is f_b1
    have f_b3 := l_T6.is f_b3
    have hle := hle.tr l_T6
    refine lv_iconst (v := 1) X.1 X.2.1 dX2_negative_27 (by decide) ?_
    refine lv_iand X.1 X.2.1 dX2_negative_28 ?_
    exact j29 (y7 &&& 1) T6 _ _ ls (lv_sub hl [0] rfl) h hle f_a0 hw
  · have hw := hw.2 c8
    refine lv_iconst (v := 0) X.1 X.2.1 dX2_negative_19 (by decide) ?_
    refine lv_goto (tgt := 29) X.1 X.2.1 dX2_negative_20 (by decide) ?_
    exact j29 0 T4 _ _ ls (lv_sub hl [0] rfl) h hle f_a0 hw
theorem dX2_product_0 : decode cX2_product 0 = .ok (.aload_n 0, 1) := by decide +kernel
theorem dX2_product_1 : decode cX2_product 1 = .ok (.invokevirtual 81, 3) := by decide +kernel
theorem dX2_product_4 : decode cX2_product 4 = .ok (.istore_n 1, 1) := by decide +kernel
theorem dX2_product_5 : decode cX2_product 5 = .ok (.iconst 0, 1) := by decide +kernel
theorem dX2_product_6 : decode cX2_product 6 = .ok (.istore_n 2, 1) := by decide +kernel
theorem dX2_product_7 : decode cX2_product 7 = .ok (.iload_n 2, 1) := by decide +kernel
theorem dX2_product_8 : decode cX2_product 8 = .ok (.sipush 3000, 3) := by decide +kernel
theorem dX2_product_11 : decode cX2_product 11 = .ok (.if_icmp .ge 91, 3) := by decide +kernel
theorem dX2_product_14 : decode cX2_product 14 = .ok (.aload_n 0, 1) := by decide +kernel
theorem dX2_product_15 : decode cX2_product 15 = .ok (.getfield 9, 3) := by decide +kernel
theorem dX2_product_18 : decode cX2_product 18 = .ok (.getfield 27, 3) := by decide +kernel
theorem dX2_product_21 : decode cX2_product 21 = .ok (.invokestatic 84, 3) := by decide +kernel
theorem dX2_product_24 : decode cX2_product 24 = .ok (.iconst (-1), 1) := by decide +kernel
theorem dX2_product_25 : decode cX2_product 25 = .ok (.if_icmp .eq 77, 3) := by decide +kernel
theorem dX2_product_28 : decode cX2_product 28 = .ok (.aload_n 0, 1) := by decide +kernel
theorem dX2_product_29 : decode cX2_product 29 = .ok (.getfield 9, 3) := by decide +kernel
theorem dX2_product_32 : decode cX2_product 32 = .ok (.getfield 27, 3) := by decide +kernel
theorem dX2_product_35 : decode cX2_product 35 = .ok (.invokestatic 84, 3) := by decide +kernel
theorem dX2_product_38 : decode cX2_product 38 = .ok (.istore_n 3, 1) := by decide +kernel
theorem dX2_product_39 : decode cX2_product 39 = .ok (.aload_n 0, 1) := by decide +kernel
theorem dX2_product_40 : decode cX2_product 40 = .ok (.getfield 9, 3) := by decide +kernel
theorem dX2_product_43 : decode cX2_product 43 = .ok (.invokevirtual 33, 3) := by decide +kernel
theorem dX2_product_46 : decode cX2_product 46 = .ok (.aload_n 0, 1) := by decide +kernel
theorem dX2_product_47 : decode cX2_product 47 = .ok (.invokevirtual 81, 3) := by decide +kernel
theorem dX2_product_50 : decode cX2_product 50 = .ok (.istore 4, 2) := by decide +kernel
theorem dX2_product_52 : decode cX2_product 52 = .ok (.iload_n 3, 1) := by decide +kernel
theorem dX2_product_53 : decode cX2_product 53 = .ok (.bipush 10, 2) := by decide +kernel
theorem dX2_product_55 : decode cX2_product 55 = .ok (.if_icmp .eq 13, 3) := by decide +kernel
theorem dX2_product_58 : decode cX2_product 58 = .ok (.iload 4, 2) := by decide +kernel
theorem dX2_product_60 : decode cX2_product 60 = .ok (.iconst 2, 1) := by decide +kernel
theorem dX2_product_61 : decode cX2_product 61 = .ok (.if_icmp .eq 7, 3) := by decide +kernel
theorem dX2_product_64 : decode cX2_product 64 = .ok (.iconst 1, 1) := by decide +kernel
theorem dX2_product_65 : decode cX2_product 65 = .ok (.goto 4, 3) := by decide +kernel
theorem dX2_product_68 : decode cX2_product 68 = .ok (.iconst 0, 1) := by decide +kernel
theorem dX2_product_69 : decode cX2_product 69 = .ok (.istore 5, 2) := by decide +kernel
theorem dX2_product_71 : decode cX2_product 71 = .ok (.iload 5, 2) := by decide +kernel
theorem dX2_product_73 : decode cX2_product 73 = .ok (.ifCond .eq 7, 3) := by decide +kernel
theorem dX2_product_76 : decode cX2_product 76 = .ok (.iconst 1, 1) := by decide +kernel
theorem dX2_product_77 : decode cX2_product 77 = .ok (.goto 9, 3) := by decide +kernel
theorem dX2_product_80 : decode cX2_product 80 = .ok (.iload_n 1, 1) := by decide +kernel
theorem dX2_product_81 : decode cX2_product 81 = .ok (.iload 4, 2) := by decide +kernel
theorem dX2_product_83 : decode cX2_product 83 = .ok (.ior, 1) := by decide +kernel
theorem dX2_product_84 : decode cX2_product 84 = .ok (.iconst 1, 1) := by decide +kernel
theorem dX2_product_85 : decode cX2_product 85 = .ok (.iand, 1) := by decide +kernel
theorem dX2_product_86 : decode cX2_product 86 = .ok (.istore_n 1, 1) := by decide +kernel
theorem dX2_product_87 : decode cX2_product 87 = .ok (.aload_n 0, 1) := by decide +kernel
theorem dX2_product_88 : decode cX2_product 88 = .ok (.getfield 19, 3) := by decide +kernel
theorem dX2_product_91 : decode cX2_product 91 = .ok (.iload_n 3, 1) := by decide +kernel
theorem dX2_product_92 : decode cX2_product 92 = .ok (.invokevirtual 49, 3) := by decide +kernel
theorem dX2_product_95 : decode cX2_product 95 = .ok (.pop, 1) := by decide +kernel
theorem dX2_product_96 : decode cX2_product 96 = .ok (.iinc 2 1, 3) := by decide +kernel
theorem dX2_product_99 : decode cX2_product 99 = .ok (.goto (-92), 3) := by decide +kernel
theorem dX2_product_102 : decode cX2_product 102 = .ok (.iload_n 1, 1) := by decide +kernel
theorem dX2_product_103 : decode cX2_product 103 = .ok (.ireturn, 1) := by decide +kernel
def wX2_product_b102 (U : Nat → kp_S → (Int32 → kp_S → Prop) → Prop) (N : Nat → kp_S → (Int32 → kp_S → Prop) → Prop) (a0 : Nat) (xn1 : Int32)  (Sn : kp_S) (post : Int32 → kp_S → Prop) : Prop :=
  post xn1 Sn
def wX2_product_b86 (U : Nat → kp_S → (Int32 → kp_S → Prop) → Prop) (N : Nat → kp_S → (Int32 → kp_S → Prop) → Prop) (a0 : Nat) (xn2 : Int32) (xn3 : Int32) (xt0 : Int32) (K7 : Int32 → Int32 → kp_S → Prop) (Sn : kp_S) (post : Int32 → kp_S → Prop) : Prop :=
  ∃ b2001 : Nat, kp_R Sn 402 a0 = some b2001 ∧
  wX0_add b2001 xn3 Sn (fun y2003 T2002 =>
  ∀ y2004 : Int32, y2004 = xn2 + 1 →
  K7 xt0 y2004 T2002)
def wX2_product_b69 (U : Nat → kp_S → (Int32 → kp_S → Prop) → Prop) (N : Nat → kp_S → (Int32 → kp_S → Prop) → Prop) (a0 : Nat) (xn1 : Int32) (xn2 : Int32) (xn3 : Int32) (xn4 : Int32) (xt0 : Int32) (K7 : Int32 → Int32 → kp_S → Prop) (Sn : kp_S) (post : Int32 → kp_S → Prop) : Prop :=
  ((xt0 = 0 →
  wX2_product_b86 U N a0 xn2 xn3 ((xn1 ||| xn4) &&& 1) K7 Sn post) ∧ (¬ xt0 = 0 →
  wX2_product_b86 U N a0 xn2 xn3 1 K7 Sn post))
def wX2_product_b68 (U : Nat → kp_S → (Int32 → kp_S → Prop) → Prop) (N : Nat → kp_S → (Int32 → kp_S → Prop) → Prop) (a0 : Nat) (xn1 : Int32) (xn2 : Int32) (xn3 : Int32) (xn4 : Int32) (K7 : Int32 → Int32 → kp_S → Prop) (Sn : kp_S) (post : Int32 → kp_S → Prop) : Prop :=
  wX2_product_b69 U N a0 xn1 xn2 xn3 xn4 0 K7 Sn post
def wX2_product_L7 (U : Nat → kp_S → (Int32 → kp_S → Prop) → Prop) (N : Nat → kp_S → (Int32 → kp_S → Prop) → Prop) (a0 : Nat)  (post : Int32 → kp_S → Prop) : Nat → Int32 → Int32 → kp_S → Prop
  | 0, _, _, _ => False
  | n + 1, xn1, xn2, Sn =>
  ((3000 ≤ xn2 →
  wX2_product_b102 U N a0 xn1  Sn post) ∧ (¬ 3000 ≤ xn2 →
  ∃ b5001 : Nat, kp_R Sn 400 a0 = some b5001 ∧
  wX2_factor (kp_I Sn 1805 b5001) Sn (fun y5003 T5002 =>
  ((y5003 = (-1) →
  wX2_product_b102 U N a0 xn1  T5002 post) ∧ (¬ y5003 = (-1) →
  ∃ b5004 : Nat, kp_R T5002 400 a0 = some b5004 ∧
  wX2_factor (kp_I T5002 1805 b5004) T5002 (fun y5006 T5005 =>
  ∃ b5007 : Nat, kp_R T5005 400 a0 = some b5007 ∧
  wX9_advance b5007 T5005 (fun T5008 =>
  U a0 T5008 (fun y5010 T5009 =>
  ((y5006 = 10 →
  wX2_product_b68 U N a0 xn1 xn2 y5006 y5010 (fun xn1_ xn2_ S_ => wX2_product_L7 U N a0  post n xn1_ xn2_ S_) T5009 post) ∧ (¬ y5006 = 10 →
  ((y5010 = 2 →
  wX2_product_b68 U N a0 xn1 xn2 y5006 y5010 (fun xn1_ xn2_ S_ => wX2_product_L7 U N a0  post n xn1_ xn2_ S_) T5009 post) ∧ (¬ y5010 = 2 →
  wX2_product_b69 U N a0 xn1 xn2 y5006 y5010 1 (fun xn1_ xn2_ S_ => wX2_product_L7 U N a0  post n xn1_ xn2_ S_) T5009 post))))))))))))
def wX2_product (U : Nat → kp_S → (Int32 → kp_S → Prop) → Prop) (N : Nat → kp_S → (Int32 → kp_S → Prop) → Prop) (a0 : Nat) (S : kp_S) (post : Int32 → kp_S → Prop) : Prop :=
  U a0 S (fun y2 T1 =>
  ∃ n0 : Nat, wX2_product_L7 U N a0  post n0 y2 0 T1)
set_option maxHeartbeats 4000000 in
set_option maxRecDepth 100000 in
theorem c_X2_product (l : Launch) (D : va_G) (cy : Nat → ClassId) (ad : (Nat → Nat) × (Nat → Nat)) (F L : Nat) (U : Nat → kp_S → (Int32 → kp_S → Prop) → Prop) (N : Nat → kp_S → (Int32 → kp_S → Prop) → Prop) (hU : ∀ (S : kp_S) (a0 : Nat) (post : Int32 → kp_S → Prop), kp_ok S → kp_is S a0 2 → U a0 S post → kp_M l yX2_unit cX2_unit 1 (some .int) { frames := F, cells := 0, slots := 0, locals := L } D cy ad S [.ref a0] 0 0 (fun A => kp_Qi D cy A S post)) (hN : ∀ (S : kp_S) (a0 : Nat) (post : Int32 → kp_S → Prop), kp_ok S → kp_is S a0 2 → N a0 S post → kp_M l yX2_negation cX2_negation 2 (some .int) { frames := F, cells := 0, slots := 0, locals := L } D cy ad S [.ref a0] 0 0 (fun A => kp_Qi D cy A S post)) (hF : 7 ≤ F) (hL : 155 ≤ L) (S : kp_S) (a0 : Nat) (post : Int32 → kp_S → Prop) (hS : kp_ok S) (f_a0 : kp_is S a0 2) (hw : wX2_product U N a0 S post) : kp_M l yX2_product cX2_product 6 (some .int) { frames := F + 1, cells := 0, slots := 0, locals := L + 20 } D cy ad S [.ref a0] 0 0 (fun A => kp_Qi D cy A S post) := by
  refine kp_start (own := RX2) (by decide) rfl (Nat.le_of_ble_eq_true rfl) hS ?_
  intro p e s m below meth c A ls X hr hlocks hname h hl
  have hle : kp_le S S := kp_le.rf
  have hl : lv_has ls 6 [(0, .ref a0)] := hl
  have j102 : ∀ (xn1 : Int32) (Sn : kp_S) (H : Heap) (locs : List Loc) (ls : Array Slot), lv_has ls 6 [(1, .int xn1)] → kp_H D cy A Sn s.heap H locs → kp_le S Sn → kp_is Sn a0 2 → wX2_product_b102 U N a0 xn1  Sn post → W p l e { frames := F + 1, cells := 0, slots := 0, locals := L + 20 } s m ([.ref a0] : List Value).toArray below meth c H locs 0 0 (MQ below (kp_Qi D cy A S post) ([.ref a0] : List Value).toArray s 0 0 A) (F0 m 102 ls []) := by
    intro xn1 Sn H locs ls hl h hle f_a0 hw
    unfold wX2_product_b102 at hw
    refine lv_iload_n X.1 X.2.1 dX2_product_102 rfl (lv_at hl 0 rfl) ?_
    exact kp_reti X hr hlocks h hle rfl hw dX2_product_103
  have L7 : ∀ n7 : Nat, ∀ (xn1 : Int32) (xn2 : Int32) (Sn : kp_S) (H : Heap) (locs : List Loc) (ls : Array Slot), lv_has ls 6 [(0, .ref a0), (1, .int xn1), (2, .int xn2)] → kp_H D cy A Sn s.heap H locs → kp_le S Sn → kp_is Sn a0 2 → wX2_product_L7 U N a0  post n7 xn1 xn2 Sn → W p l e { frames := F + 1, cells := 0, slots := 0, locals := L + 20 } s m ([.ref a0] : List Value).toArray below meth c H locs 0 0 (MQ below (kp_Qi D cy A S post) ([.ref a0] : List Value).toArray s 0 0 A) (F0 m 7 ls []) := by
    intro n7
    induction n7 with
    | zero => intro xn1 xn2 Sn H locs ls hl h hle f_a0 hw; exact hw.elim
    | succ n7 ih7 =>
      have j86 : ∀ (xn2 : Int32) (xn3 : Int32) (xt0 : Int32) (Sn : kp_S) (H : Heap) (locs : List Loc) (ls : Array Slot), lv_has ls 6 [(0, .ref a0), (2, .int xn2), (3, .int xn3)] → kp_H D cy A Sn s.heap H locs → kp_le S Sn → kp_is Sn a0 2 → wX2_product_b86 U N a0 xn2 xn3 xt0 (fun xn1_ xn2_ S_ => wX2_product_L7 U N a0  post n7 xn1_ xn2_ S_) Sn post → W p l e { frames := F + 1, cells := 0, slots := 0, locals := L + 20 } s m ([.ref a0] : List Value).toArray below meth c H locs 0 0 (MQ below (kp_Qi D cy A S post) ([.ref a0] : List Value).toArray s 0 0 A) (F0 m 86 ls [.int xt0]) := by
        intro xn2 xn3 xt0 Sn H locs ls hl h hle f_a0 hw
        unfold wX2_product_b86 at hw
        refine lv_istore_n (lv' := [(1, .int xt0), (0, .ref a0), (2, .int xn2), (3, .int xn3)]) X.1 X.2.1 dX2_product_86 rfl hl (by decide) rfl (fun ls hl => ?_)
        refine lv_aload_n X.1 X.2.1 dX2_product_87 rfl (lv_at hl 1 rfl) ?_
        obtain ⟨b2001, e_b2001, hw⟩ := hw
        have f_b2001 := h.2.2.2.rf (c := 2) (k := 2) f_a0 (by decide) (by decide) e_b2001 (t := 0) rfl
        refine kp_get X h f_a0 fp_2_19.l (v := .ref b2001) (congrArg va_rf e_b2001) dX2_product_88 ?_
        refine lv_iload_n X.1 X.2.1 dX2_product_91 rfl (lv_at hl 3 rfl) ?_
        refine kp_calli X h (kp_runV (rm := { frames := 0, cells := 0, slots := 0, locals := 0 }) (mc := 0) (ms := 0) (rest := []) (Qc := fun A => kp_Qi D cy A Sn _) X h (c_X0_add l D cy ad Sn b2001 xn3 _ h.2.2.2 f_b2001 hw) f_b2001 cv_2_49 ⟨by dsimp only; omega, by dsimp only; omega, rfl, rfl, by dsimp only; omega, by dsimp only; omega⟩ rfl hl.1 rfl (Nat.le_of_ble_eq_true rfl) dX2_product_92) (fun y2003 T2002 hw l_T2002 H locs h => ?_)
        have f_a0 := l_T2002.is f_a0
        have f_b2001 := l_T2002.is f_b2001
        have hle := hle.tr l_T2002
        refine lv_pop X.1 X.2.1 dX2_product_95 rfl ?_
        obtain ⟨y2004, e_y2004⟩ : ∃ y : Int32, y = xn2 + 1 := ⟨_, rfl⟩
        have hw := hw y2004 e_y2004
        refine lv_iinc (v := y2004) (lv' := [(2, .int y2004), (1, .int xt0), (0, .ref a0), (3, .int xn3)]) X.1 X.2.1 dX2_product_96 hl (k := 2) rfl (by rw [e_y2004]; rfl) (by decide) rfl (fun ls hl => ?_)
        refine lv_goto (tgt := 7) X.1 X.2.1 dX2_product_99 (by decide) ?_
        exact ih7 xt0 y2004 T2002 H locs ls (lv_sub hl [2, 1, 0] rfl) h hle f_a0 hw
      have j69 : ∀ (xn1 : Int32) (xn2 : Int32) (xn3 : Int32) (xn4 : Int32) (xt0 : Int32) (Sn : kp_S) (H : Heap) (locs : List Loc) (ls : Array Slot), lv_has ls 6 [(0, .ref a0), (1, .int xn1), (2, .int xn2), (3, .int xn3), (4, .int xn4)] → kp_H D cy A Sn s.heap H locs → kp_le S Sn → kp_is Sn a0 2 → wX2_product_b69 U N a0 xn1 xn2 xn3 xn4 xt0 (fun xn1_ xn2_ S_ => wX2_product_L7 U N a0  post n7 xn1_ xn2_ S_) Sn post → W p l e { frames := F + 1, cells := 0, slots := 0, locals := L + 20 } s m ([.ref a0] : List Value).toArray below meth c H locs 0 0 (MQ below (kp_Qi D cy A S post) ([.ref a0] : List Value).toArray s 0 0 A) (F0 m 69 ls [.int xt0]) := by
        intro xn1 xn2 xn3 xn4 xt0 Sn H locs ls hl h hle f_a0 hw
        unfold wX2_product_b69 at hw
        refine lv_istore (lv' := [(5, .int xt0), (0, .ref a0), (1, .int xn1), (2, .int xn2), (3, .int xn3), (4, .int xn4)]) X.1 X.2.1 dX2_product_69 hl (by decide) rfl (fun ls hl => ?_)
        refine lv_iload X.1 X.2.1 dX2_product_71 (lv_at hl 0 rfl) ?_
        refine lv_if_eq (tgt := 80) X.1 X.2.1 dX2_product_73 (by decide) (fun c3001 => ?_) (fun c3001 => ?_)
        · have hw := hw.1 c3001
          refine lv_iload_n X.1 X.2.1 dX2_product_80 rfl (lv_at hl 2 rfl) ?_
          refine lv_iload X.1 X.2.1 dX2_product_81 (lv_at hl 5 rfl) ?_
          refine lv_ior X.1 X.2.1 dX2_product_83 ?_
          refine lv_iconst (v := 1) X.1 X.2.1 dX2_product_84 (by decide) ?_
          refine lv_iand X.1 X.2.1 dX2_product_85 ?_
          exact j86 xn2 xn3 ((xn1 ||| xn4) &&& 1) Sn H locs ls (lv_sub hl [1, 3, 4] rfl) h hle f_a0 hw
        · have hw := hw.2 c3001
          refine lv_iconst (v := 1) X.1 X.2.1 dX2_product_76 (by decide) ?_
          refine lv_goto (tgt := 86) X.1 X.2.1 dX2_product_77 (by decide) ?_
          exact j86 xn2 xn3 1 Sn H locs ls (lv_sub hl [1, 3, 4] rfl) h hle f_a0 hw
      have j68 : ∀ (xn1 : Int32) (xn2 : Int32) (xn3 : Int32) (xn4 : Int32) (Sn : kp_S) (H : Heap) (locs : List Loc) (ls : Array Slot), lv_has ls 6 [(0, .ref a0), (1, .int xn1), (2, .int xn2), (3, .int xn3), (4, .int xn4)] → kp_H D cy A Sn s.heap H locs → kp_le S Sn → kp_is Sn a0 2 → wX2_product_b68 U N a0 xn1 xn2 xn3 xn4 (fun xn1_ xn2_ S_ => wX2_product_L7 U N a0  post n7 xn1_ xn2_ S_) Sn post → W p l e { frames := F + 1, cells := 0, slots := 0, locals := L + 20 } s m ([.ref a0] : List Value).toArray below meth c H locs 0 0 (MQ below (kp_Qi D cy A S post) ([.ref a0] : List Value).toArray s 0 0 A) (F0 m 68 ls []) := by
        intro xn1 xn2 xn3 xn4 Sn H locs ls hl h hle f_a0 hw
        unfold wX2_product_b68 at hw
        refine lv_iconst (v := 0) X.1 X.2.1 dX2_product_68 (by decide) ?_
        exact j69 xn1 xn2 xn3 xn4 0 Sn H locs ls (lv_sub hl [0, 1, 2, 3, 4] rfl) h hle f_a0 hw
      intro xn1 xn2 Sn H locs ls hl h hle f_a0 hw
      unfold wX2_product_L7 at hw
      refine lv_iload_n X.1 X.2.1 dX2_product_7 rfl (lv_at hl 2 rfl) ?_
      refine lv_sipush (v := 3000) X.1 X.2.1 dX2_product_8 (by decide) ?_
      refine lv_icmp_ge (tgt := 102) X.1 X.2.1 dX2_product_11 (by decide) (fun c5014 => ?_) (fun c5014 => ?_)
      · have hw := hw.1 c5014
        exact j102 xn1 Sn H locs ls (lv_sub hl [1] rfl) h hle f_a0 hw
      · have hw := hw.2 c5014
        refine lv_aload_n X.1 X.2.1 dX2_product_14 rfl (lv_at hl 0 rfl) ?_
        obtain ⟨b5001, e_b5001, hw⟩ := hw
        have f_b5001 := h.2.2.2.rf (c := 2) (k := 0) f_a0 (by decide) (by decide) e_b5001 (t := 9) rfl
        refine kp_get X h f_a0 ff_2_9.l (v := .ref b5001) (congrArg va_rf e_b5001) dX2_product_15 ?_
        refine kp_get X h f_b5001 fp_2_27.l (v := .int (kp_I Sn 1805 b5001)) rfl dX2_product_18 ?_
        refine kp_calli X h (kp_runS (rm := { frames := 0, cells := 0, slots := 0, locals := 0 }) (mc := 0) (ms := 0) (rest := []) (Qc := fun A => kp_Qi D cy A Sn _) X h (c_X2_factor l D cy ad Sn (kp_I Sn 1805 b5001) _ h.2.2.2  hw) cs_2_84 ⟨by dsimp only; omega, by dsimp only; omega, rfl, rfl, by dsimp only; omega, by dsimp only; omega⟩ rfl hl.1 rfl (Nat.le_of_ble_eq_true rfl) dX2_product_21) (fun y5003 T5002 hw l_T5002 H locs h => ?_)
        have f_a0 := l_T5002.is f_a0
        have f_b5001 := l_T5002.is f_b5001
        have hle := hle.tr l_T5002
        refine lv_iconst (v := (-1)) X.1 X.2.1 dX2_product_24 (by decide) ?_
        refine lv_icmp_eq (tgt := 102) X.1 X.2.1 dX2_product_25 (by decide) (fun c5013 => ?_) (fun c5013 => ?_)
        · have hw := hw.1 c5013
          exact j102 xn1 T5002 H locs ls (lv_sub hl [1] rfl) h hle f_a0 hw
        · have hw := hw.2 c5013
          refine lv_aload_n X.1 X.2.1 dX2_product_28 rfl (lv_at hl 0 rfl) ?_
          obtain ⟨b5004, e_b5004, hw⟩ := hw
          have f_b5004 := h.2.2.2.rf (c := 2) (k := 0) f_a0 (by decide) (by decide) e_b5004 (t := 9) rfl
          refine kp_get X h f_a0 ff_2_9.l (v := .ref b5004) (congrArg va_rf e_b5004) dX2_product_29 ?_
          refine kp_get X h f_b5004 fp_2_27.l (v := .int (kp_I T5002 1805 b5004)) rfl dX2_product_32 ?_
          refine kp_calli X h (kp_runS (rm := { frames := 0, cells := 0, slots := 0, locals := 0 }) (mc := 0) (ms := 0) (rest := []) (Qc := fun A => kp_Qi D cy A T5002 _) X h (c_X2_factor l D cy ad T5002 (kp_I T5002 1805 b5004) _ h.2.2.2  hw) cs_2_84 ⟨by dsimp only; omega, by dsimp only; omega, rfl, rfl, by dsimp only; omega, by dsimp only; omega⟩ rfl hl.1 rfl (Nat.le_of_ble_eq_true rfl) dX2_product_35) (fun y5006 T5005 hw l_T5005 H locs h => ?_)
          have f_a0 := l_T5005.is f_a0
          have f_b5001 := l_T5005.is f_b5001
          have f_b5004 := l_T5005.is f_b5004
          have hle := hle.tr l_T5005
          refine lv_istore_n (lv' := [(3, .int y5006), (0, .ref a0), (1, .int xn1), (2, .int xn2)]) X.1 X.2.1 dX2_product_38 rfl hl (by decide) rfl (fun ls hl => ?_)
          refine lv_aload_n X.1 X.2.1 dX2_product_39 rfl (lv_at hl 1 rfl) ?_
          obtain ⟨b5007, e_b5007, hw⟩ := hw
          have f_b5007 := h.2.2.2.rf (c := 2) (k := 0) f_a0 (by decide) (by decide) e_b5007 (t := 9) rfl
          refine kp_get X h f_a0 ff_2_9.l (v := .ref b5007) (congrArg va_rf e_b5007) dX2_product_40 ?_
          refine kp_callv X h (kp_runV (rm := { frames := 5, cells := 0, slots := 0, locals := 113 }) (mc := 0) (ms := 0) (rest := []) (Qc := fun A => kp_Qv D cy A T5005 _) X h (c_X9_advance l D cy ad T5005 b5007 _ h.2.2.2 f_b5007 hw) f_b5007 cv_2_33 ⟨by dsimp only; omega, by dsimp only; omega, rfl, rfl, by dsimp only; omega, by dsimp only; omega⟩ rfl hl.1 rfl (Nat.le_of_ble_eq_true rfl) dX2_product_43) (fun T5008 hw l_T5008 H locs h => ?_)
          have f_a0 := l_T5008.is f_a0
          have f_b5001 := l_T5008.is f_b5001
          have f_b5004 := l_T5008.is f_b5004
          have f_b5007 := l_T5008.is f_b5007
          have hle := hle.tr l_T5008
          refine lv_aload_n X.1 X.2.1 dX2_product_46 rfl (lv_at hl 1 rfl) ?_
          refine kp_calli X h (kp_runV (rm := { frames := F, cells := 0, slots := 0, locals := L }) (mc := 0) (ms := 0) (rest := []) (Qc := fun A => kp_Qi D cy A T5008 _) X h (hU T5008 a0 _ h.2.2.2 f_a0 hw) f_a0 cv_2_81 ⟨by dsimp only; omega, by dsimp only; omega, rfl, rfl, by dsimp only; omega, by dsimp only; omega⟩ rfl hl.1 rfl (Nat.le_of_ble_eq_true rfl) dX2_product_47) (fun y5010 T5009 hw l_T5009 H locs h => ?_)
          have f_a0 := l_T5009.is f_a0
          have f_b5001 := l_T5009.is f_b5001
          have f_b5004 := l_T5009.is f_b5004
          have f_b5007 := l_T5009.is f_b5007
          have hle := hle.tr l_T5009
          refine lv_istore (lv' := [(4, .int y5010), (3, .int y5006), (0, .ref a0), (1, .int xn1), (2, .int xn2)]) X.1 X.2.1 dX2_product_50 hl (by decide) rfl (fun ls hl => ?_)
          refine lv_iload_n X.1 X.2.1 dX2_product_52 rfl (lv_at hl 1 rfl) ?_
          refine lv_bipush (v := 10) X.1 X.2.1 dX2_product_53 (by decide) ?_
          refine lv_icmp_eq (tgt := 68) X.1 X.2.1 dX2_product_55 (by decide) (fun c5012 => ?_) (fun c5012 => ?_)
          · have hw := hw.1 c5012
            exact j68 xn1 xn2 y5006 y5010 T5009 H locs ls (lv_sub hl [2, 3, 4, 1, 0] rfl) h hle f_a0 hw
          · have hw := hw.2 c5012
            refine lv_iload X.1 X.2.1 dX2_product_58 (lv_at hl 0 rfl) ?_
            refine lv_iconst (v := 2) X.1 X.2.1 dX2_product_60 (by decide) ?_
            refine lv_icmp_eq (tgt := 68) X.1 X.2.1 dX2_product_61 (by decide) (fun c5011 => ?_) (fun c5011 => ?_)
            · have hw := hw.1 c5011
              exact j68 xn1 xn2 y5006 y5010 T5009 H locs ls (lv_sub hl [2, 3, 4, 1, 0] rfl) h hle f_a0 hw
            · have hw := hw.2 c5011
              refine lv_iconst (v := 1) X.1 X.2.1 dX2_product_64 (by decide) ?_
              refine lv_goto (tgt := 69) X.1 X.2.1 dX2_product_65 (by decide) ?_
              exact j69 xn1 xn2 y5006 y5010 1 T5009 H locs ls (lv_sub hl [2, 3, 4, 1, 0] rfl) h hle f_a0 hw
  unfold wX2_product at hw
  have h : kp_H D cy A S s.heap s.heap [] := h
  revert h
  intro h
  refine lv_aload_n X.1 X.2.1 dX2_product_0 rfl (lv_at hl 0 rfl) ?_
  refine kp_calli X h (kp_runV (rm := { frames := F, cells := 0, slots := 0, locals := L }) (mc := 0) (ms := 0) (rest := []) (Qc := fun A => kp_Qi D cy A S _) X h (hU S a0 _ h.2.2.2 f_a0 hw) f_a0 cv_2_81 ⟨by dsimp only; omega, by dsimp only; omega, rfl, rfl, by dsimp only; omega, by dsimp only; omega⟩ rfl hl.1 rfl (Nat.le_of_ble_eq_true rfl) dX2_product_1) (fun y2 T1 hw l_T1 H locs h => ?_)
  have f_a0 := l_T1.is f_a0
  have hle := hle.tr l_T1
  refine lv_istore_n (lv' := [(1, .int y2), (0, .ref a0)]) X.1 X.2.1 dX2_product_4 rfl hl (by decide) rfl (fun ls hl => ?_)
  refine lv_iconst (v := 0) X.1 X.2.1 dX2_product_5 (by decide) ?_
  refine lv_istore_n (lv' := [(2, .int 0), (1, .int y2), (0, .ref a0)]) X.1 X.2.1 dX2_product_6 rfl hl (by decide) rfl (fun ls hl => ?_)
  obtain ⟨n0, hw⟩ := hw
  exact L7 n0 y2 0 T1 _ _ ls (lv_sub hl [2, 1, 0] rfl) h hle f_a0 hw
theorem dX2_sum_0 : decode cX2_sum 0 = .ok (.aload_n 0, 1) := by decide +kernel
theorem dX2_sum_1 : decode cX2_sum 1 = .ok (.invokevirtual 78, 3) := by decide +kernel
theorem dX2_sum_4 : decode cX2_sum 4 = .ok (.istore_n 1, 1) := by decide +kernel
theorem dX2_sum_5 : decode cX2_sum 5 = .ok (.iconst 0, 1) := by decide +kernel
theorem dX2_sum_6 : decode cX2_sum 6 = .ok (.istore_n 2, 1) := by decide +kernel
theorem dX2_sum_7 : decode cX2_sum 7 = .ok (.iload_n 2, 1) := by decide +kernel
theorem dX2_sum_8 : decode cX2_sum 8 = .ok (.sipush 3000, 3) := by decide +kernel
theorem dX2_sum_11 : decode cX2_sum 11 = .ok (.if_icmp .ge 78, 3) := by decide +kernel
theorem dX2_sum_14 : decode cX2_sum 14 = .ok (.aload_n 0, 1) := by decide +kernel
theorem dX2_sum_15 : decode cX2_sum 15 = .ok (.getfield 9, 3) := by decide +kernel
theorem dX2_sum_18 : decode cX2_sum 18 = .ok (.getfield 27, 3) := by decide +kernel
theorem dX2_sum_21 : decode cX2_sum 21 = .ok (.bipush 43, 2) := by decide +kernel
theorem dX2_sum_23 : decode cX2_sum 23 = .ok (.if_icmp .eq 15, 3) := by decide +kernel
theorem dX2_sum_26 : decode cX2_sum 26 = .ok (.aload_n 0, 1) := by decide +kernel
theorem dX2_sum_27 : decode cX2_sum 27 = .ok (.getfield 9, 3) := by decide +kernel
theorem dX2_sum_30 : decode cX2_sum 30 = .ok (.getfield 27, 3) := by decide +kernel
theorem dX2_sum_33 : decode cX2_sum 33 = .ok (.bipush 45, 2) := by decide +kernel
theorem dX2_sum_35 : decode cX2_sum 35 = .ok (.if_icmp .ne 54, 3) := by decide +kernel
theorem dX2_sum_38 : decode cX2_sum 38 = .ok (.aload_n 0, 1) := by decide +kernel
theorem dX2_sum_39 : decode cX2_sum 39 = .ok (.getfield 9, 3) := by decide +kernel
theorem dX2_sum_42 : decode cX2_sum 42 = .ok (.getfield 27, 3) := by decide +kernel
theorem dX2_sum_45 : decode cX2_sum 45 = .ok (.bipush 43, 2) := by decide +kernel
theorem dX2_sum_47 : decode cX2_sum 47 = .ok (.if_icmp .ne 8, 3) := by decide +kernel
theorem dX2_sum_50 : decode cX2_sum 50 = .ok (.bipush 8, 2) := by decide +kernel
theorem dX2_sum_52 : decode cX2_sum 52 = .ok (.goto 5, 3) := by decide +kernel
theorem dX2_sum_55 : decode cX2_sum 55 = .ok (.bipush 9, 2) := by decide +kernel
theorem dX2_sum_57 : decode cX2_sum 57 = .ok (.istore_n 3, 1) := by decide +kernel
theorem dX2_sum_58 : decode cX2_sum 58 = .ok (.aload_n 0, 1) := by decide +kernel
theorem dX2_sum_59 : decode cX2_sum 59 = .ok (.getfield 9, 3) := by decide +kernel
theorem dX2_sum_62 : decode cX2_sum 62 = .ok (.invokevirtual 33, 3) := by decide +kernel
theorem dX2_sum_65 : decode cX2_sum 65 = .ok (.iload_n 1, 1) := by decide +kernel
theorem dX2_sum_66 : decode cX2_sum 66 = .ok (.aload_n 0, 1) := by decide +kernel
theorem dX2_sum_67 : decode cX2_sum 67 = .ok (.invokevirtual 78, 3) := by decide +kernel
theorem dX2_sum_70 : decode cX2_sum 70 = .ok (.ior, 1) := by decide +kernel
theorem dX2_sum_71 : decode cX2_sum 71 = .ok (.iconst 1, 1) := by decide +kernel
theorem dX2_sum_72 : decode cX2_sum 72 = .ok (.iand, 1) := by decide +kernel
theorem dX2_sum_73 : decode cX2_sum 73 = .ok (.istore_n 1, 1) := by decide +kernel
theorem dX2_sum_74 : decode cX2_sum 74 = .ok (.aload_n 0, 1) := by decide +kernel
theorem dX2_sum_75 : decode cX2_sum 75 = .ok (.getfield 19, 3) := by decide +kernel
theorem dX2_sum_78 : decode cX2_sum 78 = .ok (.iload_n 3, 1) := by decide +kernel
theorem dX2_sum_79 : decode cX2_sum 79 = .ok (.invokevirtual 49, 3) := by decide +kernel
theorem dX2_sum_82 : decode cX2_sum 82 = .ok (.pop, 1) := by decide +kernel
theorem dX2_sum_83 : decode cX2_sum 83 = .ok (.iinc 2 1, 3) := by decide +kernel
theorem dX2_sum_86 : decode cX2_sum 86 = .ok (.goto (-79), 3) := by decide +kernel
theorem dX2_sum_89 : decode cX2_sum 89 = .ok (.iload_n 1, 1) := by decide +kernel
theorem dX2_sum_90 : decode cX2_sum 90 = .ok (.ireturn, 1) := by decide +kernel
def wX2_sum_b89 (U : Nat → kp_S → (Int32 → kp_S → Prop) → Prop) (N : Nat → kp_S → (Int32 → kp_S → Prop) → Prop) (a0 : Nat) (xn1 : Int32)  (Sn : kp_S) (post : Int32 → kp_S → Prop) : Prop :=
  post xn1 Sn
def wX2_sum_b57 (U : Nat → kp_S → (Int32 → kp_S → Prop) → Prop) (N : Nat → kp_S → (Int32 → kp_S → Prop) → Prop) (a0 : Nat) (xn1 : Int32) (xn2 : Int32) (xt0 : Int32) (K7 : Int32 → Int32 → kp_S → Prop) (Sn : kp_S) (post : Int32 → kp_S → Prop) : Prop :=
  ∃ b2001 : Nat, kp_R Sn 400 a0 = some b2001 ∧
  wX9_advance b2001 Sn (fun T2002 =>
  wX2_product U N a0 T2002 (fun y2004 T2003 =>
  ∀ y2005 : Int32, y2005 = ((xn1 ||| y2004) &&& 1) →
  ∃ b2006 : Nat, kp_R T2003 402 a0 = some b2006 ∧
  wX0_add b2006 xt0 T2003 (fun y2008 T2007 =>
  ∀ y2009 : Int32, y2009 = xn2 + 1 →
  K7 y2005 y2009 T2007)))
def wX2_sum_b38 (U : Nat → kp_S → (Int32 → kp_S → Prop) → Prop) (N : Nat → kp_S → (Int32 → kp_S → Prop) → Prop) (a0 : Nat) (xn1 : Int32) (xn2 : Int32) (K7 : Int32 → Int32 → kp_S → Prop) (Sn : kp_S) (post : Int32 → kp_S → Prop) : Prop :=
  ∃ b3001 : Nat, kp_R Sn 400 a0 = some b3001 ∧
  ((¬ (kp_I Sn 1805 b3001) = 43 →
  wX2_sum_b57 U N a0 xn1 xn2 9 K7 Sn post) ∧ ((kp_I Sn 1805 b3001) = 43 →
  wX2_sum_b57 U N a0 xn1 xn2 8 K7 Sn post))
def wX2_sum_L7 (U : Nat → kp_S → (Int32 → kp_S → Prop) → Prop) (N : Nat → kp_S → (Int32 → kp_S → Prop) → Prop) (a0 : Nat)  (post : Int32 → kp_S → Prop) : Nat → Int32 → Int32 → kp_S → Prop
  | 0, _, _, _ => False
  | n + 1, xn1, xn2, Sn =>
  ((3000 ≤ xn2 →
  wX2_sum_b89 U N a0 xn1  Sn post) ∧ (¬ 3000 ≤ xn2 →
  ∃ b4001 : Nat, kp_R Sn 400 a0 = some b4001 ∧
  (((kp_I Sn 1805 b4001) = 43 →
  wX2_sum_b38 U N a0 xn1 xn2 (fun xn1_ xn2_ S_ => wX2_sum_L7 U N a0  post n xn1_ xn2_ S_) Sn post) ∧ (¬ (kp_I Sn 1805 b4001) = 43 →
  ((¬ (kp_I Sn 1805 b4001) = 45 →
  wX2_sum_b89 U N a0 xn1  Sn post) ∧ ((kp_I Sn 1805 b4001) = 45 →
  wX2_sum_b38 U N a0 xn1 xn2 (fun xn1_ xn2_ S_ => wX2_sum_L7 U N a0  post n xn1_ xn2_ S_) Sn post))))))
def wX2_sum (U : Nat → kp_S → (Int32 → kp_S → Prop) → Prop) (N : Nat → kp_S → (Int32 → kp_S → Prop) → Prop) (a0 : Nat) (S : kp_S) (post : Int32 → kp_S → Prop) : Prop :=
  wX2_product U N a0 S (fun y2 T1 =>
  ∃ n0 : Nat, wX2_sum_L7 U N a0  post n0 y2 0 T1)
