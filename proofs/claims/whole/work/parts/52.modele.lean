set_option maxHeartbeats 4000000 in
set_option maxRecDepth 100000 in
theorem c_X12_run (l : Launch) (D : va_G) (cy : Nat → ClassId) (ad : (Nat → Nat) × (Nat → Nat)) (S : kp_S) (a0 : Nat) (x1 : Int32) (x2 : Int32) (x3 : Int32) (x4 : Int32) (post : Int32 → kp_S → Prop) (hS : kp_ok S) (f_a0 : kp_is S a0 12) (hw : wX12_run a0 x1 x2 x3 x4 S post) : kp_M l yX12_run cX12_run 7 (some .int) { frames := 9, cells := 0, slots := 0, locals := 204 } D cy ad S [.ref a0, .int x1, .int x2, .int x3, .int x4] 0 0 (fun A => kp_Qi D cy A S post) := by
  refine kp_start (own := RX12) (by decide) rfl (Nat.le_of_ble_eq_true rfl) hS ?_
  intro p e s m below meth c A ls X hr hlocks hname h hl
  have hle : kp_le S S := kp_le.rf
  have hl : lv_has ls 7 [(0, .ref a0), (1, .int x1), (2, .int x2), (3, .int x3), (4, .int x4)] := hl
  have j22 : ∀  (Sn : kp_S) (H : Heap) (locs : List Loc) (ls : Array Slot), lv_has ls 7 [(0, .ref a0)] → kp_H D cy A Sn s.heap H locs → kp_le S Sn → kp_is Sn a0 12 → wX12_run_b22 a0 x1 x2 x3 x4   Sn post → W p l e { frames := 9, cells := 0, slots := 0, locals := 204 } s m ([.ref a0, .int x1, .int x2, .int x3, .int x4] : List Value).toArray below meth c H locs 0 0 (MQ below (kp_Qi D cy A S post) ([.ref a0, .int x1, .int x2, .int x3, .int x4] : List Value).toArray s 0 0 A) (F0 m 22 ls []) := by
    intro  Sn H locs ls hl h hle f_a0 hw
    unfold wX12_run_b22 at hw
    refine lv_aload_n X.1 X.2.1 dX12_run_22 rfl (lv_at hl 0 rfl) ?_
    refine lv_iconst (v := 1) X.1 X.2.1 dX12_run_23 (by decide) ?_
    refine kp_putI X h f_a0 fp_12_1 rfl ⟨rfl, rfl⟩ dX12_run_24 (fun T1001 e_T1001 l_T1001 H locs h => ?_)
    have hw := hw T1001 e_T1001
    have f_a0 := l_T1001.is f_a0
    have hle := hle.tr l_T1001
    refine lv_iconst (v := 0) X.1 X.2.1 dX12_run_27 (by decide) ?_
    exact kp_reti X hr hlocks h hle rfl hw dX12_run_28
  have j54 : ∀  (Sn : kp_S) (H : Heap) (locs : List Loc) (ls : Array Slot), lv_has ls 7 [(0, .ref a0)] → kp_H D cy A Sn s.heap H locs → kp_le S Sn → kp_is Sn a0 12 → wX12_run_b54 a0 x1 x2 x3 x4   Sn post → W p l e { frames := 9, cells := 0, slots := 0, locals := 204 } s m ([.ref a0, .int x1, .int x2, .int x3, .int x4] : List Value).toArray below meth c H locs 0 0 (MQ below (kp_Qi D cy A S post) ([.ref a0, .int x1, .int x2, .int x3, .int x4] : List Value).toArray s 0 0 A) (F0 m 54 ls []) := by
    intro  Sn H locs ls hl h hle f_a0 hw
    unfold wX12_run_b54 at hw
    refine lv_aload_n X.1 X.2.1 dX12_run_54 rfl (lv_at hl 0 rfl) ?_
    refine lv_iconst (v := 2) X.1 X.2.1 dX12_run_55 (by decide) ?_
    refine kp_putI X h f_a0 fp_12_1 rfl ⟨rfl, rfl⟩ dX12_run_56 (fun T2001 e_T2001 l_T2001 H locs h => ?_)
    have hw := hw T2001 e_T2001
    have f_a0 := l_T2001.is f_a0
    have hle := hle.tr l_T2001
    refine lv_iconst (v := 0) X.1 X.2.1 dX12_run_59 (by decide) ?_
    exact kp_reti X hr hlocks h hle rfl hw dX12_run_60
  have j147 : ∀  (Sn : kp_S) (H : Heap) (locs : List Loc) (ls : Array Slot), lv_has ls 7 [(0, .ref a0), (4, .int x4)] → kp_H D cy A Sn s.heap H locs → kp_le S Sn → kp_is Sn a0 12 → wX12_run_b147 a0 x1 x2 x3 x4   Sn post → W p l e { frames := 9, cells := 0, slots := 0, locals := 204 } s m ([.ref a0, .int x1, .int x2, .int x3, .int x4] : List Value).toArray below meth c H locs 0 0 (MQ below (kp_Qi D cy A S post) ([.ref a0, .int x1, .int x2, .int x3, .int x4] : List Value).toArray s 0 0 A) (F0 m 147 ls []) := by
    intro  Sn H locs ls hl h hle f_a0 hw
    unfold wX12_run_b147 at hw
    refine lv_aload_n X.1 X.2.1 dX12_run_147 rfl (lv_at hl 0 rfl) ?_
    refine lv_aload_n X.1 X.2.1 dX12_run_148 rfl (lv_at hl 0 rfl) ?_
    refine kp_get X h f_a0 fp_12_607.l (v := .int (kp_I Sn 2512 a0)) rfl dX12_run_149 ?_
    refine kp_putI X h f_a0 fp_12_803 rfl ⟨rfl, rfl⟩ dX12_run_152 (fun T3001 e_T3001 l_T3001 H locs h => ?_)
    have hw := hw T3001 e_T3001
    have f_a0 := l_T3001.is f_a0
    have hle := hle.tr l_T3001
    refine lv_aload_n X.1 X.2.1 dX12_run_155 rfl (lv_at hl 0 rfl) ?_
    refine lv_dup X.1 X.2.1 dX12_run_156 rfl ?_
    refine kp_get X h f_a0 fp_12_793.l (v := .int (kp_I T3001 2524 a0)) rfl dX12_run_157 ?_
    refine lv_iload X.1 X.2.1 dX12_run_160 (lv_at hl 1 rfl) ?_
    refine lv_aload_n X.1 X.2.1 dX12_run_162 rfl (lv_at hl 0 rfl) ?_
    refine kp_get X h f_a0 fp_12_607.l (v := .int (kp_I T3001 2512 a0)) rfl dX12_run_163 ?_
    refine lv_isub X.1 X.2.1 dX12_run_166 ?_
    refine lv_iadd X.1 X.2.1 dX12_run_167 ?_
    refine kp_putI X h f_a0 fp_12_793 rfl ⟨rfl, rfl⟩ dX12_run_168 (fun T3002 e_T3002 l_T3002 H locs h => ?_)
    have hw := hw T3002 e_T3002
    have f_a0 := l_T3002.is f_a0
    have hle := hle.tr l_T3002
    refine lv_aload_n X.1 X.2.1 dX12_run_171 rfl (lv_at hl 0 rfl) ?_
    refine kp_callv X h (kp_runV (rm := { frames := 0, cells := 0, slots := 0, locals := 0 }) (mc := 0) (ms := 0) (rest := []) (Qc := fun A => kp_Qv D cy A T3002 _) X h (c_X12_tellEnd l D cy ad T3002 a0 _ h.2.2.2 f_a0 hw) f_a0 cv_12_806 ⟨by decide, by decide, rfl, rfl, by decide, by decide⟩ rfl hl.1 rfl (Nat.le_of_ble_eq_true rfl) dX12_run_172) (fun T3003 hw l_T3003 H locs h => ?_)
    have f_a0 := l_T3003.is f_a0
    have hle := hle.tr l_T3003
    refine lv_aload_n X.1 X.2.1 dX12_run_175 rfl (lv_at hl 0 rfl) ?_
    refine kp_get X h f_a0 fp_12_242.l (v := .int (kp_I T3003 2517 a0)) rfl dX12_run_176 ?_
    exact kp_reti X hr hlocks h hle rfl hw dX12_run_179
  have L126 : ∀ n126 : Nat, ∀  (Sn : kp_S) (H : Heap) (locs : List Loc) (ls : Array Slot), lv_has ls 7 [(0, .ref a0), (4, .int x4)] → kp_H D cy A Sn s.heap H locs → kp_le S Sn → kp_is Sn a0 12 → wX12_run_L126 a0 x1 x2 x3 x4  post n126  Sn → W p l e { frames := 9, cells := 0, slots := 0, locals := 204 } s m ([.ref a0, .int x1, .int x2, .int x3, .int x4] : List Value).toArray below meth c H locs 0 0 (MQ below (kp_Qi D cy A S post) ([.ref a0, .int x1, .int x2, .int x3, .int x4] : List Value).toArray s 0 0 A) (F0 m 126 ls []) := by
    intro n126
    induction n126 with
    | zero => intro  Sn H locs ls hl h hle f_a0 hw; exact hw.elim
    | succ n126 ih126 =>
      intro  Sn H locs ls hl h hle f_a0 hw
      unfold wX12_run_L126 at hw
      refine lv_aload_n X.1 X.2.1 dX12_run_126 rfl (lv_at hl 0 rfl) ?_
      refine kp_get X h f_a0 fp_12_610.l (v := .int (kp_I Sn 2513 a0)) rfl dX12_run_127 ?_
      refine lv_if_ne (tgt := 147) X.1 X.2.1 dX12_run_130 (by decide) (fun c4003 => ?_) (fun c4003 => ?_)
      · have hw := hw.1 c4003
        exact j147  Sn H locs ls (lv_sub hl [0, 1] rfl) h hle f_a0 hw
      · have hw := hw.2 c4003
        refine lv_aload_n X.1 X.2.1 dX12_run_133 rfl (lv_at hl 0 rfl) ?_
        refine kp_get X h f_a0 fp_12_705.l (v := .int (kp_I Sn 2514 a0)) rfl dX12_run_134 ?_
        refine lv_if_ne (tgt := 147) X.1 X.2.1 dX12_run_137 (by decide) (fun c4002 => ?_) (fun c4002 => ?_)
        · have hw := hw.1 c4002
          exact j147  Sn H locs ls (lv_sub hl [0, 1] rfl) h hle f_a0 hw
        · have hw := hw.2 c4002
          refine lv_aload_n X.1 X.2.1 dX12_run_140 rfl (lv_at hl 0 rfl) ?_
          refine kp_callv X h (kp_runV (rm := { frames := 8, cells := 0, slots := 0, locals := 181 }) (mc := 0) (ms := 0) (rest := []) (Qc := fun A => kp_Qv D cy A Sn _) X h (c_X12_step l D cy ad Sn a0 _ h.2.2.2 f_a0 hw) f_a0 cv_12_800 ⟨by decide, by decide, rfl, rfl, by decide, by decide⟩ rfl hl.1 rfl (Nat.le_of_ble_eq_true rfl) dX12_run_141) (fun T4001 hw l_T4001 H locs h => ?_)
          have f_a0 := l_T4001.is f_a0
          have hle := hle.tr l_T4001
          refine lv_goto (tgt := 126) X.1 X.2.1 dX12_run_144 (by decide) ?_
          exact ih126  T4001 H locs ls (lv_sub hl [0, 1] rfl) h hle f_a0 hw
  have L82 : ∀ n82 : Nat, ∀ (xn5 : Int32) (xn6 : Int32) (Sn : kp_S) (H : Heap) (locs : List Loc) (ls : Array Slot), lv_has ls 7 [(0, .ref a0), (1, .int x1), (2, .int x2), (3, .int x3), (4, .int x4), (5, .int xn5), (6, .int xn6)] → kp_H D cy A Sn s.heap H locs → kp_le S Sn → kp_is Sn a0 12 → wX12_run_L82 a0 x1 x2 x3 x4  post n82 xn5 xn6 Sn → W p l e { frames := 9, cells := 0, slots := 0, locals := 204 } s m ([.ref a0, .int x1, .int x2, .int x3, .int x4] : List Value).toArray below meth c H locs 0 0 (MQ below (kp_Qi D cy A S post) ([.ref a0, .int x1, .int x2, .int x3, .int x4] : List Value).toArray s 0 0 A) (F0 m 82 ls []) := by
    intro n82
    induction n82 with
    | zero => intro xn5 xn6 Sn H locs ls hl h hle f_a0 hw; exact hw.elim
    | succ n82 ih82 =>
      have j110 : ∀ (xn5 : Int32) (xn6 : Int32) (xt0 : Int32) (at1 : Nat) (Sn : kp_S) (H : Heap) (locs : List Loc) (ls : Array Slot), lv_has ls 7 [(0, .ref a0), (1, .int x1), (2, .int x2), (3, .int x3), (4, .int x4), (5, .int xn5), (6, .int xn6)] → kp_H D cy A Sn s.heap H locs → kp_le S Sn → kp_is Sn a0 12 → kp_is Sn at1 12 → wX12_run_b110 a0 x1 x2 x3 x4 xn5 xn6 xt0 at1 (fun xn5_ xn6_ S_ => wX12_run_L82 a0 x1 x2 x3 x4  post n82 xn5_ xn6_ S_) Sn post → W p l e { frames := 9, cells := 0, slots := 0, locals := 204 } s m ([.ref a0, .int x1, .int x2, .int x3, .int x4] : List Value).toArray below meth c H locs 0 0 (MQ below (kp_Qi D cy A S post) ([.ref a0, .int x1, .int x2, .int x3, .int x4] : List Value).toArray s 0 0 A) (F0 m 110 ls [.int xt0, .ref at1]) := by
        intro xn5 xn6 xt0 at1 Sn H locs ls hl h hle f_a0 f_at1 hw
        unfold wX12_run_b110 at hw
        refine kp_callv X h (kp_runV (rm := { frames := 0, cells := 0, slots := 0, locals := 0 }) (mc := 0) (ms := 0) (rest := []) (Qc := fun A => kp_Qv D cy A Sn _) X h (c_X12_push l D cy ad Sn at1 xt0 _ h.2.2.2 f_at1 hw) f_at1 cv_12_708 ⟨by decide, by decide, rfl, rfl, by decide, by decide⟩ rfl hl.1 rfl (Nat.le_of_ble_eq_true rfl) dX12_run_110) (fun T5001 hw l_T5001 H locs h => ?_)
        have f_a0 := l_T5001.is f_a0
        have f_at1 := l_T5001.is f_at1
        have hle := hle.tr l_T5001
        obtain ⟨y5002, e_y5002⟩ : ∃ y : Int32, y = xn6 + 1 := ⟨_, rfl⟩
        have hw := hw y5002 e_y5002
        refine lv_iinc (v := y5002) (lv' := [(6, .int y5002), (0, .ref a0), (1, .int x1), (2, .int x2), (3, .int x3), (4, .int x4), (5, .int xn5)]) X.1 X.2.1 dX12_run_113 hl (k := 6) rfl (by rw [e_y5002]; rfl) (by decide) rfl (fun ls hl => ?_)
        refine lv_goto (tgt := 82) X.1 X.2.1 dX12_run_116 (by decide) ?_
        exact ih82 xn5 y5002 T5001 H locs ls (lv_sub hl [1, 2, 3, 4, 5, 6, 0] rfl) h hle f_a0 hw
      intro xn5 xn6 Sn H locs ls hl h hle f_a0 hw
      unfold wX12_run_L82 at hw
      refine lv_iload X.1 X.2.1 dX12_run_82 (lv_at hl 6 rfl) ?_
      refine lv_iload X.1 X.2.1 dX12_run_84 (lv_at hl 5 rfl) ?_
      refine lv_icmp_ge (tgt := 119) X.1 X.2.1 dX12_run_86 (by decide) (fun c6004 => ?_) (fun c6004 => ?_)
      · have hw := hw.1 c6004
        refine lv_aload_n X.1 X.2.1 dX12_run_119 rfl (lv_at hl 0 rfl) ?_
        refine lv_iload_n X.1 X.2.1 dX12_run_120 rfl (lv_at hl 1 rfl) ?_
        refine lv_iload X.1 X.2.1 dX12_run_121 (lv_at hl 5 rfl) ?_
        refine kp_callv X h (kp_runV (rm := { frames := 6, cells := 0, slots := 0, locals := 130 }) (mc := 0) (ms := 0) (rest := []) (Qc := fun A => kp_Qv D cy A Sn _) X h (c_X12_calls l D cy ad Sn a0 x1 xn5 _ h.2.2.2 f_a0 hw) f_a0 cv_12_728 ⟨by decide, by decide, rfl, rfl, by decide, by decide⟩ rfl hl.1 rfl (Nat.le_of_ble_eq_true rfl) dX12_run_123) (fun T6001 hw l_T6001 H locs h => ?_)
        have f_a0 := l_T6001.is f_a0
        have hle := hle.tr l_T6001
        obtain ⟨n0, hw⟩ := hw
        exact L126 n0  T6001 H locs ls (lv_sub hl [0, 4] rfl) h hle f_a0 hw
      · have hw := hw.2 c6004
        refine lv_aload_n X.1 X.2.1 dX12_run_89 rfl (lv_at hl 0 rfl) ?_
        refine lv_iload X.1 X.2.1 dX12_run_90 (lv_at hl 6 rfl) ?_
        refine lv_if_ne (tgt := 99) X.1 X.2.1 dX12_run_92 (by decide) (fun c6003 => ?_) (fun c6003 => ?_)
        · have hw := hw.1 c6003
          refine lv_iload X.1 X.2.1 dX12_run_99 (lv_at hl 6 rfl) ?_
          refine lv_iconst (v := 1) X.1 X.2.1 dX12_run_101 (by decide) ?_
          refine lv_icmp_ne (tgt := 109) X.1 X.2.1 dX12_run_102 (by decide) (fun c6002 => ?_) (fun c6002 => ?_)
          · have hw := hw.1 c6002
            refine lv_iconst (v := 0) X.1 X.2.1 dX12_run_109 (by decide) ?_
            exact j110 xn5 xn6 0 a0 Sn H locs ls (lv_sub hl [0, 1, 2, 3, 4, 5, 6] rfl) h hle f_a0 f_a0 hw
          · have hw := hw.2 c6002
            refine lv_iload_n X.1 X.2.1 dX12_run_105 rfl (lv_at hl 3 rfl) ?_
            refine lv_goto (tgt := 110) X.1 X.2.1 dX12_run_106 (by decide) ?_
            exact j110 xn5 xn6 x3 a0 Sn H locs ls (lv_sub hl [0, 1, 2, 3, 4, 5, 6] rfl) h hle f_a0 f_a0 hw
        · have hw := hw.2 c6003
          refine lv_iload_n X.1 X.2.1 dX12_run_95 rfl (lv_at hl 2 rfl) ?_
          refine lv_goto (tgt := 110) X.1 X.2.1 dX12_run_96 (by decide) ?_
          exact j110 xn5 xn6 x2 a0 Sn H locs ls (lv_sub hl [0, 1, 2, 3, 4, 5, 6] rfl) h hle f_a0 f_a0 hw
  unfold wX12_run at hw
  have h : kp_H D cy A S s.heap s.heap [] := h
  revert h
  intro h
  refine lv_aload_n X.1 X.2.1 dX12_run_0 rfl (lv_at hl 0 rfl) ?_
  refine lv_iconst (v := 0) X.1 X.2.1 dX12_run_1 (by decide) ?_
  refine kp_putI X h f_a0 fp_12_1 rfl ⟨rfl, rfl⟩ dX12_run_2 (fun T1 e_T1 l_T1 H locs h => ?_)
  have hw := hw T1 e_T1
  have f_a0 := l_T1.is f_a0
  have hle := hle.tr l_T1
  refine lv_aload_n X.1 X.2.1 dX12_run_5 rfl (lv_at hl 0 rfl) ?_
  refine kp_get X h f_a0 fp_12_583.l (v := .int (kp_I T1 2447 a0)) rfl dX12_run_6 ?_
  refine lv_if_eq (tgt := 22) X.1 X.2.1 dX12_run_9 (by decide) (fun c11 => ?_) (fun c11 => ?_)
  · have hw := hw.1 c11
    exact j22  T1 _ _ ls (lv_sub hl [0] rfl) h hle f_a0 hw
  · have hw := hw.2 c11
    refine lv_aload_n X.1 X.2.1 dX12_run_12 rfl (lv_at hl 0 rfl) ?_
    refine kp_get X h f_a0 fp_12_793.l (v := .int (kp_I T1 2524 a0)) rfl dX12_run_13 ?_
    refine lv_ldcw (v := 200000) X.1 X.2.1 X.2.2.2.1 (X.2.2.2.2.1 _ kc_12_796) dX12_run_16 ?_
    refine lv_icmp_lt (tgt := 29) X.1 X.2.1 dX12_run_19 (by decide) (fun c10 => ?_) (fun c10 => ?_)
    · have hw := hw.1 c10
      refine lv_iload_n X.1 X.2.1 dX12_run_29 rfl (lv_at hl 1 rfl) ?_
      refine lv_if_lt (tgt := 54) X.1 X.2.1 dX12_run_30 (by decide) (fun c9 => ?_) (fun c9 => ?_)
      · have hw := hw.1 c9
        exact j54  T1 _ _ ls (lv_sub hl [0] rfl) h hle f_a0 hw
      · have hw := hw.2 c9
        refine lv_iload_n X.1 X.2.1 dX12_run_33 rfl (lv_at hl 1 rfl) ?_
        refine lv_aload_n X.1 X.2.1 dX12_run_34 rfl (lv_at hl 0 rfl) ?_
        refine kp_get X h f_a0 fp_12_586.l (v := .int (kp_I T1 2462 a0)) rfl dX12_run_35 ?_
        refine lv_icmp_ge (tgt := 54) X.1 X.2.1 dX12_run_38 (by decide) (fun c8 => ?_) (fun c8 => ?_)
        · have hw := hw.1 c8
          exact j54  T1 _ _ ls (lv_sub hl [0] rfl) h hle f_a0 hw
        · have hw := hw.2 c8
          refine lv_iload X.1 X.2.1 dX12_run_41 (lv_at hl 4 rfl) ?_
          refine lv_if_lt (tgt := 54) X.1 X.2.1 dX12_run_43 (by decide) (fun c7 => ?_) (fun c7 => ?_)
          · have hw := hw.1 c7
            exact j54  T1 _ _ ls (lv_sub hl [0] rfl) h hle f_a0 hw
          · have hw := hw.2 c7
            refine lv_iload X.1 X.2.1 dX12_run_46 (lv_at hl 4 rfl) ?_
            refine lv_sipush (v := 20000) X.1 X.2.1 dX12_run_48 (by decide) ?_
            refine lv_icmp_le (tgt := 61) X.1 X.2.1 dX12_run_51 (by decide) (fun c6 => ?_) (fun c6 => ?_)
            · have hw := hw.1 c6
              refine lv_aload_n X.1 X.2.1 dX12_run_61 rfl (lv_at hl 0 rfl) ?_
              refine kp_callv X h (kp_runV (rm := { frames := 0, cells := 0, slots := 0, locals := 0 }) (mc := 0) (ms := 0) (rest := []) (Qc := fun A => kp_Qv D cy A T1 _) X h (c_X12_clear l D cy ad T1 a0 _ h.2.2.2 f_a0 hw) f_a0 cv_12_797 ⟨by decide, by decide, rfl, rfl, by decide, by decide⟩ rfl hl.1 rfl (Nat.le_of_ble_eq_true rfl) dX12_run_62) (fun T2 hw l_T2 H locs h => ?_)
              have f_a0 := l_T2.is f_a0
              have hle := hle.tr l_T2
              refine lv_aload_n X.1 X.2.1 dX12_run_65 rfl (lv_at hl 0 rfl) ?_
              refine lv_iload X.1 X.2.1 dX12_run_66 (lv_at hl 4 rfl) ?_
              refine kp_putI X h f_a0 fp_12_607 rfl ⟨rfl, rfl⟩ dX12_run_68 (fun T3 e_T3 l_T3 H locs h => ?_)
              have hw := hw T3 e_T3
              have f_a0 := l_T3.is f_a0
              have hle := hle.tr l_T3
              refine lv_aload_n X.1 X.2.1 dX12_run_71 rfl (lv_at hl 0 rfl) ?_
              obtain ⟨b4, e_b4, hw⟩ := hw
              have f_b4 := h.2.2.2.rf (c := 12) (k := 58) f_a0 (by decide) (by decide) e_b4 (t := 14) rfl
              refine kp_get X h f_a0 ff_12_142.l (v := .ref b4) (congrArg va_rf e_b4) dX12_run_72 ?_
              refine lv_iload_n X.1 X.2.1 dX12_run_75 rfl (lv_at hl 1 rfl) ?_
              obtain ⟨hi, hw⟩ := hw
              refine kp_iald X h f_b4 hi dX12_run_76 ?_
              refine lv_topi (fun y5 e_y5 => ?_)
              have hw := hw y5 e_y5
              refine lv_istore (lv' := [(5, .int y5), (0, .ref a0), (1, .int x1), (2, .int x2), (3, .int x3), (4, .int x4)]) X.1 X.2.1 dX12_run_77 hl (by decide) rfl (fun ls hl => ?_)
              refine lv_iconst (v := 0) X.1 X.2.1 dX12_run_79 (by decide) ?_
              refine lv_istore (lv' := [(6, .int 0), (5, .int y5), (0, .ref a0), (1, .int x1), (2, .int x2), (3, .int x3), (4, .int x4)]) X.1 X.2.1 dX12_run_80 hl (by decide) rfl (fun ls hl => ?_)
              obtain ⟨n0, hw⟩ := hw
              exact L82 n0 y5 0 T3 _ _ ls (lv_sub hl [2, 3, 4, 5, 6, 1, 0] rfl) h hle f_a0 hw
            · have hw := hw.2 c6
              exact j54  T1 _ _ ls (lv_sub hl [0] rfl) h hle f_a0 hw
    · have hw := hw.2 c10
      exact j22  T1 _ _ ls (lv_sub hl [0] rfl) h hle f_a0 hw
theorem dX12_told_0 : decode cX12_told 0 = .ok (.aload_n 0, 1) := by decide +kernel
theorem dX12_told_1 : decode cX12_told 1 = .ok (.iconst 0, 1) := by decide +kernel
theorem dX12_told_2 : decode cX12_told 2 = .ok (.putfield 1, 3) := by decide +kernel
theorem dX12_told_5 : decode cX12_told 5 = .ok (.iload_n 1, 1) := by decide +kernel
theorem dX12_told_6 : decode cX12_told 6 = .ok (.tableswitch 185 0 18 #[90, 95, 100, 105, 110, 115, 120, 125, 130, 135, 140, 145, 150, 155, 160, 165, 170, 175, 180], 90) := by decide +kernel
theorem dX12_told_96 : decode cX12_told 96 = .ok (.aload_n 0, 1) := by decide +kernel
theorem dX12_told_97 : decode cX12_told 97 = .ok (.getfield 242, 3) := by decide +kernel
theorem dX12_told_100 : decode cX12_told 100 = .ok (.ireturn, 1) := by decide +kernel
theorem dX12_told_101 : decode cX12_told 101 = .ok (.aload_n 0, 1) := by decide +kernel
theorem dX12_told_102 : decode cX12_told 102 = .ok (.getfield 809, 3) := by decide +kernel
theorem dX12_told_105 : decode cX12_told 105 = .ok (.ireturn, 1) := by decide +kernel
theorem dX12_told_106 : decode cX12_told 106 = .ok (.aload_n 0, 1) := by decide +kernel
theorem dX12_told_107 : decode cX12_told 107 = .ok (.getfield 812, 3) := by decide +kernel
theorem dX12_told_110 : decode cX12_told 110 = .ok (.ireturn, 1) := by decide +kernel
theorem dX12_told_111 : decode cX12_told 111 = .ok (.aload_n 0, 1) := by decide +kernel
theorem dX12_told_112 : decode cX12_told 112 = .ok (.getfield 815, 3) := by decide +kernel
theorem dX12_told_115 : decode cX12_told 115 = .ok (.ireturn, 1) := by decide +kernel
theorem dX12_told_116 : decode cX12_told 116 = .ok (.aload_n 0, 1) := by decide +kernel
theorem dX12_told_117 : decode cX12_told 117 = .ok (.getfield 245, 3) := by decide +kernel
theorem dX12_told_120 : decode cX12_told 120 = .ok (.ireturn, 1) := by decide +kernel
theorem dX12_told_121 : decode cX12_told 121 = .ok (.aload_n 0, 1) := by decide +kernel
theorem dX12_told_122 : decode cX12_told 122 = .ok (.getfield 803, 3) := by decide +kernel
theorem dX12_told_125 : decode cX12_told 125 = .ok (.ireturn, 1) := by decide +kernel
theorem dX12_told_126 : decode cX12_told 126 = .ok (.aload_n 0, 1) := by decide +kernel
theorem dX12_told_127 : decode cX12_told 127 = .ok (.getfield 778, 3) := by decide +kernel
theorem dX12_told_130 : decode cX12_told 130 = .ok (.ireturn, 1) := by decide +kernel
theorem dX12_told_131 : decode cX12_told 131 = .ok (.aload_n 0, 1) := by decide +kernel
theorem dX12_told_132 : decode cX12_told 132 = .ok (.getfield 669, 3) := by decide +kernel
theorem dX12_told_135 : decode cX12_told 135 = .ok (.ireturn, 1) := by decide +kernel
theorem dX12_told_136 : decode cX12_told 136 = .ok (.aload_n 0, 1) := by decide +kernel
theorem dX12_told_137 : decode cX12_told 137 = .ok (.getfield 770, 3) := by decide +kernel
theorem dX12_told_140 : decode cX12_told 140 = .ok (.ireturn, 1) := by decide +kernel
theorem dX12_told_141 : decode cX12_told 141 = .ok (.aload_n 0, 1) := by decide +kernel
theorem dX12_told_142 : decode cX12_told 142 = .ok (.getfield 678, 3) := by decide +kernel
theorem dX12_told_145 : decode cX12_told 145 = .ok (.ireturn, 1) := by decide +kernel
theorem dX12_told_146 : decode cX12_told 146 = .ok (.aload_n 0, 1) := by decide +kernel
theorem dX12_told_147 : decode cX12_told 147 = .ok (.getfield 784, 3) := by decide +kernel
theorem dX12_told_150 : decode cX12_told 150 = .ok (.ireturn, 1) := by decide +kernel
theorem dX12_told_151 : decode cX12_told 151 = .ok (.aload_n 0, 1) := by decide +kernel
theorem dX12_told_152 : decode cX12_told 152 = .ok (.getfield 702, 3) := by decide +kernel
theorem dX12_told_155 : decode cX12_told 155 = .ok (.ireturn, 1) := by decide +kernel
theorem dX12_told_156 : decode cX12_told 156 = .ok (.aload_n 0, 1) := by decide +kernel
theorem dX12_told_157 : decode cX12_told 157 = .ok (.getfield 642, 3) := by decide +kernel
theorem dX12_told_160 : decode cX12_told 160 = .ok (.ireturn, 1) := by decide +kernel
theorem dX12_told_161 : decode cX12_told 161 = .ok (.aload_n 0, 1) := by decide +kernel
theorem dX12_told_162 : decode cX12_told 162 = .ok (.getfield 781, 3) := by decide +kernel
theorem dX12_told_165 : decode cX12_told 165 = .ok (.ireturn, 1) := by decide +kernel
theorem dX12_told_166 : decode cX12_told 166 = .ok (.aload_n 0, 1) := by decide +kernel
theorem dX12_told_167 : decode cX12_told 167 = .ok (.getfield 634, 3) := by decide +kernel
theorem dX12_told_170 : decode cX12_told 170 = .ok (.ireturn, 1) := by decide +kernel
theorem dX12_told_171 : decode cX12_told 171 = .ok (.aload_n 0, 1) := by decide +kernel
theorem dX12_told_172 : decode cX12_told 172 = .ok (.getfield 711, 3) := by decide +kernel
theorem dX12_told_175 : decode cX12_told 175 = .ok (.ireturn, 1) := by decide +kernel
theorem dX12_told_176 : decode cX12_told 176 = .ok (.aload_n 0, 1) := by decide +kernel
theorem dX12_told_177 : decode cX12_told 177 = .ok (.getfield 601, 3) := by decide +kernel
theorem dX12_told_180 : decode cX12_told 180 = .ok (.ireturn, 1) := by decide +kernel
theorem dX12_told_181 : decode cX12_told 181 = .ok (.aload_n 0, 1) := by decide +kernel
theorem dX12_told_182 : decode cX12_told 182 = .ok (.getfield 793, 3) := by decide +kernel
theorem dX12_told_185 : decode cX12_told 185 = .ok (.ireturn, 1) := by decide +kernel
theorem dX12_told_186 : decode cX12_told 186 = .ok (.aload_n 0, 1) := by decide +kernel
theorem dX12_told_187 : decode cX12_told 187 = .ok (.getfield 818, 3) := by decide +kernel
theorem dX12_told_190 : decode cX12_told 190 = .ok (.ireturn, 1) := by decide +kernel
theorem dX12_told_191 : decode cX12_told 191 = .ok (.iconst (-1), 1) := by decide +kernel
theorem dX12_told_192 : decode cX12_told 192 = .ok (.ireturn, 1) := by decide +kernel
def wX12_told (a0 : Nat) (x1 : Int32) (S : kp_S) (post : Int32 → kp_S → Prop) : Prop :=
  ∀ T1 : kp_S, T1 = kp_sI S 2400 a0 0 →
  ((x1 = 0 →
  post (kp_I T1 2517 a0) T1) ∧ (¬ x1 = 0 →
  ((x1 = 1 →
  post (kp_I T1 2518 a0) T1) ∧ (¬ x1 = 1 →
  ((x1 = 2 →
  post (kp_I T1 2519 a0) T1) ∧ (¬ x1 = 2 →
  ((x1 = 3 →
  post (kp_I T1 2520 a0) T1) ∧ (¬ x1 = 3 →
  ((x1 = 4 →
  post (kp_I T1 2522 a0) T1) ∧ (¬ x1 = 4 →
  ((x1 = 5 →
  post (kp_I T1 2523 a0) T1) ∧ (¬ x1 = 5 →
  ((x1 = 6 →
  post (kp_I T1 2471 a0) T1) ∧ (¬ x1 = 6 →
  ((x1 = 7 →
  post (kp_I T1 2472 a0) T1) ∧ (¬ x1 = 7 →
  ((x1 = 8 →
  post (kp_I T1 2473 a0) T1) ∧ (¬ x1 = 8 →
  ((x1 = 9 →
  post (kp_I T1 2474 a0) T1) ∧ (¬ x1 = 9 →
  ((x1 = 10 →
  post (kp_I T1 2475 a0) T1) ∧ (¬ x1 = 10 →
  ((x1 = 11 →
  post (kp_I T1 2476 a0) T1) ∧ (¬ x1 = 11 →
  ((x1 = 12 →
  post (kp_I T1 2477 a0) T1) ∧ (¬ x1 = 12 →
  ((x1 = 13 →
  post (kp_I T1 2478 a0) T1) ∧ (¬ x1 = 13 →
  ((x1 = 14 →
  post (kp_I T1 2479 a0) T1) ∧ (¬ x1 = 14 →
  ((x1 = 15 →
  post (kp_I T1 2480 a0) T1) ∧ (¬ x1 = 15 →
  ((x1 = 16 →
  post (kp_I T1 2470 a0) T1) ∧ (¬ x1 = 16 →
  ((x1 = 17 →
  post (kp_I T1 2524 a0) T1) ∧ (¬ x1 = 17 →
  ((x1 = 18 →
  post (kp_I T1 2521 a0) T1) ∧ (¬ x1 = 18 →
  post (-1) T1))))))))))))))))))))))))))))))))))))))
set_option maxHeartbeats 4000000 in
set_option maxRecDepth 100000 in
theorem c_X12_told (l : Launch) (D : va_G) (cy : Nat → ClassId) (ad : (Nat → Nat) × (Nat → Nat)) (S : kp_S) (a0 : Nat) (x1 : Int32) (post : Int32 → kp_S → Prop) (hS : kp_ok S) (f_a0 : kp_is S a0 12) (hw : wX12_told a0 x1 S post) : kp_M l yX12_told cX12_told 2 (some .int) { frames := 0, cells := 0, slots := 0, locals := 0 } D cy ad S [.ref a0, .int x1] 0 0 (fun A => kp_Qi D cy A S post) := by
  refine kp_start (own := RX12) (by decide) rfl (Nat.le_of_ble_eq_true rfl) hS ?_
  intro p e s m below meth c A ls X hr hlocks hname h hl
  have hle : kp_le S S := kp_le.rf
  have hl : lv_has ls 2 [(0, .ref a0), (1, .int x1)] := hl
  unfold wX12_told at hw
  have h : kp_H D cy A S s.heap s.heap [] := h
  revert h
  intro h
  refine lv_aload_n X.1 X.2.1 dX12_told_0 rfl (lv_at hl 0 rfl) ?_
  refine lv_iconst (v := 0) X.1 X.2.1 dX12_told_1 (by decide) ?_
  refine kp_putI X h f_a0 fp_12_1 rfl ⟨rfl, rfl⟩ dX12_told_2 (fun T1 e_T1 l_T1 H locs h => ?_)
  have hw := hw T1 e_T1
  have f_a0 := l_T1.is f_a0
  have hle := hle.tr l_T1
  refine lv_iload_n X.1 X.2.1 dX12_told_5 rfl (lv_at hl 1 rfl) ?_
  by_cases c2 : x1 = 0
  · have hw := hw.1 c2
    refine lv_tableIn (off := 90) (tgt := 96) X.1 X.2.1 dX12_told_6 (by rw [c2]; decide) (by rw [c2]; decide) (by rw [c2]; decide) (by decide) ?_
    refine lv_aload_n X.1 X.2.1 dX12_told_96 rfl (lv_at hl 0 rfl) ?_
    refine kp_get X h f_a0 fp_12_242.l (v := .int (kp_I T1 2517 a0)) rfl dX12_told_97 ?_
    exact kp_reti X hr hlocks h hle rfl hw dX12_told_100
  have hw := hw.2 c2
  by_cases c3 : x1 = 1
  · have hw := hw.1 c3
    refine lv_tableIn (off := 95) (tgt := 101) X.1 X.2.1 dX12_told_6 (by rw [c3]; decide) (by rw [c3]; decide) (by rw [c3]; decide) (by decide) ?_
    refine lv_aload_n X.1 X.2.1 dX12_told_101 rfl (lv_at hl 0 rfl) ?_
    refine kp_get X h f_a0 fp_12_809.l (v := .int (kp_I T1 2518 a0)) rfl dX12_told_102 ?_
    exact kp_reti X hr hlocks h hle rfl hw dX12_told_105
  have hw := hw.2 c3
  by_cases c4 : x1 = 2
  · have hw := hw.1 c4
    refine lv_tableIn (off := 100) (tgt := 106) X.1 X.2.1 dX12_told_6 (by rw [c4]; decide) (by rw [c4]; decide) (by rw [c4]; decide) (by decide) ?_
    refine lv_aload_n X.1 X.2.1 dX12_told_106 rfl (lv_at hl 0 rfl) ?_
    refine kp_get X h f_a0 fp_12_812.l (v := .int (kp_I T1 2519 a0)) rfl dX12_told_107 ?_
    exact kp_reti X hr hlocks h hle rfl hw dX12_told_110
  have hw := hw.2 c4
  by_cases c5 : x1 = 3
  · have hw := hw.1 c5
    refine lv_tableIn (off := 105) (tgt := 111) X.1 X.2.1 dX12_told_6 (by rw [c5]; decide) (by rw [c5]; decide) (by rw [c5]; decide) (by decide) ?_
    refine lv_aload_n X.1 X.2.1 dX12_told_111 rfl (lv_at hl 0 rfl) ?_
    refine kp_get X h f_a0 fp_12_815.l (v := .int (kp_I T1 2520 a0)) rfl dX12_told_112 ?_
    exact kp_reti X hr hlocks h hle rfl hw dX12_told_115
  have hw := hw.2 c5
  by_cases c6 : x1 = 4
  · have hw := hw.1 c6
    refine lv_tableIn (off := 110) (tgt := 116) X.1 X.2.1 dX12_told_6 (by rw [c6]; decide) (by rw [c6]; decide) (by rw [c6]; decide) (by decide) ?_
    refine lv_aload_n X.1 X.2.1 dX12_told_116 rfl (lv_at hl 0 rfl) ?_
    refine kp_get X h f_a0 fp_12_245.l (v := .int (kp_I T1 2522 a0)) rfl dX12_told_117 ?_
    exact kp_reti X hr hlocks h hle rfl hw dX12_told_120
  have hw := hw.2 c6
  by_cases c7 : x1 = 5
  · have hw := hw.1 c7
    refine lv_tableIn (off := 115) (tgt := 121) X.1 X.2.1 dX12_told_6 (by rw [c7]; decide) (by rw [c7]; decide) (by rw [c7]; decide) (by decide) ?_
    refine lv_aload_n X.1 X.2.1 dX12_told_121 rfl (lv_at hl 0 rfl) ?_
    refine kp_get X h f_a0 fp_12_803.l (v := .int (kp_I T1 2523 a0)) rfl dX12_told_122 ?_
    exact kp_reti X hr hlocks h hle rfl hw dX12_told_125
  have hw := hw.2 c7
  by_cases c8 : x1 = 6
  · have hw := hw.1 c8
    refine lv_tableIn (off := 120) (tgt := 126) X.1 X.2.1 dX12_told_6 (by rw [c8]; decide) (by rw [c8]; decide) (by rw [c8]; decide) (by decide) ?_
    refine lv_aload_n X.1 X.2.1 dX12_told_126 rfl (lv_at hl 0 rfl) ?_
    refine kp_get X h f_a0 fp_12_778.l (v := .int (kp_I T1 2471 a0)) rfl dX12_told_127 ?_
    exact kp_reti X hr hlocks h hle rfl hw dX12_told_130
  have hw := hw.2 c8
  by_cases c9 : x1 = 7
  · have hw := hw.1 c9
    refine lv_tableIn (off := 125) (tgt := 131) X.1 X.2.1 dX12_told_6 (by rw [c9]; decide) (by rw [c9]; decide) (by rw [c9]; decide) (by decide) ?_
    refine lv_aload_n X.1 X.2.1 dX12_told_131 rfl (lv_at hl 0 rfl) ?_
    refine kp_get X h f_a0 fp_12_669.l (v := .int (kp_I T1 2472 a0)) rfl dX12_told_132 ?_
    exact kp_reti X hr hlocks h hle rfl hw dX12_told_135
  have hw := hw.2 c9
  by_cases c10 : x1 = 8
  · have hw := hw.1 c10
    refine lv_tableIn (off := 130) (tgt := 136) X.1 X.2.1 dX12_told_6 (by rw [c10]; decide) (by rw [c10]; decide) (by rw [c10]; decide) (by decide) ?_
    refine lv_aload_n X.1 X.2.1 dX12_told_136 rfl (lv_at hl 0 rfl) ?_
    refine kp_get X h f_a0 fp_12_770.l (v := .int (kp_I T1 2473 a0)) rfl dX12_told_137 ?_
    exact kp_reti X hr hlocks h hle rfl hw dX12_told_140
  have hw := hw.2 c10
  by_cases c11 : x1 = 9
  · have hw := hw.1 c11
    refine lv_tableIn (off := 135) (tgt := 141) X.1 X.2.1 dX12_told_6 (by rw [c11]; decide) (by rw [c11]; decide) (by rw [c11]; decide) (by decide) ?_
    refine lv_aload_n X.1 X.2.1 dX12_told_141 rfl (lv_at hl 0 rfl) ?_
    refine kp_get X h f_a0 fp_12_678.l (v := .int (kp_I T1 2474 a0)) rfl dX12_told_142 ?_
    exact kp_reti X hr hlocks h hle rfl hw dX12_told_145
  have hw := hw.2 c11
  by_cases c12 : x1 = 10
  · have hw := hw.1 c12
    refine lv_tableIn (off := 140) (tgt := 146) X.1 X.2.1 dX12_told_6 (by rw [c12]; decide) (by rw [c12]; decide) (by rw [c12]; decide) (by decide) ?_
    refine lv_aload_n X.1 X.2.1 dX12_told_146 rfl (lv_at hl 0 rfl) ?_
    refine kp_get X h f_a0 fp_12_784.l (v := .int (kp_I T1 2475 a0)) rfl dX12_told_147 ?_
    exact kp_reti X hr hlocks h hle rfl hw dX12_told_150
  have hw := hw.2 c12
  by_cases c13 : x1 = 11
  · have hw := hw.1 c13
    refine lv_tableIn (off := 145) (tgt := 151) X.1 X.2.1 dX12_told_6 (by rw [c13]; decide) (by rw [c13]; decide) (by rw [c13]; decide) (by decide) ?_
    refine lv_aload_n X.1 X.2.1 dX12_told_151 rfl (lv_at hl 0 rfl) ?_
    refine kp_get X h f_a0 fp_12_702.l (v := .int (kp_I T1 2476 a0)) rfl dX12_told_152 ?_
    exact kp_reti X hr hlocks h hle rfl hw dX12_told_155
  have hw := hw.2 c13
  by_cases c14 : x1 = 12
  · have hw := hw.1 c14
    refine lv_tableIn (off := 150) (tgt := 156) X.1 X.2.1 dX12_told_6 (by rw [c14]; decide) (by rw [c14]; decide) (by rw [c14]; decide) (by decide) ?_
    refine lv_aload_n X.1 X.2.1 dX12_told_156 rfl (lv_at hl 0 rfl) ?_
    refine kp_get X h f_a0 fp_12_642.l (v := .int (kp_I T1 2477 a0)) rfl dX12_told_157 ?_
    exact kp_reti X hr hlocks h hle rfl hw dX12_told_160
  have hw := hw.2 c14
  by_cases c15 : x1 = 13
  · have hw := hw.1 c15
    refine lv_tableIn (off := 155) (tgt := 161) X.1 X.2.1 dX12_told_6 (by rw [c15]; decide) (by rw [c15]; decide) (by rw [c15]; decide) (by decide) ?_
    refine lv_aload_n X.1 X.2.1 dX12_told_161 rfl (lv_at hl 0 rfl) ?_
    refine kp_get X h f_a0 fp_12_781.l (v := .int (kp_I T1 2478 a0)) rfl dX12_told_162 ?_
    exact kp_reti X hr hlocks h hle rfl hw dX12_told_165
  have hw := hw.2 c15
  by_cases c16 : x1 = 14
  · have hw := hw.1 c16
    refine lv_tableIn (off := 160) (tgt := 166) X.1 X.2.1 dX12_told_6 (by rw [c16]; decide) (by rw [c16]; decide) (by rw [c16]; decide) (by decide) ?_
    refine lv_aload_n X.1 X.2.1 dX12_told_166 rfl (lv_at hl 0 rfl) ?_
    refine kp_get X h f_a0 fp_12_634.l (v := .int (kp_I T1 2479 a0)) rfl dX12_told_167 ?_
    exact kp_reti X hr hlocks h hle rfl hw dX12_told_170
  have hw := hw.2 c16
  by_cases c17 : x1 = 15
  · have hw := hw.1 c17
    refine lv_tableIn (off := 165) (tgt := 171) X.1 X.2.1 dX12_told_6 (by rw [c17]; decide) (by rw [c17]; decide) (by rw [c17]; decide) (by decide) ?_
    refine lv_aload_n X.1 X.2.1 dX12_told_171 rfl (lv_at hl 0 rfl) ?_
    refine kp_get X h f_a0 fp_12_711.l (v := .int (kp_I T1 2480 a0)) rfl dX12_told_172 ?_
    exact kp_reti X hr hlocks h hle rfl hw dX12_told_175
  have hw := hw.2 c17
  by_cases c18 : x1 = 16
  · have hw := hw.1 c18
    refine lv_tableIn (off := 170) (tgt := 176) X.1 X.2.1 dX12_told_6 (by rw [c18]; decide) (by rw [c18]; decide) (by rw [c18]; decide) (by decide) ?_
    refine lv_aload_n X.1 X.2.1 dX12_told_176 rfl (lv_at hl 0 rfl) ?_
    refine kp_get X h f_a0 fp_12_601.l (v := .int (kp_I T1 2470 a0)) rfl dX12_told_177 ?_
    exact kp_reti X hr hlocks h hle rfl hw dX12_told_180
  have hw := hw.2 c18
  by_cases c19 : x1 = 17
  · have hw := hw.1 c19
    refine lv_tableIn (off := 175) (tgt := 181) X.1 X.2.1 dX12_told_6 (by rw [c19]; decide) (by rw [c19]; decide) (by rw [c19]; decide) (by decide) ?_
    refine lv_aload_n X.1 X.2.1 dX12_told_181 rfl (lv_at hl 0 rfl) ?_
    refine kp_get X h f_a0 fp_12_793.l (v := .int (kp_I T1 2524 a0)) rfl dX12_told_182 ?_
    exact kp_reti X hr hlocks h hle rfl hw dX12_told_185
  have hw := hw.2 c19
  by_cases c20 : x1 = 18
  · have hw := hw.1 c20
    refine lv_tableIn (off := 180) (tgt := 186) X.1 X.2.1 dX12_told_6 (by rw [c20]; decide) (by rw [c20]; decide) (by rw [c20]; decide) (by decide) ?_
    refine lv_aload_n X.1 X.2.1 dX12_told_186 rfl (lv_at hl 0 rfl) ?_
    refine kp_get X h f_a0 fp_12_818.l (v := .int (kp_I T1 2521 a0)) rfl dX12_told_187 ?_
    exact kp_reti X hr hlocks h hle rfl hw dX12_told_190
  have hw := hw.2 c20
  have t_c2 := lv_neT (a := 0) c2 (by decide)
  have t_c3 := lv_neT (a := 1) c3 (by decide)
  have t_c4 := lv_neT (a := 2) c4 (by decide)
  have t_c5 := lv_neT (a := 3) c5 (by decide)
  have t_c6 := lv_neT (a := 4) c6 (by decide)
  have t_c7 := lv_neT (a := 5) c7 (by decide)
  have t_c8 := lv_neT (a := 6) c8 (by decide)
  have t_c9 := lv_neT (a := 7) c9 (by decide)
  have t_c10 := lv_neT (a := 8) c10 (by decide)
  have t_c11 := lv_neT (a := 9) c11 (by decide)
  have t_c12 := lv_neT (a := 10) c12 (by decide)
  have t_c13 := lv_neT (a := 11) c13 (by decide)
  have t_c14 := lv_neT (a := 12) c14 (by decide)
  have t_c15 := lv_neT (a := 13) c15 (by decide)
  have t_c16 := lv_neT (a := 14) c16 (by decide)
  have t_c17 := lv_neT (a := 15) c17 (by decide)
  have t_c18 := lv_neT (a := 16) c18 (by decide)
  have t_c19 := lv_neT (a := 17) c19 (by decide)
  have t_c20 := lv_neT (a := 18) c20 (by decide)
  refine lv_tableOut (tgt := 191) X.1 X.2.1 dX12_told_6 (by omega) (by decide) ?_
  refine lv_iconst (v := (-1)) X.1 X.2.1 dX12_told_191 (by decide) ?_
  exact kp_reti X hr hlocks h hle rfl hw dX12_told_192
theorem dX12_log_0 : decode cX12_log 0 = .ok (.aload_n 0, 1) := by decide +kernel
theorem dX12_log_1 : decode cX12_log 1 = .ok (.iconst 0, 1) := by decide +kernel
theorem dX12_log_2 : decode cX12_log 2 = .ok (.putfield 1, 3) := by decide +kernel
theorem dX12_log_5 : decode cX12_log 5 = .ok (.iload_n 1, 1) := by decide +kernel
theorem dX12_log_6 : decode cX12_log 6 = .ok (.iconst 0, 1) := by decide +kernel
theorem dX12_log_7 : decode cX12_log 7 = .ok (.aload_n 0, 1) := by decide +kernel
theorem dX12_log_8 : decode cX12_log 8 = .ok (.getfield 601, 3) := by decide +kernel
theorem dX12_log_11 : decode cX12_log 11 = .ok (.iconst 1, 1) := by decide +kernel
theorem dX12_log_12 : decode cX12_log 12 = .ok (.isub, 1) := by decide +kernel
theorem dX12_log_13 : decode cX12_log 13 = .ok (.invokestatic 589, 3) := by decide +kernel
theorem dX12_log_16 : decode cX12_log 16 = .ok (.ifCond .eq 10, 3) := by decide +kernel
theorem dX12_log_19 : decode cX12_log 19 = .ok (.iload_n 1, 1) := by decide +kernel
theorem dX12_log_20 : decode cX12_log 20 = .ok (.sipush 300, 3) := by decide +kernel
theorem dX12_log_23 : decode cX12_log 23 = .ok (.if_icmp .lt 5, 3) := by decide +kernel
theorem dX12_log_26 : decode cX12_log 26 = .ok (.iconst (-1), 1) := by decide +kernel
theorem dX12_log_27 : decode cX12_log 27 = .ok (.ireturn, 1) := by decide +kernel
theorem dX12_log_28 : decode cX12_log 28 = .ok (.iload_n 2, 1) := by decide +kernel
theorem dX12_log_29 : decode cX12_log 29 = .ok (.ifCond .ne 12, 3) := by decide +kernel
theorem dX12_log_32 : decode cX12_log 32 = .ok (.aload_n 0, 1) := by decide +kernel
theorem dX12_log_33 : decode cX12_log 33 = .ok (.getfield 170, 3) := by decide +kernel
theorem dX12_log_36 : decode cX12_log 36 = .ok (.iload_n 1, 1) := by decide +kernel
theorem dX12_log_37 : decode cX12_log 37 = .ok (.iaload, 1) := by decide +kernel
theorem dX12_log_38 : decode cX12_log 38 = .ok (.goto 18, 3) := by decide +kernel
theorem dX12_log_41 : decode cX12_log 41 = .ok (.iload_n 2, 1) := by decide +kernel
theorem dX12_log_42 : decode cX12_log 42 = .ok (.iconst 1, 1) := by decide +kernel
theorem dX12_log_43 : decode cX12_log 43 = .ok (.if_icmp .ne 12, 3) := by decide +kernel
theorem dX12_log_46 : decode cX12_log 46 = .ok (.aload_n 0, 1) := by decide +kernel
theorem dX12_log_47 : decode cX12_log 47 = .ok (.getfield 173, 3) := by decide +kernel
theorem dX12_log_50 : decode cX12_log 50 = .ok (.iload_n 1, 1) := by decide +kernel
theorem dX12_log_51 : decode cX12_log 51 = .ok (.iaload, 1) := by decide +kernel
theorem dX12_log_52 : decode cX12_log 52 = .ok (.goto 4, 3) := by decide +kernel
theorem dX12_log_55 : decode cX12_log 55 = .ok (.iconst (-1), 1) := by decide +kernel
theorem dX12_log_56 : decode cX12_log 56 = .ok (.ireturn, 1) := by decide +kernel
def wX12_log_b26 (a0 : Nat) (x1 : Int32) (x2 : Int32)  (Sn : kp_S) (post : Int32 → kp_S → Prop) : Prop :=
  post (-1) Sn
def wX12_log_b56 (a0 : Nat) (x1 : Int32) (x2 : Int32) (xt0 : Int32)  (Sn : kp_S) (post : Int32 → kp_S → Prop) : Prop :=
  post xt0 Sn
def wX12_log (a0 : Nat) (x1 : Int32) (x2 : Int32) (S : kp_S) (post : Int32 → kp_S → Prop) : Prop :=
  ∀ T1 : kp_S, T1 = kp_sI S 2400 a0 0 →
  wX12_in x1 0 ((kp_I T1 2470 a0) - 1) T1 (fun y3 T2 =>
  ((y3 = 0 →
  wX12_log_b26 a0 x1 x2   T2 post) ∧ (¬ y3 = 0 →
  ((x1 < 300 →
  ((¬ x2 = 0 →
  ((¬ x2 = 1 →
  wX12_log_b56 a0 x1 x2 (-1)  T2 post) ∧ (x2 = 1 →
  ∃ b4 : Nat, kp_R T2 2469 a0 = some b4 ∧
  vp_in x1 (kp_N T2 b4) ∧
  wX12_log_b56 a0 x1 x2 (kp_A T2 b4 x1.toNatClampNeg)  T2 post))) ∧ (x2 = 0 →
  ∃ b6 : Nat, kp_R T2 2468 a0 = some b6 ∧
  vp_in x1 (kp_N T2 b6) ∧
  wX12_log_b56 a0 x1 x2 (kp_A T2 b6 x1.toNatClampNeg)  T2 post))) ∧ (¬ x1 < 300 →
  wX12_log_b26 a0 x1 x2   T2 post)))))
set_option maxHeartbeats 4000000 in
set_option maxRecDepth 100000 in
theorem c_X12_log (l : Launch) (D : va_G) (cy : Nat → ClassId) (ad : (Nat → Nat) × (Nat → Nat)) (S : kp_S) (a0 : Nat) (x1 : Int32) (x2 : Int32) (post : Int32 → kp_S → Prop) (hS : kp_ok S) (f_a0 : kp_is S a0 12) (hw : wX12_log a0 x1 x2 S post) : kp_M l yX12_log cX12_log 3 (some .int) { frames := 1, cells := 0, slots := 0, locals := 22 } D cy ad S [.ref a0, .int x1, .int x2] 0 0 (fun A => kp_Qi D cy A S post) := by
  refine kp_start (own := RX12) (by decide) rfl (Nat.le_of_ble_eq_true rfl) hS ?_
  intro p e s m below meth c A ls X hr hlocks hname h hl
  have hle : kp_le S S := kp_le.rf
  have hl : lv_has ls 3 [(0, .ref a0), (1, .int x1), (2, .int x2)] := hl
  have j26 : ∀  (Sn : kp_S) (H : Heap) (locs : List Loc) (ls : Array Slot), lv_has ls 3 [] → kp_H D cy A Sn s.heap H locs → kp_le S Sn → kp_is Sn a0 12 → wX12_log_b26 a0 x1 x2   Sn post → W p l e { frames := 1, cells := 0, slots := 0, locals := 22 } s m ([.ref a0, .int x1, .int x2] : List Value).toArray below meth c H locs 0 0 (MQ below (kp_Qi D cy A S post) ([.ref a0, .int x1, .int x2] : List Value).toArray s 0 0 A) (F0 m 26 ls []) := by
    intro  Sn H locs ls hl h hle f_a0 hw
    unfold wX12_log_b26 at hw
    refine lv_iconst (v := (-1)) X.1 X.2.1 dX12_log_26 (by decide) ?_
    exact kp_reti X hr hlocks h hle rfl hw dX12_log_27
  have j56 : ∀ (xt0 : Int32) (Sn : kp_S) (H : Heap) (locs : List Loc) (ls : Array Slot), lv_has ls 3 [] → kp_H D cy A Sn s.heap H locs → kp_le S Sn → kp_is Sn a0 12 → wX12_log_b56 a0 x1 x2 xt0  Sn post → W p l e { frames := 1, cells := 0, slots := 0, locals := 22 } s m ([.ref a0, .int x1, .int x2] : List Value).toArray below meth c H locs 0 0 (MQ below (kp_Qi D cy A S post) ([.ref a0, .int x1, .int x2] : List Value).toArray s 0 0 A) (F0 m 56 ls [.int xt0]) := by
    intro xt0 Sn H locs ls hl h hle f_a0 hw
    unfold wX12_log_b56 at hw
    exact kp_reti X hr hlocks h hle rfl hw dX12_log_56
  unfold wX12_log at hw
  have h : kp_H D cy A S s.heap s.heap [] := h
  revert h
  intro h
  refine lv_aload_n X.1 X.2.1 dX12_log_0 rfl (lv_at hl 0 rfl) ?_
  refine lv_iconst (v := 0) X.1 X.2.1 dX12_log_1 (by decide) ?_
  refine kp_putI X h f_a0 fp_12_1 rfl ⟨rfl, rfl⟩ dX12_log_2 (fun T1 e_T1 l_T1 H locs h => ?_)
  have hw := hw T1 e_T1
  have f_a0 := l_T1.is f_a0
  have hle := hle.tr l_T1
  refine lv_iload_n X.1 X.2.1 dX12_log_5 rfl (lv_at hl 1 rfl) ?_
  refine lv_iconst (v := 0) X.1 X.2.1 dX12_log_6 (by decide) ?_
  refine lv_aload_n X.1 X.2.1 dX12_log_7 rfl (lv_at hl 0 rfl) ?_
  refine kp_get X h f_a0 fp_12_601.l (v := .int (kp_I T1 2470 a0)) rfl dX12_log_8 ?_
  refine lv_iconst (v := 1) X.1 X.2.1 dX12_log_11 (by decide) ?_
  refine lv_isub X.1 X.2.1 dX12_log_12 ?_
  refine kp_calli X h (kp_runS (rm := { frames := 0, cells := 0, slots := 0, locals := 0 }) (mc := 0) (ms := 0) (rest := []) (Qc := fun A => kp_Qi D cy A T1 _) X h (c_X12_in l D cy ad T1 x1 0 ((kp_I T1 2470 a0) - 1) _ h.2.2.2  hw) cs_12_589 ⟨by decide, by decide, rfl, rfl, by decide, by decide⟩ rfl hl.1 rfl (Nat.le_of_ble_eq_true rfl) dX12_log_13) (fun y3 T2 hw l_T2 H locs h => ?_)
  have f_a0 := l_T2.is f_a0
  have hle := hle.tr l_T2
  refine lv_if_eq (tgt := 26) X.1 X.2.1 dX12_log_16 (by decide) (fun c9 => ?_) (fun c9 => ?_)
  · have hw := hw.1 c9
    exact j26  T2 _ _ ls (lv_sub hl [] rfl) h hle f_a0 hw
  · have hw := hw.2 c9
    refine lv_iload_n X.1 X.2.1 dX12_log_19 rfl (lv_at hl 1 rfl) ?_
    refine lv_sipush (v := 300) X.1 X.2.1 dX12_log_20 (by decide) ?_
    refine lv_icmp_lt (tgt := 28) X.1 X.2.1 dX12_log_23 (by decide) (fun c8 => ?_) (fun c8 => ?_)
    · have hw := hw.1 c8
      refine lv_iload_n X.1 X.2.1 dX12_log_28 rfl (lv_at hl 2 rfl) ?_
      refine lv_if_ne (tgt := 41) X.1 X.2.1 dX12_log_29 (by decide) (fun c7 => ?_) (fun c7 => ?_)
      · have hw := hw.1 c7
        refine lv_iload_n X.1 X.2.1 dX12_log_41 rfl (lv_at hl 2 rfl) ?_
        refine lv_iconst (v := 1) X.1 X.2.1 dX12_log_42 (by decide) ?_
        refine lv_icmp_ne (tgt := 55) X.1 X.2.1 dX12_log_43 (by decide) (fun c5 => ?_) (fun c5 => ?_)
        · have hw := hw.1 c5
          refine lv_iconst (v := (-1)) X.1 X.2.1 dX12_log_55 (by decide) ?_
          exact j56 (-1) T2 _ _ ls (lv_sub hl [] rfl) h hle f_a0 hw
        · have hw := hw.2 c5
          refine lv_aload_n X.1 X.2.1 dX12_log_46 rfl (lv_at hl 0 rfl) ?_
          obtain ⟨b4, e_b4, hw⟩ := hw
          have f_b4 := h.2.2.2.rf (c := 12) (k := 69) f_a0 (by decide) (by decide) e_b4 (t := 14) rfl
          refine kp_get X h f_a0 ff_12_173.l (v := .ref b4) (congrArg va_rf e_b4) dX12_log_47 ?_
          refine lv_iload_n X.1 X.2.1 dX12_log_50 rfl (lv_at hl 1 rfl) ?_
          obtain ⟨hi, hw⟩ := hw
          refine kp_iald X h f_b4 hi dX12_log_51 ?_
          refine lv_goto (tgt := 56) X.1 X.2.1 dX12_log_52 (by decide) ?_
          exact j56 (kp_A T2 b4 x1.toNatClampNeg) T2 _ _ ls (lv_sub hl [] rfl) h hle f_a0 hw
      · have hw := hw.2 c7
        refine lv_aload_n X.1 X.2.1 dX12_log_32 rfl (lv_at hl 0 rfl) ?_
        obtain ⟨b6, e_b6, hw⟩ := hw
        have f_b6 := h.2.2.2.rf (c := 12) (k := 68) f_a0 (by decide) (by decide) e_b6 (t := 14) rfl
        refine kp_get X h f_a0 ff_12_170.l (v := .ref b6) (congrArg va_rf e_b6) dX12_log_33 ?_
        refine lv_iload_n X.1 X.2.1 dX12_log_36 rfl (lv_at hl 1 rfl) ?_
        obtain ⟨hi, hw⟩ := hw
        refine kp_iald X h f_b6 hi dX12_log_37 ?_
        refine lv_goto (tgt := 56) X.1 X.2.1 dX12_log_38 (by decide) ?_
        exact j56 (kp_A T2 b6 x1.toNatClampNeg) T2 _ _ ls (lv_sub hl [] rfl) h hle f_a0 hw
    · have hw := hw.2 c8
      exact j26  T2 _ _ ls (lv_sub hl [] rfl) h hle f_a0 hw
