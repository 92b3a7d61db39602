set_option maxRecDepth 100000 in
theorem cl_7 : kp_CL 7 RX7 TX7 3 := ⟨rfl, by decide, rfl, by decide +kernel, tyX7_ok, nmX7⟩
theorem ff_7_11 : kp_FF RX7 11 7 0 := ⟨RX7, TX7, 3, cl_7, by decide, kp_mem 471 (by decide +kernel) (by decide +kernel), rfl, rfl⟩
theorem ff_7_15 : kp_FF RX7 15 7 1 := ⟨RX7, TX7, 3, cl_7, by decide, kp_mem 472 (by decide +kernel) (by decide +kernel), rfl, rfl⟩
theorem ff_7_18 : kp_FF RX7 18 7 2 := ⟨RX7, TX7, 3, cl_7, by decide, kp_mem 473 (by decide +kernel) (by decide +kernel), rfl, rfl⟩
theorem dX7_clear_0 : decode cX7_clear 0 = .ok (.iconst 0, 1) := by decide +kernel
theorem dX7_clear_1 : decode cX7_clear 1 = .ok (.istore_n 1, 1) := by decide +kernel
theorem dX7_clear_2 : decode cX7_clear 2 = .ok (.iload_n 1, 1) := by decide +kernel
theorem dX7_clear_3 : decode cX7_clear 3 = .ok (.bipush 19, 2) := by decide +kernel
theorem dX7_clear_5 : decode cX7_clear 5 = .ok (.if_icmp .ge 22, 3) := by decide +kernel
theorem dX7_clear_8 : decode cX7_clear 8 = .ok (.iload_n 1, 1) := by decide +kernel
theorem dX7_clear_9 : decode cX7_clear 9 = .ok (.bipush 17, 2) := by decide +kernel
theorem dX7_clear_11 : decode cX7_clear 11 = .ok (.if_icmp .eq 10, 3) := by decide +kernel
theorem dX7_clear_14 : decode cX7_clear 14 = .ok (.aload_n 0, 1) := by decide +kernel
theorem dX7_clear_15 : decode cX7_clear 15 = .ok (.getfield 11, 3) := by decide +kernel
theorem dX7_clear_18 : decode cX7_clear 18 = .ok (.iload_n 1, 1) := by decide +kernel
theorem dX7_clear_19 : decode cX7_clear 19 = .ok (.iconst 0, 1) := by decide +kernel
theorem dX7_clear_20 : decode cX7_clear 20 = .ok (.iastore, 1) := by decide +kernel
theorem dX7_clear_21 : decode cX7_clear 21 = .ok (.iinc 1 1, 3) := by decide +kernel
theorem dX7_clear_24 : decode cX7_clear 24 = .ok (.goto (-22), 3) := by decide +kernel
theorem dX7_clear_27 : decode cX7_clear 27 = .ok (.aload_n 0, 1) := by decide +kernel
theorem dX7_clear_28 : decode cX7_clear 28 = .ok (.getfield 11, 3) := by decide +kernel
theorem dX7_clear_31 : decode cX7_clear 31 = .ok (.iconst 4, 1) := by decide +kernel
theorem dX7_clear_32 : decode cX7_clear 32 = .ok (.iconst (-1), 1) := by decide +kernel
theorem dX7_clear_33 : decode cX7_clear 33 = .ok (.iastore, 1) := by decide +kernel
theorem dX7_clear_34 : decode cX7_clear 34 = .ok (.return_, 1) := by decide +kernel
def wX7_clear_b21 (a0 : Nat) (xn1 : Int32) (K2 : Int32 → kp_S → Prop) (Sn : kp_S) (post : kp_S → Prop) : Prop :=
  ∀ y1001 : Int32, y1001 = xn1 + 1 →
  K2 y1001 Sn
def wX7_clear_L2 (a0 : Nat)  (post : kp_S → Prop) : Nat → Int32 → kp_S → Prop
  | 0, _, _ => False
  | n + 1, xn1, Sn =>
  ((19 ≤ xn1 →
  ∃ b2001 : Nat, kp_R Sn 1400 a0 = some b2001 ∧
  vp_in ((4 : Int32)) (kp_N Sn b2001) ∧ ∀ T2002 : kp_S, T2002 = kp_sA Sn b2001 (upd (kp_A Sn b2001) (((4 : Int32)).toNatClampNeg) (-1)) →
  post T2002) ∧ (¬ 19 ≤ xn1 →
  ((xn1 = 17 →
  wX7_clear_b21 a0 xn1 (fun xn1_ S_ => wX7_clear_L2 a0  post n xn1_ S_) Sn post) ∧ (¬ xn1 = 17 →
  ∃ b2003 : Nat, kp_R Sn 1400 a0 = some b2003 ∧
  vp_in xn1 (kp_N Sn b2003) ∧ ∀ T2004 : kp_S, T2004 = kp_sA Sn b2003 (upd (kp_A Sn b2003) (xn1.toNatClampNeg) 0) →
  wX7_clear_b21 a0 xn1 (fun xn1_ S_ => wX7_clear_L2 a0  post n xn1_ S_) T2004 post))))
def wX7_clear (a0 : Nat) (S : kp_S) (post : kp_S → Prop) : Prop :=
  ∃ n0 : Nat, wX7_clear_L2 a0  post n0 0 S
set_option maxHeartbeats 4000000 in
set_option maxRecDepth 100000 in
theorem c_X7_clear (l : Launch) (D : va_G) (cy : Nat → ClassId) (ad : (Nat → Nat) × (Nat → Nat)) (S : kp_S) (a0 : Nat) (post : kp_S → Prop) (hS : kp_ok S) (f_a0 : kp_is S a0 7) (hw : wX7_clear a0 S post) : kp_M l yX7_clear cX7_clear 2 none { frames := 0, cells := 0, slots := 0, locals := 0 } D cy ad S [.ref a0] 0 0 (fun A => kp_Qv D cy A S post) := by
  refine kp_start (own := RX7) (by decide) rfl (Nat.le_of_ble_eq_true rfl) hS ?_
  intro p e s m below meth c A ls X hr hlocks hname h hl
  have hle : kp_le S S := kp_le.rf
  have hl : lv_has ls 2 [(0, .ref a0)] := hl
  have L2 : ∀ n2 : Nat, ∀ (xn1 : Int32) (Sn : kp_S) (H : Heap) (locs : List Loc) (ls : Array Slot), lv_has ls 2 [(0, .ref a0), (1, .int xn1)] → kp_H D cy A Sn s.heap H locs → kp_le S Sn → kp_is Sn a0 7 → wX7_clear_L2 a0  post n2 xn1 Sn → W p l e { frames := 0, cells := 0, slots := 0, locals := 0 } s m ([.ref a0] : List Value).toArray below meth c H locs 0 0 (MQ below (kp_Qv D cy A S post) ([.ref a0] : List Value).toArray s 0 0 A) (F0 m 2 ls []) := by
    intro n2
    induction n2 with
    | zero => intro xn1 Sn H locs ls hl h hle f_a0 hw; exact hw.elim
    | succ n2 ih2 =>
      have j21 : ∀ (xn1 : Int32) (Sn : kp_S) (H : Heap) (locs : List Loc) (ls : Array Slot), lv_has ls 2 [(0, .ref a0), (1, .int xn1)] → kp_H D cy A Sn s.heap H locs → kp_le S Sn → kp_is Sn a0 7 → wX7_clear_b21 a0 xn1 (fun xn1_ S_ => wX7_clear_L2 a0  post n2 xn1_ S_) Sn post → W p l e { frames := 0, cells := 0, slots := 0, locals := 0 } s m ([.ref a0] : List Value).toArray below meth c H locs 0 0 (MQ below (kp_Qv D cy A S post) ([.ref a0] : List Value).toArray s 0 0 A) (F0 m 21 ls []) := by
        intro xn1 Sn H locs ls hl h hle f_a0 hw
        unfold wX7_clear_b21 at hw
        obtain ⟨y1001, e_y1001⟩ : ∃ y : Int32, y = xn1 + 1 := ⟨_, rfl⟩
        have hw := hw y1001 e_y1001
        refine lv_iinc (v := y1001) (lv' := [(1, .int y1001), (0, .ref a0)]) X.1 X.2.1 dX7_clear_21 hl (k := 1) rfl (by rw [e_y1001]; rfl) (by decide) rfl (fun ls hl => ?_)
        refine lv_goto (tgt := 2) X.1 X.2.1 dX7_clear_24 (by decide) ?_
        exact ih2 y1001 Sn H locs ls (lv_sub hl [1, 0] rfl) h hle f_a0 hw
      intro xn1 Sn H locs ls hl h hle f_a0 hw
      unfold wX7_clear_L2 at hw
      refine lv_iload_n X.1 X.2.1 dX7_clear_2 rfl (lv_at hl 1 rfl) ?_
      refine lv_bipush (v := 19) X.1 X.2.1 dX7_clear_3 (by decide) ?_
      refine lv_icmp_ge (tgt := 27) X.1 X.2.1 dX7_clear_5 (by decide) (fun c2006 => ?_) (fun c2006 => ?_)
      · have hw := hw.1 c2006
        refine lv_aload_n X.1 X.2.1 dX7_clear_27 rfl (lv_at hl 0 rfl) ?_
        obtain ⟨b2001, e_b2001, hw⟩ := hw
        have f_b2001 := h.2.2.2.rf (c := 7) (k := 0) f_a0 (by decide) (by decide) e_b2001 (t := 14) rfl
        refine kp_get X h f_a0 ff_7_11.l (v := .ref b2001) (congrArg va_rf e_b2001) dX7_clear_28 ?_
        refine lv_iconst (v := 4) X.1 X.2.1 dX7_clear_31 (by decide) ?_
        refine lv_iconst (v := (-1)) X.1 X.2.1 dX7_clear_32 (by decide) ?_
        obtain ⟨hi, hw⟩ := hw
        refine kp_iast X h f_b2001 hi dX7_clear_33 (fun T2002 e_T2002 l_T2002 H locs h => ?_)
        have hw := hw T2002 e_T2002
        have f_a0 := l_T2002.is f_a0
        have f_b2001 := l_T2002.is f_b2001
        have hle := hle.tr l_T2002
        have e_b2001 : kp_R T2002 1400 a0 = some b2001 := by rw [e_T2002]; exact e_b2001
        exact kp_retv X hr hlocks h hle hw dX7_clear_34
      · have hw := hw.2 c2006
        refine lv_iload_n X.1 X.2.1 dX7_clear_8 rfl (lv_at hl 1 rfl) ?_
        refine lv_bipush (v := 17) X.1 X.2.1 dX7_clear_9 (by decide) ?_
        refine lv_icmp_eq (tgt := 21) X.1 X.2.1 dX7_clear_11 (by decide) (fun c2005 => ?_) (fun c2005 => ?_)
        · have hw := hw.1 c2005
          exact j21 xn1 Sn H locs ls (lv_sub hl [0, 1] rfl) h hle f_a0 hw
        · have hw := hw.2 c2005
          refine lv_aload_n X.1 X.2.1 dX7_clear_14 rfl (lv_at hl 0 rfl) ?_
          obtain ⟨b2003, e_b2003, hw⟩ := hw
          have f_b2003 := h.2.2.2.rf (c := 7) (k := 0) f_a0 (by decide) (by decide) e_b2003 (t := 14) rfl
          refine kp_get X h f_a0 ff_7_11.l (v := .ref b2003) (congrArg va_rf e_b2003) dX7_clear_15 ?_
          refine lv_iload_n X.1 X.2.1 dX7_clear_18 rfl (lv_at hl 1 rfl) ?_
          refine lv_iconst (v := 0) X.1 X.2.1 dX7_clear_19 (by decide) ?_
          obtain ⟨hi, hw⟩ := hw
          refine kp_iast X h f_b2003 hi dX7_clear_20 (fun T2004 e_T2004 l_T2004 H locs h => ?_)
          have hw := hw T2004 e_T2004
          have f_a0 := l_T2004.is f_a0
          have f_b2003 := l_T2004.is f_b2003
          have hle := hle.tr l_T2004
          have e_b2003 : kp_R T2004 1400 a0 = some b2003 := by rw [e_T2004]; exact e_b2003
          exact j21 xn1 T2004 H locs ls (lv_sub hl [0, 1] rfl) h hle f_a0 hw
  unfold wX7_clear at hw
  have h : kp_H D cy A S s.heap s.heap [] := h
  revert h
  intro h
  refine lv_iconst (v := 0) X.1 X.2.1 dX7_clear_0 (by decide) ?_
  refine lv_istore_n (lv' := [(1, .int 0), (0, .ref a0)]) X.1 X.2.1 dX7_clear_1 rfl hl (by decide) rfl (fun ls hl => ?_)
  obtain ⟨n0, hw⟩ := hw
  exact L2 n0 0 S _ _ ls (lv_sub hl [1, 0] rfl) h hle f_a0 hw
theorem dX7_get_0 : decode cX7_get 0 = .ok (.iload_n 1, 1) := by decide +kernel
theorem dX7_get_1 : decode cX7_get 1 = .ok (.ifCond .lt 18, 3) := by decide +kernel
theorem dX7_get_4 : decode cX7_get 4 = .ok (.iload_n 1, 1) := by decide +kernel
theorem dX7_get_5 : decode cX7_get 5 = .ok (.bipush 19, 2) := by decide +kernel
theorem dX7_get_7 : decode cX7_get 7 = .ok (.if_icmp .ge 12, 3) := by decide +kernel
theorem dX7_get_10 : decode cX7_get 10 = .ok (.aload_n 0, 1) := by decide +kernel
theorem dX7_get_11 : decode cX7_get 11 = .ok (.getfield 11, 3) := by decide +kernel
theorem dX7_get_14 : decode cX7_get 14 = .ok (.iload_n 1, 1) := by decide +kernel
theorem dX7_get_15 : decode cX7_get 15 = .ok (.iaload, 1) := by decide +kernel
theorem dX7_get_16 : decode cX7_get 16 = .ok (.goto 4, 3) := by decide +kernel
theorem dX7_get_19 : decode cX7_get 19 = .ok (.iconst (-1), 1) := by decide +kernel
theorem dX7_get_20 : decode cX7_get 20 = .ok (.ireturn, 1) := by decide +kernel
def wX7_get_b20 (a0 : Nat) (x1 : Int32) (xt0 : Int32)  (Sn : kp_S) (post : Int32 → kp_S → Prop) : Prop :=
  post xt0 Sn
def wX7_get_b19 (a0 : Nat) (x1 : Int32)  (Sn : kp_S) (post : Int32 → kp_S → Prop) : Prop :=
  wX7_get_b20 a0 x1 (-1)  Sn post
def wX7_get (a0 : Nat) (x1 : Int32) (S : kp_S) (post : Int32 → kp_S → Prop) : Prop :=
  ((x1 < 0 →
  wX7_get_b19 a0 x1   S post) ∧ (¬ x1 < 0 →
  ((19 ≤ x1 →
  wX7_get_b19 a0 x1   S post) ∧ (¬ 19 ≤ x1 →
  ∃ b1 : Nat, kp_R S 1400 a0 = some b1 ∧
  vp_in x1 (kp_N S b1) ∧
  wX7_get_b20 a0 x1 (kp_A S b1 x1.toNatClampNeg)  S post))))
set_option maxHeartbeats 4000000 in
set_option maxRecDepth 100000 in
theorem c_X7_get (l : Launch) (D : va_G) (cy : Nat → ClassId) (ad : (Nat → Nat) × (Nat → Nat)) (S : kp_S) (a0 : Nat) (x1 : Int32) (post : Int32 → kp_S → Prop) (hS : kp_ok S) (f_a0 : kp_is S a0 7) (hw : wX7_get a0 x1 S post) : kp_M l yX7_get cX7_get 2 (some .int) { frames := 0, cells := 0, slots := 0, locals := 0 } D cy ad S [.ref a0, .int x1] 0 0 (fun A => kp_Qi D cy A S post) := by
  refine kp_start (own := RX7) (by decide) rfl (Nat.le_of_ble_eq_true rfl) hS ?_
  intro p e s m below meth c A ls X hr hlocks hname h hl
  have hle : kp_le S S := kp_le.rf
  have hl : lv_has ls 2 [(0, .ref a0), (1, .int x1)] := hl
  have j20 : ∀ (xt0 : Int32) (Sn : kp_S) (H : Heap) (locs : List Loc) (ls : Array Slot), lv_has ls 2 [] → kp_H D cy A Sn s.heap H locs → kp_le S Sn → kp_is Sn a0 7 → wX7_get_b20 a0 x1 xt0  Sn post → W p l e { frames := 0, cells := 0, slots := 0, locals := 0 } s m ([.ref a0, .int x1] : List Value).toArray below meth c H locs 0 0 (MQ below (kp_Qi D cy A S post) ([.ref a0, .int x1] : List Value).toArray s 0 0 A) (F0 m 20 ls [.int xt0]) := by
    intro xt0 Sn H locs ls hl h hle f_a0 hw
    unfold wX7_get_b20 at hw
    exact kp_reti X hr hlocks h hle rfl hw dX7_get_20
  have j19 : ∀  (Sn : kp_S) (H : Heap) (locs : List Loc) (ls : Array Slot), lv_has ls 2 [] → kp_H D cy A Sn s.heap H locs → kp_le S Sn → kp_is Sn a0 7 → wX7_get_b19 a0 x1   Sn post → W p l e { frames := 0, cells := 0, slots := 0, locals := 0 } s m ([.ref a0, .int x1] : List Value).toArray below meth c H locs 0 0 (MQ below (kp_Qi D cy A S post) ([.ref a0, .int x1] : List Value).toArray s 0 0 A) (F0 m 19 ls []) := by
    intro  Sn H locs ls hl h hle f_a0 hw
    unfold wX7_get_b19 at hw
    refine lv_iconst (v := (-1)) X.1 X.2.1 dX7_get_19 (by decide) ?_
    exact j20 (-1) Sn H locs ls (lv_sub hl [] rfl) h hle f_a0 hw
  unfold wX7_get at hw
  have h : kp_H D cy A S s.heap s.heap [] := h
  revert h
  intro h
  refine lv_iload_n X.1 X.2.1 dX7_get_0 rfl (lv_at hl 1 rfl) ?_
  refine lv_if_lt (tgt := 19) X.1 X.2.1 dX7_get_1 (by decide) (fun c3 => ?_) (fun c3 => ?_)
  · have hw := hw.1 c3
    exact j19  S _ _ ls (lv_sub hl [] rfl) h hle f_a0 hw
  · have hw := hw.2 c3
    refine lv_iload_n X.1 X.2.1 dX7_get_4 rfl (lv_at hl 1 rfl) ?_
    refine lv_bipush (v := 19) X.1 X.2.1 dX7_get_5 (by decide) ?_
    refine lv_icmp_ge (tgt := 19) X.1 X.2.1 dX7_get_7 (by decide) (fun c2 => ?_) (fun c2 => ?_)
    · have hw := hw.1 c2
      exact j19  S _ _ ls (lv_sub hl [] rfl) h hle f_a0 hw
    · have hw := hw.2 c2
      refine lv_aload_n X.1 X.2.1 dX7_get_10 rfl (lv_at hl 0 rfl) ?_
      obtain ⟨b1, e_b1, hw⟩ := hw
      have f_b1 := h.2.2.2.rf (c := 7) (k := 0) f_a0 (by decide) (by decide) e_b1 (t := 14) rfl
      refine kp_get X h f_a0 ff_7_11.l (v := .ref b1) (congrArg va_rf e_b1) dX7_get_11 ?_
      refine lv_iload_n X.1 X.2.1 dX7_get_14 rfl (lv_at hl 1 rfl) ?_
      obtain ⟨hi, hw⟩ := hw
      refine kp_iald X h f_b1 hi dX7_get_15 ?_
      refine lv_goto (tgt := 20) X.1 X.2.1 dX7_get_16 (by decide) ?_
      exact j20 (kp_A S b1 x1.toNatClampNeg) S _ _ ls (lv_sub hl [] rfl) h hle f_a0 hw
theorem dX7_set_0 : decode cX7_set 0 = .ok (.iload_n 1, 1) := by decide +kernel
theorem dX7_set_1 : decode cX7_set 1 = .ok (.ifCond .lt 16, 3) := by decide +kernel
theorem dX7_set_4 : decode cX7_set 4 = .ok (.iload_n 1, 1) := by decide +kernel
theorem dX7_set_5 : decode cX7_set 5 = .ok (.bipush 19, 2) := by decide +kernel
theorem dX7_set_7 : decode cX7_set 7 = .ok (.if_icmp .ge 10, 3) := by decide +kernel
theorem dX7_set_10 : decode cX7_set 10 = .ok (.aload_n 0, 1) := by decide +kernel
theorem dX7_set_11 : decode cX7_set 11 = .ok (.getfield 11, 3) := by decide +kernel
theorem dX7_set_14 : decode cX7_set 14 = .ok (.iload_n 1, 1) := by decide +kernel
theorem dX7_set_15 : decode cX7_set 15 = .ok (.iload_n 2, 1) := by decide +kernel
theorem dX7_set_16 : decode cX7_set 16 = .ok (.iastore, 1) := by decide +kernel
theorem dX7_set_17 : decode cX7_set 17 = .ok (.return_, 1) := by decide +kernel
def wX7_set_b17 (a0 : Nat) (x1 : Int32) (x2 : Int32)  (Sn : kp_S) (post : kp_S → Prop) : Prop :=
  post Sn
def wX7_set (a0 : Nat) (x1 : Int32) (x2 : Int32) (S : kp_S) (post : kp_S → Prop) : Prop :=
  ((x1 < 0 →
  wX7_set_b17 a0 x1 x2   S post) ∧ (¬ x1 < 0 →
  ((19 ≤ x1 →
  wX7_set_b17 a0 x1 x2   S post) ∧ (¬ 19 ≤ x1 →
  ∃ b1 : Nat, kp_R S 1400 a0 = some b1 ∧
  vp_in x1 (kp_N S b1) ∧ ∀ T2 : kp_S, T2 = kp_sA S b1 (upd (kp_A S b1) (x1.toNatClampNeg) x2) →
  wX7_set_b17 a0 x1 x2   T2 post))))
set_option maxHeartbeats 4000000 in
set_option maxRecDepth 100000 in
theorem c_X7_set (l : Launch) (D : va_G) (cy : Nat → ClassId) (ad : (Nat → Nat) × (Nat → Nat)) (S : kp_S) (a0 : Nat) (x1 : Int32) (x2 : Int32) (post : kp_S → Prop) (hS : kp_ok S) (f_a0 : kp_is S a0 7) (hw : wX7_set a0 x1 x2 S post) : kp_M l yX7_set cX7_set 3 none { frames := 0, cells := 0, slots := 0, locals := 0 } D cy ad S [.ref a0, .int x1, .int x2] 0 0 (fun A => kp_Qv D cy A S post) := by
  refine kp_start (own := RX7) (by decide) rfl (Nat.le_of_ble_eq_true rfl) hS ?_
  intro p e s m below meth c A ls X hr hlocks hname h hl
  have hle : kp_le S S := kp_le.rf
  have hl : lv_has ls 3 [(0, .ref a0), (1, .int x1), (2, .int x2)] := hl
  have j17 : ∀  (Sn : kp_S) (H : Heap) (locs : List Loc) (ls : Array Slot), lv_has ls 3 [] → kp_H D cy A Sn s.heap H locs → kp_le S Sn → kp_is Sn a0 7 → wX7_set_b17 a0 x1 x2   Sn post → W p l e { frames := 0, cells := 0, slots := 0, locals := 0 } s m ([.ref a0, .int x1, .int x2] : List Value).toArray below meth c H locs 0 0 (MQ below (kp_Qv D cy A S post) ([.ref a0, .int x1, .int x2] : List Value).toArray s 0 0 A) (F0 m 17 ls []) := by
    intro  Sn H locs ls hl h hle f_a0 hw
    unfold wX7_set_b17 at hw
    exact kp_retv X hr hlocks h hle hw dX7_set_17
  unfold wX7_set at hw
  have h : kp_H D cy A S s.heap s.heap [] := h
  revert h
  intro h
  refine lv_iload_n X.1 X.2.1 dX7_set_0 rfl (lv_at hl 1 rfl) ?_
  refine lv_if_lt (tgt := 17) X.1 X.2.1 dX7_set_1 (by decide) (fun c4 => ?_) (fun c4 => ?_)
  · have hw := hw.1 c4
    exact j17  S _ _ ls (lv_sub hl [] rfl) h hle f_a0 hw
  · have hw := hw.2 c4
    refine lv_iload_n X.1 X.2.1 dX7_set_4 rfl (lv_at hl 1 rfl) ?_
    refine lv_bipush (v := 19) X.1 X.2.1 dX7_set_5 (by decide) ?_
    refine lv_icmp_ge (tgt := 17) X.1 X.2.1 dX7_set_7 (by decide) (fun c3 => ?_) (fun c3 => ?_)
    · have hw := hw.1 c3
      exact j17  S _ _ ls (lv_sub hl [] rfl) h hle f_a0 hw
    · have hw := hw.2 c3
      refine lv_aload_n X.1 X.2.1 dX7_set_10 rfl (lv_at hl 0 rfl) ?_
      obtain ⟨b1, e_b1, hw⟩ := hw
      have f_b1 := h.2.2.2.rf (c := 7) (k := 0) f_a0 (by decide) (by decide) e_b1 (t := 14) rfl
      refine kp_get X h f_a0 ff_7_11.l (v := .ref b1) (congrArg va_rf e_b1) dX7_set_11 ?_
      refine lv_iload_n X.1 X.2.1 dX7_set_14 rfl (lv_at hl 1 rfl) ?_
      refine lv_iload_n X.1 X.2.1 dX7_set_15 rfl (lv_at hl 2 rfl) ?_
      obtain ⟨hi, hw⟩ := hw
      refine kp_iast X h f_b1 hi dX7_set_16 (fun T2 e_T2 l_T2 H locs h => ?_)
      have hw := hw T2 e_T2
      have f_a0 := l_T2.is f_a0
      have f_b1 := l_T2.is f_b1
      have hle := hle.tr l_T2
      have e_b1 : kp_R T2 1400 a0 = some b1 := by rw [e_T2]; exact e_b1
      exact j17  T2 _ _ ls (lv_sub hl [] rfl) h hle f_a0 hw
theorem dX7_count_0 : decode cX7_count 0 = .ok (.iload_n 1, 1) := by decide +kernel
theorem dX7_count_1 : decode cX7_count 1 = .ok (.ifCond .lt 19, 3) := by decide +kernel
theorem dX7_count_4 : decode cX7_count 4 = .ok (.iload_n 1, 1) := by decide +kernel
theorem dX7_count_5 : decode cX7_count 5 = .ok (.bipush 19, 2) := by decide +kernel
theorem dX7_count_7 : decode cX7_count 7 = .ok (.if_icmp .ge 13, 3) := by decide +kernel
theorem dX7_count_10 : decode cX7_count 10 = .ok (.aload_n 0, 1) := by decide +kernel
theorem dX7_count_11 : decode cX7_count 11 = .ok (.getfield 11, 3) := by decide +kernel
theorem dX7_count_14 : decode cX7_count 14 = .ok (.iload_n 1, 1) := by decide +kernel
theorem dX7_count_15 : decode cX7_count 15 = .ok (.dup2, 1) := by decide +kernel
theorem dX7_count_16 : decode cX7_count 16 = .ok (.iaload, 1) := by decide +kernel
theorem dX7_count_17 : decode cX7_count 17 = .ok (.iconst 1, 1) := by decide +kernel
theorem dX7_count_18 : decode cX7_count 18 = .ok (.iadd, 1) := by decide +kernel
theorem dX7_count_19 : decode cX7_count 19 = .ok (.iastore, 1) := by decide +kernel
theorem dX7_count_20 : decode cX7_count 20 = .ok (.return_, 1) := by decide +kernel
def wX7_count_b20 (a0 : Nat) (x1 : Int32)  (Sn : kp_S) (post : kp_S → Prop) : Prop :=
  post Sn
def wX7_count (a0 : Nat) (x1 : Int32) (S : kp_S) (post : kp_S → Prop) : Prop :=
  ((x1 < 0 →
  wX7_count_b20 a0 x1   S post) ∧ (¬ x1 < 0 →
  ((19 ≤ x1 →
  wX7_count_b20 a0 x1   S post) ∧ (¬ 19 ≤ x1 →
  ∃ b1 : Nat, kp_R S 1400 a0 = some b1 ∧
  vp_in x1 (kp_N S b1) ∧
  vp_in x1 (kp_N S b1) ∧ ∀ T2 : kp_S, T2 = kp_sA S b1 (upd (kp_A S b1) (x1.toNatClampNeg) ((kp_A S b1 x1.toNatClampNeg) + 1)) →
  wX7_count_b20 a0 x1   T2 post))))
set_option maxHeartbeats 4000000 in
set_option maxRecDepth 100000 in
theorem c_X7_count (l : Launch) (D : va_G) (cy : Nat → ClassId) (ad : (Nat → Nat) × (Nat → Nat)) (S : kp_S) (a0 : Nat) (x1 : Int32) (post : kp_S → Prop) (hS : kp_ok S) (f_a0 : kp_is S a0 7) (hw : wX7_count a0 x1 S post) : kp_M l yX7_count cX7_count 2 none { frames := 0, cells := 0, slots := 0, locals := 0 } D cy ad S [.ref a0, .int x1] 0 0 (fun A => kp_Qv D cy A S post) := by
  refine kp_start (own := RX7) (by decide) rfl (Nat.le_of_ble_eq_true rfl) hS ?_
  intro p e s m below meth c A ls X hr hlocks hname h hl
  have hle : kp_le S S := kp_le.rf
  have hl : lv_has ls 2 [(0, .ref a0), (1, .int x1)] := hl
  have j20 : ∀  (Sn : kp_S) (H : Heap) (locs : List Loc) (ls : Array Slot), lv_has ls 2 [] → kp_H D cy A Sn s.heap H locs → kp_le S Sn → kp_is Sn a0 7 → wX7_count_b20 a0 x1   Sn post → W p l e { frames := 0, cells := 0, slots := 0, locals := 0 } s m ([.ref a0, .int x1] : List Value).toArray below meth c H locs 0 0 (MQ below (kp_Qv D cy A S post) ([.ref a0, .int x1] : List Value).toArray s 0 0 A) (F0 m 20 ls []) := by
    intro  Sn H locs ls hl h hle f_a0 hw
    unfold wX7_count_b20 at hw
    exact kp_retv X hr hlocks h hle hw dX7_count_20
  unfold wX7_count at hw
  have h : kp_H D cy A S s.heap s.heap [] := h
  revert h
  intro h
  refine lv_iload_n X.1 X.2.1 dX7_count_0 rfl (lv_at hl 1 rfl) ?_
  refine lv_if_lt (tgt := 20) X.1 X.2.1 dX7_count_1 (by decide) (fun c4 => ?_) (fun c4 => ?_)
  · have hw := hw.1 c4
    exact j20  S _ _ ls (lv_sub hl [] rfl) h hle f_a0 hw
  · have hw := hw.2 c4
    refine lv_iload_n X.1 X.2.1 dX7_count_4 rfl (lv_at hl 1 rfl) ?_
    refine lv_bipush (v := 19) X.1 X.2.1 dX7_count_5 (by decide) ?_
    refine lv_icmp_ge (tgt := 20) X.1 X.2.1 dX7_count_7 (by decide) (fun c3 => ?_) (fun c3 => ?_)
    · have hw := hw.1 c3
      exact j20  S _ _ ls (lv_sub hl [] rfl) h hle f_a0 hw
    · have hw := hw.2 c3
      refine lv_aload_n X.1 X.2.1 dX7_count_10 rfl (lv_at hl 0 rfl) ?_
      obtain ⟨b1, e_b1, hw⟩ := hw
      have f_b1 := h.2.2.2.rf (c := 7) (k := 0) f_a0 (by decide) (by decide) e_b1 (t := 14) rfl
      refine kp_get X h f_a0 ff_7_11.l (v := .ref b1) (congrArg va_rf e_b1) dX7_count_11 ?_
      refine lv_iload_n X.1 X.2.1 dX7_count_14 rfl (lv_at hl 1 rfl) ?_
      refine lv_dup2_11 X.1 X.2.1 dX7_count_15 rfl rfl ?_
      obtain ⟨hi, hw⟩ := hw
      refine kp_iald X h f_b1 hi dX7_count_16 ?_
      refine lv_iconst (v := 1) X.1 X.2.1 dX7_count_17 (by decide) ?_
      refine lv_iadd X.1 X.2.1 dX7_count_18 ?_
      obtain ⟨hi, hw⟩ := hw
      refine kp_iast X h f_b1 hi dX7_count_19 (fun T2 e_T2 l_T2 H locs h => ?_)
      have hw := hw T2 e_T2
      have f_a0 := l_T2.is f_a0
      have f_b1 := l_T2.is f_b1
      have hle := hle.tr l_T2
      have e_b1 : kp_R T2 1400 a0 = some b1 := by rw [e_T2]; exact e_b1
      exact j20  T2 _ _ ls (lv_sub hl [] rfl) h hle f_a0 hw
theorem dX7_write_0 : decode cX7_write 0 = .ok (.aload_n 0, 1) := by decide +kernel
theorem dX7_write_1 : decode cX7_write 1 = .ok (.getfield 11, 3) := by decide +kernel
theorem dX7_write_4 : decode cX7_write 4 = .ok (.bipush 16, 2) := by decide +kernel
theorem dX7_write_6 : decode cX7_write 6 = .ok (.iaload, 1) := by decide +kernel
theorem dX7_write_7 : decode cX7_write 7 = .ok (.istore_n 3, 1) := by decide +kernel
theorem dX7_write_8 : decode cX7_write 8 = .ok (.iload_n 3, 1) := by decide +kernel
theorem dX7_write_9 : decode cX7_write 9 = .ok (.ifCond .lt 24, 3) := by decide +kernel
theorem dX7_write_12 : decode cX7_write 12 = .ok (.iload_n 3, 1) := by decide +kernel
theorem dX7_write_13 : decode cX7_write 13 = .ok (.sipush 300, 3) := by decide +kernel
theorem dX7_write_16 : decode cX7_write 16 = .ok (.if_icmp .ge 17, 3) := by decide +kernel
theorem dX7_write_19 : decode cX7_write 19 = .ok (.aload_n 0, 1) := by decide +kernel
theorem dX7_write_20 : decode cX7_write 20 = .ok (.getfield 15, 3) := by decide +kernel
theorem dX7_write_23 : decode cX7_write 23 = .ok (.iload_n 3, 1) := by decide +kernel
theorem dX7_write_24 : decode cX7_write 24 = .ok (.iload_n 1, 1) := by decide +kernel
theorem dX7_write_25 : decode cX7_write 25 = .ok (.iastore, 1) := by decide +kernel
theorem dX7_write_26 : decode cX7_write 26 = .ok (.aload_n 0, 1) := by decide +kernel
theorem dX7_write_27 : decode cX7_write 27 = .ok (.getfield 18, 3) := by decide +kernel
theorem dX7_write_30 : decode cX7_write 30 = .ok (.iload_n 3, 1) := by decide +kernel
theorem dX7_write_31 : decode cX7_write 31 = .ok (.iload_n 2, 1) := by decide +kernel
theorem dX7_write_32 : decode cX7_write 32 = .ok (.iastore, 1) := by decide +kernel
theorem dX7_write_33 : decode cX7_write 33 = .ok (.aload_n 0, 1) := by decide +kernel
theorem dX7_write_34 : decode cX7_write 34 = .ok (.getfield 11, 3) := by decide +kernel
theorem dX7_write_37 : decode cX7_write 37 = .ok (.bipush 16, 2) := by decide +kernel
theorem dX7_write_39 : decode cX7_write 39 = .ok (.dup2, 1) := by decide +kernel
theorem dX7_write_40 : decode cX7_write 40 = .ok (.iaload, 1) := by decide +kernel
theorem dX7_write_41 : decode cX7_write 41 = .ok (.iconst 1, 1) := by decide +kernel
theorem dX7_write_42 : decode cX7_write 42 = .ok (.iadd, 1) := by decide +kernel
theorem dX7_write_43 : decode cX7_write 43 = .ok (.iastore, 1) := by decide +kernel
theorem dX7_write_44 : decode cX7_write 44 = .ok (.return_, 1) := by decide +kernel
def wX7_write_b33 (a0 : Nat) (x1 : Int32) (x2 : Int32)  (Sn : kp_S) (post : kp_S → Prop) : Prop :=
  ∃ b1001 : Nat, kp_R Sn 1400 a0 = some b1001 ∧
  vp_in ((16 : Int32)) (kp_N Sn b1001) ∧
  vp_in ((16 : Int32)) (kp_N Sn b1001) ∧ ∀ T1002 : kp_S, T1002 = kp_sA Sn b1001 (upd (kp_A Sn b1001) (((16 : Int32)).toNatClampNeg) ((kp_A Sn b1001 ((16 : Int32)).toNatClampNeg) + 1)) →
  post T1002
def wX7_write (a0 : Nat) (x1 : Int32) (x2 : Int32) (S : kp_S) (post : kp_S → Prop) : Prop :=
  ∃ b1 : Nat, kp_R S 1400 a0 = some b1 ∧
  vp_in ((16 : Int32)) (kp_N S b1) ∧
  ∀ y2 : Int32, y2 = (kp_A S b1 ((16 : Int32)).toNatClampNeg) →
  ((y2 < 0 →
  wX7_write_b33 a0 x1 x2   S post) ∧ (¬ y2 < 0 →
  ((300 ≤ y2 →
  wX7_write_b33 a0 x1 x2   S post) ∧ (¬ 300 ≤ y2 →
  ∃ b3 : Nat, kp_R S 1401 a0 = some b3 ∧
  vp_in y2 (kp_N S b3) ∧ ∀ T4 : kp_S, T4 = kp_sA S b3 (upd (kp_A S b3) (y2.toNatClampNeg) x1) →
  ∃ b5 : Nat, kp_R T4 1402 a0 = some b5 ∧
  vp_in y2 (kp_N T4 b5) ∧ ∀ T6 : kp_S, T6 = kp_sA T4 b5 (upd (kp_A T4 b5) (y2.toNatClampNeg) x2) →
  wX7_write_b33 a0 x1 x2   T6 post))))
set_option maxHeartbeats 4000000 in
set_option maxRecDepth 100000 in
theorem c_X7_write (l : Launch) (D : va_G) (cy : Nat → ClassId) (ad : (Nat → Nat) × (Nat → Nat)) (S : kp_S) (a0 : Nat) (x1 : Int32) (x2 : Int32) (post : kp_S → Prop) (hS : kp_ok S) (f_a0 : kp_is S a0 7) (hw : wX7_write a0 x1 x2 S post) : kp_M l yX7_write cX7_write 4 none { frames := 0, cells := 0, slots := 0, locals := 0 } D cy ad S [.ref a0, .int x1, .int x2] 0 0 (fun A => kp_Qv D cy A S post) := by
  refine kp_start (own := RX7) (by decide) rfl (Nat.le_of_ble_eq_true rfl) hS ?_
  intro p e s m below meth c A ls X hr hlocks hname h hl
  have hle : kp_le S S := kp_le.rf
  have hl : lv_has ls 4 [(0, .ref a0), (1, .int x1), (2, .int x2)] := hl
  have j33 : ∀  (Sn : kp_S) (H : Heap) (locs : List Loc) (ls : Array Slot), lv_has ls 4 [(0, .ref a0)] → kp_H D cy A Sn s.heap H locs → kp_le S Sn → kp_is Sn a0 7 → wX7_write_b33 a0 x1 x2   Sn post → W p l e { frames := 0, cells := 0, slots := 0, locals := 0 } s m ([.ref a0, .int x1, .int x2] : List Value).toArray below meth c H locs 0 0 (MQ below (kp_Qv D cy A S post) ([.ref a0, .int x1, .int x2] : List Value).toArray s 0 0 A) (F0 m 33 ls []) := by
    intro  Sn H locs ls hl h hle f_a0 hw
    unfold wX7_write_b33 at hw
    refine lv_aload_n X.1 X.2.1 dX7_write_33 rfl (lv_at hl 0 rfl) ?_
    obtain ⟨b1001, e_b1001, hw⟩ := hw
    have f_b1001 := h.2.2.2.rf (c := 7) (k := 0) f_a0 (by decide) (by decide) e_b1001 (t := 14) rfl
    refine kp_get X h f_a0 ff_7_11.l (v := .ref b1001) (congrArg va_rf e_b1001) dX7_write_34 ?_
    refine lv_bipush (v := 16) X.1 X.2.1 dX7_write_37 (by decide) ?_
    refine lv_dup2_11 X.1 X.2.1 dX7_write_39 rfl rfl ?_
    obtain ⟨hi, hw⟩ := hw
    refine kp_iald X h f_b1001 hi dX7_write_40 ?_
    refine lv_iconst (v := 1) X.1 X.2.1 dX7_write_41 (by decide) ?_
    refine lv_iadd X.1 X.2.1 dX7_write_42 ?_
    obtain ⟨hi, hw⟩ := hw
    refine kp_iast X h f_b1001 hi dX7_write_43 (fun T1002 e_T1002 l_T1002 H locs h => ?_)
    have hw := hw T1002 e_T1002
    have f_a0 := l_T1002.is f_a0
    have f_b1001 := l_T1002.is f_b1001
    have hle := hle.tr l_T1002
    have e_b1001 : kp_R T1002 1400 a0 = some b1001 := by rw [e_T1002]; exact e_b1001
    exact kp_retv X hr hlocks h hle hw dX7_write_44
  unfold wX7_write at hw
  have h : kp_H D cy A S s.heap s.heap [] := h
  revert h
  intro h
  refine lv_aload_n X.1 X.2.1 dX7_write_0 rfl (lv_at hl 0 rfl) ?_
  obtain ⟨b1, e_b1, hw⟩ := hw
  have f_b1 := h.2.2.2.rf (c := 7) (k := 0) f_a0 (by decide) (by decide) e_b1 (t := 14) rfl
  refine kp_get X h f_a0 ff_7_11.l (v := .ref b1) (congrArg va_rf e_b1) dX7_write_1 ?_
  refine lv_bipush (v := 16) X.1 X.2.1 dX7_write_4 (by decide) ?_
  obtain ⟨hi, hw⟩ := hw
  refine kp_iald X h f_b1 hi dX7_write_6 ?_
  refine lv_topi (fun y2 e_y2 => ?_)
  have hw := hw y2 e_y2
  refine lv_istore_n (lv' := [(3, .int y2), (0, .ref a0), (1, .int x1), (2, .int x2)]) X.1 X.2.1 dX7_write_7 rfl hl (by decide) rfl (fun ls hl => ?_)
  refine lv_iload_n X.1 X.2.1 dX7_write_8 rfl (lv_at hl 0 rfl) ?_
  refine lv_if_lt (tgt := 33) X.1 X.2.1 dX7_write_9 (by decide) (fun c8 => ?_) (fun c8 => ?_)
  · have hw := hw.1 c8
    exact j33  S _ _ ls (lv_sub hl [1] rfl) h hle f_a0 hw
  · have hw := hw.2 c8
    refine lv_iload_n X.1 X.2.1 dX7_write_12 rfl (lv_at hl 0 rfl) ?_
    refine lv_sipush (v := 300) X.1 X.2.1 dX7_write_13 (by decide) ?_
    refine lv_icmp_ge (tgt := 33) X.1 X.2.1 dX7_write_16 (by decide) (fun c7 => ?_) (fun c7 => ?_)
    · have hw := hw.1 c7
      exact j33  S _ _ ls (lv_sub hl [1] rfl) h hle f_a0 hw
    · have hw := hw.2 c7
      refine lv_aload_n X.1 X.2.1 dX7_write_19 rfl (lv_at hl 1 rfl) ?_
      obtain ⟨b3, e_b3, hw⟩ := hw
      have f_b3 := h.2.2.2.rf (c := 7) (k := 1) f_a0 (by decide) (by decide) e_b3 (t := 14) rfl
      refine kp_get X h f_a0 ff_7_15.l (v := .ref b3) (congrArg va_rf e_b3) dX7_write_20 ?_
      refine lv_iload_n X.1 X.2.1 dX7_write_23 rfl (lv_at hl 0 rfl) ?_
      refine lv_iload_n X.1 X.2.1 dX7_write_24 rfl (lv_at hl 2 rfl) ?_
      obtain ⟨hi, hw⟩ := hw
      refine kp_iast X h f_b3 hi dX7_write_25 (fun T4 e_T4 l_T4 H locs h => ?_)
      have hw := hw T4 e_T4
      have f_a0 := l_T4.is f_a0
      have f_b1 := l_T4.is f_b1
      have f_b3 := l_T4.is f_b3
      have hle := hle.tr l_T4
      have e_b1 : kp_R T4 1400 a0 = some b1 := by rw [e_T4]; exact e_b1
      have e_b3 : kp_R T4 1401 a0 = some b3 := by rw [e_T4]; exact e_b3
      refine lv_aload_n X.1 X.2.1 dX7_write_26 rfl (lv_at hl 1 rfl) ?_
      obtain ⟨b5, e_b5, hw⟩ := hw
      have f_b5 := h.2.2.2.rf (c := 7) (k := 2) f_a0 (by decide) (by decide) e_b5 (t := 14) rfl
      refine kp_get X h f_a0 ff_7_18.l (v := .ref b5) (congrArg va_rf e_b5) dX7_write_27 ?_
      refine lv_iload_n X.1 X.2.1 dX7_write_30 rfl (lv_at hl 0 rfl) ?_
      refine lv_iload_n X.1 X.2.1 dX7_write_31 rfl (lv_at hl 3 rfl) ?_
      obtain ⟨hi, hw⟩ := hw
      refine kp_iast X h f_b5 hi dX7_write_32 (fun T6 e_T6 l_T6 H locs h => ?_)
      have hw := hw T6 e_T6
      have f_a0 := l_T6.is f_a0
      have f_b1 := l_T6.is f_b1
      have f_b3 := l_T6.is f_b3
      have f_b5 := l_T6.is f_b5
      have hle := hle.tr l_T6
      have e_b1 : kp_R T6 1400 a0 = some b1 := by rw [e_T6]; exact e_b1
      have e_b3 : kp_R T6 1401 a0 = some b3 := by rw [e_T6]; exact e_b3
      have e_b5 : kp_R T6 1402 a0 = some b5 := by rw [e_T6]; exact e_b5
      exact j33  T6 _ _ ls (lv_sub hl [1] rfl) h hle f_a0 hw
theorem dX7_entry_0 : decode cX7_entry 0 = .ok (.iload_n 1, 1) := by decide +kernel
theorem dX7_entry_1 : decode cX7_entry 1 = .ok (.ifCond .lt 21, 3) := by decide +kernel
theorem dX7_entry_4 : decode cX7_entry 4 = .ok (.iload_n 1, 1) := by decide +kernel
theorem dX7_entry_5 : decode cX7_entry 5 = .ok (.aload_n 0, 1) := by decide +kernel
theorem dX7_entry_6 : decode cX7_entry 6 = .ok (.getfield 11, 3) := by decide +kernel
theorem dX7_entry_9 : decode cX7_entry 9 = .ok (.bipush 16, 2) := by decide +kernel
theorem dX7_entry_11 : decode cX7_entry 11 = .ok (.iaload, 1) := by decide +kernel
theorem dX7_entry_12 : decode cX7_entry 12 = .ok (.if_icmp .ge 10, 3) := by decide +kernel
theorem dX7_entry_15 : decode cX7_entry 15 = .ok (.iload_n 1, 1) := by decide +kernel
theorem dX7_entry_16 : decode cX7_entry 16 = .ok (.sipush 300, 3) := by decide +kernel
theorem dX7_entry_19 : decode cX7_entry 19 = .ok (.if_icmp .lt 5, 3) := by decide +kernel
theorem dX7_entry_22 : decode cX7_entry 22 = .ok (.iconst (-1), 1) := by decide +kernel
theorem dX7_entry_23 : decode cX7_entry 23 = .ok (.ireturn, 1) := by decide +kernel
theorem dX7_entry_24 : decode cX7_entry 24 = .ok (.iload_n 2, 1) := by decide +kernel
theorem dX7_entry_25 : decode cX7_entry 25 = .ok (.ifCond .ne 10, 3) := by decide +kernel
theorem dX7_entry_28 : decode cX7_entry 28 = .ok (.aload_n 0, 1) := by decide +kernel
theorem dX7_entry_29 : decode cX7_entry 29 = .ok (.getfield 15, 3) := by decide +kernel
theorem dX7_entry_32 : decode cX7_entry 32 = .ok (.iload_n 1, 1) := by decide +kernel
theorem dX7_entry_33 : decode cX7_entry 33 = .ok (.iaload, 1) := by decide +kernel
theorem dX7_entry_34 : decode cX7_entry 34 = .ok (.ireturn, 1) := by decide +kernel
theorem dX7_entry_35 : decode cX7_entry 35 = .ok (.iload_n 2, 1) := by decide +kernel
theorem dX7_entry_36 : decode cX7_entry 36 = .ok (.iconst 1, 1) := by decide +kernel
theorem dX7_entry_37 : decode cX7_entry 37 = .ok (.if_icmp .ne 12, 3) := by decide +kernel
theorem dX7_entry_40 : decode cX7_entry 40 = .ok (.aload_n 0, 1) := by decide +kernel
theorem dX7_entry_41 : decode cX7_entry 41 = .ok (.getfield 18, 3) := by decide +kernel
theorem dX7_entry_44 : decode cX7_entry 44 = .ok (.iload_n 1, 1) := by decide +kernel
theorem dX7_entry_45 : decode cX7_entry 45 = .ok (.iaload, 1) := by decide +kernel
theorem dX7_entry_46 : decode cX7_entry 46 = .ok (.goto 4, 3) := by decide +kernel
theorem dX7_entry_49 : decode cX7_entry 49 = .ok (.iconst (-1), 1) := by decide +kernel
theorem dX7_entry_50 : decode cX7_entry 50 = .ok (.ireturn, 1) := by decide +kernel
def wX7_entry_b22 (a0 : Nat) (x1 : Int32) (x2 : Int32)  (Sn : kp_S) (post : Int32 → kp_S → Prop) : Prop :=
  post (-1) Sn
def wX7_entry_b50 (a0 : Nat) (x1 : Int32) (x2 : Int32) (xt0 : Int32)  (Sn : kp_S) (post : Int32 → kp_S → Prop) : Prop :=
  post xt0 Sn
def wX7_entry (a0 : Nat) (x1 : Int32) (x2 : Int32) (S : kp_S) (post : Int32 → kp_S → Prop) : Prop :=
  ((x1 < 0 →
  wX7_entry_b22 a0 x1 x2   S post) ∧ (¬ x1 < 0 →
  ∃ b1 : Nat, kp_R S 1400 a0 = some b1 ∧
  vp_in ((16 : Int32)) (kp_N S b1) ∧
  (((kp_A S b1 ((16 : Int32)).toNatClampNeg) ≤ x1 →
  wX7_entry_b22 a0 x1 x2   S post) ∧ (¬ (kp_A S b1 ((16 : Int32)).toNatClampNeg) ≤ x1 →
  ((x1 < 300 →
  ((¬ x2 = 0 →
  ((¬ x2 = 1 →
  wX7_entry_b50 a0 x1 x2 (-1)  S post) ∧ (x2 = 1 →
  ∃ b2 : Nat, kp_R S 1402 a0 = some b2 ∧
  vp_in x1 (kp_N S b2) ∧
  wX7_entry_b50 a0 x1 x2 (kp_A S b2 x1.toNatClampNeg)  S post))) ∧ (x2 = 0 →
  ∃ b4 : Nat, kp_R S 1401 a0 = some b4 ∧
  vp_in x1 (kp_N S b4) ∧
  post (kp_A S b4 x1.toNatClampNeg) S))) ∧ (¬ x1 < 300 →
  wX7_entry_b22 a0 x1 x2   S post))))))
set_option maxHeartbeats 4000000 in
set_option maxRecDepth 100000 in
theorem c_X7_entry (l : Launch) (D : va_G) (cy : Nat → ClassId) (ad : (Nat → Nat) × (Nat → Nat)) (S : kp_S) (a0 : Nat) (x1 : Int32) (x2 : Int32) (post : Int32 → kp_S → Prop) (hS : kp_ok S) (f_a0 : kp_is S a0 7) (hw : wX7_entry a0 x1 x2 S post) : kp_M l yX7_entry cX7_entry 3 (some .int) { frames := 0, cells := 0, slots := 0, locals := 0 } D cy ad S [.ref a0, .int x1, .int x2] 0 0 (fun A => kp_Qi D cy A S post) := by
  refine kp_start (own := RX7) (by decide) rfl (Nat.le_of_ble_eq_true rfl) hS ?_
  intro p e s m below meth c A ls X hr hlocks hname h hl
  have hle : kp_le S S := kp_le.rf
  have hl : lv_has ls 3 [(0, .ref a0), (1, .int x1), (2, .int x2)] := hl
  have j22 : ∀  (Sn : kp_S) (H : Heap) (locs : List Loc) (ls : Array Slot), lv_has ls 3 [] → kp_H D cy A Sn s.heap H locs → kp_le S Sn → kp_is Sn a0 7 → wX7_entry_b22 a0 x1 x2   Sn post → W p l e { frames := 0, cells := 0, slots := 0, locals := 0 } s m ([.ref a0, .int x1, .int x2] : List Value).toArray below meth c H locs 0 0 (MQ below (kp_Qi D cy A S post) ([.ref a0, .int x1, .int x2] : List Value).toArray s 0 0 A) (F0 m 22 ls []) := by
    intro  Sn H locs ls hl h hle f_a0 hw
    unfold wX7_entry_b22 at hw
    refine lv_iconst (v := (-1)) X.1 X.2.1 dX7_entry_22 (by decide) ?_
    exact kp_reti X hr hlocks h hle rfl hw dX7_entry_23
  have j50 : ∀ (xt0 : Int32) (Sn : kp_S) (H : Heap) (locs : List Loc) (ls : Array Slot), lv_has ls 3 [] → kp_H D cy A Sn s.heap H locs → kp_le S Sn → kp_is Sn a0 7 → wX7_entry_b50 a0 x1 x2 xt0  Sn post → W p l e { frames := 0, cells := 0, slots := 0, locals := 0 } s m ([.ref a0, .int x1, .int x2] : List Value).toArray below meth c H locs 0 0 (MQ below (kp_Qi D cy A S post) ([.ref a0, .int x1, .int x2] : List Value).toArray s 0 0 A) (F0 m 50 ls [.int xt0]) := by
    intro xt0 Sn H locs ls hl h hle f_a0 hw
    unfold wX7_entry_b50 at hw
    exact kp_reti X hr hlocks h hle rfl hw dX7_entry_50
  unfold wX7_entry at hw
  have h : kp_H D cy A S s.heap s.heap [] := h
  revert h
  intro h
  refine lv_iload_n X.1 X.2.1 dX7_entry_0 rfl (lv_at hl 1 rfl) ?_
  refine lv_if_lt (tgt := 22) X.1 X.2.1 dX7_entry_1 (by decide) (fun c8 => ?_) (fun c8 => ?_)
  · have hw := hw.1 c8
    exact j22  S _ _ ls (lv_sub hl [] rfl) h hle f_a0 hw
  · have hw := hw.2 c8
    refine lv_iload_n X.1 X.2.1 dX7_entry_4 rfl (lv_at hl 1 rfl) ?_
    refine lv_aload_n X.1 X.2.1 dX7_entry_5 rfl (lv_at hl 0 rfl) ?_
    obtain ⟨b1, e_b1, hw⟩ := hw
    have f_b1 := h.2.2.2.rf (c := 7) (k := 0) f_a0 (by decide) (by decide) e_b1 (t := 14) rfl
    refine kp_get X h f_a0 ff_7_11.l (v := .ref b1) (congrArg va_rf e_b1) dX7_entry_6 ?_
    refine lv_bipush (v := 16) X.1 X.2.1 dX7_entry_9 (by decide) ?_
    obtain ⟨hi, hw⟩ := hw
    refine kp_iald X h f_b1 hi dX7_entry_11 ?_
    refine lv_icmp_ge (tgt := 22) X.1 X.2.1 dX7_entry_12 (by decide) (fun c7 => ?_) (fun c7 => ?_)
    · have hw := hw.1 c7
      exact j22  S _ _ ls (lv_sub hl [] rfl) h hle f_a0 hw
    · have hw := hw.2 c7
      refine lv_iload_n X.1 X.2.1 dX7_entry_15 rfl (lv_at hl 1 rfl) ?_
      refine lv_sipush (v := 300) X.1 X.2.1 dX7_entry_16 (by decide) ?_
      refine lv_icmp_lt (tgt := 24) X.1 X.2.1 dX7_entry_19 (by decide) (fun c6 => ?_) (fun c6 => ?_)
      · have hw := hw.1 c6
        refine lv_iload_n X.1 X.2.1 dX7_entry_24 rfl (lv_at hl 2 rfl) ?_
        refine lv_if_ne (tgt := 35) X.1 X.2.1 dX7_entry_25 (by decide) (fun c5 => ?_) (fun c5 => ?_)
        · have hw := hw.1 c5
          refine lv_iload_n X.1 X.2.1 dX7_entry_35 rfl (lv_at hl 2 rfl) ?_
          refine lv_iconst (v := 1) X.1 X.2.1 dX7_entry_36 (by decide) ?_
          refine lv_icmp_ne (tgt := 49) X.1 X.2.1 dX7_entry_37 (by decide) (fun c3 => ?_) (fun c3 => ?_)
          · have hw := hw.1 c3
            refine lv_iconst (v := (-1)) X.1 X.2.1 dX7_entry_49 (by decide) ?_
            exact j50 (-1) S _ _ ls (lv_sub hl [] rfl) h hle f_a0 hw
          · have hw := hw.2 c3
            refine lv_aload_n X.1 X.2.1 dX7_entry_40 rfl (lv_at hl 0 rfl) ?_
            obtain ⟨b2, e_b2, hw⟩ := hw
            have f_b2 := h.2.2.2.rf (c := 7) (k := 2) f_a0 (by decide) (by decide) e_b2 (t := 14) rfl
            refine kp_get X h f_a0 ff_7_18.l (v := .ref b2) (congrArg va_rf e_b2) dX7_entry_41 ?_
            refine lv_iload_n X.1 X.2.1 dX7_entry_44 rfl (lv_at hl 1 rfl) ?_
            obtain ⟨hi, hw⟩ := hw
            refine kp_iald X h f_b2 hi dX7_entry_45 ?_
            refine lv_goto (tgt := 50) X.1 X.2.1 dX7_entry_46 (by decide) ?_
            exact j50 (kp_A S b2 x1.toNatClampNeg) S _ _ ls (lv_sub hl [] rfl) h hle f_a0 hw
        · have hw := hw.2 c5
          refine lv_aload_n X.1 X.2.1 dX7_entry_28 rfl (lv_at hl 0 rfl) ?_
          obtain ⟨b4, e_b4, hw⟩ := hw
          have f_b4 := h.2.2.2.rf (c := 7) (k := 1) f_a0 (by decide) (by decide) e_b4 (t := 14) rfl
          refine kp_get X h f_a0 ff_7_15.l (v := .ref b4) (congrArg va_rf e_b4) dX7_entry_29 ?_
          refine lv_iload_n X.1 X.2.1 dX7_entry_32 rfl (lv_at hl 1 rfl) ?_
          obtain ⟨hi, hw⟩ := hw
          refine kp_iald X h f_b4 hi dX7_entry_33 ?_
          exact kp_reti X hr hlocks h hle rfl hw dX7_entry_34
      · have hw := hw.2 c6
        exact j22  S _ _ ls (lv_sub hl [] rfl) h hle f_a0 hw
