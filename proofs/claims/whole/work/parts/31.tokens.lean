set_option maxRecDepth 100000 in
theorem cl_9 : kp_CL 9 RX9 TX9 11 := ⟨rfl, by decide, rfl, by decide +kernel, tyX9_ok, nmX9⟩
theorem fp_9_37 : kp_FP RX9 37 9 2 := ⟨RX9, TX9, 11, cl_9, by decide, kp_mem 321 (by decide +kernel) (by decide +kernel), rfl⟩
theorem ff_9_9 : kp_FF RX9 9 9 0 := ⟨RX9, TX9, 11, cl_9, by decide, kp_mem 319 (by decide +kernel) (by decide +kernel), rfl, rfl⟩
theorem fp_9_41 : kp_FP RX9 41 9 3 := ⟨RX9, TX9, 11, cl_9, by decide, kp_mem 322 (by decide +kernel) (by decide +kernel), rfl⟩
theorem cv_9_65 : kp_CV RX9 65 yX9_byteAt cX9_byteAt 2 (some .int) 1 9 := ⟨⟨kp_mem 693 (by decide +kernel) (by decide +kernel), kp_mem 207 (by decide +kernel) (by decide +kernel), by decide +kernel⟩, kp_mem 690 (by decide +kernel) (by decide +kernel), kp_mem 692 (by decide +kernel) (by decide +kernel), kp_mem 2 (by decide +kernel) (by decide +kernel), by decide, TX9, 11, rfl⟩
theorem ff_9_15 : kp_FF RX9 15 9 1 := ⟨RX9, TX9, 11, cl_9, by decide, kp_mem 320 (by decide +kernel) (by decide +kernel), rfl, rfl⟩
theorem fp_9_53 : kp_FP RX9 53 9 5 := ⟨RX9, TX9, 11, cl_9, by decide, kp_mem 324 (by decide +kernel) (by decide +kernel), rfl⟩
theorem fp_9_62 : kp_FP RX9 62 9 6 := ⟨RX9, TX9, 11, cl_9, by decide, kp_mem 327 (by decide +kernel) (by decide +kernel), rfl⟩
theorem fp_9_86 : kp_FP RX9 86 9 8 := ⟨RX9, TX9, 11, cl_9, by decide, kp_mem 333 (by decide +kernel) (by decide +kernel), rfl⟩
theorem cs_9_69 : kp_CS RX9 69 yX9_isLetter cX9_isLetter 1 (some .boolean) 1 := ⟨⟨kp_mem 696 (by decide +kernel) (by decide +kernel), kp_mem 207 (by decide +kernel) (by decide +kernel), by decide +kernel⟩, kp_mem 694 (by decide +kernel) (by decide +kernel), kp_mem 695 (by decide +kernel) (by decide +kernel)⟩
theorem cs_9_76 : kp_CS RX9 76 yX9_isDigit cX9_isDigit 1 (some .boolean) 1 := ⟨⟨kp_mem 703 (by decide +kernel) (by decide +kernel), kp_mem 207 (by decide +kernel) (by decide +kernel), by decide +kernel⟩, kp_mem 701 (by decide +kernel) (by decide +kernel), kp_mem 702 (by decide +kernel) (by decide +kernel)⟩
theorem fp_9_90 : kp_FP RX9 90 9 7 := ⟨RX9, TX9, 11, cl_9, by decide, kp_mem 330 (by decide +kernel) (by decide +kernel), rfl⟩
theorem cw_9_95 : kp_CVs RX9 95 yJ0_indexOf_0f7a4 cJ0_indexOf_0f7a4 2 (some .int) 1 := ⟨⟨kp_mem 716 (by decide +kernel) (by decide +kernel), kp_mem 208 (by decide +kernel) (by decide +kernel), by decide +kernel⟩, kp_mem 713 (by decide +kernel) (by decide +kernel), kp_mem 714 (by decide +kernel) (by decide +kernel), kp_mem 715 (by decide +kernel) (by decide +kernel), rfl⟩
theorem cv_9_59 : kp_CV RX9 59 yX9_passBlanks cX9_passBlanks 3 none 0 9 := ⟨⟨kp_mem 689 (by decide +kernel) (by decide +kernel), kp_mem 207 (by decide +kernel) (by decide +kernel), by decide +kernel⟩, kp_mem 686 (by decide +kernel) (by decide +kernel), kp_mem 688 (by decide +kernel) (by decide +kernel), kp_mem 1 (by decide +kernel) (by decide +kernel), by decide, TX9, 11, rfl⟩
theorem cv_9_82 : kp_CV RX9 82 yX9_takeSign cX9_takeSign 3 none 1 9 := ⟨⟨kp_mem 711 (by decide +kernel) (by decide +kernel), kp_mem 207 (by decide +kernel) (by decide +kernel), by decide +kernel⟩, kp_mem 708 (by decide +kernel) (by decide +kernel), kp_mem 710 (by decide +kernel) (by decide +kernel), kp_mem 5 (by decide +kernel) (by decide +kernel), by decide, TX9, 11, rfl⟩
theorem cv_9_79 : kp_CV RX9 79 yX9_takeNumber cX9_takeNumber 1 none 0 9 := ⟨⟨kp_mem 707 (by decide +kernel) (by decide +kernel), kp_mem 207 (by decide +kernel) (by decide +kernel), by decide +kernel⟩, kp_mem 704 (by decide +kernel) (by decide +kernel), kp_mem 706 (by decide +kernel) (by decide +kernel), kp_mem 4 (by decide +kernel) (by decide +kernel), by decide, TX9, 11, rfl⟩
theorem cv_9_73 : kp_CV RX9 73 yX9_takeWord cX9_takeWord 4 none 0 9 := ⟨⟨kp_mem 700 (by decide +kernel) (by decide +kernel), kp_mem 207 (by decide +kernel) (by decide +kernel), by decide +kernel⟩, kp_mem 697 (by decide +kernel) (by decide +kernel), kp_mem 699 (by decide +kernel) (by decide +kernel), kp_mem 3 (by decide +kernel) (by decide +kernel), by decide, TX9, 11, rfl⟩
theorem mm_9_31 : Cond.methodLink RX9 31 Lib.Math.min.name ∈ kp_tb := kp_mem 679 (by decide +kernel) (by decide +kernel)
theorem fp_9_44 : kp_FP RX9 44 9 4 := ⟨RX9, TX9, 11, cl_9, by decide, kp_mem 323 (by decide +kernel) (by decide +kernel), rfl⟩
theorem fp_9_47 : kp_FP RX9 47 9 9 := ⟨RX9, TX9, 11, cl_9, by decide, kp_mem 336 (by decide +kernel) (by decide +kernel), rfl⟩
theorem fp_9_50 : kp_FP RX9 50 9 10 := ⟨RX9, TX9, 11, cl_9, by decide, kp_mem 337 (by decide +kernel) (by decide +kernel), rfl⟩
theorem cv_9_56 : kp_CV RX9 56 yX9_advance cX9_advance 2 none 0 9 := ⟨⟨kp_mem 685 (by decide +kernel) (by decide +kernel), kp_mem 207 (by decide +kernel) (by decide +kernel), by decide +kernel⟩, kp_mem 682 (by decide +kernel) (by decide +kernel), kp_mem 683 (by decide +kernel) (by decide +kernel), kp_mem 684 (by decide +kernel) (by decide +kernel), by decide, TX9, 11, rfl⟩
theorem cv_9_98 : kp_CV RX9 98 yX9_stopWith cX9_stopWith 2 none 1 9 := ⟨⟨kp_mem 801 (by decide +kernel) (by decide +kernel), kp_mem 207 (by decide +kernel) (by decide +kernel), by decide +kernel⟩, kp_mem 798 (by decide +kernel) (by decide +kernel), kp_mem 800 (by decide +kernel) (by decide +kernel), kp_mem 9 (by decide +kernel) (by decide +kernel), by decide, TX9, 11, rfl⟩
theorem cv_9_101 : kp_CV RX9 101 yX9_refuse cX9_refuse 1 none 0 9 := ⟨⟨kp_mem 797 (by decide +kernel) (by decide +kernel), kp_mem 207 (by decide +kernel) (by decide +kernel), by decide +kernel⟩, kp_mem 794 (by decide +kernel) (by decide +kernel), kp_mem 795 (by decide +kernel) (by decide +kernel), kp_mem 796 (by decide +kernel) (by decide +kernel), by decide, TX9, 11, rfl⟩
theorem dX9_isLetter_0 : decode cX9_isLetter 0 = .ok (.iload_n 0, 1) := by decide +kernel
theorem dX9_isLetter_1 : decode cX9_isLetter 1 = .ok (.bipush 97, 2) := by decide +kernel
theorem dX9_isLetter_3 : decode cX9_isLetter 3 = .ok (.if_icmp .lt 13, 3) := by decide +kernel
theorem dX9_isLetter_6 : decode cX9_isLetter 6 = .ok (.iload_n 0, 1) := by decide +kernel
theorem dX9_isLetter_7 : decode cX9_isLetter 7 = .ok (.bipush 122, 2) := by decide +kernel
theorem dX9_isLetter_9 : decode cX9_isLetter 9 = .ok (.if_icmp .gt 7, 3) := by decide +kernel
theorem dX9_isLetter_12 : decode cX9_isLetter 12 = .ok (.iconst 1, 1) := by decide +kernel
theorem dX9_isLetter_13 : decode cX9_isLetter 13 = .ok (.goto 4, 3) := by decide +kernel
theorem dX9_isLetter_16 : decode cX9_isLetter 16 = .ok (.iconst 0, 1) := by decide +kernel
theorem dX9_isLetter_17 : decode cX9_isLetter 17 = .ok (.ireturn, 1) := by decide +kernel
def wX9_isLetter_b17 (x0 : Int32) (xt0 : Int32)  (Sn : kp_S) (post : Int32 → kp_S → Prop) : Prop :=
  kp_b xt0 ∧ post xt0 Sn
def wX9_isLetter_b16 (x0 : Int32)  (Sn : kp_S) (post : Int32 → kp_S → Prop) : Prop :=
  wX9_isLetter_b17 x0 0  Sn post
def wX9_isLetter (x0 : Int32) (S : kp_S) (post : Int32 → kp_S → Prop) : Prop :=
  ((x0 < 97 →
  wX9_isLetter_b16 x0   S post) ∧ (¬ x0 < 97 →
  ((122 < x0 →
  wX9_isLetter_b16 x0   S post) ∧ (¬ 122 < x0 →
  wX9_isLetter_b17 x0 1  S post))))
set_option maxHeartbeats 4000000 in
set_option maxRecDepth 100000 in
theorem c_X9_isLetter (l : Launch) (D : va_G) (cy : Nat → ClassId) (ad : (Nat → Nat) × (Nat → Nat)) (S : kp_S) (x0 : Int32) (post : Int32 → kp_S → Prop) (hS : kp_ok S)  (hw : wX9_isLetter x0 S post) : kp_M l yX9_isLetter cX9_isLetter 1 (some .boolean) { frames := 0, cells := 0, slots := 0, locals := 0 } D cy ad S [.int x0] 0 0 (fun A => kp_Qi D cy A S post) := by
  refine kp_start (own := RX9) (by decide) rfl (Nat.le_of_ble_eq_true rfl) hS ?_
  intro p e s m below meth c A ls X hr hlocks hname h hl
  have hle : kp_le S S := kp_le.rf
  have hl : lv_has ls 1 [(0, .int x0)] := hl
  have j17 : ∀ (xt0 : Int32) (Sn : kp_S) (H : Heap) (locs : List Loc) (ls : Array Slot), lv_has ls 1 [] → kp_H D cy A Sn s.heap H locs → kp_le S Sn → wX9_isLetter_b17 x0 xt0  Sn post → W p l e { frames := 0, cells := 0, slots := 0, locals := 0 } s m ([.int x0] : List Value).toArray below meth c H locs 0 0 (MQ below (kp_Qi D cy A S post) ([.int x0] : List Value).toArray s 0 0 A) (F0 m 17 ls [.int xt0]) := by
    intro xt0 Sn H locs ls hl h hle  hw
    unfold wX9_isLetter_b17 at hw
    exact kp_reti X hr hlocks h hle (kp_bz hw.1).1 hw.2 dX9_isLetter_17
  have j16 : ∀  (Sn : kp_S) (H : Heap) (locs : List Loc) (ls : Array Slot), lv_has ls 1 [] → kp_H D cy A Sn s.heap H locs → kp_le S Sn → wX9_isLetter_b16 x0   Sn post → W p l e { frames := 0, cells := 0, slots := 0, locals := 0 } s m ([.int x0] : List Value).toArray below meth c H locs 0 0 (MQ below (kp_Qi D cy A S post) ([.int x0] : List Value).toArray s 0 0 A) (F0 m 16 ls []) := by
    intro  Sn H locs ls hl h hle  hw
    unfold wX9_isLetter_b16 at hw
    refine lv_iconst (v := 0) X.1 X.2.1 dX9_isLetter_16 (by decide) ?_
    exact j17 0 Sn H locs ls (lv_sub hl [] rfl) h hle  hw
  unfold wX9_isLetter at hw
  have h : kp_H D cy A S s.heap s.heap [] := h
  revert h
  intro h
  refine lv_iload_n X.1 X.2.1 dX9_isLetter_0 rfl (lv_at hl 0 rfl) ?_
  refine lv_bipush (v := 97) X.1 X.2.1 dX9_isLetter_1 (by decide) ?_
  refine lv_icmp_lt (tgt := 16) X.1 X.2.1 dX9_isLetter_3 (by decide) (fun c2 => ?_) (fun c2 => ?_)
  · have hw := hw.1 c2
    exact j16  S _ _ ls (lv_sub hl [] rfl) h hle  hw
  · have hw := hw.2 c2
    refine lv_iload_n X.1 X.2.1 dX9_isLetter_6 rfl (lv_at hl 0 rfl) ?_
    refine lv_bipush (v := 122) X.1 X.2.1 dX9_isLetter_7 (by decide) ?_
    refine lv_icmp_gt (tgt := 16) X.1 X.2.1 dX9_isLetter_9 (by decide) (fun c1 => ?_) (fun c1 => ?_)
    · have hw := hw.1 c1
      exact j16  S _ _ ls (lv_sub hl [] rfl) h hle  hw
    · have hw := hw.2 c1
      refine lv_iconst (v := 1) X.1 X.2.1 dX9_isLetter_12 (by decide) ?_
      refine lv_goto (tgt := 17) X.1 X.2.1 dX9_isLetter_13 (by decide) ?_
      exact j17 1 S _ _ ls (lv_sub hl [] rfl) h hle  hw
theorem dX9_isDigit_0 : decode cX9_isDigit 0 = .ok (.iload_n 0, 1) := by decide +kernel
theorem dX9_isDigit_1 : decode cX9_isDigit 1 = .ok (.bipush 48, 2) := by decide +kernel
theorem dX9_isDigit_3 : decode cX9_isDigit 3 = .ok (.if_icmp .lt 13, 3) := by decide +kernel
theorem dX9_isDigit_6 : decode cX9_isDigit 6 = .ok (.iload_n 0, 1) := by decide +kernel
theorem dX9_isDigit_7 : decode cX9_isDigit 7 = .ok (.bipush 57, 2) := by decide +kernel
theorem dX9_isDigit_9 : decode cX9_isDigit 9 = .ok (.if_icmp .gt 7, 3) := by decide +kernel
theorem dX9_isDigit_12 : decode cX9_isDigit 12 = .ok (.iconst 1, 1) := by decide +kernel
theorem dX9_isDigit_13 : decode cX9_isDigit 13 = .ok (.goto 4, 3) := by decide +kernel
theorem dX9_isDigit_16 : decode cX9_isDigit 16 = .ok (.iconst 0, 1) := by decide +kernel
theorem dX9_isDigit_17 : decode cX9_isDigit 17 = .ok (.ireturn, 1) := by decide +kernel
def wX9_isDigit_b17 (x0 : Int32) (xt0 : Int32)  (Sn : kp_S) (post : Int32 → kp_S → Prop) : Prop :=
  kp_b xt0 ∧ post xt0 Sn
def wX9_isDigit_b16 (x0 : Int32)  (Sn : kp_S) (post : Int32 → kp_S → Prop) : Prop :=
  wX9_isDigit_b17 x0 0  Sn post
def wX9_isDigit (x0 : Int32) (S : kp_S) (post : Int32 → kp_S → Prop) : Prop :=
  ((x0 < 48 →
  wX9_isDigit_b16 x0   S post) ∧ (¬ x0 < 48 →
  ((57 < x0 →
  wX9_isDigit_b16 x0   S post) ∧ (¬ 57 < x0 →
  wX9_isDigit_b17 x0 1  S post))))
set_option maxHeartbeats 4000000 in
set_option maxRecDepth 100000 in
theorem c_X9_isDigit (l : Launch) (D : va_G) (cy : Nat → ClassId) (ad : (Nat → Nat) × (Nat → Nat)) (S : kp_S) (x0 : Int32) (post : Int32 → kp_S → Prop) (hS : kp_ok S)  (hw : wX9_isDigit x0 S post) : kp_M l yX9_isDigit cX9_isDigit 1 (some .boolean) { frames := 0, cells := 0, slots := 0, locals := 0 } D cy ad S [.int x0] 0 0 (fun A => kp_Qi D cy A S post) := by
  refine kp_start (own := RX9) (by decide) rfl (Nat.le_of_ble_eq_true rfl) hS ?_
  intro p e s m below meth c A ls X hr hlocks hname h hl
  have hle : kp_le S S := kp_le.rf
  have hl : lv_has ls 1 [(0, .int x0)] := hl
  have j17 : ∀ (xt0 : Int32) (Sn : kp_S) (H : Heap) (locs : List Loc) (ls : Array Slot), lv_has ls 1 [] → kp_H D cy A Sn s.heap H locs → kp_le S Sn → wX9_isDigit_b17 x0 xt0  Sn post → W p l e { frames := 0, cells := 0, slots := 0, locals := 0 } s m ([.int x0] : List Value).toArray below meth c H locs 0 0 (MQ below (kp_Qi D cy A S post) ([.int x0] : List Value).toArray s 0 0 A) (F0 m 17 ls [.int xt0]) := by
    intro xt0 Sn H locs ls hl h hle  hw
    unfold wX9_isDigit_b17 at hw
    exact kp_reti X hr hlocks h hle (kp_bz hw.1).1 hw.2 dX9_isDigit_17
  have j16 : ∀  (Sn : kp_S) (H : Heap) (locs : List Loc) (ls : Array Slot), lv_has ls 1 [] → kp_H D cy A Sn s.heap H locs → kp_le S Sn → wX9_isDigit_b16 x0   Sn post → W p l e { frames := 0, cells := 0, slots := 0, locals := 0 } s m ([.int x0] : List Value).toArray below meth c H locs 0 0 (MQ below (kp_Qi D cy A S post) ([.int x0] : List Value).toArray s 0 0 A) (F0 m 16 ls []) := by
    intro  Sn H locs ls hl h hle  hw
    unfold wX9_isDigit_b16 at hw
    refine lv_iconst (v := 0) X.1 X.2.1 dX9_isDigit_16 (by decide) ?_
    exact j17 0 Sn H locs ls (lv_sub hl [] rfl) h hle  hw
  unfold wX9_isDigit at hw
  have h : kp_H D cy A S s.heap s.heap [] := h
  revert h
  intro h
  refine lv_iload_n X.1 X.2.1 dX9_isDigit_0 rfl (lv_at hl 0 rfl) ?_
  refine lv_bipush (v := 48) X.1 X.2.1 dX9_isDigit_1 (by decide) ?_
  refine lv_icmp_lt (tgt := 16) X.1 X.2.1 dX9_isDigit_3 (by decide) (fun c2 => ?_) (fun c2 => ?_)
  · have hw := hw.1 c2
    exact j16  S _ _ ls (lv_sub hl [] rfl) h hle  hw
  · have hw := hw.2 c2
    refine lv_iload_n X.1 X.2.1 dX9_isDigit_6 rfl (lv_at hl 0 rfl) ?_
    refine lv_bipush (v := 57) X.1 X.2.1 dX9_isDigit_7 (by decide) ?_
    refine lv_icmp_gt (tgt := 16) X.1 X.2.1 dX9_isDigit_9 (by decide) (fun c1 => ?_) (fun c1 => ?_)
    · have hw := hw.1 c1
      exact j16  S _ _ ls (lv_sub hl [] rfl) h hle  hw
    · have hw := hw.2 c1
      refine lv_iconst (v := 1) X.1 X.2.1 dX9_isDigit_12 (by decide) ?_
      refine lv_goto (tgt := 17) X.1 X.2.1 dX9_isDigit_13 (by decide) ?_
      exact j17 1 S _ _ ls (lv_sub hl [] rfl) h hle  hw
theorem dX9_byteAt_0 : decode cX9_byteAt 0 = .ok (.iload_n 1, 1) := by decide +kernel
theorem dX9_byteAt_1 : decode cX9_byteAt 1 = .ok (.ifCond .lt 29, 3) := by decide +kernel
theorem dX9_byteAt_4 : decode cX9_byteAt 4 = .ok (.iload_n 1, 1) := by decide +kernel
theorem dX9_byteAt_5 : decode cX9_byteAt 5 = .ok (.aload_n 0, 1) := by decide +kernel
theorem dX9_byteAt_6 : decode cX9_byteAt 6 = .ok (.getfield 37, 3) := by decide +kernel
theorem dX9_byteAt_9 : decode cX9_byteAt 9 = .ok (.if_icmp .ge 21, 3) := by decide +kernel
theorem dX9_byteAt_12 : decode cX9_byteAt 12 = .ok (.iload_n 1, 1) := by decide +kernel
theorem dX9_byteAt_13 : decode cX9_byteAt 13 = .ok (.aload_n 0, 1) := by decide +kernel
theorem dX9_byteAt_14 : decode cX9_byteAt 14 = .ok (.getfield 9, 3) := by decide +kernel
theorem dX9_byteAt_17 : decode cX9_byteAt 17 = .ok (.arraylength, 1) := by decide +kernel
theorem dX9_byteAt_18 : decode cX9_byteAt 18 = .ok (.if_icmp .ge 12, 3) := by decide +kernel
theorem dX9_byteAt_21 : decode cX9_byteAt 21 = .ok (.aload_n 0, 1) := by decide +kernel
theorem dX9_byteAt_22 : decode cX9_byteAt 22 = .ok (.getfield 9, 3) := by decide +kernel
theorem dX9_byteAt_25 : decode cX9_byteAt 25 = .ok (.iload_n 1, 1) := by decide +kernel
theorem dX9_byteAt_26 : decode cX9_byteAt 26 = .ok (.baload, 1) := by decide +kernel
theorem dX9_byteAt_27 : decode cX9_byteAt 27 = .ok (.goto 4, 3) := by decide +kernel
theorem dX9_byteAt_30 : decode cX9_byteAt 30 = .ok (.iconst 0, 1) := by decide +kernel
theorem dX9_byteAt_31 : decode cX9_byteAt 31 = .ok (.ireturn, 1) := by decide +kernel
def wX9_byteAt_b31 (a0 : Nat) (x1 : Int32) (xt0 : Int32)  (Sn : kp_S) (post : Int32 → kp_S → Prop) : Prop :=
  post xt0 Sn
def wX9_byteAt_b30 (a0 : Nat) (x1 : Int32)  (Sn : kp_S) (post : Int32 → kp_S → Prop) : Prop :=
  wX9_byteAt_b31 a0 x1 0  Sn post
def wX9_byteAt (a0 : Nat) (x1 : Int32) (S : kp_S) (post : Int32 → kp_S → Prop) : Prop :=
  ((x1 < 0 →
  wX9_byteAt_b30 a0 x1   S post) ∧ (¬ x1 < 0 →
  (((kp_I S 1802 a0) ≤ x1 →
  wX9_byteAt_b30 a0 x1   S post) ∧ (¬ (kp_I S 1802 a0) ≤ x1 →
  ∃ b1 : Nat, kp_R S 1800 a0 = some b1 ∧
  (((nI (kp_N S b1)) ≤ x1 →
  wX9_byteAt_b30 a0 x1   S post) ∧ (¬ (nI (kp_N S b1)) ≤ x1 →
  vp_in x1 (kp_N S b1) ∧
  wX9_byteAt_b31 a0 x1 (kp_A S b1 x1.toNatClampNeg)  S post))))))
set_option maxHeartbeats 4000000 in
set_option maxRecDepth 100000 in
theorem c_X9_byteAt (l : Launch) (D : va_G) (cy : Nat → ClassId) (ad : (Nat → Nat) × (Nat → Nat)) (S : kp_S) (a0 : Nat) (x1 : Int32) (post : Int32 → kp_S → Prop) (hS : kp_ok S) (f_a0 : kp_is S a0 9) (hw : wX9_byteAt a0 x1 S post) : kp_M l yX9_byteAt cX9_byteAt 2 (some .int) { frames := 0, cells := 0, slots := 0, locals := 0 } D cy ad S [.ref a0, .int x1] 0 0 (fun A => kp_Qi D cy A S post) := by
  refine kp_start (own := RX9) (by decide) rfl (Nat.le_of_ble_eq_true rfl) hS ?_
  intro p e s m below meth c A ls X hr hlocks hname h hl
  have hle : kp_le S S := kp_le.rf
  have hl : lv_has ls 2 [(0, .ref a0), (1, .int x1)] := hl
  have j31 : ∀ (xt0 : Int32) (Sn : kp_S) (H : Heap) (locs : List Loc) (ls : Array Slot), lv_has ls 2 [] → kp_H D cy A Sn s.heap H locs → kp_le S Sn → kp_is Sn a0 9 → wX9_byteAt_b31 a0 x1 xt0  Sn post → W p l e { frames := 0, cells := 0, slots := 0, locals := 0 } s m ([.ref a0, .int x1] : List Value).toArray below meth c H locs 0 0 (MQ below (kp_Qi D cy A S post) ([.ref a0, .int x1] : List Value).toArray s 0 0 A) (F0 m 31 ls [.int xt0]) := by
    intro xt0 Sn H locs ls hl h hle f_a0 hw
    unfold wX9_byteAt_b31 at hw
    exact kp_reti X hr hlocks h hle rfl hw dX9_byteAt_31
  have j30 : ∀  (Sn : kp_S) (H : Heap) (locs : List Loc) (ls : Array Slot), lv_has ls 2 [] → kp_H D cy A Sn s.heap H locs → kp_le S Sn → kp_is Sn a0 9 → wX9_byteAt_b30 a0 x1   Sn post → W p l e { frames := 0, cells := 0, slots := 0, locals := 0 } s m ([.ref a0, .int x1] : List Value).toArray below meth c H locs 0 0 (MQ below (kp_Qi D cy A S post) ([.ref a0, .int x1] : List Value).toArray s 0 0 A) (F0 m 30 ls []) := by
    intro  Sn H locs ls hl h hle f_a0 hw
    unfold wX9_byteAt_b30 at hw
    refine lv_iconst (v := 0) X.1 X.2.1 dX9_byteAt_30 (by decide) ?_
    exact j31 0 Sn H locs ls (lv_sub hl [] rfl) h hle f_a0 hw
  unfold wX9_byteAt at hw
  have h : kp_H D cy A S s.heap s.heap [] := h
  revert h
  intro h
  refine lv_iload_n X.1 X.2.1 dX9_byteAt_0 rfl (lv_at hl 1 rfl) ?_
  refine lv_if_lt (tgt := 30) X.1 X.2.1 dX9_byteAt_1 (by decide) (fun c4 => ?_) (fun c4 => ?_)
  · have hw := hw.1 c4
    exact j30  S _ _ ls (lv_sub hl [] rfl) h hle f_a0 hw
  · have hw := hw.2 c4
    refine lv_iload_n X.1 X.2.1 dX9_byteAt_4 rfl (lv_at hl 1 rfl) ?_
    refine lv_aload_n X.1 X.2.1 dX9_byteAt_5 rfl (lv_at hl 0 rfl) ?_
    refine kp_get X h f_a0 fp_9_37.l (v := .int (kp_I S 1802 a0)) rfl dX9_byteAt_6 ?_
    refine lv_icmp_ge (tgt := 30) X.1 X.2.1 dX9_byteAt_9 (by decide) (fun c3 => ?_) (fun c3 => ?_)
    · have hw := hw.1 c3
      exact j30  S _ _ ls (lv_sub hl [] rfl) h hle f_a0 hw
    · have hw := hw.2 c3
      refine lv_iload_n X.1 X.2.1 dX9_byteAt_12 rfl (lv_at hl 1 rfl) ?_
      refine lv_aload_n X.1 X.2.1 dX9_byteAt_13 rfl (lv_at hl 0 rfl) ?_
      obtain ⟨b1, e_b1, hw⟩ := hw
      have f_b1 := h.2.2.2.rf (c := 9) (k := 0) f_a0 (by decide) (by decide) e_b1 (t := 13) rfl
      refine kp_get X h f_a0 ff_9_9.l (v := .ref b1) (congrArg va_rf e_b1) dX9_byteAt_14 ?_
      refine kp_alen X h f_b1 (by decide) dX9_byteAt_17 ?_
      refine lv_icmp_ge (tgt := 30) X.1 X.2.1 dX9_byteAt_18 (by decide) (fun c2 => ?_) (fun c2 => ?_)
      · have hw := hw.1 c2
        exact j30  S _ _ ls (lv_sub hl [] rfl) h hle f_a0 hw
      · have hw := hw.2 c2
        refine lv_aload_n X.1 X.2.1 dX9_byteAt_21 rfl (lv_at hl 0 rfl) ?_
        refine kp_get X h f_a0 ff_9_9.l (v := .ref b1) (congrArg va_rf e_b1) dX9_byteAt_22 ?_
        refine lv_iload_n X.1 X.2.1 dX9_byteAt_25 rfl (lv_at hl 1 rfl) ?_
        obtain ⟨hi, hw⟩ := hw
        refine kp_bald X h f_b1 hi dX9_byteAt_26 ?_
        refine lv_goto (tgt := 31) X.1 X.2.1 dX9_byteAt_27 (by decide) ?_
        exact j31 (kp_A S b1 x1.toNatClampNeg) S _ _ ls (lv_sub hl [] rfl) h hle f_a0 hw
theorem dX9_passBlanks_0 : decode cX9_passBlanks 0 = .ok (.iconst 0, 1) := by decide +kernel
theorem dX9_passBlanks_1 : decode cX9_passBlanks 1 = .ok (.istore_n 1, 1) := by decide +kernel
theorem dX9_passBlanks_2 : decode cX9_passBlanks 2 = .ok (.aload_n 0, 1) := by decide +kernel
theorem dX9_passBlanks_3 : decode cX9_passBlanks 3 = .ok (.getfield 41, 3) := by decide +kernel
theorem dX9_passBlanks_6 : decode cX9_passBlanks 6 = .ok (.aload_n 0, 1) := by decide +kernel
theorem dX9_passBlanks_7 : decode cX9_passBlanks 7 = .ok (.getfield 37, 3) := by decide +kernel
theorem dX9_passBlanks_10 : decode cX9_passBlanks 10 = .ok (.if_icmp .ge 58, 3) := by decide +kernel
theorem dX9_passBlanks_13 : decode cX9_passBlanks 13 = .ok (.aload_n 0, 1) := by decide +kernel
theorem dX9_passBlanks_14 : decode cX9_passBlanks 14 = .ok (.aload_n 0, 1) := by decide +kernel
theorem dX9_passBlanks_15 : decode cX9_passBlanks 15 = .ok (.getfield 41, 3) := by decide +kernel
theorem dX9_passBlanks_18 : decode cX9_passBlanks 18 = .ok (.invokevirtual 65, 3) := by decide +kernel
theorem dX9_passBlanks_21 : decode cX9_passBlanks 21 = .ok (.istore_n 2, 1) := by decide +kernel
theorem dX9_passBlanks_22 : decode cX9_passBlanks 22 = .ok (.iload_n 2, 1) := by decide +kernel
theorem dX9_passBlanks_23 : decode cX9_passBlanks 23 = .ok (.bipush 35, 2) := by decide +kernel
theorem dX9_passBlanks_25 : decode cX9_passBlanks 25 = .ok (.if_icmp .ne 8, 3) := by decide +kernel
theorem dX9_passBlanks_28 : decode cX9_passBlanks 28 = .ok (.iconst 1, 1) := by decide +kernel
theorem dX9_passBlanks_29 : decode cX9_passBlanks 29 = .ok (.istore_n 1, 1) := by decide +kernel
theorem dX9_passBlanks_30 : decode cX9_passBlanks 30 = .ok (.goto 25, 3) := by decide +kernel
theorem dX9_passBlanks_33 : decode cX9_passBlanks 33 = .ok (.iload_n 2, 1) := by decide +kernel
theorem dX9_passBlanks_34 : decode cX9_passBlanks 34 = .ok (.bipush 10, 2) := by decide +kernel
theorem dX9_passBlanks_36 : decode cX9_passBlanks 36 = .ok (.if_icmp .ne 8, 3) := by decide +kernel
theorem dX9_passBlanks_39 : decode cX9_passBlanks 39 = .ok (.iconst 0, 1) := by decide +kernel
theorem dX9_passBlanks_40 : decode cX9_passBlanks 40 = .ok (.istore_n 1, 1) := by decide +kernel
theorem dX9_passBlanks_41 : decode cX9_passBlanks 41 = .ok (.goto 14, 3) := by decide +kernel
theorem dX9_passBlanks_44 : decode cX9_passBlanks 44 = .ok (.iload_n 2, 1) := by decide +kernel
theorem dX9_passBlanks_45 : decode cX9_passBlanks 45 = .ok (.bipush 32, 2) := by decide +kernel
theorem dX9_passBlanks_47 : decode cX9_passBlanks 47 = .ok (.if_icmp .eq 8, 3) := by decide +kernel
theorem dX9_passBlanks_50 : decode cX9_passBlanks 50 = .ok (.iload_n 1, 1) := by decide +kernel
theorem dX9_passBlanks_51 : decode cX9_passBlanks 51 = .ok (.ifCond .ne 4, 3) := by decide +kernel
theorem dX9_passBlanks_54 : decode cX9_passBlanks 54 = .ok (.return_, 1) := by decide +kernel
theorem dX9_passBlanks_55 : decode cX9_passBlanks 55 = .ok (.aload_n 0, 1) := by decide +kernel
theorem dX9_passBlanks_56 : decode cX9_passBlanks 56 = .ok (.dup, 1) := by decide +kernel
theorem dX9_passBlanks_57 : decode cX9_passBlanks 57 = .ok (.getfield 41, 3) := by decide +kernel
theorem dX9_passBlanks_60 : decode cX9_passBlanks 60 = .ok (.iconst 1, 1) := by decide +kernel
theorem dX9_passBlanks_61 : decode cX9_passBlanks 61 = .ok (.iadd, 1) := by decide +kernel
theorem dX9_passBlanks_62 : decode cX9_passBlanks 62 = .ok (.putfield 41, 3) := by decide +kernel
theorem dX9_passBlanks_65 : decode cX9_passBlanks 65 = .ok (.goto (-63), 3) := by decide +kernel
theorem dX9_passBlanks_68 : decode cX9_passBlanks 68 = .ok (.return_, 1) := by decide +kernel
def wX9_passBlanks_b55 (a0 : Nat) (xn1 : Int32) (K2 : Int32 → kp_S → Prop) (Sn : kp_S) (post : kp_S → Prop) : Prop :=
  ∀ T1001 : kp_S, T1001 = kp_sI Sn 1803 a0 ((kp_I Sn 1803 a0) + 1) →
  K2 xn1 T1001
def wX9_passBlanks_L2 (a0 : Nat)  (post : kp_S → Prop) : Nat → Int32 → kp_S → Prop
  | 0, _, _ => False
  | n + 1, xn1, Sn =>
  (((kp_I Sn 1802 a0) ≤ (kp_I Sn 1803 a0) →
  post Sn) ∧ (¬ (kp_I Sn 1802 a0) ≤ (kp_I Sn 1803 a0) →
  wX9_byteAt a0 (kp_I Sn 1803 a0) Sn (fun y2002 T2001 =>
  ((¬ y2002 = 35 →
  ((¬ y2002 = 10 →
  ((y2002 = 32 →
  wX9_passBlanks_b55 a0 xn1 (fun xn1_ S_ => wX9_passBlanks_L2 a0  post n xn1_ S_) T2001 post) ∧ (¬ y2002 = 32 →
  ((¬ xn1 = 0 →
  wX9_passBlanks_b55 a0 xn1 (fun xn1_ S_ => wX9_passBlanks_L2 a0  post n xn1_ S_) T2001 post) ∧ (xn1 = 0 →
  post T2001))))) ∧ (y2002 = 10 →
  wX9_passBlanks_b55 a0 0 (fun xn1_ S_ => wX9_passBlanks_L2 a0  post n xn1_ S_) T2001 post))) ∧ (y2002 = 35 →
  wX9_passBlanks_b55 a0 1 (fun xn1_ S_ => wX9_passBlanks_L2 a0  post n xn1_ S_) T2001 post)))))
def wX9_passBlanks (a0 : Nat) (S : kp_S) (post : kp_S → Prop) : Prop :=
  ∃ n0 : Nat, wX9_passBlanks_L2 a0  post n0 0 S
set_option maxHeartbeats 4000000 in
set_option maxRecDepth 100000 in
theorem c_X9_passBlanks (l : Launch) (D : va_G) (cy : Nat → ClassId) (ad : (Nat → Nat) × (Nat → Nat)) (S : kp_S) (a0 : Nat) (post : kp_S → Prop) (hS : kp_ok S) (f_a0 : kp_is S a0 9) (hw : wX9_passBlanks a0 S post) : kp_M l yX9_passBlanks cX9_passBlanks 3 none { frames := 1, cells := 0, slots := 0, locals := 21 } D cy ad S [.ref a0] 0 0 (fun A => kp_Qv D cy A S post) := by
  refine kp_start (own := RX9) (by decide) rfl (Nat.le_of_ble_eq_true rfl) hS ?_
  intro p e s m below meth c A ls X hr hlocks hname h hl
  have hle : kp_le S S := kp_le.rf
  have hl : lv_has ls 3 [(0, .ref a0)] := hl
  have L2 : ∀ n2 : Nat, ∀ (xn1 : Int32) (Sn : kp_S) (H : Heap) (locs : List Loc) (ls : Array Slot), lv_has ls 3 [(0, .ref a0), (1, .int xn1)] → kp_H D cy A Sn s.heap H locs → kp_le S Sn → kp_is Sn a0 9 → wX9_passBlanks_L2 a0  post n2 xn1 Sn → W p l e { frames := 1, cells := 0, slots := 0, locals := 21 } s m ([.ref a0] : List Value).toArray below meth c H locs 0 0 (MQ below (kp_Qv D cy A S post) ([.ref a0] : List Value).toArray s 0 0 A) (F0 m 2 ls []) := by
    intro n2
    induction n2 with
    | zero => intro xn1 Sn H locs ls hl h hle f_a0 hw; exact hw.elim
    | succ n2 ih2 =>
      have j55 : ∀ (xn1 : Int32) (Sn : kp_S) (H : Heap) (locs : List Loc) (ls : Array Slot), lv_has ls 3 [(0, .ref a0), (1, .int xn1)] → kp_H D cy A Sn s.heap H locs → kp_le S Sn → kp_is Sn a0 9 → wX9_passBlanks_b55 a0 xn1 (fun xn1_ S_ => wX9_passBlanks_L2 a0  post n2 xn1_ S_) Sn post → W p l e { frames := 1, cells := 0, slots := 0, locals := 21 } s m ([.ref a0] : List Value).toArray below meth c H locs 0 0 (MQ below (kp_Qv D cy A S post) ([.ref a0] : List Value).toArray s 0 0 A) (F0 m 55 ls []) := by
        intro xn1 Sn H locs ls hl h hle f_a0 hw
        unfold wX9_passBlanks_b55 at hw
        refine lv_aload_n X.1 X.2.1 dX9_passBlanks_55 rfl (lv_at hl 0 rfl) ?_
        refine lv_dup X.1 X.2.1 dX9_passBlanks_56 rfl ?_
        refine kp_get X h f_a0 fp_9_41.l (v := .int (kp_I Sn 1803 a0)) rfl dX9_passBlanks_57 ?_
        refine lv_iconst (v := 1) X.1 X.2.1 dX9_passBlanks_60 (by decide) ?_
        refine lv_iadd X.1 X.2.1 dX9_passBlanks_61 ?_
        refine kp_putI X h f_a0 fp_9_41 rfl ⟨rfl, rfl⟩ dX9_passBlanks_62 (fun T1001 e_T1001 l_T1001 H locs h => ?_)
        have hw := hw T1001 e_T1001
        have f_a0 := l_T1001.is f_a0
        have hle := hle.tr l_T1001
        refine lv_goto (tgt := 2) X.1 X.2.1 dX9_passBlanks_65 (by decide) ?_
        exact ih2 xn1 T1001 H locs ls (lv_sub hl [0, 1] rfl) h hle f_a0 hw
      intro xn1 Sn H locs ls hl h hle f_a0 hw
      unfold wX9_passBlanks_L2 at hw
      refine lv_aload_n X.1 X.2.1 dX9_passBlanks_2 rfl (lv_at hl 0 rfl) ?_
      refine kp_get X h f_a0 fp_9_41.l (v := .int (kp_I Sn 1803 a0)) rfl dX9_passBlanks_3 ?_
      refine lv_aload_n X.1 X.2.1 dX9_passBlanks_6 rfl (lv_at hl 0 rfl) ?_
      refine kp_get X h f_a0 fp_9_37.l (v := .int (kp_I Sn 1802 a0)) rfl dX9_passBlanks_7 ?_
      refine lv_icmp_ge (tgt := 68) X.1 X.2.1 dX9_passBlanks_10 (by decide) (fun c2007 => ?_) (fun c2007 => ?_)
      · have hw := hw.1 c2007
        exact kp_retv X hr hlocks h hle hw dX9_passBlanks_68
      · have hw := hw.2 c2007
        refine lv_aload_n X.1 X.2.1 dX9_passBlanks_13 rfl (lv_at hl 0 rfl) ?_
        refine lv_aload_n X.1 X.2.1 dX9_passBlanks_14 rfl (lv_at hl 0 rfl) ?_
        refine kp_get X h f_a0 fp_9_41.l (v := .int (kp_I Sn 1803 a0)) rfl dX9_passBlanks_15 ?_
        refine kp_calli X h (kp_runV (rm := { frames := 0, cells := 0, slots := 0, locals := 0 }) (mc := 0) (ms := 0) (rest := []) (Qc := fun A => kp_Qi D cy A Sn _) X h (c_X9_byteAt l D cy ad Sn a0 (kp_I Sn 1803 a0) _ h.2.2.2 f_a0 hw) f_a0 cv_9_65 ⟨by decide, by decide, rfl, rfl, by decide, by decide⟩ rfl hl.1 rfl (Nat.le_of_ble_eq_true rfl) dX9_passBlanks_18) (fun y2002 T2001 hw l_T2001 H locs h => ?_)
        have f_a0 := l_T2001.is f_a0
        have hle := hle.tr l_T2001
        refine lv_istore_n (lv' := [(2, .int y2002), (0, .ref a0), (1, .int xn1)]) X.1 X.2.1 dX9_passBlanks_21 rfl hl (by decide) rfl (fun ls hl => ?_)
        refine lv_iload_n X.1 X.2.1 dX9_passBlanks_22 rfl (lv_at hl 0 rfl) ?_
        refine lv_bipush (v := 35) X.1 X.2.1 dX9_passBlanks_23 (by decide) ?_
        refine lv_icmp_ne (tgt := 33) X.1 X.2.1 dX9_passBlanks_25 (by decide) (fun c2006 => ?_) (fun c2006 => ?_)
        · have hw := hw.1 c2006
          refine lv_iload_n X.1 X.2.1 dX9_passBlanks_33 rfl (lv_at hl 0 rfl) ?_
          refine lv_bipush (v := 10) X.1 X.2.1 dX9_passBlanks_34 (by decide) ?_
          refine lv_icmp_ne (tgt := 44) X.1 X.2.1 dX9_passBlanks_36 (by decide) (fun c2005 => ?_) (fun c2005 => ?_)
          · have hw := hw.1 c2005
            refine lv_iload_n X.1 X.2.1 dX9_passBlanks_44 rfl (lv_at hl 0 rfl) ?_
            refine lv_bipush (v := 32) X.1 X.2.1 dX9_passBlanks_45 (by decide) ?_
            refine lv_icmp_eq (tgt := 55) X.1 X.2.1 dX9_passBlanks_47 (by decide) (fun c2004 => ?_) (fun c2004 => ?_)
            · have hw := hw.1 c2004
              exact j55 xn1 T2001 H locs ls (lv_sub hl [1, 2] rfl) h hle f_a0 hw
            · have hw := hw.2 c2004
              refine lv_iload_n X.1 X.2.1 dX9_passBlanks_50 rfl (lv_at hl 2 rfl) ?_
              refine lv_if_ne (tgt := 55) X.1 X.2.1 dX9_passBlanks_51 (by decide) (fun c2003 => ?_) (fun c2003 => ?_)
              · have hw := hw.1 c2003
                exact j55 xn1 T2001 H locs ls (lv_sub hl [1, 2] rfl) h hle f_a0 hw
              · have hw := hw.2 c2003
                exact kp_retv X hr hlocks h hle hw dX9_passBlanks_54
          · have hw := hw.2 c2005
            refine lv_iconst (v := 0) X.1 X.2.1 dX9_passBlanks_39 (by decide) ?_
            refine lv_istore_n (lv' := [(1, .int 0), (2, .int y2002), (0, .ref a0)]) X.1 X.2.1 dX9_passBlanks_40 rfl hl (by decide) rfl (fun ls hl => ?_)
            refine lv_goto (tgt := 55) X.1 X.2.1 dX9_passBlanks_41 (by decide) ?_
            exact j55 0 T2001 H locs ls (lv_sub hl [2, 0] rfl) h hle f_a0 hw
        · have hw := hw.2 c2006
          refine lv_iconst (v := 1) X.1 X.2.1 dX9_passBlanks_28 (by decide) ?_
          refine lv_istore_n (lv' := [(1, .int 1), (2, .int y2002), (0, .ref a0)]) X.1 X.2.1 dX9_passBlanks_29 rfl hl (by decide) rfl (fun ls hl => ?_)
          refine lv_goto (tgt := 55) X.1 X.2.1 dX9_passBlanks_30 (by decide) ?_
          exact j55 1 T2001 H locs ls (lv_sub hl [2, 0] rfl) h hle f_a0 hw
  unfold wX9_passBlanks at hw
  have h : kp_H D cy A S s.heap s.heap [] := h
  revert h
  intro h
  refine lv_iconst (v := 0) X.1 X.2.1 dX9_passBlanks_0 (by decide) ?_
  refine lv_istore_n (lv' := [(1, .int 0), (0, .ref a0)]) X.1 X.2.1 dX9_passBlanks_1 rfl hl (by decide) rfl (fun ls hl => ?_)
  obtain ⟨n0, hw⟩ := hw
  exact L2 n0 0 S _ _ ls (lv_sub hl [1, 0] rfl) h hle f_a0 hw
theorem dX9_takeWord_0 : decode cX9_takeWord 0 = .ok (.lconst 0, 1) := by decide +kernel
theorem dX9_takeWord_1 : decode cX9_takeWord 1 = .ok (.lstore_n 1, 1) := by decide +kernel
theorem dX9_takeWord_2 : decode cX9_takeWord 2 = .ok (.aload_n 0, 1) := by decide +kernel
theorem dX9_takeWord_3 : decode cX9_takeWord 3 = .ok (.getfield 41, 3) := by decide +kernel
theorem dX9_takeWord_6 : decode cX9_takeWord 6 = .ok (.aload_n 0, 1) := by decide +kernel
theorem dX9_takeWord_7 : decode cX9_takeWord 7 = .ok (.getfield 37, 3) := by decide +kernel
theorem dX9_takeWord_10 : decode cX9_takeWord 10 = .ok (.if_icmp .ge 59, 3) := by decide +kernel
theorem dX9_takeWord_13 : decode cX9_takeWord 13 = .ok (.aload_n 0, 1) := by decide +kernel
theorem dX9_takeWord_14 : decode cX9_takeWord 14 = .ok (.aload_n 0, 1) := by decide +kernel
theorem dX9_takeWord_15 : decode cX9_takeWord 15 = .ok (.getfield 41, 3) := by decide +kernel
theorem dX9_takeWord_18 : decode cX9_takeWord 18 = .ok (.invokevirtual 65, 3) := by decide +kernel
theorem dX9_takeWord_21 : decode cX9_takeWord 21 = .ok (.invokestatic 69, 3) := by decide +kernel
theorem dX9_takeWord_24 : decode cX9_takeWord 24 = .ok (.ifCond .ne 17, 3) := by decide +kernel
theorem dX9_takeWord_27 : decode cX9_takeWord 27 = .ok (.aload_n 0, 1) := by decide +kernel
theorem dX9_takeWord_28 : decode cX9_takeWord 28 = .ok (.aload_n 0, 1) := by decide +kernel
theorem dX9_takeWord_29 : decode cX9_takeWord 29 = .ok (.getfield 41, 3) := by decide +kernel
theorem dX9_takeWord_32 : decode cX9_takeWord 32 = .ok (.invokevirtual 65, 3) := by decide +kernel
theorem dX9_takeWord_35 : decode cX9_takeWord 35 = .ok (.invokestatic 76, 3) := by decide +kernel
theorem dX9_takeWord_38 : decode cX9_takeWord 38 = .ok (.ifCond .eq 31, 3) := by decide +kernel
theorem dX9_takeWord_41 : decode cX9_takeWord 41 = .ok (.lload_n 1, 1) := by decide +kernel
theorem dX9_takeWord_42 : decode cX9_takeWord 42 = .ok (.bipush 8, 2) := by decide +kernel
theorem dX9_takeWord_44 : decode cX9_takeWord 44 = .ok (.lshl, 1) := by decide +kernel
theorem dX9_takeWord_45 : decode cX9_takeWord 45 = .ok (.aload_n 0, 1) := by decide +kernel
theorem dX9_takeWord_46 : decode cX9_takeWord 46 = .ok (.aload_n 0, 1) := by decide +kernel
theorem dX9_takeWord_47 : decode cX9_takeWord 47 = .ok (.getfield 41, 3) := by decide +kernel
theorem dX9_takeWord_50 : decode cX9_takeWord 50 = .ok (.invokevirtual 65, 3) := by decide +kernel
theorem dX9_takeWord_53 : decode cX9_takeWord 53 = .ok (.i2l, 1) := by decide +kernel
theorem dX9_takeWord_54 : decode cX9_takeWord 54 = .ok (.lor, 1) := by decide +kernel
theorem dX9_takeWord_55 : decode cX9_takeWord 55 = .ok (.lstore_n 1, 1) := by decide +kernel
theorem dX9_takeWord_56 : decode cX9_takeWord 56 = .ok (.aload_n 0, 1) := by decide +kernel
theorem dX9_takeWord_57 : decode cX9_takeWord 57 = .ok (.dup, 1) := by decide +kernel
theorem dX9_takeWord_58 : decode cX9_takeWord 58 = .ok (.getfield 41, 3) := by decide +kernel
theorem dX9_takeWord_61 : decode cX9_takeWord 61 = .ok (.iconst 1, 1) := by decide +kernel
theorem dX9_takeWord_62 : decode cX9_takeWord 62 = .ok (.iadd, 1) := by decide +kernel
theorem dX9_takeWord_63 : decode cX9_takeWord 63 = .ok (.putfield 41, 3) := by decide +kernel
theorem dX9_takeWord_66 : decode cX9_takeWord 66 = .ok (.goto (-64), 3) := by decide +kernel
theorem dX9_takeWord_69 : decode cX9_takeWord 69 = .ok (.aload_n 0, 1) := by decide +kernel
theorem dX9_takeWord_70 : decode cX9_takeWord 70 = .ok (.getfield 41, 3) := by decide +kernel
theorem dX9_takeWord_73 : decode cX9_takeWord 73 = .ok (.aload_n 0, 1) := by decide +kernel
theorem dX9_takeWord_74 : decode cX9_takeWord 74 = .ok (.getfield 62, 3) := by decide +kernel
theorem dX9_takeWord_77 : decode cX9_takeWord 77 = .ok (.isub, 1) := by decide +kernel
theorem dX9_takeWord_78 : decode cX9_takeWord 78 = .ok (.bipush 8, 2) := by decide +kernel
theorem dX9_takeWord_80 : decode cX9_takeWord 80 = .ok (.if_icmp .le 11, 3) := by decide +kernel
theorem dX9_takeWord_83 : decode cX9_takeWord 83 = .ok (.aload_n 0, 1) := by decide +kernel
theorem dX9_takeWord_84 : decode cX9_takeWord 84 = .ok (.sipush 262, 3) := by decide +kernel
theorem dX9_takeWord_87 : decode cX9_takeWord 87 = .ok (.putfield 53, 3) := by decide +kernel
theorem dX9_takeWord_90 : decode cX9_takeWord 90 = .ok (.return_, 1) := by decide +kernel
theorem dX9_takeWord_91 : decode cX9_takeWord 91 = .ok (.aload_n 0, 1) := by decide +kernel
theorem dX9_takeWord_92 : decode cX9_takeWord 92 = .ok (.lload_n 1, 1) := by decide +kernel
theorem dX9_takeWord_93 : decode cX9_takeWord 93 = .ok (.putfield 86, 3) := by decide +kernel
theorem dX9_takeWord_96 : decode cX9_takeWord 96 = .ok (.aload_n 0, 1) := by decide +kernel
theorem dX9_takeWord_97 : decode cX9_takeWord 97 = .ok (.sipush 259, 3) := by decide +kernel
theorem dX9_takeWord_100 : decode cX9_takeWord 100 = .ok (.putfield 53, 3) := by decide +kernel
theorem dX9_takeWord_103 : decode cX9_takeWord 103 = .ok (.iconst 0, 1) := by decide +kernel
theorem dX9_takeWord_104 : decode cX9_takeWord 104 = .ok (.istore_n 3, 1) := by decide +kernel
theorem dX9_takeWord_105 : decode cX9_takeWord 105 = .ok (.iload_n 3, 1) := by decide +kernel
theorem dX9_takeWord_106 : decode cX9_takeWord 106 = .ok (.aload_n 0, 1) := by decide +kernel
theorem dX9_takeWord_107 : decode cX9_takeWord 107 = .ok (.getfield 15, 3) := by decide +kernel
theorem dX9_takeWord_110 : decode cX9_takeWord 110 = .ok (.arraylength, 1) := by decide +kernel
theorem dX9_takeWord_111 : decode cX9_takeWord 111 = .ok (.if_icmp .ge 30, 3) := by decide +kernel
theorem dX9_takeWord_114 : decode cX9_takeWord 114 = .ok (.aload_n 0, 1) := by decide +kernel
theorem dX9_takeWord_115 : decode cX9_takeWord 115 = .ok (.getfield 15, 3) := by decide +kernel
theorem dX9_takeWord_118 : decode cX9_takeWord 118 = .ok (.iload_n 3, 1) := by decide +kernel
theorem dX9_takeWord_119 : decode cX9_takeWord 119 = .ok (.laload, 1) := by decide +kernel
theorem dX9_takeWord_120 : decode cX9_takeWord 120 = .ok (.lload_n 1, 1) := by decide +kernel
theorem dX9_takeWord_121 : decode cX9_takeWord 121 = .ok (.lcmp, 1) := by decide +kernel
theorem dX9_takeWord_122 : decode cX9_takeWord 122 = .ok (.ifCond .ne 13, 3) := by decide +kernel
theorem dX9_takeWord_125 : decode cX9_takeWord 125 = .ok (.aload_n 0, 1) := by decide +kernel
theorem dX9_takeWord_126 : decode cX9_takeWord 126 = .ok (.sipush 300, 3) := by decide +kernel
theorem dX9_takeWord_129 : decode cX9_takeWord 129 = .ok (.iload_n 3, 1) := by decide +kernel
theorem dX9_takeWord_130 : decode cX9_takeWord 130 = .ok (.iadd, 1) := by decide +kernel
theorem dX9_takeWord_131 : decode cX9_takeWord 131 = .ok (.putfield 53, 3) := by decide +kernel
theorem dX9_takeWord_134 : decode cX9_takeWord 134 = .ok (.return_, 1) := by decide +kernel
theorem dX9_takeWord_135 : decode cX9_takeWord 135 = .ok (.iinc 3 1, 3) := by decide +kernel
theorem dX9_takeWord_138 : decode cX9_takeWord 138 = .ok (.goto (-33), 3) := by decide +kernel
theorem dX9_takeWord_141 : decode cX9_takeWord 141 = .ok (.return_, 1) := by decide +kernel
def wX9_takeWord_L105 (a0 : Nat)  (post : kp_S → Prop) : Nat → Int64 → Int32 → kp_S → Prop
  | 0, _, _, _ => False
  | n + 1, wn1, xn3, Sn =>
  ∃ b1001 : Nat, kp_R Sn 1801 a0 = some b1001 ∧
  (((nI (kp_N Sn b1001)) ≤ xn3 →
  post Sn) ∧ (¬ (nI (kp_N Sn b1001)) ≤ xn3 →
  vp_in xn3 (kp_N Sn b1001) ∧
  ((¬ (lg_cmp (kp_B Sn b1001 xn3.toNatClampNeg) wn1) = 0 →
  ∀ y1002 : Int32, y1002 = xn3 + 1 →
  wX9_takeWord_L105 a0  post n wn1 y1002 Sn) ∧ ((lg_cmp (kp_B Sn b1001 xn3.toNatClampNeg) wn1) = 0 →
  ∀ T1003 : kp_S, T1003 = kp_sI Sn 1805 a0 (300 + xn3) →
  post T1003))))
def wX9_takeWord_b69 (a0 : Nat) (wn1 : Int64)  (Sn : kp_S) (post : kp_S → Prop) : Prop :=
  ((((kp_I Sn 1803 a0) - (kp_I Sn 1806 a0)) ≤ 8 →
  ∀ T2001 : kp_S, T2001 = kp_sJ Sn 1808 a0 wn1 →
  ∀ T2002 : kp_S, T2002 = kp_sI T2001 1805 a0 259 →
  ∃ n0 : Nat, wX9_takeWord_L105 a0  post n0 wn1 0 T2002) ∧ (¬ ((kp_I Sn 1803 a0) - (kp_I Sn 1806 a0)) ≤ 8 →
  ∀ T2003 : kp_S, T2003 = kp_sI Sn 1805 a0 262 →
  post T2003))
def wX9_takeWord_b41 (a0 : Nat) (wn1 : Int64) (K2 : Int64 → kp_S → Prop) (Sn : kp_S) (post : kp_S → Prop) : Prop :=
  wX9_byteAt a0 (kp_I Sn 1803 a0) Sn (fun y3002 T3001 =>
  ∀ z3003 : Int64, z3003 = (((wn1 : Int64) <<< ((8 : Int32).toInt64 &&& 63)) ||| ((y3002 : Int32).toInt64)) →
  ∀ T3004 : kp_S, T3004 = kp_sI T3001 1803 a0 ((kp_I T3001 1803 a0) + 1) →
  K2 z3003 T3004)
def wX9_takeWord_L2 (a0 : Nat)  (post : kp_S → Prop) : Nat → Int64 → kp_S → Prop
  | 0, _, _ => False
  | n + 1, wn1, Sn =>
  (((kp_I Sn 1802 a0) ≤ (kp_I Sn 1803 a0) →
  wX9_takeWord_b69 a0 wn1  Sn post) ∧ (¬ (kp_I Sn 1802 a0) ≤ (kp_I Sn 1803 a0) →
  wX9_byteAt a0 (kp_I Sn 1803 a0) Sn (fun y4002 T4001 =>
  wX9_isLetter y4002 T4001 (fun y4004 T4003 =>
  ((¬ y4004 = 0 →
  wX9_takeWord_b41 a0 wn1 (fun wn1_ S_ => wX9_takeWord_L2 a0  post n wn1_ S_) T4003 post) ∧ (y4004 = 0 →
  wX9_byteAt a0 (kp_I T4003 1803 a0) T4003 (fun y4006 T4005 =>
  wX9_isDigit y4006 T4005 (fun y4008 T4007 =>
  ((y4008 = 0 →
  wX9_takeWord_b69 a0 wn1  T4007 post) ∧ (¬ y4008 = 0 →
  wX9_takeWord_b41 a0 wn1 (fun wn1_ S_ => wX9_takeWord_L2 a0  post n wn1_ S_) T4007 post))))))))))
def wX9_takeWord (a0 : Nat) (S : kp_S) (post : kp_S → Prop) : Prop :=
  ∃ n0 : Nat, wX9_takeWord_L2 a0  post n0 0 S
set_option maxHeartbeats 4000000 in
set_option maxRecDepth 100000 in
theorem c_X9_takeWord (l : Launch) (D : va_G) (cy : Nat → ClassId) (ad : (Nat → Nat) × (Nat → Nat)) (S : kp_S) (a0 : Nat) (post : kp_S → Prop) (hS : kp_ok S) (f_a0 : kp_is S a0 9) (hw : wX9_takeWord a0 S post) : kp_M l yX9_takeWord cX9_takeWord 4 none { frames := 1, cells := 0, slots := 0, locals := 21 } D cy ad S [.ref a0] 0 0 (fun A => kp_Qv D cy A S post) := by
  refine kp_start (own := RX9) (by decide) rfl (Nat.le_of_ble_eq_true rfl) hS ?_
  intro p e s m below meth c A ls X hr hlocks hname h hl
  have hle : kp_le S S := kp_le.rf
  have hl : lv_has ls 4 [(0, .ref a0)] := hl
  have L105 : ∀ n105 : Nat, ∀ (wn1 : Int64) (xn3 : Int32) (Sn : kp_S) (H : Heap) (locs : List Loc) (ls : Array Slot), lv_has ls 4 [(0, .ref a0), (1, .long wn1), (3, .int xn3)] → kp_H D cy A Sn s.heap H locs → kp_le S Sn → kp_is Sn a0 9 → wX9_takeWord_L105 a0  post n105 wn1 xn3 Sn → W p l e { frames := 1, cells := 0, slots := 0, locals := 21 } s m ([.ref a0] : List Value).toArray below meth c H locs 0 0 (MQ below (kp_Qv D cy A S post) ([.ref a0] : List Value).toArray s 0 0 A) (F0 m 105 ls []) := by
    intro n105
    induction n105 with
    | zero => intro wn1 xn3 Sn H locs ls hl h hle f_a0 hw; exact hw.elim
    | succ n105 ih105 =>
      intro wn1 xn3 Sn H locs ls hl h hle f_a0 hw
      unfold wX9_takeWord_L105 at hw
      refine lv_iload_n X.1 X.2.1 dX9_takeWord_105 rfl (lv_at hl 2 rfl) ?_
      refine lv_aload_n X.1 X.2.1 dX9_takeWord_106 rfl (lv_at hl 0 rfl) ?_
      obtain ⟨b1001, e_b1001, hw⟩ := hw
      have f_b1001 := h.2.2.2.rf (c := 9) (k := 1) f_a0 (by decide) (by decide) e_b1001 (t := 15) rfl
      refine kp_get X h f_a0 ff_9_15.l (v := .ref b1001) (congrArg va_rf e_b1001) dX9_takeWord_107 ?_
      refine kp_alen X h f_b1001 (by decide) dX9_takeWord_110 ?_
      refine lv_icmp_ge (tgt := 141) X.1 X.2.1 dX9_takeWord_111 (by decide) (fun c1005 => ?_) (fun c1005 => ?_)
      · have hw := hw.1 c1005
        exact kp_retv X hr hlocks h hle hw dX9_takeWord_141
      · have hw := hw.2 c1005
        refine lv_aload_n X.1 X.2.1 dX9_takeWord_114 rfl (lv_at hl 0 rfl) ?_
        refine kp_get X h f_a0 ff_9_15.l (v := .ref b1001) (congrArg va_rf e_b1001) dX9_takeWord_115 ?_
        refine lv_iload_n X.1 X.2.1 dX9_takeWord_118 rfl (lv_at hl 2 rfl) ?_
        obtain ⟨hi, hw⟩ := hw
        refine kp_lald X h f_b1001 hi dX9_takeWord_119 ?_
        refine lv_lload_n X.1 X.2.1 dX9_takeWord_120 rfl (lv_at hl 1 rfl) ?_
        refine W.lcmp X.1 X.2.1 dX9_takeWord_121 ?_
        refine lv_if_ne (tgt := 135) X.1 X.2.1 dX9_takeWord_122 (by decide) (fun c1004 => ?_) (fun c1004 => ?_)
        · have hw := hw.1 c1004
          obtain ⟨y1002, e_y1002⟩ : ∃ y : Int32, y = xn3 + 1 := ⟨_, rfl⟩
          have hw := hw y1002 e_y1002
          refine lv_iinc (v := y1002) (lv' := [(3, .int y1002), (0, .ref a0), (1, .long wn1)]) X.1 X.2.1 dX9_takeWord_135 hl (k := 2) rfl (by rw [e_y1002]; rfl) (by decide) rfl (fun ls hl => ?_)
          refine lv_goto (tgt := 105) X.1 X.2.1 dX9_takeWord_138 (by decide) ?_
          exact ih105 wn1 y1002 Sn H locs ls (lv_sub hl [1, 2, 0] rfl) h hle f_a0 hw
        · have hw := hw.2 c1004
          refine lv_aload_n X.1 X.2.1 dX9_takeWord_125 rfl (lv_at hl 0 rfl) ?_
          refine lv_sipush (v := 300) X.1 X.2.1 dX9_takeWord_126 (by decide) ?_
          refine lv_iload_n X.1 X.2.1 dX9_takeWord_129 rfl (lv_at hl 2 rfl) ?_
          refine lv_iadd X.1 X.2.1 dX9_takeWord_130 ?_
          refine kp_putI X h f_a0 fp_9_53 rfl ⟨rfl, rfl⟩ dX9_takeWord_131 (fun T1003 e_T1003 l_T1003 H locs h => ?_)
          have hw := hw T1003 e_T1003
          have f_a0 := l_T1003.is f_a0
          have f_b1001 := l_T1003.is f_b1001
          have hle := hle.tr l_T1003
          have e_b1001 : kp_R T1003 1801 a0 = some b1001 := by rw [e_T1003]; exact e_b1001
          exact kp_retv X hr hlocks h hle hw dX9_takeWord_134
  have j69 : ∀ (wn1 : Int64) (Sn : kp_S) (H : Heap) (locs : List Loc) (ls : Array Slot), lv_has ls 4 [(0, .ref a0), (1, .long wn1)] → kp_H D cy A Sn s.heap H locs → kp_le S Sn → kp_is Sn a0 9 → wX9_takeWord_b69 a0 wn1  Sn post → W p l e { frames := 1, cells := 0, slots := 0, locals := 21 } s m ([.ref a0] : List Value).toArray below meth c H locs 0 0 (MQ below (kp_Qv D cy A S post) ([.ref a0] : List Value).toArray s 0 0 A) (F0 m 69 ls []) := by
    intro wn1 Sn H locs ls hl h hle f_a0 hw
    unfold wX9_takeWord_b69 at hw
    refine lv_aload_n X.1 X.2.1 dX9_takeWord_69 rfl (lv_at hl 0 rfl) ?_
    refine kp_get X h f_a0 fp_9_41.l (v := .int (kp_I Sn 1803 a0)) rfl dX9_takeWord_70 ?_
    refine lv_aload_n X.1 X.2.1 dX9_takeWord_73 rfl (lv_at hl 0 rfl) ?_
    refine kp_get X h f_a0 fp_9_62.l (v := .int (kp_I Sn 1806 a0)) rfl dX9_takeWord_74 ?_
    refine lv_isub X.1 X.2.1 dX9_takeWord_77 ?_
    refine lv_bipush (v := 8) X.1 X.2.1 dX9_takeWord_78 (by decide) ?_
    refine lv_icmp_le (tgt := 91) X.1 X.2.1 dX9_takeWord_80 (by decide) (fun c2004 => ?_) (fun c2004 => ?_)
    · have hw := hw.1 c2004
      refine lv_aload_n X.1 X.2.1 dX9_takeWord_91 rfl (lv_at hl 0 rfl) ?_
      refine lv_lload_n X.1 X.2.1 dX9_takeWord_92 rfl (lv_at hl 1 rfl) ?_
      refine kp_putJ X h f_a0 fp_9_86 rfl ⟨rfl, rfl⟩ dX9_takeWord_93 (fun T2001 e_T2001 l_T2001 H locs h => ?_)
      have hw := hw T2001 e_T2001
      have f_a0 := l_T2001.is f_a0
      have hle := hle.tr l_T2001
      refine lv_aload_n X.1 X.2.1 dX9_takeWord_96 rfl (lv_at hl 0 rfl) ?_
      refine lv_sipush (v := 259) X.1 X.2.1 dX9_takeWord_97 (by decide) ?_
      refine kp_putI X h f_a0 fp_9_53 rfl ⟨rfl, rfl⟩ dX9_takeWord_100 (fun T2002 e_T2002 l_T2002 H locs h => ?_)
      have hw := hw T2002 e_T2002
      have f_a0 := l_T2002.is f_a0
      have hle := hle.tr l_T2002
      refine lv_iconst (v := 0) X.1 X.2.1 dX9_takeWord_103 (by decide) ?_
      refine lv_istore_n (lv' := [(3, .int 0), (0, .ref a0), (1, .long wn1)]) X.1 X.2.1 dX9_takeWord_104 rfl hl (by decide) rfl (fun ls hl => ?_)
      obtain ⟨n0, hw⟩ := hw
      exact L105 n0 wn1 0 T2002 H locs ls (lv_sub hl [1, 2, 0] rfl) h hle f_a0 hw
    · have hw := hw.2 c2004
      refine lv_aload_n X.1 X.2.1 dX9_takeWord_83 rfl (lv_at hl 0 rfl) ?_
      refine lv_sipush (v := 262) X.1 X.2.1 dX9_takeWord_84 (by decide) ?_
      refine kp_putI X h f_a0 fp_9_53 rfl ⟨rfl, rfl⟩ dX9_takeWord_87 (fun T2003 e_T2003 l_T2003 H locs h => ?_)
      have hw := hw T2003 e_T2003
      have f_a0 := l_T2003.is f_a0
      have hle := hle.tr l_T2003
      exact kp_retv X hr hlocks h hle hw dX9_takeWord_90
  have L2 : ∀ n2 : Nat, ∀ (wn1 : Int64) (Sn : kp_S) (H : Heap) (locs : List Loc) (ls : Array Slot), lv_has ls 4 [(0, .ref a0), (1, .long wn1)] → kp_H D cy A Sn s.heap H locs → kp_le S Sn → kp_is Sn a0 9 → wX9_takeWord_L2 a0  post n2 wn1 Sn → W p l e { frames := 1, cells := 0, slots := 0, locals := 21 } s m ([.ref a0] : List Value).toArray below meth c H locs 0 0 (MQ below (kp_Qv D cy A S post) ([.ref a0] : List Value).toArray s 0 0 A) (F0 m 2 ls []) := by
    intro n2
    induction n2 with
    | zero => intro wn1 Sn H locs ls hl h hle f_a0 hw; exact hw.elim
    | succ n2 ih2 =>
      have j41 : ∀ (wn1 : Int64) (Sn : kp_S) (H : Heap) (locs : List Loc) (ls : Array Slot), lv_has ls 4 [(0, .ref a0), (1, .long wn1)] → kp_H D cy A Sn s.heap H locs → kp_le S Sn → kp_is Sn a0 9 → wX9_takeWord_b41 a0 wn1 (fun wn1_ S_ => wX9_takeWord_L2 a0  post n2 wn1_ S_) Sn post → W p l e { frames := 1, cells := 0, slots := 0, locals := 21 } s m ([.ref a0] : List Value).toArray below meth c H locs 0 0 (MQ below (kp_Qv D cy A S post) ([.ref a0] : List Value).toArray s 0 0 A) (F0 m 41 ls []) := by
        intro wn1 Sn H locs ls hl h hle f_a0 hw
        unfold wX9_takeWord_b41 at hw
        refine lv_lload_n X.1 X.2.1 dX9_takeWord_41 rfl (lv_at hl 1 rfl) ?_
        refine lv_bipush (v := 8) X.1 X.2.1 dX9_takeWord_42 (by decide) ?_
        refine lv_lshl X.1 X.2.1 dX9_takeWord_44 rfl ?_
        refine lv_aload_n X.1 X.2.1 dX9_takeWord_45 rfl (lv_at hl 0 rfl) ?_
        refine lv_aload_n X.1 X.2.1 dX9_takeWord_46 rfl (lv_at hl 0 rfl) ?_
        refine kp_get X h f_a0 fp_9_41.l (v := .int (kp_I Sn 1803 a0)) rfl dX9_takeWord_47 ?_
        refine kp_calli X h (kp_runV (rm := { frames := 0, cells := 0, slots := 0, locals := 0 }) (mc := 0) (ms := 0) (rest := [.long ((wn1 : Int64) <<< ((8 : Int32).toInt64 &&& 63))]) (Qc := fun A => kp_Qi D cy A Sn _) X h (c_X9_byteAt l D cy ad Sn a0 (kp_I Sn 1803 a0) _ h.2.2.2 f_a0 hw) f_a0 cv_9_65 ⟨by decide, by decide, rfl, rfl, by decide, by decide⟩ rfl hl.1 rfl (Nat.le_of_ble_eq_true rfl) dX9_takeWord_50) (fun y3002 T3001 hw l_T3001 H locs h => ?_)
        have f_a0 := l_T3001.is f_a0
        have hle := hle.tr l_T3001
        refine lv_i2l X.1 X.2.1 dX9_takeWord_53 rfl ?_
        refine lv_lor X.1 X.2.1 dX9_takeWord_54 ?_
        refine lv_topl (fun z3003 e_z3003 => ?_)
        have hw := hw z3003 e_z3003
        refine lv_lstore_n (lv' := [(1, .long z3003), (0, .ref a0)]) X.1 X.2.1 dX9_takeWord_55 rfl hl (by decide) rfl (fun ls hl => ?_)
        refine lv_aload_n X.1 X.2.1 dX9_takeWord_56 rfl (lv_at hl 1 rfl) ?_
        refine lv_dup X.1 X.2.1 dX9_takeWord_57 rfl ?_
        refine kp_get X h f_a0 fp_9_41.l (v := .int (kp_I T3001 1803 a0)) rfl dX9_takeWord_58 ?_
        refine lv_iconst (v := 1) X.1 X.2.1 dX9_takeWord_61 (by decide) ?_
        refine lv_iadd X.1 X.2.1 dX9_takeWord_62 ?_
        refine kp_putI X h f_a0 fp_9_41 rfl ⟨rfl, rfl⟩ dX9_takeWord_63 (fun T3004 e_T3004 l_T3004 H locs h => ?_)
        have hw := hw T3004 e_T3004
        have f_a0 := l_T3004.is f_a0
        have hle := hle.tr l_T3004
        refine lv_goto (tgt := 2) X.1 X.2.1 dX9_takeWord_66 (by decide) ?_
        exact ih2 z3003 T3004 H locs ls (lv_sub hl [1, 0] rfl) h hle f_a0 hw
      intro wn1 Sn H locs ls hl h hle f_a0 hw
      unfold wX9_takeWord_L2 at hw
      refine lv_aload_n X.1 X.2.1 dX9_takeWord_2 rfl (lv_at hl 0 rfl) ?_
      refine kp_get X h f_a0 fp_9_41.l (v := .int (kp_I Sn 1803 a0)) rfl dX9_takeWord_3 ?_
      refine lv_aload_n X.1 X.2.1 dX9_takeWord_6 rfl (lv_at hl 0 rfl) ?_
      refine kp_get X h f_a0 fp_9_37.l (v := .int (kp_I Sn 1802 a0)) rfl dX9_takeWord_7 ?_
      refine lv_icmp_ge (tgt := 69) X.1 X.2.1 dX9_takeWord_10 (by decide) (fun c4011 => ?_) (fun c4011 => ?_)
      · have hw := hw.1 c4011
        exact j69 wn1 Sn H locs ls (lv_sub hl [0, 1] rfl) h hle f_a0 hw
      · have hw := hw.2 c4011
        refine lv_aload_n X.1 X.2.1 dX9_takeWord_13 rfl (lv_at hl 0 rfl) ?_
        refine lv_aload_n X.1 X.2.1 dX9_takeWord_14 rfl (lv_at hl 0 rfl) ?_
        refine kp_get X h f_a0 fp_9_41.l (v := .int (kp_I Sn 1803 a0)) rfl dX9_takeWord_15 ?_
        refine kp_calli X h (kp_runV (rm := { frames := 0, cells := 0, slots := 0, locals := 0 }) (mc := 0) (ms := 0) (rest := []) (Qc := fun A => kp_Qi D cy A Sn _) X h (c_X9_byteAt l D cy ad Sn a0 (kp_I Sn 1803 a0) _ h.2.2.2 f_a0 hw) f_a0 cv_9_65 ⟨by decide, by decide, rfl, rfl, by decide, by decide⟩ rfl hl.1 rfl (Nat.le_of_ble_eq_true rfl) dX9_takeWord_18) (fun y4002 T4001 hw l_T4001 H locs h => ?_)
        have f_a0 := l_T4001.is f_a0
        have hle := hle.tr l_T4001
        refine kp_calli X h (kp_runS (rm := { frames := 0, cells := 0, slots := 0, locals := 0 }) (mc := 0) (ms := 0) (rest := []) (Qc := fun A => kp_Qi D cy A T4001 _) X h (c_X9_isLetter l D cy ad T4001 y4002 _ h.2.2.2  hw) cs_9_69 ⟨by decide, by decide, rfl, rfl, by decide, by decide⟩ rfl hl.1 rfl (Nat.le_of_ble_eq_true rfl) dX9_takeWord_21) (fun y4004 T4003 hw l_T4003 H locs h => ?_)
        have f_a0 := l_T4003.is f_a0
        have hle := hle.tr l_T4003
        refine lv_if_ne (tgt := 41) X.1 X.2.1 dX9_takeWord_24 (by decide) (fun c4010 => ?_) (fun c4010 => ?_)
        · have hw := hw.1 c4010
          exact j41 wn1 T4003 H locs ls (lv_sub hl [0, 1] rfl) h hle f_a0 hw
        · have hw := hw.2 c4010
          refine lv_aload_n X.1 X.2.1 dX9_takeWord_27 rfl (lv_at hl 0 rfl) ?_
          refine lv_aload_n X.1 X.2.1 dX9_takeWord_28 rfl (lv_at hl 0 rfl) ?_
          refine kp_get X h f_a0 fp_9_41.l (v := .int (kp_I T4003 1803 a0)) rfl dX9_takeWord_29 ?_
          refine kp_calli X h (kp_runV (rm := { frames := 0, cells := 0, slots := 0, locals := 0 }) (mc := 0) (ms := 0) (rest := []) (Qc := fun A => kp_Qi D cy A T4003 _) X h (c_X9_byteAt l D cy ad T4003 a0 (kp_I T4003 1803 a0) _ h.2.2.2 f_a0 hw) f_a0 cv_9_65 ⟨by decide, by decide, rfl, rfl, by decide, by decide⟩ rfl hl.1 rfl (Nat.le_of_ble_eq_true rfl) dX9_takeWord_32) (fun y4006 T4005 hw l_T4005 H locs h => ?_)
          have f_a0 := l_T4005.is f_a0
          have hle := hle.tr l_T4005
          refine kp_calli X h (kp_runS (rm := { frames := 0, cells := 0, slots := 0, locals := 0 }) (mc := 0) (ms := 0) (rest := []) (Qc := fun A => kp_Qi D cy A T4005 _) X h (c_X9_isDigit l D cy ad T4005 y4006 _ h.2.2.2  hw) cs_9_76 ⟨by decide, by decide, rfl, rfl, by decide, by decide⟩ rfl hl.1 rfl (Nat.le_of_ble_eq_true rfl) dX9_takeWord_35) (fun y4008 T4007 hw l_T4007 H locs h => ?_)
          have f_a0 := l_T4007.is f_a0
          have hle := hle.tr l_T4007
          refine lv_if_eq (tgt := 69) X.1 X.2.1 dX9_takeWord_38 (by decide) (fun c4009 => ?_) (fun c4009 => ?_)
          · have hw := hw.1 c4009
            exact j69 wn1 T4007 H locs ls (lv_sub hl [0, 1] rfl) h hle f_a0 hw
          · have hw := hw.2 c4009
            exact j41 wn1 T4007 H locs ls (lv_sub hl [0, 1] rfl) h hle f_a0 hw
  unfold wX9_takeWord at hw
  have h : kp_H D cy A S s.heap s.heap [] := h
  revert h
  intro h
  refine lv_lconst (v := 0) X.1 X.2.1 dX9_takeWord_0 (by decide) ?_
  refine lv_lstore_n (lv' := [(1, .long 0), (0, .ref a0)]) X.1 X.2.1 dX9_takeWord_1 rfl hl (by decide) rfl (fun ls hl => ?_)
  obtain ⟨n0, hw⟩ := hw
  exact L2 n0 0 S _ _ ls (lv_sub hl [1, 0] rfl) h hle f_a0 hw
theorem dX9_takeNumber_0 : decode cX9_takeNumber 0 = .ok (.aload_n 0, 1) := by decide +kernel
theorem dX9_takeNumber_1 : decode cX9_takeNumber 1 = .ok (.iconst 0, 1) := by decide +kernel
theorem dX9_takeNumber_2 : decode cX9_takeNumber 2 = .ok (.putfield 90, 3) := by decide +kernel
theorem dX9_takeNumber_5 : decode cX9_takeNumber 5 = .ok (.aload_n 0, 1) := by decide +kernel
theorem dX9_takeNumber_6 : decode cX9_takeNumber 6 = .ok (.getfield 41, 3) := by decide +kernel
theorem dX9_takeNumber_9 : decode cX9_takeNumber 9 = .ok (.aload_n 0, 1) := by decide +kernel
theorem dX9_takeNumber_10 : decode cX9_takeNumber 10 = .ok (.getfield 37, 3) := by decide +kernel
theorem dX9_takeNumber_13 : decode cX9_takeNumber 13 = .ok (.if_icmp .ge 53, 3) := by decide +kernel
theorem dX9_takeNumber_16 : decode cX9_takeNumber 16 = .ok (.aload_n 0, 1) := by decide +kernel
theorem dX9_takeNumber_17 : decode cX9_takeNumber 17 = .ok (.aload_n 0, 1) := by decide +kernel
theorem dX9_takeNumber_18 : decode cX9_takeNumber 18 = .ok (.getfield 41, 3) := by decide +kernel
theorem dX9_takeNumber_21 : decode cX9_takeNumber 21 = .ok (.invokevirtual 65, 3) := by decide +kernel
theorem dX9_takeNumber_24 : decode cX9_takeNumber 24 = .ok (.invokestatic 76, 3) := by decide +kernel
theorem dX9_takeNumber_27 : decode cX9_takeNumber 27 = .ok (.ifCond .eq 39, 3) := by decide +kernel
theorem dX9_takeNumber_30 : decode cX9_takeNumber 30 = .ok (.aload_n 0, 1) := by decide +kernel
theorem dX9_takeNumber_31 : decode cX9_takeNumber 31 = .ok (.aload_n 0, 1) := by decide +kernel
theorem dX9_takeNumber_32 : decode cX9_takeNumber 32 = .ok (.getfield 90, 3) := by decide +kernel
theorem dX9_takeNumber_35 : decode cX9_takeNumber 35 = .ok (.bipush 10, 2) := by decide +kernel
theorem dX9_takeNumber_37 : decode cX9_takeNumber 37 = .ok (.imul, 1) := by decide +kernel
theorem dX9_takeNumber_38 : decode cX9_takeNumber 38 = .ok (.aload_n 0, 1) := by decide +kernel
theorem dX9_takeNumber_39 : decode cX9_takeNumber 39 = .ok (.aload_n 0, 1) := by decide +kernel
theorem dX9_takeNumber_40 : decode cX9_takeNumber 40 = .ok (.getfield 41, 3) := by decide +kernel
theorem dX9_takeNumber_43 : decode cX9_takeNumber 43 = .ok (.invokevirtual 65, 3) := by decide +kernel
theorem dX9_takeNumber_46 : decode cX9_takeNumber 46 = .ok (.iadd, 1) := by decide +kernel
theorem dX9_takeNumber_47 : decode cX9_takeNumber 47 = .ok (.bipush 48, 2) := by decide +kernel
theorem dX9_takeNumber_49 : decode cX9_takeNumber 49 = .ok (.isub, 1) := by decide +kernel
theorem dX9_takeNumber_50 : decode cX9_takeNumber 50 = .ok (.putfield 90, 3) := by decide +kernel
theorem dX9_takeNumber_53 : decode cX9_takeNumber 53 = .ok (.aload_n 0, 1) := by decide +kernel
theorem dX9_takeNumber_54 : decode cX9_takeNumber 54 = .ok (.dup, 1) := by decide +kernel
theorem dX9_takeNumber_55 : decode cX9_takeNumber 55 = .ok (.getfield 41, 3) := by decide +kernel
theorem dX9_takeNumber_58 : decode cX9_takeNumber 58 = .ok (.iconst 1, 1) := by decide +kernel
theorem dX9_takeNumber_59 : decode cX9_takeNumber 59 = .ok (.iadd, 1) := by decide +kernel
theorem dX9_takeNumber_60 : decode cX9_takeNumber 60 = .ok (.putfield 41, 3) := by decide +kernel
theorem dX9_takeNumber_63 : decode cX9_takeNumber 63 = .ok (.goto (-58), 3) := by decide +kernel
theorem dX9_takeNumber_66 : decode cX9_takeNumber 66 = .ok (.aload_n 0, 1) := by decide +kernel
theorem dX9_takeNumber_67 : decode cX9_takeNumber 67 = .ok (.aload_n 0, 1) := by decide +kernel
theorem dX9_takeNumber_68 : decode cX9_takeNumber 68 = .ok (.getfield 41, 3) := by decide +kernel
theorem dX9_takeNumber_71 : decode cX9_takeNumber 71 = .ok (.aload_n 0, 1) := by decide +kernel
theorem dX9_takeNumber_72 : decode cX9_takeNumber 72 = .ok (.getfield 62, 3) := by decide +kernel
theorem dX9_takeNumber_75 : decode cX9_takeNumber 75 = .ok (.isub, 1) := by decide +kernel
theorem dX9_takeNumber_76 : decode cX9_takeNumber 76 = .ok (.bipush 9, 2) := by decide +kernel
theorem dX9_takeNumber_78 : decode cX9_takeNumber 78 = .ok (.if_icmp .le 9, 3) := by decide +kernel
theorem dX9_takeNumber_81 : decode cX9_takeNumber 81 = .ok (.sipush 262, 3) := by decide +kernel
theorem dX9_takeNumber_84 : decode cX9_takeNumber 84 = .ok (.goto 6, 3) := by decide +kernel
theorem dX9_takeNumber_87 : decode cX9_takeNumber 87 = .ok (.sipush 260, 3) := by decide +kernel
theorem dX9_takeNumber_90 : decode cX9_takeNumber 90 = .ok (.putfield 53, 3) := by decide +kernel
theorem dX9_takeNumber_93 : decode cX9_takeNumber 93 = .ok (.return_, 1) := by decide +kernel
def wX9_takeNumber_b90 (a0 : Nat) (xt0 : Int32) (at1 : Nat)  (Sn : kp_S) (post : kp_S → Prop) : Prop :=
  ∀ T1001 : kp_S, T1001 = kp_sI Sn 1805 at1 xt0 →
  post T1001
def wX9_takeNumber_b66 (a0 : Nat)  (Sn : kp_S) (post : kp_S → Prop) : Prop :=
  ((((kp_I Sn 1803 a0) - (kp_I Sn 1806 a0)) ≤ 9 →
  wX9_takeNumber_b90 a0 260 a0  Sn post) ∧ (¬ ((kp_I Sn 1803 a0) - (kp_I Sn 1806 a0)) ≤ 9 →
  wX9_takeNumber_b90 a0 262 a0  Sn post))
def wX9_takeNumber_L5 (a0 : Nat)  (post : kp_S → Prop) : Nat → kp_S → Prop
  | 0, _ => False
  | n + 1, Sn =>
  (((kp_I Sn 1802 a0) ≤ (kp_I Sn 1803 a0) →
  wX9_takeNumber_b66 a0   Sn post) ∧ (¬ (kp_I Sn 1802 a0) ≤ (kp_I Sn 1803 a0) →
  wX9_byteAt a0 (kp_I Sn 1803 a0) Sn (fun y3002 T3001 =>
  wX9_isDigit y3002 T3001 (fun y3004 T3003 =>
  ((y3004 = 0 →
  wX9_takeNumber_b66 a0   T3003 post) ∧ (¬ y3004 = 0 →
  wX9_byteAt a0 (kp_I T3003 1803 a0) T3003 (fun y3006 T3005 =>
  ∀ T3007 : kp_S, T3007 = kp_sI T3005 1807 a0 ((((kp_I T3003 1807 a0) * 10) + y3006) - 48) →
  ∀ T3008 : kp_S, T3008 = kp_sI T3007 1803 a0 ((kp_I T3007 1803 a0) + 1) →
  wX9_takeNumber_L5 a0  post n  T3008)))))))
def wX9_takeNumber (a0 : Nat) (S : kp_S) (post : kp_S → Prop) : Prop :=
  ∀ T1 : kp_S, T1 = kp_sI S 1807 a0 0 →
  ∃ n0 : Nat, wX9_takeNumber_L5 a0  post n0  T1
set_option maxHeartbeats 4000000 in
set_option maxRecDepth 100000 in
theorem c_X9_takeNumber (l : Launch) (D : va_G) (cy : Nat → ClassId) (ad : (Nat → Nat) × (Nat → Nat)) (S : kp_S) (a0 : Nat) (post : kp_S → Prop) (hS : kp_ok S) (f_a0 : kp_is S a0 9) (hw : wX9_takeNumber a0 S post) : kp_M l yX9_takeNumber cX9_takeNumber 1 none { frames := 1, cells := 0, slots := 0, locals := 21 } D cy ad S [.ref a0] 0 0 (fun A => kp_Qv D cy A S post) := by
  refine kp_start (own := RX9) (by decide) rfl (Nat.le_of_ble_eq_true rfl) hS ?_
  intro p e s m below meth c A ls X hr hlocks hname h hl
  have hle : kp_le S S := kp_le.rf
  have hl : lv_has ls 1 [(0, .ref a0)] := hl
  have j90 : ∀ (xt0 : Int32) (at1 : Nat) (Sn : kp_S) (H : Heap) (locs : List Loc) (ls : Array Slot), lv_has ls 1 [] → kp_H D cy A Sn s.heap H locs → kp_le S Sn → kp_is Sn at1 9 → kp_is Sn a0 9 → wX9_takeNumber_b90 a0 xt0 at1  Sn post → W p l e { frames := 1, cells := 0, slots := 0, locals := 21 } s m ([.ref a0] : List Value).toArray below meth c H locs 0 0 (MQ below (kp_Qv D cy A S post) ([.ref a0] : List Value).toArray s 0 0 A) (F0 m 90 ls [.int xt0, .ref at1]) := by
    intro xt0 at1 Sn H locs ls hl h hle f_at1 f_a0 hw
    unfold wX9_takeNumber_b90 at hw
    refine kp_putI X h f_at1 fp_9_53 rfl ⟨rfl, rfl⟩ dX9_takeNumber_90 (fun T1001 e_T1001 l_T1001 H locs h => ?_)
    have hw := hw T1001 e_T1001
    have f_at1 := l_T1001.is f_at1
    have f_a0 := l_T1001.is f_a0
    have hle := hle.tr l_T1001
    exact kp_retv X hr hlocks h hle hw dX9_takeNumber_93
  have j66 : ∀  (Sn : kp_S) (H : Heap) (locs : List Loc) (ls : Array Slot), lv_has ls 1 [(0, .ref a0)] → kp_H D cy A Sn s.heap H locs → kp_le S Sn → kp_is Sn a0 9 → wX9_takeNumber_b66 a0   Sn post → W p l e { frames := 1, cells := 0, slots := 0, locals := 21 } s m ([.ref a0] : List Value).toArray below meth c H locs 0 0 (MQ below (kp_Qv D cy A S post) ([.ref a0] : List Value).toArray s 0 0 A) (F0 m 66 ls []) := by
    intro  Sn H locs ls hl h hle f_a0 hw
    unfold wX9_takeNumber_b66 at hw
    refine lv_aload_n X.1 X.2.1 dX9_takeNumber_66 rfl (lv_at hl 0 rfl) ?_
    refine lv_aload_n X.1 X.2.1 dX9_takeNumber_67 rfl (lv_at hl 0 rfl) ?_
    refine kp_get X h f_a0 fp_9_41.l (v := .int (kp_I Sn 1803 a0)) rfl dX9_takeNumber_68 ?_
    refine lv_aload_n X.1 X.2.1 dX9_takeNumber_71 rfl (lv_at hl 0 rfl) ?_
    refine kp_get X h f_a0 fp_9_62.l (v := .int (kp_I Sn 1806 a0)) rfl dX9_takeNumber_72 ?_
    refine lv_isub X.1 X.2.1 dX9_takeNumber_75 ?_
    refine lv_bipush (v := 9) X.1 X.2.1 dX9_takeNumber_76 (by decide) ?_
    refine lv_icmp_le (tgt := 87) X.1 X.2.1 dX9_takeNumber_78 (by decide) (fun c2001 => ?_) (fun c2001 => ?_)
    · have hw := hw.1 c2001
      refine lv_sipush (v := 260) X.1 X.2.1 dX9_takeNumber_87 (by decide) ?_
      exact j90 260 a0 Sn H locs ls (lv_sub hl [] rfl) h hle f_a0 f_a0 hw
    · have hw := hw.2 c2001
      refine lv_sipush (v := 262) X.1 X.2.1 dX9_takeNumber_81 (by decide) ?_
      refine lv_goto (tgt := 90) X.1 X.2.1 dX9_takeNumber_84 (by decide) ?_
      exact j90 262 a0 Sn H locs ls (lv_sub hl [] rfl) h hle f_a0 f_a0 hw
  have L5 : ∀ n5 : Nat, ∀  (Sn : kp_S) (H : Heap) (locs : List Loc) (ls : Array Slot), lv_has ls 1 [(0, .ref a0)] → kp_H D cy A Sn s.heap H locs → kp_le S Sn → kp_is Sn a0 9 → wX9_takeNumber_L5 a0  post n5  Sn → W p l e { frames := 1, cells := 0, slots := 0, locals := 21 } s m ([.ref a0] : List Value).toArray below meth c H locs 0 0 (MQ below (kp_Qv D cy A S post) ([.ref a0] : List Value).toArray s 0 0 A) (F0 m 5 ls []) := by
    intro n5
    induction n5 with
    | zero => intro  Sn H locs ls hl h hle f_a0 hw; exact hw.elim
    | succ n5 ih5 =>
      intro  Sn H locs ls hl h hle f_a0 hw
      unfold wX9_takeNumber_L5 at hw
      refine lv_aload_n X.1 X.2.1 dX9_takeNumber_5 rfl (lv_at hl 0 rfl) ?_
      refine kp_get X h f_a0 fp_9_41.l (v := .int (kp_I Sn 1803 a0)) rfl dX9_takeNumber_6 ?_
      refine lv_aload_n X.1 X.2.1 dX9_takeNumber_9 rfl (lv_at hl 0 rfl) ?_
      refine kp_get X h f_a0 fp_9_37.l (v := .int (kp_I Sn 1802 a0)) rfl dX9_takeNumber_10 ?_
      refine lv_icmp_ge (tgt := 66) X.1 X.2.1 dX9_takeNumber_13 (by decide) (fun c3010 => ?_) (fun c3010 => ?_)
      · have hw := hw.1 c3010
        exact j66  Sn H locs ls (lv_sub hl [0] rfl) h hle f_a0 hw
      · have hw := hw.2 c3010
        refine lv_aload_n X.1 X.2.1 dX9_takeNumber_16 rfl (lv_at hl 0 rfl) ?_
        refine lv_aload_n X.1 X.2.1 dX9_takeNumber_17 rfl (lv_at hl 0 rfl) ?_
        refine kp_get X h f_a0 fp_9_41.l (v := .int (kp_I Sn 1803 a0)) rfl dX9_takeNumber_18 ?_
        refine kp_calli X h (kp_runV (rm := { frames := 0, cells := 0, slots := 0, locals := 0 }) (mc := 0) (ms := 0) (rest := []) (Qc := fun A => kp_Qi D cy A Sn _) X h (c_X9_byteAt l D cy ad Sn a0 (kp_I Sn 1803 a0) _ h.2.2.2 f_a0 hw) f_a0 cv_9_65 ⟨by decide, by decide, rfl, rfl, by decide, by decide⟩ rfl hl.1 rfl (Nat.le_of_ble_eq_true rfl) dX9_takeNumber_21) (fun y3002 T3001 hw l_T3001 H locs h => ?_)
        have f_a0 := l_T3001.is f_a0
        have hle := hle.tr l_T3001
        refine kp_calli X h (kp_runS (rm := { frames := 0, cells := 0, slots := 0, locals := 0 }) (mc := 0) (ms := 0) (rest := []) (Qc := fun A => kp_Qi D cy A T3001 _) X h (c_X9_isDigit l D cy ad T3001 y3002 _ h.2.2.2  hw) cs_9_76 ⟨by decide, by decide, rfl, rfl, by decide, by decide⟩ rfl hl.1 rfl (Nat.le_of_ble_eq_true rfl) dX9_takeNumber_24) (fun y3004 T3003 hw l_T3003 H locs h => ?_)
        have f_a0 := l_T3003.is f_a0
        have hle := hle.tr l_T3003
        refine lv_if_eq (tgt := 66) X.1 X.2.1 dX9_takeNumber_27 (by decide) (fun c3009 => ?_) (fun c3009 => ?_)
        · have hw := hw.1 c3009
          exact j66  T3003 H locs ls (lv_sub hl [0] rfl) h hle f_a0 hw
        · have hw := hw.2 c3009
          refine lv_aload_n X.1 X.2.1 dX9_takeNumber_30 rfl (lv_at hl 0 rfl) ?_
          refine lv_aload_n X.1 X.2.1 dX9_takeNumber_31 rfl (lv_at hl 0 rfl) ?_
          refine kp_get X h f_a0 fp_9_90.l (v := .int (kp_I T3003 1807 a0)) rfl dX9_takeNumber_32 ?_
          refine lv_bipush (v := 10) X.1 X.2.1 dX9_takeNumber_35 (by decide) ?_
          refine lv_imul X.1 X.2.1 dX9_takeNumber_37 ?_
          refine lv_aload_n X.1 X.2.1 dX9_takeNumber_38 rfl (lv_at hl 0 rfl) ?_
          refine lv_aload_n X.1 X.2.1 dX9_takeNumber_39 rfl (lv_at hl 0 rfl) ?_
          refine kp_get X h f_a0 fp_9_41.l (v := .int (kp_I T3003 1803 a0)) rfl dX9_takeNumber_40 ?_
          refine kp_calli X h (kp_runV (rm := { frames := 0, cells := 0, slots := 0, locals := 0 }) (mc := 0) (ms := 0) (rest := [.int ((kp_I T3003 1807 a0) * 10), .ref a0]) (Qc := fun A => kp_Qi D cy A T3003 _) X h (c_X9_byteAt l D cy ad T3003 a0 (kp_I T3003 1803 a0) _ h.2.2.2 f_a0 hw) f_a0 cv_9_65 ⟨by decide, by decide, rfl, rfl, by decide, by decide⟩ rfl hl.1 rfl (Nat.le_of_ble_eq_true rfl) dX9_takeNumber_43) (fun y3006 T3005 hw l_T3005 H locs h => ?_)
          have f_a0 := l_T3005.is f_a0
          have hle := hle.tr l_T3005
          refine lv_iadd X.1 X.2.1 dX9_takeNumber_46 ?_
          refine lv_bipush (v := 48) X.1 X.2.1 dX9_takeNumber_47 (by decide) ?_
          refine lv_isub X.1 X.2.1 dX9_takeNumber_49 ?_
          refine kp_putI X h f_a0 fp_9_90 rfl ⟨rfl, rfl⟩ dX9_takeNumber_50 (fun T3007 e_T3007 l_T3007 H locs h => ?_)
          have hw := hw T3007 e_T3007
          have f_a0 := l_T3007.is f_a0
          have hle := hle.tr l_T3007
          refine lv_aload_n X.1 X.2.1 dX9_takeNumber_53 rfl (lv_at hl 0 rfl) ?_
          refine lv_dup X.1 X.2.1 dX9_takeNumber_54 rfl ?_
          refine kp_get X h f_a0 fp_9_41.l (v := .int (kp_I T3007 1803 a0)) rfl dX9_takeNumber_55 ?_
          refine lv_iconst (v := 1) X.1 X.2.1 dX9_takeNumber_58 (by decide) ?_
          refine lv_iadd X.1 X.2.1 dX9_takeNumber_59 ?_
          refine kp_putI X h f_a0 fp_9_41 rfl ⟨rfl, rfl⟩ dX9_takeNumber_60 (fun T3008 e_T3008 l_T3008 H locs h => ?_)
          have hw := hw T3008 e_T3008
          have f_a0 := l_T3008.is f_a0
          have hle := hle.tr l_T3008
          refine lv_goto (tgt := 5) X.1 X.2.1 dX9_takeNumber_63 (by decide) ?_
          exact ih5  T3008 H locs ls (lv_sub hl [0] rfl) h hle f_a0 hw
  unfold wX9_takeNumber at hw
  have h : kp_H D cy A S s.heap s.heap [] := h
  revert h
  intro h
  refine lv_aload_n X.1 X.2.1 dX9_takeNumber_0 rfl (lv_at hl 0 rfl) ?_
  refine lv_iconst (v := 0) X.1 X.2.1 dX9_takeNumber_1 (by decide) ?_
  refine kp_putI X h f_a0 fp_9_90 rfl ⟨rfl, rfl⟩ dX9_takeNumber_2 (fun T1 e_T1 l_T1 H locs h => ?_)
  have hw := hw T1 e_T1
  have f_a0 := l_T1.is f_a0
  have hle := hle.tr l_T1
  obtain ⟨n0, hw⟩ := hw
  exact L5 n0  T1 _ _ ls (lv_sub hl [0] rfl) h hle f_a0 hw
theorem dX9_takeSign_0 : decode cX9_takeSign 0 = .ok (.aload_n 0, 1) := by decide +kernel
theorem dX9_takeSign_1 : decode cX9_takeSign 1 = .ok (.dup, 1) := by decide +kernel
theorem dX9_takeSign_2 : decode cX9_takeSign 2 = .ok (.getfield 41, 3) := by decide +kernel
theorem dX9_takeSign_5 : decode cX9_takeSign 5 = .ok (.iconst 1, 1) := by decide +kernel
theorem dX9_takeSign_6 : decode cX9_takeSign 6 = .ok (.iadd, 1) := by decide +kernel
theorem dX9_takeSign_7 : decode cX9_takeSign 7 = .ok (.putfield 41, 3) := by decide +kernel
theorem dX9_takeSign_10 : decode cX9_takeSign 10 = .ok (.aload_n 0, 1) := by decide +kernel
theorem dX9_takeSign_11 : decode cX9_takeSign 11 = .ok (.aload_n 0, 1) := by decide +kernel
theorem dX9_takeSign_12 : decode cX9_takeSign 12 = .ok (.getfield 41, 3) := by decide +kernel
theorem dX9_takeSign_15 : decode cX9_takeSign 15 = .ok (.invokevirtual 65, 3) := by decide +kernel
theorem dX9_takeSign_18 : decode cX9_takeSign 18 = .ok (.bipush 61, 2) := by decide +kernel
theorem dX9_takeSign_20 : decode cX9_takeSign 20 = .ok (.if_icmp .ne 7, 3) := by decide +kernel
theorem dX9_takeSign_23 : decode cX9_takeSign 23 = .ok (.iconst 1, 1) := by decide +kernel
theorem dX9_takeSign_24 : decode cX9_takeSign 24 = .ok (.goto 4, 3) := by decide +kernel
theorem dX9_takeSign_27 : decode cX9_takeSign 27 = .ok (.iconst 0, 1) := by decide +kernel
theorem dX9_takeSign_28 : decode cX9_takeSign 28 = .ok (.istore_n 2, 1) := by decide +kernel
theorem dX9_takeSign_29 : decode cX9_takeSign 29 = .ok (.iload_n 2, 1) := by decide +kernel
theorem dX9_takeSign_30 : decode cX9_takeSign 30 = .ok (.ifCond .eq 65, 3) := by decide +kernel
theorem dX9_takeSign_33 : decode cX9_takeSign 33 = .ok (.iload_n 1, 1) := by decide +kernel
theorem dX9_takeSign_34 : decode cX9_takeSign 34 = .ok (.bipush 61, 2) := by decide +kernel
theorem dX9_takeSign_36 : decode cX9_takeSign 36 = .ok (.if_icmp .eq 15, 3) := by decide +kernel
theorem dX9_takeSign_39 : decode cX9_takeSign 39 = .ok (.iload_n 1, 1) := by decide +kernel
theorem dX9_takeSign_40 : decode cX9_takeSign 40 = .ok (.bipush 33, 2) := by decide +kernel
theorem dX9_takeSign_42 : decode cX9_takeSign 42 = .ok (.if_icmp .eq 9, 3) := by decide +kernel
theorem dX9_takeSign_45 : decode cX9_takeSign 45 = .ok (.iload_n 1, 1) := by decide +kernel
theorem dX9_takeSign_46 : decode cX9_takeSign 46 = .ok (.bipush 60, 2) := by decide +kernel
theorem dX9_takeSign_48 : decode cX9_takeSign 48 = .ok (.if_icmp .ne 47, 3) := by decide +kernel
theorem dX9_takeSign_51 : decode cX9_takeSign 51 = .ok (.aload_n 0, 1) := by decide +kernel
theorem dX9_takeSign_52 : decode cX9_takeSign 52 = .ok (.dup, 1) := by decide +kernel
theorem dX9_takeSign_53 : decode cX9_takeSign 53 = .ok (.getfield 41, 3) := by decide +kernel
theorem dX9_takeSign_56 : decode cX9_takeSign 56 = .ok (.iconst 1, 1) := by decide +kernel
theorem dX9_takeSign_57 : decode cX9_takeSign 57 = .ok (.iadd, 1) := by decide +kernel
theorem dX9_takeSign_58 : decode cX9_takeSign 58 = .ok (.putfield 41, 3) := by decide +kernel
theorem dX9_takeSign_61 : decode cX9_takeSign 61 = .ok (.aload_n 0, 1) := by decide +kernel
theorem dX9_takeSign_62 : decode cX9_takeSign 62 = .ok (.iload_n 1, 1) := by decide +kernel
theorem dX9_takeSign_63 : decode cX9_takeSign 63 = .ok (.bipush 61, 2) := by decide +kernel
theorem dX9_takeSign_65 : decode cX9_takeSign 65 = .ok (.if_icmp .ne 9, 3) := by decide +kernel
theorem dX9_takeSign_68 : decode cX9_takeSign 68 = .ok (.sipush 256, 3) := by decide +kernel
theorem dX9_takeSign_71 : decode cX9_takeSign 71 = .ok (.goto 18, 3) := by decide +kernel
theorem dX9_takeSign_74 : decode cX9_takeSign 74 = .ok (.iload_n 1, 1) := by decide +kernel
theorem dX9_takeSign_75 : decode cX9_takeSign 75 = .ok (.bipush 33, 2) := by decide +kernel
theorem dX9_takeSign_77 : decode cX9_takeSign 77 = .ok (.if_icmp .ne 9, 3) := by decide +kernel
theorem dX9_takeSign_80 : decode cX9_takeSign 80 = .ok (.sipush 257, 3) := by decide +kernel
theorem dX9_takeSign_83 : decode cX9_takeSign 83 = .ok (.goto 6, 3) := by decide +kernel
theorem dX9_takeSign_86 : decode cX9_takeSign 86 = .ok (.sipush 258, 3) := by decide +kernel
theorem dX9_takeSign_89 : decode cX9_takeSign 89 = .ok (.putfield 53, 3) := by decide +kernel
theorem dX9_takeSign_92 : decode cX9_takeSign 92 = .ok (.goto 24, 3) := by decide +kernel
theorem dX9_takeSign_95 : decode cX9_takeSign 95 = .ok (.aload_n 0, 1) := by decide +kernel
theorem dX9_takeSign_96 : decode cX9_takeSign 96 = .ok (.ldc 93, 2) := by decide +kernel
theorem dX9_takeSign_98 : decode cX9_takeSign 98 = .ok (.iload_n 1, 1) := by decide +kernel
theorem dX9_takeSign_99 : decode cX9_takeSign 99 = .ok (.i2c, 1) := by decide +kernel
theorem dX9_takeSign_100 : decode cX9_takeSign 100 = .ok (.invokevirtual 95, 3) := by decide +kernel
theorem dX9_takeSign_103 : decode cX9_takeSign 103 = .ok (.ifCond .lt 7, 3) := by decide +kernel
theorem dX9_takeSign_106 : decode cX9_takeSign 106 = .ok (.iload_n 1, 1) := by decide +kernel
theorem dX9_takeSign_107 : decode cX9_takeSign 107 = .ok (.goto 6, 3) := by decide +kernel
theorem dX9_takeSign_110 : decode cX9_takeSign 110 = .ok (.sipush 262, 3) := by decide +kernel
theorem dX9_takeSign_113 : decode cX9_takeSign 113 = .ok (.putfield 53, 3) := by decide +kernel
theorem dX9_takeSign_116 : decode cX9_takeSign 116 = .ok (.return_, 1) := by decide +kernel
def wX9_takeSign_b116 (a0 : Nat) (x1 : Int32)  (Sn : kp_S) (post : kp_S → Prop) : Prop :=
  post Sn
def wX9_takeSign_b113 (a0 : Nat) (x1 : Int32) (xt0 : Int32) (at1 : Nat)  (Sn : kp_S) (post : kp_S → Prop) : Prop :=
  ∀ T2001 : kp_S, T2001 = kp_sI Sn 1805 at1 xt0 →
  wX9_takeSign_b116 a0 x1   T2001 post
def wX9_takeSign_b95 (a0 : Nat) (x1 : Int32)  (Sn : kp_S) (post : kp_S → Prop) : Prop :=
  wJ0_indexOf_0f7a4 1 (((x1 : Int32).toUInt32 % 65536).toInt32) Sn (fun y3002 T3001 =>
  ((y3002 < 0 →
  wX9_takeSign_b113 a0 x1 262 a0  T3001 post) ∧ (¬ y3002 < 0 →
  wX9_takeSign_b113 a0 x1 x1 a0  T3001 post)))
def wX9_takeSign_b89 (a0 : Nat) (x1 : Int32) (xt0 : Int32) (at1 : Nat)  (Sn : kp_S) (post : kp_S → Prop) : Prop :=
  ∀ T4001 : kp_S, T4001 = kp_sI Sn 1805 at1 xt0 →
  wX9_takeSign_b116 a0 x1   T4001 post
def wX9_takeSign_b51 (a0 : Nat) (x1 : Int32)  (Sn : kp_S) (post : kp_S → Prop) : Prop :=
  ∀ T5001 : kp_S, T5001 = kp_sI Sn 1803 a0 ((kp_I Sn 1803 a0) + 1) →
  ((¬ x1 = 61 →
  ((¬ x1 = 33 →
  wX9_takeSign_b89 a0 x1 258 a0  T5001 post) ∧ (x1 = 33 →
  wX9_takeSign_b89 a0 x1 257 a0  T5001 post))) ∧ (x1 = 61 →
  wX9_takeSign_b89 a0 x1 256 a0  T5001 post))
def wX9_takeSign_b28 (a0 : Nat) (x1 : Int32) (xt0 : Int32)  (Sn : kp_S) (post : kp_S → Prop) : Prop :=
  ((xt0 = 0 →
  wX9_takeSign_b95 a0 x1   Sn post) ∧ (¬ xt0 = 0 →
  ((x1 = 61 →
  wX9_takeSign_b51 a0 x1   Sn post) ∧ (¬ x1 = 61 →
  ((x1 = 33 →
  wX9_takeSign_b51 a0 x1   Sn post) ∧ (¬ x1 = 33 →
  ((¬ x1 = 60 →
  wX9_takeSign_b95 a0 x1   Sn post) ∧ (x1 = 60 →
  wX9_takeSign_b51 a0 x1   Sn post))))))))
def wX9_takeSign (a0 : Nat) (x1 : Int32) (S : kp_S) (post : kp_S → Prop) : Prop :=
  ∀ T1 : kp_S, T1 = kp_sI S 1803 a0 ((kp_I S 1803 a0) + 1) →
  wX9_byteAt a0 (kp_I T1 1803 a0) T1 (fun y3 T2 =>
  ((¬ y3 = 61 →
  wX9_takeSign_b28 a0 x1 0  T2 post) ∧ (y3 = 61 →
  wX9_takeSign_b28 a0 x1 1  T2 post)))
set_option maxHeartbeats 4000000 in
set_option maxRecDepth 100000 in
theorem c_X9_takeSign (l : Launch) (D : va_G) (cy : Nat → ClassId) (ad : (Nat → Nat) × (Nat → Nat)) (S : kp_S) (a0 : Nat) (x1 : Int32) (post : kp_S → Prop) (hS : kp_ok S) (f_a0 : kp_is S a0 9) (hw : wX9_takeSign a0 x1 S post) : kp_M l yX9_takeSign cX9_takeSign 3 none { frames := 4, cells := 0, slots := 0, locals := 91 } D cy ad S [.ref a0, .int x1] 0 0 (fun A => kp_Qv D cy A S post) := by
  refine kp_start (own := RX9) (by decide) rfl (Nat.le_of_ble_eq_true rfl) hS ?_
  intro p e s m below meth c A ls X hr hlocks hname h hl
  have hle : kp_le S S := kp_le.rf
  have hl : lv_has ls 3 [(0, .ref a0), (1, .int x1)] := hl
  have j116 : ∀  (Sn : kp_S) (H : Heap) (locs : List Loc) (ls : Array Slot), lv_has ls 3 [] → kp_H D cy A Sn s.heap H locs → kp_le S Sn → kp_is Sn a0 9 → wX9_takeSign_b116 a0 x1   Sn post → W p l e { frames := 4, cells := 0, slots := 0, locals := 91 } s m ([.ref a0, .int x1] : List Value).toArray below meth c H locs 0 0 (MQ below (kp_Qv D cy A S post) ([.ref a0, .int x1] : List Value).toArray s 0 0 A) (F0 m 116 ls []) := by
    intro  Sn H locs ls hl h hle f_a0 hw
    unfold wX9_takeSign_b116 at hw
    exact kp_retv X hr hlocks h hle hw dX9_takeSign_116
  have j113 : ∀ (xt0 : Int32) (at1 : Nat) (Sn : kp_S) (H : Heap) (locs : List Loc) (ls : Array Slot), lv_has ls 3 [] → kp_H D cy A Sn s.heap H locs → kp_le S Sn → kp_is Sn at1 9 → kp_is Sn a0 9 → wX9_takeSign_b113 a0 x1 xt0 at1  Sn post → W p l e { frames := 4, cells := 0, slots := 0, locals := 91 } s m ([.ref a0, .int x1] : List Value).toArray below meth c H locs 0 0 (MQ below (kp_Qv D cy A S post) ([.ref a0, .int x1] : List Value).toArray s 0 0 A) (F0 m 113 ls [.int xt0, .ref at1]) := by
    intro xt0 at1 Sn H locs ls hl h hle f_at1 f_a0 hw
    unfold wX9_takeSign_b113 at hw
    refine kp_putI X h f_at1 fp_9_53 rfl ⟨rfl, rfl⟩ dX9_takeSign_113 (fun T2001 e_T2001 l_T2001 H locs h => ?_)
    have hw := hw T2001 e_T2001
    have f_at1 := l_T2001.is f_at1
    have f_a0 := l_T2001.is f_a0
    have hle := hle.tr l_T2001
    exact j116  T2001 H locs ls (lv_sub hl [] rfl) h hle f_a0 hw
  have j95 : ∀  (Sn : kp_S) (H : Heap) (locs : List Loc) (ls : Array Slot), lv_has ls 3 [(0, .ref a0), (1, .int x1)] → kp_H D cy A Sn s.heap H locs → kp_le S Sn → kp_is Sn a0 9 → wX9_takeSign_b95 a0 x1   Sn post → W p l e { frames := 4, cells := 0, slots := 0, locals := 91 } s m ([.ref a0, .int x1] : List Value).toArray below meth c H locs 0 0 (MQ below (kp_Qv D cy A S post) ([.ref a0, .int x1] : List Value).toArray s 0 0 A) (F0 m 95 ls []) := by
    intro  Sn H locs ls hl h hle f_a0 hw
    unfold wX9_takeSign_b95 at hw
    refine lv_aload_n X.1 X.2.1 dX9_takeSign_95 rfl (lv_at hl 0 rfl) ?_
    refine kp_ldcs X 1 rfl dX9_takeSign_96 ?_
    refine lv_iload_n X.1 X.2.1 dX9_takeSign_98 rfl (lv_at hl 1 rfl) ?_
    refine lv_i2c X.1 X.2.1 dX9_takeSign_99 rfl ?_
    refine kp_calli X h (kp_runVs (rm := { frames := 3, cells := 0, slots := 0, locals := 70 }) (mc := 0) (ms := 0) (rest := [.ref a0]) (Qc := fun A => kp_Qi D cy A Sn _) X h (c_J0_indexOf_0f7a4 l D cy ad Sn 1 (((x1 : Int32).toUInt32 % 65536).toInt32) _ h.2.2.2 (by decide) hw) (by decide) cw_9_95 ⟨by decide, by decide, rfl, rfl, by decide, by decide⟩ rfl hl.1 rfl (Nat.le_of_ble_eq_true rfl) dX9_takeSign_100) (fun y3002 T3001 hw l_T3001 H locs h => ?_)
    have f_a0 := l_T3001.is f_a0
    have hle := hle.tr l_T3001
    refine lv_if_lt (tgt := 110) X.1 X.2.1 dX9_takeSign_103 (by decide) (fun c3003 => ?_) (fun c3003 => ?_)
    · have hw := hw.1 c3003
      refine lv_sipush (v := 262) X.1 X.2.1 dX9_takeSign_110 (by decide) ?_
      exact j113 262 a0 T3001 H locs ls (lv_sub hl [] rfl) h hle f_a0 f_a0 hw
    · have hw := hw.2 c3003
      refine lv_iload_n X.1 X.2.1 dX9_takeSign_106 rfl (lv_at hl 1 rfl) ?_
      refine lv_goto (tgt := 113) X.1 X.2.1 dX9_takeSign_107 (by decide) ?_
      exact j113 x1 a0 T3001 H locs ls (lv_sub hl [] rfl) h hle f_a0 f_a0 hw
  have j89 : ∀ (xt0 : Int32) (at1 : Nat) (Sn : kp_S) (H : Heap) (locs : List Loc) (ls : Array Slot), lv_has ls 3 [] → kp_H D cy A Sn s.heap H locs → kp_le S Sn → kp_is Sn at1 9 → kp_is Sn a0 9 → wX9_takeSign_b89 a0 x1 xt0 at1  Sn post → W p l e { frames := 4, cells := 0, slots := 0, locals := 91 } s m ([.ref a0, .int x1] : List Value).toArray below meth c H locs 0 0 (MQ below (kp_Qv D cy A S post) ([.ref a0, .int x1] : List Value).toArray s 0 0 A) (F0 m 89 ls [.int xt0, .ref at1]) := by
    intro xt0 at1 Sn H locs ls hl h hle f_at1 f_a0 hw
    unfold wX9_takeSign_b89 at hw
    refine kp_putI X h f_at1 fp_9_53 rfl ⟨rfl, rfl⟩ dX9_takeSign_89 (fun T4001 e_T4001 l_T4001 H locs h => ?_)
    have hw := hw T4001 e_T4001
    have f_at1 := l_T4001.is f_at1
    have f_a0 := l_T4001.is f_a0
    have hle := hle.tr l_T4001
    refine lv_goto (tgt := 116) X.1 X.2.1 dX9_takeSign_92 (by decide) ?_
    exact j116  T4001 H locs ls (lv_sub hl [] rfl) h hle f_a0 hw
  have j51 : ∀  (Sn : kp_S) (H : Heap) (locs : List Loc) (ls : Array Slot), lv_has ls 3 [(0, .ref a0), (1, .int x1)] → kp_H D cy A Sn s.heap H locs → kp_le S Sn → kp_is Sn a0 9 → wX9_takeSign_b51 a0 x1   Sn post → W p l e { frames := 4, cells := 0, slots := 0, locals := 91 } s m ([.ref a0, .int x1] : List Value).toArray below meth c H locs 0 0 (MQ below (kp_Qv D cy A S post) ([.ref a0, .int x1] : List Value).toArray s 0 0 A) (F0 m 51 ls []) := by
    intro  Sn H locs ls hl h hle f_a0 hw
    unfold wX9_takeSign_b51 at hw
    refine lv_aload_n X.1 X.2.1 dX9_takeSign_51 rfl (lv_at hl 0 rfl) ?_
    refine lv_dup X.1 X.2.1 dX9_takeSign_52 rfl ?_
    refine kp_get X h f_a0 fp_9_41.l (v := .int (kp_I Sn 1803 a0)) rfl dX9_takeSign_53 ?_
    refine lv_iconst (v := 1) X.1 X.2.1 dX9_takeSign_56 (by decide) ?_
    refine lv_iadd X.1 X.2.1 dX9_takeSign_57 ?_
    refine kp_putI X h f_a0 fp_9_41 rfl ⟨rfl, rfl⟩ dX9_takeSign_58 (fun T5001 e_T5001 l_T5001 H locs h => ?_)
    have hw := hw T5001 e_T5001
    have f_a0 := l_T5001.is f_a0
    have hle := hle.tr l_T5001
    refine lv_aload_n X.1 X.2.1 dX9_takeSign_61 rfl (lv_at hl 0 rfl) ?_
    refine lv_iload_n X.1 X.2.1 dX9_takeSign_62 rfl (lv_at hl 1 rfl) ?_
    refine lv_bipush (v := 61) X.1 X.2.1 dX9_takeSign_63 (by decide) ?_
    refine lv_icmp_ne (tgt := 74) X.1 X.2.1 dX9_takeSign_65 (by decide) (fun c5003 => ?_) (fun c5003 => ?_)
    · have hw := hw.1 c5003
      refine lv_iload_n X.1 X.2.1 dX9_takeSign_74 rfl (lv_at hl 1 rfl) ?_
      refine lv_bipush (v := 33) X.1 X.2.1 dX9_takeSign_75 (by decide) ?_
      refine lv_icmp_ne (tgt := 86) X.1 X.2.1 dX9_takeSign_77 (by decide) (fun c5002 => ?_) (fun c5002 => ?_)
      · have hw := hw.1 c5002
        refine lv_sipush (v := 258) X.1 X.2.1 dX9_takeSign_86 (by decide) ?_
        exact j89 258 a0 T5001 H locs ls (lv_sub hl [] rfl) h hle f_a0 f_a0 hw
      · have hw := hw.2 c5002
        refine lv_sipush (v := 257) X.1 X.2.1 dX9_takeSign_80 (by decide) ?_
        refine lv_goto (tgt := 89) X.1 X.2.1 dX9_takeSign_83 (by decide) ?_
        exact j89 257 a0 T5001 H locs ls (lv_sub hl [] rfl) h hle f_a0 f_a0 hw
    · have hw := hw.2 c5003
      refine lv_sipush (v := 256) X.1 X.2.1 dX9_takeSign_68 (by decide) ?_
      refine lv_goto (tgt := 89) X.1 X.2.1 dX9_takeSign_71 (by decide) ?_
      exact j89 256 a0 T5001 H locs ls (lv_sub hl [] rfl) h hle f_a0 f_a0 hw
  have j28 : ∀ (xt0 : Int32) (Sn : kp_S) (H : Heap) (locs : List Loc) (ls : Array Slot), lv_has ls 3 [(0, .ref a0), (1, .int x1)] → kp_H D cy A Sn s.heap H locs → kp_le S Sn → kp_is Sn a0 9 → wX9_takeSign_b28 a0 x1 xt0  Sn post → W p l e { frames := 4, cells := 0, slots := 0, locals := 91 } s m ([.ref a0, .int x1] : List Value).toArray below meth c H locs 0 0 (MQ below (kp_Qv D cy A S post) ([.ref a0, .int x1] : List Value).toArray s 0 0 A) (F0 m 28 ls [.int xt0]) := by
    intro xt0 Sn H locs ls hl h hle f_a0 hw
    unfold wX9_takeSign_b28 at hw
    refine lv_istore_n (lv' := [(2, .int xt0), (0, .ref a0), (1, .int x1)]) X.1 X.2.1 dX9_takeSign_28 rfl hl (by decide) rfl (fun ls hl => ?_)
    refine lv_iload_n X.1 X.2.1 dX9_takeSign_29 rfl (lv_at hl 0 rfl) ?_
    refine lv_if_eq (tgt := 95) X.1 X.2.1 dX9_takeSign_30 (by decide) (fun c6004 => ?_) (fun c6004 => ?_)
    · have hw := hw.1 c6004
      exact j95  Sn H locs ls (lv_sub hl [1, 2] rfl) h hle f_a0 hw
    · have hw := hw.2 c6004
      refine lv_iload_n X.1 X.2.1 dX9_takeSign_33 rfl (lv_at hl 2 rfl) ?_
      refine lv_bipush (v := 61) X.1 X.2.1 dX9_takeSign_34 (by decide) ?_
      refine lv_icmp_eq (tgt := 51) X.1 X.2.1 dX9_takeSign_36 (by decide) (fun c6003 => ?_) (fun c6003 => ?_)
      · have hw := hw.1 c6003
        exact j51  Sn H locs ls (lv_sub hl [1, 2] rfl) h hle f_a0 hw
      · have hw := hw.2 c6003
        refine lv_iload_n X.1 X.2.1 dX9_takeSign_39 rfl (lv_at hl 2 rfl) ?_
        refine lv_bipush (v := 33) X.1 X.2.1 dX9_takeSign_40 (by decide) ?_
        refine lv_icmp_eq (tgt := 51) X.1 X.2.1 dX9_takeSign_42 (by decide) (fun c6002 => ?_) (fun c6002 => ?_)
        · have hw := hw.1 c6002
          exact j51  Sn H locs ls (lv_sub hl [1, 2] rfl) h hle f_a0 hw
        · have hw := hw.2 c6002
          refine lv_iload_n X.1 X.2.1 dX9_takeSign_45 rfl (lv_at hl 2 rfl) ?_
          refine lv_bipush (v := 60) X.1 X.2.1 dX9_takeSign_46 (by decide) ?_
          refine lv_icmp_ne (tgt := 95) X.1 X.2.1 dX9_takeSign_48 (by decide) (fun c6001 => ?_) (fun c6001 => ?_)
          · have hw := hw.1 c6001
            exact j95  Sn H locs ls (lv_sub hl [1, 2] rfl) h hle f_a0 hw
          · have hw := hw.2 c6001
            exact j51  Sn H locs ls (lv_sub hl [1, 2] rfl) h hle f_a0 hw
  unfold wX9_takeSign at hw
  have h : kp_H D cy A S s.heap s.heap [] := h
  revert h
  intro h
  refine lv_aload_n X.1 X.2.1 dX9_takeSign_0 rfl (lv_at hl 0 rfl) ?_
  refine lv_dup X.1 X.2.1 dX9_takeSign_1 rfl ?_
  refine kp_get X h f_a0 fp_9_41.l (v := .int (kp_I S 1803 a0)) rfl dX9_takeSign_2 ?_
  refine lv_iconst (v := 1) X.1 X.2.1 dX9_takeSign_5 (by decide) ?_
  refine lv_iadd X.1 X.2.1 dX9_takeSign_6 ?_
  refine kp_putI X h f_a0 fp_9_41 rfl ⟨rfl, rfl⟩ dX9_takeSign_7 (fun T1 e_T1 l_T1 H locs h => ?_)
  have hw := hw T1 e_T1
  have f_a0 := l_T1.is f_a0
  have hle := hle.tr l_T1
  refine lv_aload_n X.1 X.2.1 dX9_takeSign_10 rfl (lv_at hl 0 rfl) ?_
  refine lv_aload_n X.1 X.2.1 dX9_takeSign_11 rfl (lv_at hl 0 rfl) ?_
  refine kp_get X h f_a0 fp_9_41.l (v := .int (kp_I T1 1803 a0)) rfl dX9_takeSign_12 ?_
  refine kp_calli X h (kp_runV (rm := { frames := 0, cells := 0, slots := 0, locals := 0 }) (mc := 0) (ms := 0) (rest := []) (Qc := fun A => kp_Qi D cy A T1 _) X h (c_X9_byteAt l D cy ad T1 a0 (kp_I T1 1803 a0) _ h.2.2.2 f_a0 hw) f_a0 cv_9_65 ⟨by decide, by decide, rfl, rfl, by decide, by decide⟩ rfl hl.1 rfl (Nat.le_of_ble_eq_true rfl) dX9_takeSign_15) (fun y3 T2 hw l_T2 H locs h => ?_)
  have f_a0 := l_T2.is f_a0
  have hle := hle.tr l_T2
  refine lv_bipush (v := 61) X.1 X.2.1 dX9_takeSign_18 (by decide) ?_
  refine lv_icmp_ne (tgt := 27) X.1 X.2.1 dX9_takeSign_20 (by decide) (fun c4 => ?_) (fun c4 => ?_)
  · have hw := hw.1 c4
    refine lv_iconst (v := 0) X.1 X.2.1 dX9_takeSign_27 (by decide) ?_
    exact j28 0 T2 _ _ ls (lv_sub hl [0, 1] rfl) h hle f_a0 hw
  · have hw := hw.2 c4
    refine lv_iconst (v := 1) X.1 X.2.1 dX9_takeSign_23 (by decide) ?_
    refine lv_goto (tgt := 28) X.1 X.2.1 dX9_takeSign_24 (by decide) ?_
    exact j28 1 T2 _ _ ls (lv_sub hl [0, 1] rfl) h hle f_a0 hw
theorem dX9_advance_0 : decode cX9_advance 0 = .ok (.aload_n 0, 1) := by decide +kernel
theorem dX9_advance_1 : decode cX9_advance 1 = .ok (.getfield 53, 3) := by decide +kernel
theorem dX9_advance_4 : decode cX9_advance 4 = .ok (.sipush 263, 3) := by decide +kernel
theorem dX9_advance_7 : decode cX9_advance 7 = .ok (.if_icmp .ne 4, 3) := by decide +kernel
theorem dX9_advance_10 : decode cX9_advance 10 = .ok (.return_, 1) := by decide +kernel
theorem dX9_advance_11 : decode cX9_advance 11 = .ok (.aload_n 0, 1) := by decide +kernel
theorem dX9_advance_12 : decode cX9_advance 12 = .ok (.invokevirtual 59, 3) := by decide +kernel
theorem dX9_advance_15 : decode cX9_advance 15 = .ok (.aload_n 0, 1) := by decide +kernel
theorem dX9_advance_16 : decode cX9_advance 16 = .ok (.aload_n 0, 1) := by decide +kernel
theorem dX9_advance_17 : decode cX9_advance 17 = .ok (.getfield 41, 3) := by decide +kernel
theorem dX9_advance_20 : decode cX9_advance 20 = .ok (.putfield 62, 3) := by decide +kernel
theorem dX9_advance_23 : decode cX9_advance 23 = .ok (.aload_n 0, 1) := by decide +kernel
theorem dX9_advance_24 : decode cX9_advance 24 = .ok (.aload_n 0, 1) := by decide +kernel
theorem dX9_advance_25 : decode cX9_advance 25 = .ok (.getfield 41, 3) := by decide +kernel
theorem dX9_advance_28 : decode cX9_advance 28 = .ok (.invokevirtual 65, 3) := by decide +kernel
theorem dX9_advance_31 : decode cX9_advance 31 = .ok (.istore_n 1, 1) := by decide +kernel
theorem dX9_advance_32 : decode cX9_advance 32 = .ok (.aload_n 0, 1) := by decide +kernel
theorem dX9_advance_33 : decode cX9_advance 33 = .ok (.getfield 41, 3) := by decide +kernel
theorem dX9_advance_36 : decode cX9_advance 36 = .ok (.aload_n 0, 1) := by decide +kernel
theorem dX9_advance_37 : decode cX9_advance 37 = .ok (.getfield 37, 3) := by decide +kernel
theorem dX9_advance_40 : decode cX9_advance 40 = .ok (.if_icmp .lt 13, 3) := by decide +kernel
theorem dX9_advance_43 : decode cX9_advance 43 = .ok (.aload_n 0, 1) := by decide +kernel
theorem dX9_advance_44 : decode cX9_advance 44 = .ok (.sipush 261, 3) := by decide +kernel
theorem dX9_advance_47 : decode cX9_advance 47 = .ok (.putfield 53, 3) := by decide +kernel
theorem dX9_advance_50 : decode cX9_advance 50 = .ok (.goto 36, 3) := by decide +kernel
theorem dX9_advance_53 : decode cX9_advance 53 = .ok (.iload_n 1, 1) := by decide +kernel
theorem dX9_advance_54 : decode cX9_advance 54 = .ok (.invokestatic 69, 3) := by decide +kernel
theorem dX9_advance_57 : decode cX9_advance 57 = .ok (.ifCond .eq 10, 3) := by decide +kernel
theorem dX9_advance_60 : decode cX9_advance 60 = .ok (.aload_n 0, 1) := by decide +kernel
theorem dX9_advance_61 : decode cX9_advance 61 = .ok (.invokevirtual 73, 3) := by decide +kernel
theorem dX9_advance_64 : decode cX9_advance 64 = .ok (.goto 22, 3) := by decide +kernel
theorem dX9_advance_67 : decode cX9_advance 67 = .ok (.iload_n 1, 1) := by decide +kernel
theorem dX9_advance_68 : decode cX9_advance 68 = .ok (.invokestatic 76, 3) := by decide +kernel
theorem dX9_advance_71 : decode cX9_advance 71 = .ok (.ifCond .eq 10, 3) := by decide +kernel
theorem dX9_advance_74 : decode cX9_advance 74 = .ok (.aload_n 0, 1) := by decide +kernel
theorem dX9_advance_75 : decode cX9_advance 75 = .ok (.invokevirtual 79, 3) := by decide +kernel
theorem dX9_advance_78 : decode cX9_advance 78 = .ok (.goto 8, 3) := by decide +kernel
theorem dX9_advance_81 : decode cX9_advance 81 = .ok (.aload_n 0, 1) := by decide +kernel
theorem dX9_advance_82 : decode cX9_advance 82 = .ok (.iload_n 1, 1) := by decide +kernel
theorem dX9_advance_83 : decode cX9_advance 83 = .ok (.invokevirtual 82, 3) := by decide +kernel
theorem dX9_advance_86 : decode cX9_advance 86 = .ok (.return_, 1) := by decide +kernel
def wX9_advance_b86 (a0 : Nat)  (Sn : kp_S) (post : kp_S → Prop) : Prop :=
  post Sn
def wX9_advance (a0 : Nat) (S : kp_S) (post : kp_S → Prop) : Prop :=
  ((¬ (kp_I S 1805 a0) = 263 →
  wX9_passBlanks a0 S (fun T1 =>
  ∀ T2 : kp_S, T2 = kp_sI T1 1806 a0 (kp_I T1 1803 a0) →
  wX9_byteAt a0 (kp_I T2 1803 a0) T2 (fun y4 T3 =>
  (((kp_I T3 1803 a0) < (kp_I T3 1802 a0) →
  wX9_isLetter y4 T3 (fun y6 T5 =>
  ((y6 = 0 →
  wX9_isDigit y4 T5 (fun y8 T7 =>
  ((y8 = 0 →
  wX9_takeSign a0 y4 T7 (fun T9 =>
  wX9_advance_b86 a0   T9 post)) ∧ (¬ y8 = 0 →
  wX9_takeNumber a0 T7 (fun T10 =>
  wX9_advance_b86 a0   T10 post))))) ∧ (¬ y6 = 0 →
  wX9_takeWord a0 T5 (fun T12 =>
  wX9_advance_b86 a0   T12 post))))) ∧ (¬ (kp_I T3 1803 a0) < (kp_I T3 1802 a0) →
  ∀ T14 : kp_S, T14 = kp_sI T3 1805 a0 261 →
  wX9_advance_b86 a0   T14 post))))) ∧ ((kp_I S 1805 a0) = 263 →
  post S))
set_option maxHeartbeats 4000000 in
set_option maxRecDepth 100000 in
theorem c_X9_advance (l : Launch) (D : va_G) (cy : Nat → ClassId) (ad : (Nat → Nat) × (Nat → Nat)) (S : kp_S) (a0 : Nat) (post : kp_S → Prop) (hS : kp_ok S) (f_a0 : kp_is S a0 9) (hw : wX9_advance a0 S post) : kp_M l yX9_advance cX9_advance 2 none { frames := 5, cells := 0, slots := 0, locals := 113 } D cy ad S [.ref a0] 0 0 (fun A => kp_Qv D cy A S post) := by
  refine kp_start (own := RX9) (by decide) rfl (Nat.le_of_ble_eq_true rfl) hS ?_
  intro p e s m below meth c A ls X hr hlocks hname h hl
  have hle : kp_le S S := kp_le.rf
  have hl : lv_has ls 2 [(0, .ref a0)] := hl
  have j86 : ∀  (Sn : kp_S) (H : Heap) (locs : List Loc) (ls : Array Slot), lv_has ls 2 [] → kp_H D cy A Sn s.heap H locs → kp_le S Sn → kp_is Sn a0 9 → wX9_advance_b86 a0   Sn post → W p l e { frames := 5, cells := 0, slots := 0, locals := 113 } s m ([.ref a0] : List Value).toArray below meth c H locs 0 0 (MQ below (kp_Qv D cy A S post) ([.ref a0] : List Value).toArray s 0 0 A) (F0 m 86 ls []) := by
    intro  Sn H locs ls hl h hle f_a0 hw
    unfold wX9_advance_b86 at hw
    exact kp_retv X hr hlocks h hle hw dX9_advance_86
  unfold wX9_advance at hw
  have h : kp_H D cy A S s.heap s.heap [] := h
  revert h
  intro h
  refine lv_aload_n X.1 X.2.1 dX9_advance_0 rfl (lv_at hl 0 rfl) ?_
  refine kp_get X h f_a0 fp_9_53.l (v := .int (kp_I S 1805 a0)) rfl dX9_advance_1 ?_
  refine lv_sipush (v := 263) X.1 X.2.1 dX9_advance_4 (by decide) ?_
  refine lv_icmp_ne (tgt := 11) X.1 X.2.1 dX9_advance_7 (by decide) (fun c16 => ?_) (fun c16 => ?_)
  · have hw := hw.1 c16
    refine lv_aload_n X.1 X.2.1 dX9_advance_11 rfl (lv_at hl 0 rfl) ?_
    refine kp_callv X h (kp_runV (rm := { frames := 1, cells := 0, slots := 0, locals := 21 }) (mc := 0) (ms := 0) (rest := []) (Qc := fun A => kp_Qv D cy A S _) X h (c_X9_passBlanks l D cy ad S a0 _ h.2.2.2 f_a0 hw) f_a0 cv_9_59 ⟨by decide, by decide, rfl, rfl, by decide, by decide⟩ rfl hl.1 rfl (Nat.le_of_ble_eq_true rfl) dX9_advance_12) (fun T1 hw l_T1 H locs h => ?_)
    have f_a0 := l_T1.is f_a0
    have hle := hle.tr l_T1
    refine lv_aload_n X.1 X.2.1 dX9_advance_15 rfl (lv_at hl 0 rfl) ?_
    refine lv_aload_n X.1 X.2.1 dX9_advance_16 rfl (lv_at hl 0 rfl) ?_
    refine kp_get X h f_a0 fp_9_41.l (v := .int (kp_I T1 1803 a0)) rfl dX9_advance_17 ?_
    refine kp_putI X h f_a0 fp_9_62 rfl ⟨rfl, rfl⟩ dX9_advance_20 (fun T2 e_T2 l_T2 H locs h => ?_)
    have hw := hw T2 e_T2
    have f_a0 := l_T2.is f_a0
    have hle := hle.tr l_T2
    refine lv_aload_n X.1 X.2.1 dX9_advance_23 rfl (lv_at hl 0 rfl) ?_
    refine lv_aload_n X.1 X.2.1 dX9_advance_24 rfl (lv_at hl 0 rfl) ?_
    refine kp_get X h f_a0 fp_9_41.l (v := .int (kp_I T2 1803 a0)) rfl dX9_advance_25 ?_
    refine kp_calli X h (kp_runV (rm := { frames := 0, cells := 0, slots := 0, locals := 0 }) (mc := 0) (ms := 0) (rest := []) (Qc := fun A => kp_Qi D cy A T2 _) X h (c_X9_byteAt l D cy ad T2 a0 (kp_I T2 1803 a0) _ h.2.2.2 f_a0 hw) f_a0 cv_9_65 ⟨by decide, by decide, rfl, rfl, by decide, by decide⟩ rfl hl.1 rfl (Nat.le_of_ble_eq_true rfl) dX9_advance_28) (fun y4 T3 hw l_T3 H locs h => ?_)
    have f_a0 := l_T3.is f_a0
    have hle := hle.tr l_T3
    refine lv_istore_n (lv' := [(1, .int y4), (0, .ref a0)]) X.1 X.2.1 dX9_advance_31 rfl hl (by decide) rfl (fun ls hl => ?_)
    refine lv_aload_n X.1 X.2.1 dX9_advance_32 rfl (lv_at hl 1 rfl) ?_
    refine kp_get X h f_a0 fp_9_41.l (v := .int (kp_I T3 1803 a0)) rfl dX9_advance_33 ?_
    refine lv_aload_n X.1 X.2.1 dX9_advance_36 rfl (lv_at hl 1 rfl) ?_
    refine kp_get X h f_a0 fp_9_37.l (v := .int (kp_I T3 1802 a0)) rfl dX9_advance_37 ?_
    refine lv_icmp_lt (tgt := 53) X.1 X.2.1 dX9_advance_40 (by decide) (fun c15 => ?_) (fun c15 => ?_)
    · have hw := hw.1 c15
      refine lv_iload_n X.1 X.2.1 dX9_advance_53 rfl (lv_at hl 0 rfl) ?_
      refine kp_calli X h (kp_runS (rm := { frames := 0, cells := 0, slots := 0, locals := 0 }) (mc := 0) (ms := 0) (rest := []) (Qc := fun A => kp_Qi D cy A T3 _) X h (c_X9_isLetter l D cy ad T3 y4 _ h.2.2.2  hw) cs_9_69 ⟨by decide, by decide, rfl, rfl, by decide, by decide⟩ rfl hl.1 rfl (Nat.le_of_ble_eq_true rfl) dX9_advance_54) (fun y6 T5 hw l_T5 H locs h => ?_)
      have f_a0 := l_T5.is f_a0
      have hle := hle.tr l_T5
      refine lv_if_eq (tgt := 67) X.1 X.2.1 dX9_advance_57 (by decide) (fun c13 => ?_) (fun c13 => ?_)
      · have hw := hw.1 c13
        refine lv_iload_n X.1 X.2.1 dX9_advance_67 rfl (lv_at hl 0 rfl) ?_
        refine kp_calli X h (kp_runS (rm := { frames := 0, cells := 0, slots := 0, locals := 0 }) (mc := 0) (ms := 0) (rest := []) (Qc := fun A => kp_Qi D cy A T5 _) X h (c_X9_isDigit l D cy ad T5 y4 _ h.2.2.2  hw) cs_9_76 ⟨by decide, by decide, rfl, rfl, by decide, by decide⟩ rfl hl.1 rfl (Nat.le_of_ble_eq_true rfl) dX9_advance_68) (fun y8 T7 hw l_T7 H locs h => ?_)
        have f_a0 := l_T7.is f_a0
        have hle := hle.tr l_T7
        refine lv_if_eq (tgt := 81) X.1 X.2.1 dX9_advance_71 (by decide) (fun c11 => ?_) (fun c11 => ?_)
        · have hw := hw.1 c11
          refine lv_aload_n X.1 X.2.1 dX9_advance_81 rfl (lv_at hl 1 rfl) ?_
          refine lv_iload_n X.1 X.2.1 dX9_advance_82 rfl (lv_at hl 0 rfl) ?_
          refine kp_callv X h (kp_runV (rm := { frames := 4, cells := 0, slots := 0, locals := 91 }) (mc := 0) (ms := 0) (rest := []) (Qc := fun A => kp_Qv D cy A T7 _) X h (c_X9_takeSign l D cy ad T7 a0 y4 _ h.2.2.2 f_a0 hw) f_a0 cv_9_82 ⟨by decide, by decide, rfl, rfl, by decide, by decide⟩ rfl hl.1 rfl (Nat.le_of_ble_eq_true rfl) dX9_advance_83) (fun T9 hw l_T9 H locs h => ?_)
          have f_a0 := l_T9.is f_a0
          have hle := hle.tr l_T9
          exact j86  T9 _ _ ls (lv_sub hl [] rfl) h hle f_a0 hw
        · have hw := hw.2 c11
          refine lv_aload_n X.1 X.2.1 dX9_advance_74 rfl (lv_at hl 1 rfl) ?_
          refine kp_callv X h (kp_runV (rm := { frames := 1, cells := 0, slots := 0, locals := 21 }) (mc := 0) (ms := 0) (rest := []) (Qc := fun A => kp_Qv D cy A T7 _) X h (c_X9_takeNumber l D cy ad T7 a0 _ h.2.2.2 f_a0 hw) f_a0 cv_9_79 ⟨by decide, by decide, rfl, rfl, by decide, by decide⟩ rfl hl.1 rfl (Nat.le_of_ble_eq_true rfl) dX9_advance_75) (fun T10 hw l_T10 H locs h => ?_)
          have f_a0 := l_T10.is f_a0
          have hle := hle.tr l_T10
          refine lv_goto (tgt := 86) X.1 X.2.1 dX9_advance_78 (by decide) ?_
          exact j86  T10 _ _ ls (lv_sub hl [] rfl) h hle f_a0 hw
      · have hw := hw.2 c13
        refine lv_aload_n X.1 X.2.1 dX9_advance_60 rfl (lv_at hl 1 rfl) ?_
        refine kp_callv X h (kp_runV (rm := { frames := 1, cells := 0, slots := 0, locals := 21 }) (mc := 0) (ms := 0) (rest := []) (Qc := fun A => kp_Qv D cy A T5 _) X h (c_X9_takeWord l D cy ad T5 a0 _ h.2.2.2 f_a0 hw) f_a0 cv_9_73 ⟨by decide, by decide, rfl, rfl, by decide, by decide⟩ rfl hl.1 rfl (Nat.le_of_ble_eq_true rfl) dX9_advance_61) (fun T12 hw l_T12 H locs h => ?_)
        have f_a0 := l_T12.is f_a0
        have hle := hle.tr l_T12
        refine lv_goto (tgt := 86) X.1 X.2.1 dX9_advance_64 (by decide) ?_
        exact j86  T12 _ _ ls (lv_sub hl [] rfl) h hle f_a0 hw
    · have hw := hw.2 c15
      refine lv_aload_n X.1 X.2.1 dX9_advance_43 rfl (lv_at hl 1 rfl) ?_
      refine lv_sipush (v := 261) X.1 X.2.1 dX9_advance_44 (by decide) ?_
      refine kp_putI X h f_a0 fp_9_53 rfl ⟨rfl, rfl⟩ dX9_advance_47 (fun T14 e_T14 l_T14 H locs h => ?_)
      have hw := hw T14 e_T14
      have f_a0 := l_T14.is f_a0
      have hle := hle.tr l_T14
      refine lv_goto (tgt := 86) X.1 X.2.1 dX9_advance_50 (by decide) ?_
      exact j86  T14 _ _ ls (lv_sub hl [] rfl) h hle f_a0 hw
  · have hw := hw.2 c16
    exact kp_retv X hr hlocks h hle hw dX9_advance_10
theorem dX9_start_0 : decode cX9_start 0 = .ok (.aload_n 0, 1) := by decide +kernel
theorem dX9_start_1 : decode cX9_start 1 = .ok (.iload_n 1, 1) := by decide +kernel
theorem dX9_start_2 : decode cX9_start 2 = .ok (.aload_n 0, 1) := by decide +kernel
theorem dX9_start_3 : decode cX9_start 3 = .ok (.getfield 9, 3) := by decide +kernel
theorem dX9_start_6 : decode cX9_start 6 = .ok (.arraylength, 1) := by decide +kernel
theorem dX9_start_7 : decode cX9_start 7 = .ok (.invokestatic 31, 3) := by decide +kernel
theorem dX9_start_10 : decode cX9_start 10 = .ok (.putfield 37, 3) := by decide +kernel
theorem dX9_start_13 : decode cX9_start 13 = .ok (.aload_n 0, 1) := by decide +kernel
theorem dX9_start_14 : decode cX9_start 14 = .ok (.iconst 0, 1) := by decide +kernel
theorem dX9_start_15 : decode cX9_start 15 = .ok (.putfield 41, 3) := by decide +kernel
theorem dX9_start_18 : decode cX9_start 18 = .ok (.aload_n 0, 1) := by decide +kernel
theorem dX9_start_19 : decode cX9_start 19 = .ok (.iconst 0, 1) := by decide +kernel
theorem dX9_start_20 : decode cX9_start 20 = .ok (.putfield 44, 3) := by decide +kernel
theorem dX9_start_23 : decode cX9_start 23 = .ok (.aload_n 0, 1) := by decide +kernel
theorem dX9_start_24 : decode cX9_start 24 = .ok (.iconst 0, 1) := by decide +kernel
theorem dX9_start_25 : decode cX9_start 25 = .ok (.putfield 47, 3) := by decide +kernel
theorem dX9_start_28 : decode cX9_start 28 = .ok (.aload_n 0, 1) := by decide +kernel
theorem dX9_start_29 : decode cX9_start 29 = .ok (.iconst (-1), 1) := by decide +kernel
theorem dX9_start_30 : decode cX9_start 30 = .ok (.putfield 50, 3) := by decide +kernel
theorem dX9_start_33 : decode cX9_start 33 = .ok (.aload_n 0, 1) := by decide +kernel
theorem dX9_start_34 : decode cX9_start 34 = .ok (.sipush 261, 3) := by decide +kernel
theorem dX9_start_37 : decode cX9_start 37 = .ok (.putfield 53, 3) := by decide +kernel
theorem dX9_start_40 : decode cX9_start 40 = .ok (.aload_n 0, 1) := by decide +kernel
theorem dX9_start_41 : decode cX9_start 41 = .ok (.invokevirtual 56, 3) := by decide +kernel
theorem dX9_start_44 : decode cX9_start 44 = .ok (.return_, 1) := by decide +kernel
def wX9_start (a0 : Nat) (x1 : Int32) (S : kp_S) (post : kp_S → Prop) : Prop :=
  ∃ b1 : Nat, kp_R S 1800 a0 = some b1 ∧
  ∀ T2 : kp_S, T2 = kp_sI S 1802 a0 (if (nI (kp_N S b1)) < x1 then (nI (kp_N S b1)) else x1) →
  ∀ T3 : kp_S, T3 = kp_sI T2 1803 a0 0 →
  ∀ T4 : kp_S, T4 = kp_sI T3 1804 a0 0 →
  ∀ T5 : kp_S, T5 = kp_sI T4 1809 a0 0 →
  ∀ T6 : kp_S, T6 = kp_sI T5 1810 a0 (-1) →
  ∀ T7 : kp_S, T7 = kp_sI T6 1805 a0 261 →
  wX9_advance a0 T7 (fun T8 =>
  post T8)
set_option maxHeartbeats 4000000 in
set_option maxRecDepth 100000 in
theorem c_X9_start (l : Launch) (D : va_G) (cy : Nat → ClassId) (ad : (Nat → Nat) × (Nat → Nat)) (S : kp_S) (a0 : Nat) (x1 : Int32) (post : kp_S → Prop) (hS : kp_ok S) (f_a0 : kp_is S a0 9) (hw : wX9_start a0 x1 S post) : kp_M l yX9_start cX9_start 2 none { frames := 6, cells := 0, slots := 0, locals := 134 } D cy ad S [.ref a0, .int x1] 0 0 (fun A => kp_Qv D cy A S post) := by
  refine kp_start (own := RX9) (by decide) rfl (Nat.le_of_ble_eq_true rfl) hS ?_
  intro p e s m below meth c A ls X hr hlocks hname h hl
  have hle : kp_le S S := kp_le.rf
  have hl : lv_has ls 2 [(0, .ref a0), (1, .int x1)] := hl
  unfold wX9_start at hw
  have h : kp_H D cy A S s.heap s.heap [] := h
  revert h
  intro h
  refine lv_aload_n X.1 X.2.1 dX9_start_0 rfl (lv_at hl 0 rfl) ?_
  refine lv_iload_n X.1 X.2.1 dX9_start_1 rfl (lv_at hl 1 rfl) ?_
  refine lv_aload_n X.1 X.2.1 dX9_start_2 rfl (lv_at hl 0 rfl) ?_
  obtain ⟨b1, e_b1, hw⟩ := hw
  have f_b1 := h.2.2.2.rf (c := 9) (k := 0) f_a0 (by decide) (by decide) e_b1 (t := 13) rfl
  refine kp_get X h f_a0 ff_9_9.l (v := .ref b1) (congrArg va_rf e_b1) dX9_start_3 ?_
  refine kp_alen X h f_b1 (by decide) dX9_start_6 ?_
  refine kp_mmin X hl.1 mm_9_31 (by decide) (Nat.le_of_ble_eq_true rfl) (by decide) (by decide) dX9_start_7 ?_
  refine kp_putI X h f_a0 fp_9_37 rfl ⟨rfl, rfl⟩ dX9_start_10 (fun T2 e_T2 l_T2 H locs h => ?_)
  have hw := hw T2 e_T2
  have f_a0 := l_T2.is f_a0
  have f_b1 := l_T2.is f_b1
  have hle := hle.tr l_T2
  have e_b1 : kp_R T2 1800 a0 = some b1 := by rw [e_T2]; exact e_b1
  refine lv_aload_n X.1 X.2.1 dX9_start_13 rfl (lv_at hl 0 rfl) ?_
  refine lv_iconst (v := 0) X.1 X.2.1 dX9_start_14 (by decide) ?_
  refine kp_putI X h f_a0 fp_9_41 rfl ⟨rfl, rfl⟩ dX9_start_15 (fun T3 e_T3 l_T3 H locs h => ?_)
  have hw := hw T3 e_T3
  have f_a0 := l_T3.is f_a0
  have f_b1 := l_T3.is f_b1
  have hle := hle.tr l_T3
  have e_b1 : kp_R T3 1800 a0 = some b1 := by rw [e_T3]; exact e_b1
  refine lv_aload_n X.1 X.2.1 dX9_start_18 rfl (lv_at hl 0 rfl) ?_
  refine lv_iconst (v := 0) X.1 X.2.1 dX9_start_19 (by decide) ?_
  refine kp_putI X h f_a0 fp_9_44 rfl ⟨rfl, rfl⟩ dX9_start_20 (fun T4 e_T4 l_T4 H locs h => ?_)
  have hw := hw T4 e_T4
  have f_a0 := l_T4.is f_a0
  have f_b1 := l_T4.is f_b1
  have hle := hle.tr l_T4
  have e_b1 : kp_R T4 1800 a0 = some b1 := by rw [e_T4]; exact e_b1
  refine lv_aload_n X.1 X.2.1 dX9_start_23 rfl (lv_at hl 0 rfl) ?_
  refine lv_iconst (v := 0) X.1 X.2.1 dX9_start_24 (by decide) ?_
  refine kp_putI X h f_a0 fp_9_47 rfl ⟨rfl, rfl⟩ dX9_start_25 (fun T5 e_T5 l_T5 H locs h => ?_)
  have hw := hw T5 e_T5
  have f_a0 := l_T5.is f_a0
  have f_b1 := l_T5.is f_b1
  have hle := hle.tr l_T5
  have e_b1 : kp_R T5 1800 a0 = some b1 := by rw [e_T5]; exact e_b1
  refine lv_aload_n X.1 X.2.1 dX9_start_28 rfl (lv_at hl 0 rfl) ?_
  refine lv_iconst (v := (-1)) X.1 X.2.1 dX9_start_29 (by decide) ?_
  refine kp_putI X h f_a0 fp_9_50 rfl ⟨rfl, rfl⟩ dX9_start_30 (fun T6 e_T6 l_T6 H locs h => ?_)
  have hw := hw T6 e_T6
  have f_a0 := l_T6.is f_a0
  have f_b1 := l_T6.is f_b1
  have hle := hle.tr l_T6
  have e_b1 : kp_R T6 1800 a0 = some b1 := by rw [e_T6]; exact e_b1
  refine lv_aload_n X.1 X.2.1 dX9_start_33 rfl (lv_at hl 0 rfl) ?_
  refine lv_sipush (v := 261) X.1 X.2.1 dX9_start_34 (by decide) ?_
  refine kp_putI X h f_a0 fp_9_53 rfl ⟨rfl, rfl⟩ dX9_start_37 (fun T7 e_T7 l_T7 H locs h => ?_)
  have hw := hw T7 e_T7
  have f_a0 := l_T7.is f_a0
  have f_b1 := l_T7.is f_b1
  have hle := hle.tr l_T7
  have e_b1 : kp_R T7 1800 a0 = some b1 := by rw [e_T7]; exact e_b1
  refine lv_aload_n X.1 X.2.1 dX9_start_40 rfl (lv_at hl 0 rfl) ?_
  refine kp_callv X h (kp_runV (rm := { frames := 5, cells := 0, slots := 0, locals := 113 }) (mc := 0) (ms := 0) (rest := []) (Qc := fun A => kp_Qv D cy A T7 _) X h (c_X9_advance l D cy ad T7 a0 _ h.2.2.2 f_a0 hw) f_a0 cv_9_56 ⟨by decide, by decide, rfl, rfl, by decide, by decide⟩ rfl hl.1 rfl (Nat.le_of_ble_eq_true rfl) dX9_start_41) (fun T8 hw l_T8 H locs h => ?_)
  have f_a0 := l_T8.is f_a0
  have f_b1 := l_T8.is f_b1
  have hle := hle.tr l_T8
  exact kp_retv X hr hlocks h hle hw dX9_start_44
theorem dX9_isStopped_0 : decode cX9_isStopped 0 = .ok (.aload_n 0, 1) := by decide +kernel
theorem dX9_isStopped_1 : decode cX9_isStopped 1 = .ok (.getfield 53, 3) := by decide +kernel
theorem dX9_isStopped_4 : decode cX9_isStopped 4 = .ok (.sipush 263, 3) := by decide +kernel
theorem dX9_isStopped_7 : decode cX9_isStopped 7 = .ok (.if_icmp .ne 7, 3) := by decide +kernel
theorem dX9_isStopped_10 : decode cX9_isStopped 10 = .ok (.iconst 1, 1) := by decide +kernel
theorem dX9_isStopped_11 : decode cX9_isStopped 11 = .ok (.goto 4, 3) := by decide +kernel
theorem dX9_isStopped_14 : decode cX9_isStopped 14 = .ok (.iconst 0, 1) := by decide +kernel
theorem dX9_isStopped_15 : decode cX9_isStopped 15 = .ok (.ireturn, 1) := by decide +kernel
def wX9_isStopped_b15 (a0 : Nat) (xt0 : Int32)  (Sn : kp_S) (post : Int32 → kp_S → Prop) : Prop :=
  kp_b xt0 ∧ post xt0 Sn
def wX9_isStopped (a0 : Nat) (S : kp_S) (post : Int32 → kp_S → Prop) : Prop :=
  ((¬ (kp_I S 1805 a0) = 263 →
  wX9_isStopped_b15 a0 0  S post) ∧ ((kp_I S 1805 a0) = 263 →
  wX9_isStopped_b15 a0 1  S post))
set_option maxHeartbeats 4000000 in
set_option maxRecDepth 100000 in
theorem c_X9_isStopped (l : Launch) (D : va_G) (cy : Nat → ClassId) (ad : (Nat → Nat) × (Nat → Nat)) (S : kp_S) (a0 : Nat) (post : Int32 → kp_S → Prop) (hS : kp_ok S) (f_a0 : kp_is S a0 9) (hw : wX9_isStopped a0 S post) : kp_M l yX9_isStopped cX9_isStopped 1 (some .boolean) { frames := 0, cells := 0, slots := 0, locals := 0 } D cy ad S [.ref a0] 0 0 (fun A => kp_Qi D cy A S post) := by
  refine kp_start (own := RX9) (by decide) rfl (Nat.le_of_ble_eq_true rfl) hS ?_
  intro p e s m below meth c A ls X hr hlocks hname h hl
  have hle : kp_le S S := kp_le.rf
  have hl : lv_has ls 1 [(0, .ref a0)] := hl
  have j15 : ∀ (xt0 : Int32) (Sn : kp_S) (H : Heap) (locs : List Loc) (ls : Array Slot), lv_has ls 1 [] → kp_H D cy A Sn s.heap H locs → kp_le S Sn → kp_is Sn a0 9 → wX9_isStopped_b15 a0 xt0  Sn post → W p l e { frames := 0, cells := 0, slots := 0, locals := 0 } s m ([.ref a0] : List Value).toArray below meth c H locs 0 0 (MQ below (kp_Qi D cy A S post) ([.ref a0] : List Value).toArray s 0 0 A) (F0 m 15 ls [.int xt0]) := by
    intro xt0 Sn H locs ls hl h hle f_a0 hw
    unfold wX9_isStopped_b15 at hw
    exact kp_reti X hr hlocks h hle (kp_bz hw.1).1 hw.2 dX9_isStopped_15
  unfold wX9_isStopped at hw
  have h : kp_H D cy A S s.heap s.heap [] := h
  revert h
  intro h
  refine lv_aload_n X.1 X.2.1 dX9_isStopped_0 rfl (lv_at hl 0 rfl) ?_
  refine kp_get X h f_a0 fp_9_53.l (v := .int (kp_I S 1805 a0)) rfl dX9_isStopped_1 ?_
  refine lv_sipush (v := 263) X.1 X.2.1 dX9_isStopped_4 (by decide) ?_
  refine lv_icmp_ne (tgt := 14) X.1 X.2.1 dX9_isStopped_7 (by decide) (fun c1 => ?_) (fun c1 => ?_)
  · have hw := hw.1 c1
    refine lv_iconst (v := 0) X.1 X.2.1 dX9_isStopped_14 (by decide) ?_
    exact j15 0 S _ _ ls (lv_sub hl [] rfl) h hle f_a0 hw
  · have hw := hw.2 c1
    refine lv_iconst (v := 1) X.1 X.2.1 dX9_isStopped_10 (by decide) ?_
    refine lv_goto (tgt := 15) X.1 X.2.1 dX9_isStopped_11 (by decide) ?_
    exact j15 1 S _ _ ls (lv_sub hl [] rfl) h hle f_a0 hw
theorem dX9_stopWith_0 : decode cX9_stopWith 0 = .ok (.aload_n 0, 1) := by decide +kernel
theorem dX9_stopWith_1 : decode cX9_stopWith 1 = .ok (.getfield 47, 3) := by decide +kernel
theorem dX9_stopWith_4 : decode cX9_stopWith 4 = .ok (.ifCond .ne 16, 3) := by decide +kernel
theorem dX9_stopWith_7 : decode cX9_stopWith 7 = .ok (.aload_n 0, 1) := by decide +kernel
theorem dX9_stopWith_8 : decode cX9_stopWith 8 = .ok (.iload_n 1, 1) := by decide +kernel
theorem dX9_stopWith_9 : decode cX9_stopWith 9 = .ok (.putfield 47, 3) := by decide +kernel
theorem dX9_stopWith_12 : decode cX9_stopWith 12 = .ok (.aload_n 0, 1) := by decide +kernel
theorem dX9_stopWith_13 : decode cX9_stopWith 13 = .ok (.aload_n 0, 1) := by decide +kernel
theorem dX9_stopWith_14 : decode cX9_stopWith 14 = .ok (.getfield 62, 3) := by decide +kernel
theorem dX9_stopWith_17 : decode cX9_stopWith 17 = .ok (.putfield 50, 3) := by decide +kernel
theorem dX9_stopWith_20 : decode cX9_stopWith 20 = .ok (.aload_n 0, 1) := by decide +kernel
theorem dX9_stopWith_21 : decode cX9_stopWith 21 = .ok (.sipush 263, 3) := by decide +kernel
theorem dX9_stopWith_24 : decode cX9_stopWith 24 = .ok (.putfield 53, 3) := by decide +kernel
theorem dX9_stopWith_27 : decode cX9_stopWith 27 = .ok (.return_, 1) := by decide +kernel
def wX9_stopWith_b20 (a0 : Nat) (x1 : Int32)  (Sn : kp_S) (post : kp_S → Prop) : Prop :=
  ∀ T1001 : kp_S, T1001 = kp_sI Sn 1805 a0 263 →
  post T1001
def wX9_stopWith (a0 : Nat) (x1 : Int32) (S : kp_S) (post : kp_S → Prop) : Prop :=
  ((¬ (kp_I S 1809 a0) = 0 →
  wX9_stopWith_b20 a0 x1   S post) ∧ ((kp_I S 1809 a0) = 0 →
  ∀ T1 : kp_S, T1 = kp_sI S 1809 a0 x1 →
  ∀ T2 : kp_S, T2 = kp_sI T1 1810 a0 (kp_I T1 1806 a0) →
  wX9_stopWith_b20 a0 x1   T2 post))
set_option maxHeartbeats 4000000 in
set_option maxRecDepth 100000 in
theorem c_X9_stopWith (l : Launch) (D : va_G) (cy : Nat → ClassId) (ad : (Nat → Nat) × (Nat → Nat)) (S : kp_S) (a0 : Nat) (x1 : Int32) (post : kp_S → Prop) (hS : kp_ok S) (f_a0 : kp_is S a0 9) (hw : wX9_stopWith a0 x1 S post) : kp_M l yX9_stopWith cX9_stopWith 2 none { frames := 0, cells := 0, slots := 0, locals := 0 } D cy ad S [.ref a0, .int x1] 0 0 (fun A => kp_Qv D cy A S post) := by
  refine kp_start (own := RX9) (by decide) rfl (Nat.le_of_ble_eq_true rfl) hS ?_
  intro p e s m below meth c A ls X hr hlocks hname h hl
  have hle : kp_le S S := kp_le.rf
  have hl : lv_has ls 2 [(0, .ref a0), (1, .int x1)] := hl
  have j20 : ∀  (Sn : kp_S) (H : Heap) (locs : List Loc) (ls : Array Slot), lv_has ls 2 [(0, .ref a0)] → kp_H D cy A Sn s.heap H locs → kp_le S Sn → kp_is Sn a0 9 → wX9_stopWith_b20 a0 x1   Sn post → W p l e { frames := 0, cells := 0, slots := 0, locals := 0 } s m ([.ref a0, .int x1] : List Value).toArray below meth c H locs 0 0 (MQ below (kp_Qv D cy A S post) ([.ref a0, .int x1] : List Value).toArray s 0 0 A) (F0 m 20 ls []) := by
    intro  Sn H locs ls hl h hle f_a0 hw
    unfold wX9_stopWith_b20 at hw
    refine lv_aload_n X.1 X.2.1 dX9_stopWith_20 rfl (lv_at hl 0 rfl) ?_
    refine lv_sipush (v := 263) X.1 X.2.1 dX9_stopWith_21 (by decide) ?_
    refine kp_putI X h f_a0 fp_9_53 rfl ⟨rfl, rfl⟩ dX9_stopWith_24 (fun T1001 e_T1001 l_T1001 H locs h => ?_)
    have hw := hw T1001 e_T1001
    have f_a0 := l_T1001.is f_a0
    have hle := hle.tr l_T1001
    exact kp_retv X hr hlocks h hle hw dX9_stopWith_27
  unfold wX9_stopWith at hw
  have h : kp_H D cy A S s.heap s.heap [] := h
  revert h
  intro h
  refine lv_aload_n X.1 X.2.1 dX9_stopWith_0 rfl (lv_at hl 0 rfl) ?_
  refine kp_get X h f_a0 fp_9_47.l (v := .int (kp_I S 1809 a0)) rfl dX9_stopWith_1 ?_
  refine lv_if_ne (tgt := 20) X.1 X.2.1 dX9_stopWith_4 (by decide) (fun c3 => ?_) (fun c3 => ?_)
  · have hw := hw.1 c3
    exact j20  S _ _ ls (lv_sub hl [0] rfl) h hle f_a0 hw
  · have hw := hw.2 c3
    refine lv_aload_n X.1 X.2.1 dX9_stopWith_7 rfl (lv_at hl 0 rfl) ?_
    refine lv_iload_n X.1 X.2.1 dX9_stopWith_8 rfl (lv_at hl 1 rfl) ?_
    refine kp_putI X h f_a0 fp_9_47 rfl ⟨rfl, rfl⟩ dX9_stopWith_9 (fun T1 e_T1 l_T1 H locs h => ?_)
    have hw := hw T1 e_T1
    have f_a0 := l_T1.is f_a0
    have hle := hle.tr l_T1
    refine lv_aload_n X.1 X.2.1 dX9_stopWith_12 rfl (lv_at hl 0 rfl) ?_
    refine lv_aload_n X.1 X.2.1 dX9_stopWith_13 rfl (lv_at hl 0 rfl) ?_
    refine kp_get X h f_a0 fp_9_62.l (v := .int (kp_I T1 1806 a0)) rfl dX9_stopWith_14 ?_
    refine kp_putI X h f_a0 fp_9_50 rfl ⟨rfl, rfl⟩ dX9_stopWith_17 (fun T2 e_T2 l_T2 H locs h => ?_)
    have hw := hw T2 e_T2
    have f_a0 := l_T2.is f_a0
    have hle := hle.tr l_T2
    exact j20  T2 _ _ ls (lv_sub hl [0] rfl) h hle f_a0 hw
theorem dX9_refuse_0 : decode cX9_refuse 0 = .ok (.aload_n 0, 1) := by decide +kernel
theorem dX9_refuse_1 : decode cX9_refuse 1 = .ok (.aload_n 0, 1) := by decide +kernel
theorem dX9_refuse_2 : decode cX9_refuse 2 = .ok (.getfield 53, 3) := by decide +kernel
theorem dX9_refuse_5 : decode cX9_refuse 5 = .ok (.sipush 262, 3) := by decide +kernel
theorem dX9_refuse_8 : decode cX9_refuse 8 = .ok (.if_icmp .ne 7, 3) := by decide +kernel
theorem dX9_refuse_11 : decode cX9_refuse 11 = .ok (.iconst 1, 1) := by decide +kernel
theorem dX9_refuse_12 : decode cX9_refuse 12 = .ok (.goto 4, 3) := by decide +kernel
theorem dX9_refuse_15 : decode cX9_refuse 15 = .ok (.iconst 2, 1) := by decide +kernel
theorem dX9_refuse_16 : decode cX9_refuse 16 = .ok (.invokevirtual 98, 3) := by decide +kernel
theorem dX9_refuse_19 : decode cX9_refuse 19 = .ok (.return_, 1) := by decide +kernel
def wX9_refuse_b16 (a0 : Nat) (xt0 : Int32) (at1 : Nat)  (Sn : kp_S) (post : kp_S → Prop) : Prop :=
  wX9_stopWith at1 xt0 Sn (fun T1001 =>
  post T1001)
def wX9_refuse (a0 : Nat) (S : kp_S) (post : kp_S → Prop) : Prop :=
  ((¬ (kp_I S 1805 a0) = 262 →
  wX9_refuse_b16 a0 2 a0  S post) ∧ ((kp_I S 1805 a0) = 262 →
  wX9_refuse_b16 a0 1 a0  S post))
set_option maxHeartbeats 4000000 in
set_option maxRecDepth 100000 in
theorem c_X9_refuse (l : Launch) (D : va_G) (cy : Nat → ClassId) (ad : (Nat → Nat) × (Nat → Nat)) (S : kp_S) (a0 : Nat) (post : kp_S → Prop) (hS : kp_ok S) (f_a0 : kp_is S a0 9) (hw : wX9_refuse a0 S post) : kp_M l yX9_refuse cX9_refuse 1 none { frames := 1, cells := 0, slots := 0, locals := 21 } D cy ad S [.ref a0] 0 0 (fun A => kp_Qv D cy A S post) := by
  refine kp_start (own := RX9) (by decide) rfl (Nat.le_of_ble_eq_true rfl) hS ?_
  intro p e s m below meth c A ls X hr hlocks hname h hl
  have hle : kp_le S S := kp_le.rf
  have hl : lv_has ls 1 [(0, .ref a0)] := hl
  have j16 : ∀ (xt0 : Int32) (at1 : Nat) (Sn : kp_S) (H : Heap) (locs : List Loc) (ls : Array Slot), lv_has ls 1 [] → kp_H D cy A Sn s.heap H locs → kp_le S Sn → kp_is Sn at1 9 → kp_is Sn a0 9 → wX9_refuse_b16 a0 xt0 at1  Sn post → W p l e { frames := 1, cells := 0, slots := 0, locals := 21 } s m ([.ref a0] : List Value).toArray below meth c H locs 0 0 (MQ below (kp_Qv D cy A S post) ([.ref a0] : List Value).toArray s 0 0 A) (F0 m 16 ls [.int xt0, .ref at1]) := by
    intro xt0 at1 Sn H locs ls hl h hle f_at1 f_a0 hw
    unfold wX9_refuse_b16 at hw
    refine kp_callv X h (kp_runV (rm := { frames := 0, cells := 0, slots := 0, locals := 0 }) (mc := 0) (ms := 0) (rest := []) (Qc := fun A => kp_Qv D cy A Sn _) X h (c_X9_stopWith l D cy ad Sn at1 xt0 _ h.2.2.2 f_at1 hw) f_at1 cv_9_98 ⟨by decide, by decide, rfl, rfl, by decide, by decide⟩ rfl hl.1 rfl (Nat.le_of_ble_eq_true rfl) dX9_refuse_16) (fun T1001 hw l_T1001 H locs h => ?_)
    have f_at1 := l_T1001.is f_at1
    have f_a0 := l_T1001.is f_a0
    have hle := hle.tr l_T1001
    exact kp_retv X hr hlocks h hle hw dX9_refuse_19
  unfold wX9_refuse at hw
  have h : kp_H D cy A S s.heap s.heap [] := h
  revert h
  intro h
  refine lv_aload_n X.1 X.2.1 dX9_refuse_0 rfl (lv_at hl 0 rfl) ?_
  refine lv_aload_n X.1 X.2.1 dX9_refuse_1 rfl (lv_at hl 0 rfl) ?_
  refine kp_get X h f_a0 fp_9_53.l (v := .int (kp_I S 1805 a0)) rfl dX9_refuse_2 ?_
  refine lv_sipush (v := 262) X.1 X.2.1 dX9_refuse_5 (by decide) ?_
  refine lv_icmp_ne (tgt := 15) X.1 X.2.1 dX9_refuse_8 (by decide) (fun c1 => ?_) (fun c1 => ?_)
  · have hw := hw.1 c1
    refine lv_iconst (v := 2) X.1 X.2.1 dX9_refuse_15 (by decide) ?_
    exact j16 2 a0 S _ _ ls (lv_sub hl [] rfl) h hle f_a0 f_a0 hw
  · have hw := hw.2 c1
    refine lv_iconst (v := 1) X.1 X.2.1 dX9_refuse_11 (by decide) ?_
    refine lv_goto (tgt := 16) X.1 X.2.1 dX9_refuse_12 (by decide) ?_
    exact j16 1 a0 S _ _ ls (lv_sub hl [] rfl) h hle f_a0 f_a0 hw
theorem dX9_expect_0 : decode cX9_expect 0 = .ok (.aload_n 0, 1) := by decide +kernel
theorem dX9_expect_1 : decode cX9_expect 1 = .ok (.getfield 53, 3) := by decide +kernel
theorem dX9_expect_4 : decode cX9_expect 4 = .ok (.iload_n 1, 1) := by decide +kernel
theorem dX9_expect_5 : decode cX9_expect 5 = .ok (.if_icmp .ne 10, 3) := by decide +kernel
theorem dX9_expect_8 : decode cX9_expect 8 = .ok (.aload_n 0, 1) := by decide +kernel
theorem dX9_expect_9 : decode cX9_expect 9 = .ok (.invokevirtual 56, 3) := by decide +kernel
theorem dX9_expect_12 : decode cX9_expect 12 = .ok (.goto 7, 3) := by decide +kernel
theorem dX9_expect_15 : decode cX9_expect 15 = .ok (.aload_n 0, 1) := by decide +kernel
theorem dX9_expect_16 : decode cX9_expect 16 = .ok (.invokevirtual 101, 3) := by decide +kernel
theorem dX9_expect_19 : decode cX9_expect 19 = .ok (.return_, 1) := by decide +kernel
def wX9_expect_b19 (a0 : Nat) (x1 : Int32)  (Sn : kp_S) (post : kp_S → Prop) : Prop :=
  post Sn
def wX9_expect (a0 : Nat) (x1 : Int32) (S : kp_S) (post : kp_S → Prop) : Prop :=
  ((¬ (kp_I S 1805 a0) = x1 →
  wX9_refuse a0 S (fun T1 =>
  wX9_expect_b19 a0 x1   T1 post)) ∧ ((kp_I S 1805 a0) = x1 →
  wX9_advance a0 S (fun T2 =>
  wX9_expect_b19 a0 x1   T2 post)))
set_option maxHeartbeats 4000000 in
set_option maxRecDepth 100000 in
theorem c_X9_expect (l : Launch) (D : va_G) (cy : Nat → ClassId) (ad : (Nat → Nat) × (Nat → Nat)) (S : kp_S) (a0 : Nat) (x1 : Int32) (post : kp_S → Prop) (hS : kp_ok S) (f_a0 : kp_is S a0 9) (hw : wX9_expect a0 x1 S post) : kp_M l yX9_expect cX9_expect 2 none { frames := 6, cells := 0, slots := 0, locals := 134 } D cy ad S [.ref a0, .int x1] 0 0 (fun A => kp_Qv D cy A S post) := by
  refine kp_start (own := RX9) (by decide) rfl (Nat.le_of_ble_eq_true rfl) hS ?_
  intro p e s m below meth c A ls X hr hlocks hname h hl
  have hle : kp_le S S := kp_le.rf
  have hl : lv_has ls 2 [(0, .ref a0), (1, .int x1)] := hl
  have j19 : ∀  (Sn : kp_S) (H : Heap) (locs : List Loc) (ls : Array Slot), lv_has ls 2 [] → kp_H D cy A Sn s.heap H locs → kp_le S Sn → kp_is Sn a0 9 → wX9_expect_b19 a0 x1   Sn post → W p l e { frames := 6, cells := 0, slots := 0, locals := 134 } s m ([.ref a0, .int x1] : List Value).toArray below meth c H locs 0 0 (MQ below (kp_Qv D cy A S post) ([.ref a0, .int x1] : List Value).toArray s 0 0 A) (F0 m 19 ls []) := by
    intro  Sn H locs ls hl h hle f_a0 hw
    unfold wX9_expect_b19 at hw
    exact kp_retv X hr hlocks h hle hw dX9_expect_19
  unfold wX9_expect at hw
  have h : kp_H D cy A S s.heap s.heap [] := h
  revert h
  intro h
  refine lv_aload_n X.1 X.2.1 dX9_expect_0 rfl (lv_at hl 0 rfl) ?_
  refine kp_get X h f_a0 fp_9_53.l (v := .int (kp_I S 1805 a0)) rfl dX9_expect_1 ?_
  refine lv_iload_n X.1 X.2.1 dX9_expect_4 rfl (lv_at hl 1 rfl) ?_
  refine lv_icmp_ne (tgt := 15) X.1 X.2.1 dX9_expect_5 (by decide) (fun c3 => ?_) (fun c3 => ?_)
  · have hw := hw.1 c3
    refine lv_aload_n X.1 X.2.1 dX9_expect_15 rfl (lv_at hl 0 rfl) ?_
    refine kp_callv X h (kp_runV (rm := { frames := 1, cells := 0, slots := 0, locals := 21 }) (mc := 0) (ms := 0) (rest := []) (Qc := fun A => kp_Qv D cy A S _) X h (c_X9_refuse l D cy ad S a0 _ h.2.2.2 f_a0 hw) f_a0 cv_9_101 ⟨by decide, by decide, rfl, rfl, by decide, by decide⟩ rfl hl.1 rfl (Nat.le_of_ble_eq_true rfl) dX9_expect_16) (fun T1 hw l_T1 H locs h => ?_)
    have f_a0 := l_T1.is f_a0
    have hle := hle.tr l_T1
    exact j19  T1 _ _ ls (lv_sub hl [] rfl) h hle f_a0 hw
  · have hw := hw.2 c3
    refine lv_aload_n X.1 X.2.1 dX9_expect_8 rfl (lv_at hl 0 rfl) ?_
    refine kp_callv X h (kp_runV (rm := { frames := 5, cells := 0, slots := 0, locals := 113 }) (mc := 0) (ms := 0) (rest := []) (Qc := fun A => kp_Qv D cy A S _) X h (c_X9_advance l D cy ad S a0 _ h.2.2.2 f_a0 hw) f_a0 cv_9_56 ⟨by decide, by decide, rfl, rfl, by decide, by decide⟩ rfl hl.1 rfl (Nat.le_of_ble_eq_true rfl) dX9_expect_9) (fun T2 hw l_T2 H locs h => ?_)
    have f_a0 := l_T2.is f_a0
    have hle := hle.tr l_T2
    refine lv_goto (tgt := 19) X.1 X.2.1 dX9_expect_12 (by decide) ?_
    exact j19  T2 _ _ ls (lv_sub hl [] rfl) h hle f_a0 hw
theorem dX9_expectNest_0 : decode cX9_expectNest 0 = .ok (.aload_n 0, 1) := by decide +kernel
theorem dX9_expectNest_1 : decode cX9_expectNest 1 = .ok (.getfield 53, 3) := by decide +kernel
theorem dX9_expectNest_4 : decode cX9_expectNest 4 = .ok (.iload_n 1, 1) := by decide +kernel
theorem dX9_expectNest_5 : decode cX9_expectNest 5 = .ok (.if_icmp .eq 10, 3) := by decide +kernel
theorem dX9_expectNest_8 : decode cX9_expectNest 8 = .ok (.aload_n 0, 1) := by decide +kernel
theorem dX9_expectNest_9 : decode cX9_expectNest 9 = .ok (.invokevirtual 101, 3) := by decide +kernel
theorem dX9_expectNest_12 : decode cX9_expectNest 12 = .ok (.goto 34, 3) := by decide +kernel
theorem dX9_expectNest_15 : decode cX9_expectNest 15 = .ok (.aload_n 0, 1) := by decide +kernel
theorem dX9_expectNest_16 : decode cX9_expectNest 16 = .ok (.getfield 44, 3) := by decide +kernel
theorem dX9_expectNest_19 : decode cX9_expectNest 19 = .ok (.bipush 14, 2) := by decide +kernel
theorem dX9_expectNest_21 : decode cX9_expectNest 21 = .ok (.if_icmp .lt 11, 3) := by decide +kernel
theorem dX9_expectNest_24 : decode cX9_expectNest 24 = .ok (.aload_n 0, 1) := by decide +kernel
theorem dX9_expectNest_25 : decode cX9_expectNest 25 = .ok (.iconst 3, 1) := by decide +kernel
theorem dX9_expectNest_26 : decode cX9_expectNest 26 = .ok (.invokevirtual 98, 3) := by decide +kernel
theorem dX9_expectNest_29 : decode cX9_expectNest 29 = .ok (.goto 17, 3) := by decide +kernel
theorem dX9_expectNest_32 : decode cX9_expectNest 32 = .ok (.aload_n 0, 1) := by decide +kernel
theorem dX9_expectNest_33 : decode cX9_expectNest 33 = .ok (.dup, 1) := by decide +kernel
theorem dX9_expectNest_34 : decode cX9_expectNest 34 = .ok (.getfield 44, 3) := by decide +kernel
theorem dX9_expectNest_37 : decode cX9_expectNest 37 = .ok (.iconst 1, 1) := by decide +kernel
theorem dX9_expectNest_38 : decode cX9_expectNest 38 = .ok (.iadd, 1) := by decide +kernel
theorem dX9_expectNest_39 : decode cX9_expectNest 39 = .ok (.putfield 44, 3) := by decide +kernel
theorem dX9_expectNest_42 : decode cX9_expectNest 42 = .ok (.aload_n 0, 1) := by decide +kernel
theorem dX9_expectNest_43 : decode cX9_expectNest 43 = .ok (.invokevirtual 56, 3) := by decide +kernel
theorem dX9_expectNest_46 : decode cX9_expectNest 46 = .ok (.return_, 1) := by decide +kernel
def wX9_expectNest_b46 (a0 : Nat) (x1 : Int32)  (Sn : kp_S) (post : kp_S → Prop) : Prop :=
  post Sn
def wX9_expectNest (a0 : Nat) (x1 : Int32) (S : kp_S) (post : kp_S → Prop) : Prop :=
  (((kp_I S 1805 a0) = x1 →
  (((kp_I S 1804 a0) < 14 →
  ∀ T1 : kp_S, T1 = kp_sI S 1804 a0 ((kp_I S 1804 a0) + 1) →
  wX9_advance a0 T1 (fun T2 =>
  wX9_expectNest_b46 a0 x1   T2 post)) ∧ (¬ (kp_I S 1804 a0) < 14 →
  wX9_stopWith a0 3 S (fun T3 =>
  wX9_expectNest_b46 a0 x1   T3 post)))) ∧ (¬ (kp_I S 1805 a0) = x1 →
  wX9_refuse a0 S (fun T5 =>
  wX9_expectNest_b46 a0 x1   T5 post)))
set_option maxHeartbeats 4000000 in
set_option maxRecDepth 100000 in
theorem c_X9_expectNest (l : Launch) (D : va_G) (cy : Nat → ClassId) (ad : (Nat → Nat) × (Nat → Nat)) (S : kp_S) (a0 : Nat) (x1 : Int32) (post : kp_S → Prop) (hS : kp_ok S) (f_a0 : kp_is S a0 9) (hw : wX9_expectNest a0 x1 S post) : kp_M l yX9_expectNest cX9_expectNest 2 none { frames := 6, cells := 0, slots := 0, locals := 134 } D cy ad S [.ref a0, .int x1] 0 0 (fun A => kp_Qv D cy A S post) := by
  refine kp_start (own := RX9) (by decide) rfl (Nat.le_of_ble_eq_true rfl) hS ?_
  intro p e s m below meth c A ls X hr hlocks hname h hl
  have hle : kp_le S S := kp_le.rf
  have hl : lv_has ls 2 [(0, .ref a0), (1, .int x1)] := hl
  have j46 : ∀  (Sn : kp_S) (H : Heap) (locs : List Loc) (ls : Array Slot), lv_has ls 2 [] → kp_H D cy A Sn s.heap H locs → kp_le S Sn → kp_is Sn a0 9 → wX9_expectNest_b46 a0 x1   Sn post → W p l e { frames := 6, cells := 0, slots := 0, locals := 134 } s m ([.ref a0, .int x1] : List Value).toArray below meth c H locs 0 0 (MQ below (kp_Qv D cy A S post) ([.ref a0, .int x1] : List Value).toArray s 0 0 A) (F0 m 46 ls []) := by
    intro  Sn H locs ls hl h hle f_a0 hw
    unfold wX9_expectNest_b46 at hw
    exact kp_retv X hr hlocks h hle hw dX9_expectNest_46
  unfold wX9_expectNest at hw
  have h : kp_H D cy A S s.heap s.heap [] := h
  revert h
  intro h
  refine lv_aload_n X.1 X.2.1 dX9_expectNest_0 rfl (lv_at hl 0 rfl) ?_
  refine kp_get X h f_a0 fp_9_53.l (v := .int (kp_I S 1805 a0)) rfl dX9_expectNest_1 ?_
  refine lv_iload_n X.1 X.2.1 dX9_expectNest_4 rfl (lv_at hl 1 rfl) ?_
  refine lv_icmp_eq (tgt := 15) X.1 X.2.1 dX9_expectNest_5 (by decide) (fun c6 => ?_) (fun c6 => ?_)
  · have hw := hw.1 c6
    refine lv_aload_n X.1 X.2.1 dX9_expectNest_15 rfl (lv_at hl 0 rfl) ?_
    refine kp_get X h f_a0 fp_9_44.l (v := .int (kp_I S 1804 a0)) rfl dX9_expectNest_16 ?_
    refine lv_bipush (v := 14) X.1 X.2.1 dX9_expectNest_19 (by decide) ?_
    refine lv_icmp_lt (tgt := 32) X.1 X.2.1 dX9_expectNest_21 (by decide) (fun c4 => ?_) (fun c4 => ?_)
    · have hw := hw.1 c4
      refine lv_aload_n X.1 X.2.1 dX9_expectNest_32 rfl (lv_at hl 0 rfl) ?_
      refine lv_dup X.1 X.2.1 dX9_expectNest_33 rfl ?_
      refine kp_get X h f_a0 fp_9_44.l (v := .int (kp_I S 1804 a0)) rfl dX9_expectNest_34 ?_
      refine lv_iconst (v := 1) X.1 X.2.1 dX9_expectNest_37 (by decide) ?_
      refine lv_iadd X.1 X.2.1 dX9_expectNest_38 ?_
      refine kp_putI X h f_a0 fp_9_44 rfl ⟨rfl, rfl⟩ dX9_expectNest_39 (fun T1 e_T1 l_T1 H locs h => ?_)
      have hw := hw T1 e_T1
      have f_a0 := l_T1.is f_a0
      have hle := hle.tr l_T1
      refine lv_aload_n X.1 X.2.1 dX9_expectNest_42 rfl (lv_at hl 0 rfl) ?_
      refine kp_callv X h (kp_runV (rm := { frames := 5, cells := 0, slots := 0, locals := 113 }) (mc := 0) (ms := 0) (rest := []) (Qc := fun A => kp_Qv D cy A T1 _) X h (c_X9_advance l D cy ad T1 a0 _ h.2.2.2 f_a0 hw) f_a0 cv_9_56 ⟨by decide, by decide, rfl, rfl, by decide, by decide⟩ rfl hl.1 rfl (Nat.le_of_ble_eq_true rfl) dX9_expectNest_43) (fun T2 hw l_T2 H locs h => ?_)
      have f_a0 := l_T2.is f_a0
      have hle := hle.tr l_T2
      exact j46  T2 _ _ ls (lv_sub hl [] rfl) h hle f_a0 hw
    · have hw := hw.2 c4
      refine lv_aload_n X.1 X.2.1 dX9_expectNest_24 rfl (lv_at hl 0 rfl) ?_
      refine lv_iconst (v := 3) X.1 X.2.1 dX9_expectNest_25 (by decide) ?_
      refine kp_callv X h (kp_runV (rm := { frames := 0, cells := 0, slots := 0, locals := 0 }) (mc := 0) (ms := 0) (rest := []) (Qc := fun A => kp_Qv D cy A S _) X h (c_X9_stopWith l D cy ad S a0 3 _ h.2.2.2 f_a0 hw) f_a0 cv_9_98 ⟨by decide, by decide, rfl, rfl, by decide, by decide⟩ rfl hl.1 rfl (Nat.le_of_ble_eq_true rfl) dX9_expectNest_26) (fun T3 hw l_T3 H locs h => ?_)
      have f_a0 := l_T3.is f_a0
      have hle := hle.tr l_T3
      refine lv_goto (tgt := 46) X.1 X.2.1 dX9_expectNest_29 (by decide) ?_
      exact j46  T3 _ _ ls (lv_sub hl [] rfl) h hle f_a0 hw
  · have hw := hw.2 c6
    refine lv_aload_n X.1 X.2.1 dX9_expectNest_8 rfl (lv_at hl 0 rfl) ?_
    refine kp_callv X h (kp_runV (rm := { frames := 1, cells := 0, slots := 0, locals := 21 }) (mc := 0) (ms := 0) (rest := []) (Qc := fun A => kp_Qv D cy A S _) X h (c_X9_refuse l D cy ad S a0 _ h.2.2.2 f_a0 hw) f_a0 cv_9_101 ⟨by decide, by decide, rfl, rfl, by decide, by decide⟩ rfl hl.1 rfl (Nat.le_of_ble_eq_true rfl) dX9_expectNest_9) (fun T5 hw l_T5 H locs h => ?_)
    have f_a0 := l_T5.is f_a0
    have hle := hle.tr l_T5
    refine lv_goto (tgt := 46) X.1 X.2.1 dX9_expectNest_12 (by decide) ?_
    exact j46  T5 _ _ ls (lv_sub hl [] rfl) h hle f_a0 hw
theorem dX9_endNest_0 : decode cX9_endNest 0 = .ok (.aload_n 0, 1) := by decide +kernel
theorem dX9_endNest_1 : decode cX9_endNest 1 = .ok (.dup, 1) := by decide +kernel
theorem dX9_endNest_2 : decode cX9_endNest 2 = .ok (.getfield 44, 3) := by decide +kernel
theorem dX9_endNest_5 : decode cX9_endNest 5 = .ok (.iconst 1, 1) := by decide +kernel
theorem dX9_endNest_6 : decode cX9_endNest 6 = .ok (.isub, 1) := by decide +kernel
theorem dX9_endNest_7 : decode cX9_endNest 7 = .ok (.putfield 44, 3) := by decide +kernel
theorem dX9_endNest_10 : decode cX9_endNest 10 = .ok (.return_, 1) := by decide +kernel
def wX9_endNest (a0 : Nat) (S : kp_S) (post : kp_S → Prop) : Prop :=
  ∀ T1 : kp_S, T1 = kp_sI S 1804 a0 ((kp_I S 1804 a0) - 1) →
  post T1
set_option maxHeartbeats 4000000 in
set_option maxRecDepth 100000 in
theorem c_X9_endNest (l : Launch) (D : va_G) (cy : Nat → ClassId) (ad : (Nat → Nat) × (Nat → Nat)) (S : kp_S) (a0 : Nat) (post : kp_S → Prop) (hS : kp_ok S) (f_a0 : kp_is S a0 9) (hw : wX9_endNest a0 S post) : kp_M l yX9_endNest cX9_endNest 1 none { frames := 0, cells := 0, slots := 0, locals := 0 } D cy ad S [.ref a0] 0 0 (fun A => kp_Qv D cy A S post) := by
  refine kp_start (own := RX9) (by decide) rfl (Nat.le_of_ble_eq_true rfl) hS ?_
  intro p e s m below meth c A ls X hr hlocks hname h hl
  have hle : kp_le S S := kp_le.rf
  have hl : lv_has ls 1 [(0, .ref a0)] := hl
  unfold wX9_endNest at hw
  have h : kp_H D cy A S s.heap s.heap [] := h
  revert h
  intro h
  refine lv_aload_n X.1 X.2.1 dX9_endNest_0 rfl (lv_at hl 0 rfl) ?_
  refine lv_dup X.1 X.2.1 dX9_endNest_1 rfl ?_
  refine kp_get X h f_a0 fp_9_44.l (v := .int (kp_I S 1804 a0)) rfl dX9_endNest_2 ?_
  refine lv_iconst (v := 1) X.1 X.2.1 dX9_endNest_5 (by decide) ?_
  refine lv_isub X.1 X.2.1 dX9_endNest_6 ?_
  refine kp_putI X h f_a0 fp_9_44 rfl ⟨rfl, rfl⟩ dX9_endNest_7 (fun T1 e_T1 l_T1 H locs h => ?_)
  have hw := hw T1 e_T1
  have f_a0 := l_T1.is f_a0
  have hle := hle.tr l_T1
  exact kp_retv X hr hlocks h hle hw dX9_endNest_10
