set_option maxRecDepth 100000 in
theorem cl_3 : kp_CL 3 RX3 TX3 5 := ⟨rfl, by decide, rfl, by decide +kernel, tyX3_ok, nmX3⟩
theorem ff_3_9 : kp_FF RX3 9 3 0 := ⟨RX3, TX3, 5, cl_3, by decide, kp_mem 519 (by decide +kernel) (by decide +kernel), rfl, rfl⟩
theorem fp_3_18 : kp_FP RX3 18 3 2 := ⟨RX3, TX3, 5, cl_3, by decide, kp_mem 521 (by decide +kernel) (by decide +kernel), rfl⟩
theorem fp_3_22 : kp_FP RX3 22 3 3 := ⟨RX3, TX3, 5, cl_3, by decide, kp_mem 522 (by decide +kernel) (by decide +kernel), rfl⟩
theorem fp_3_25 : kp_FP RX3 25 3 4 := ⟨RX3, TX3, 5, cl_3, by decide, kp_mem 524 (by decide +kernel) (by decide +kernel), rfl⟩
theorem ff_3_15 : kp_FF RX3 15 3 1 := ⟨RX3, TX3, 5, cl_3, by decide, kp_mem 520 (by decide +kernel) (by decide +kernel), rfl, rfl⟩
theorem cv_3_28 : kp_CV RX3 28 yX3_hasLater cX3_hasLater 1 (some .boolean) 0 3 := ⟨⟨kp_mem 1614 (by decide +kernel) (by decide +kernel), kp_mem 218 (by decide +kernel) (by decide +kernel), by decide +kernel⟩, kp_mem 1619 (by decide +kernel) (by decide +kernel), kp_mem 1612 (by decide +kernel) (by decide +kernel), kp_mem 1613 (by decide +kernel) (by decide +kernel), by decide, TX3, 5, rfl⟩
set_option maxRecDepth 100000 in
theorem cl_10 : kp_CL 10 RX10 TX10 4 := ⟨rfl, by decide, rfl, by decide +kernel, tyX10_ok, nmX10⟩
theorem fp_10_7 : kp_FP RX10 7 10 0 := ⟨RX10, TX10, 4, cl_10, by decide, kp_mem 497 (by decide +kernel) (by decide +kernel), rfl⟩
theorem fp_10_13 : kp_FP RX10 13 10 1 := ⟨RX10, TX10, 4, cl_10, by decide, kp_mem 499 (by decide +kernel) (by decide +kernel), rfl⟩
theorem fp_10_16 : kp_FP RX10 16 10 2 := ⟨RX10, TX10, 4, cl_10, by decide, kp_mem 501 (by decide +kernel) (by decide +kernel), rfl⟩
theorem fp_10_19 : kp_FP RX10 19 10 3 := ⟨RX10, TX10, 4, cl_10, by decide, kp_mem 503 (by decide +kernel) (by decide +kernel), rfl⟩
set_option maxRecDepth 100000 in
theorem cl_5 : kp_CL 5 RX5 TX5 13 := ⟨rfl, by decide, rfl, by decide +kernel, tyX5_ok, nmX5⟩
theorem fp_5_31 : kp_FP RX5 31 5 2 := ⟨RX5, TX5, 13, cl_5, by decide, kp_mem 371 (by decide +kernel) (by decide +kernel), rfl⟩
theorem fp_5_35 : kp_FP RX5 35 5 11 := ⟨RX5, TX5, 13, cl_5, by decide, kp_mem 380 (by decide +kernel) (by decide +kernel), rfl⟩
theorem fp_5_38 : kp_FP RX5 38 5 12 := ⟨RX5, TX5, 13, cl_5, by decide, kp_mem 382 (by decide +kernel) (by decide +kernel), rfl⟩
theorem ff_5_11 : kp_FF RX5 11 5 0 := ⟨RX5, TX5, 13, cl_5, by decide, kp_mem 369 (by decide +kernel) (by decide +kernel), rfl, rfl⟩
theorem ff_5_15 : kp_FF RX5 15 5 1 := ⟨RX5, TX5, 13, cl_5, by decide, kp_mem 370 (by decide +kernel) (by decide +kernel), rfl, rfl⟩
theorem cv_5_57 : kp_CV RX5 57 yX5_blame cX5_blame 4 none 2 5 := ⟨⟨kp_mem 817 (by decide +kernel) (by decide +kernel), kp_mem 212 (by decide +kernel) (by decide +kernel), by decide +kernel⟩, kp_mem 814 (by decide +kernel) (by decide +kernel), kp_mem 816 (by decide +kernel) (by decide +kernel), kp_mem 11 (by decide +kernel) (by decide +kernel), by decide, TX5, 13, rfl⟩
theorem fp_5_41 : kp_FP RX5 41 5 5 := ⟨RX5, TX5, 13, cl_5, by decide, kp_mem 374 (by decide +kernel) (by decide +kernel), rfl⟩
theorem fp_5_44 : kp_FP RX5 44 5 6 := ⟨RX5, TX5, 13, cl_5, by decide, kp_mem 375 (by decide +kernel) (by decide +kernel), rfl⟩
theorem fp_5_47 : kp_FP RX5 47 5 9 := ⟨RX5, TX5, 13, cl_5, by decide, kp_mem 378 (by decide +kernel) (by decide +kernel), rfl⟩
theorem fp_5_50 : kp_FP RX5 50 5 10 := ⟨RX5, TX5, 13, cl_5, by decide, kp_mem 379 (by decide +kernel) (by decide +kernel), rfl⟩
theorem cv_5_53 : kp_CV RX5 53 yX5_dutyNamed cX5_dutyNamed 4 (some .int) 1 5 := ⟨⟨kp_mem 813 (by decide +kernel) (by decide +kernel), kp_mem 212 (by decide +kernel) (by decide +kernel), by decide +kernel⟩, kp_mem 810 (by decide +kernel) (by decide +kernel), kp_mem 812 (by decide +kernel) (by decide +kernel), kp_mem 10 (by decide +kernel) (by decide +kernel), by decide, TX5, 13, rfl⟩
theorem ff_5_19 : kp_FF RX5 19 5 3 := ⟨RX5, TX5, 13, cl_5, by decide, kp_mem 372 (by decide +kernel) (by decide +kernel), rfl, rfl⟩
theorem ff_5_22 : kp_FF RX5 22 5 4 := ⟨RX5, TX5, 13, cl_5, by decide, kp_mem 373 (by decide +kernel) (by decide +kernel), rfl, rfl⟩
theorem cv_5_65 : kp_CV RX5 65 yX5_findVariable cX5_findVariable 4 (some .int) 1 5 := ⟨⟨kp_mem 841 (by decide +kernel) (by decide +kernel), kp_mem 212 (by decide +kernel) (by decide +kernel), by decide +kernel⟩, kp_mem 838 (by decide +kernel) (by decide +kernel), kp_mem 840 (by decide +kernel) (by decide +kernel), kp_mem 14 (by decide +kernel) (by decide +kernel), by decide, TX5, 13, rfl⟩
theorem cv_5_61 : kp_CV RX5 61 yX5_tellVariable cX5_tellVariable 5 (some .int) 2 5 := ⟨⟨kp_mem 837 (by decide +kernel) (by decide +kernel), kp_mem 212 (by decide +kernel) (by decide +kernel), by decide +kernel⟩, kp_mem 834 (by decide +kernel) (by decide +kernel), kp_mem 835 (by decide +kernel) (by decide +kernel), kp_mem 836 (by decide +kernel) (by decide +kernel), by decide, TX5, 13, rfl⟩
theorem ff_5_25 : kp_FF RX5 25 5 7 := ⟨RX5, TX5, 13, cl_5, by decide, kp_mem 376 (by decide +kernel) (by decide +kernel), rfl, rfl⟩
theorem mm_5_71 : Cond.methodLink RX5 71 Lib.Math.min.name ∈ kp_tb := kp_mem 985 (by decide +kernel) (by decide +kernel)
theorem cv_5_68 : kp_CV RX5 68 yX5_findLoop cX5_findLoop 4 (some .int) 1 5 := ⟨⟨kp_mem 984 (by decide +kernel) (by decide +kernel), kp_mem 212 (by decide +kernel) (by decide +kernel), by decide +kernel⟩, kp_mem 981 (by decide +kernel) (by decide +kernel), kp_mem 983 (by decide +kernel) (by decide +kernel), kp_mem 32 (by decide +kernel) (by decide +kernel), by decide, TX5, 13, rfl⟩
theorem ff_5_28 : kp_FF RX5 28 5 8 := ⟨RX5, TX5, 13, cl_5, by decide, kp_mem 377 (by decide +kernel) (by decide +kernel), rfl, rfl⟩
theorem dX3_clear_0 : decode cX3_clear 0 = .ok (.iconst 0, 1) := by decide +kernel
theorem dX3_clear_1 : decode cX3_clear 1 = .ok (.istore_n 1, 1) := by decide +kernel
theorem dX3_clear_2 : decode cX3_clear 2 = .ok (.iload_n 1, 1) := by decide +kernel
theorem dX3_clear_3 : decode cX3_clear 3 = .ok (.aload_n 0, 1) := by decide +kernel
theorem dX3_clear_4 : decode cX3_clear 4 = .ok (.getfield 9, 3) := by decide +kernel
theorem dX3_clear_7 : decode cX3_clear 7 = .ok (.arraylength, 1) := by decide +kernel
theorem dX3_clear_8 : decode cX3_clear 8 = .ok (.if_icmp .ge 16, 3) := by decide +kernel
theorem dX3_clear_11 : decode cX3_clear 11 = .ok (.aload_n 0, 1) := by decide +kernel
theorem dX3_clear_12 : decode cX3_clear 12 = .ok (.getfield 9, 3) := by decide +kernel
theorem dX3_clear_15 : decode cX3_clear 15 = .ok (.iload_n 1, 1) := by decide +kernel
theorem dX3_clear_16 : decode cX3_clear 16 = .ok (.iconst 0, 1) := by decide +kernel
theorem dX3_clear_17 : decode cX3_clear 17 = .ok (.iastore, 1) := by decide +kernel
theorem dX3_clear_18 : decode cX3_clear 18 = .ok (.iinc 1 1, 3) := by decide +kernel
theorem dX3_clear_21 : decode cX3_clear 21 = .ok (.goto (-19), 3) := by decide +kernel
theorem dX3_clear_24 : decode cX3_clear 24 = .ok (.aload_n 0, 1) := by decide +kernel
theorem dX3_clear_25 : decode cX3_clear 25 = .ok (.iconst 0, 1) := by decide +kernel
theorem dX3_clear_26 : decode cX3_clear 26 = .ok (.putfield 18, 3) := by decide +kernel
theorem dX3_clear_29 : decode cX3_clear 29 = .ok (.aload_n 0, 1) := by decide +kernel
theorem dX3_clear_30 : decode cX3_clear 30 = .ok (.iconst 0, 1) := by decide +kernel
theorem dX3_clear_31 : decode cX3_clear 31 = .ok (.putfield 22, 3) := by decide +kernel
theorem dX3_clear_34 : decode cX3_clear 34 = .ok (.aload_n 0, 1) := by decide +kernel
theorem dX3_clear_35 : decode cX3_clear 35 = .ok (.iconst 0, 1) := by decide +kernel
theorem dX3_clear_36 : decode cX3_clear 36 = .ok (.putfield 25, 3) := by decide +kernel
theorem dX3_clear_39 : decode cX3_clear 39 = .ok (.return_, 1) := by decide +kernel
def wX3_clear_L2 (a0 : Nat)  (post : kp_S → Prop) : Nat → Int32 → kp_S → Prop
  | 0, _, _ => False
  | n + 1, xn1, Sn =>
  ∃ b1001 : Nat, kp_R Sn 600 a0 = some b1001 ∧
  (((nI (kp_N Sn b1001)) ≤ xn1 →
  ∀ T1002 : kp_S, T1002 = kp_sI Sn 602 a0 0 →
  ∀ T1003 : kp_S, T1003 = kp_sI T1002 603 a0 0 →
  ∀ T1004 : kp_S, T1004 = kp_sI T1003 604 a0 0 →
  post T1004) ∧ (¬ (nI (kp_N Sn b1001)) ≤ xn1 →
  vp_in xn1 (kp_N Sn b1001) ∧ ∀ T1005 : kp_S, T1005 = kp_sA Sn b1001 (upd (kp_A Sn b1001) (xn1.toNatClampNeg) 0) →
  ∀ y1006 : Int32, y1006 = xn1 + 1 →
  wX3_clear_L2 a0  post n y1006 T1005))
def wX3_clear (a0 : Nat) (S : kp_S) (post : kp_S → Prop) : Prop :=
  ∃ n0 : Nat, wX3_clear_L2 a0  post n0 0 S
set_option maxHeartbeats 4000000 in
set_option maxRecDepth 100000 in
theorem c_X3_clear (l : Launch) (D : va_G) (cy : Nat → ClassId) (ad : (Nat → Nat) × (Nat → Nat)) (S : kp_S) (a0 : Nat) (post : kp_S → Prop) (hS : kp_ok S) (f_a0 : kp_is S a0 3) (hw : wX3_clear a0 S post) : kp_M l yX3_clear cX3_clear 2 none { frames := 0, cells := 0, slots := 0, locals := 0 } D cy ad S [.ref a0] 0 0 (fun A => kp_Qv D cy A S post) := by
  refine kp_start (own := RX3) (by decide) rfl (Nat.le_of_ble_eq_true rfl) hS ?_
  intro p e s m below meth c A ls X hr hlocks hname h hl
  have hle : kp_le S S := kp_le.rf
  have hl : lv_has ls 2 [(0, .ref a0)] := hl
  have L2 : ∀ n2 : Nat, ∀ (xn1 : Int32) (Sn : kp_S) (H : Heap) (locs : List Loc) (ls : Array Slot), lv_has ls 2 [(0, .ref a0), (1, .int xn1)] → kp_H D cy A Sn s.heap H locs → kp_le S Sn → kp_is Sn a0 3 → wX3_clear_L2 a0  post n2 xn1 Sn → W p l e { frames := 0, cells := 0, slots := 0, locals := 0 } s m ([.ref a0] : List Value).toArray below meth c H locs 0 0 (MQ below (kp_Qv D cy A S post) ([.ref a0] : List Value).toArray s 0 0 A) (F0 m 2 ls []) := by
    intro n2
    induction n2 with
    | zero => intro xn1 Sn H locs ls hl h hle f_a0 hw; exact hw.elim
    | succ n2 ih2 =>
      intro xn1 Sn H locs ls hl h hle f_a0 hw
      unfold wX3_clear_L2 at hw
      refine lv_iload_n X.1 X.2.1 dX3_clear_2 rfl (lv_at hl 1 rfl) ?_
      refine lv_aload_n X.1 X.2.1 dX3_clear_3 rfl (lv_at hl 0 rfl) ?_
      obtain ⟨b1001, e_b1001, hw⟩ := hw
      have f_b1001 := h.2.2.2.rf (c := 3) (k := 0) f_a0 (by decide) (by decide) e_b1001 (t := 14) rfl
      refine kp_get X h f_a0 ff_3_9.l (v := .ref b1001) (congrArg va_rf e_b1001) dX3_clear_4 ?_
      refine kp_alen X h f_b1001 (by decide) dX3_clear_7 ?_
      refine lv_icmp_ge (tgt := 24) X.1 X.2.1 dX3_clear_8 (by decide) (fun c1007 => ?_) (fun c1007 => ?_)
      · have hw := hw.1 c1007
        refine lv_aload_n X.1 X.2.1 dX3_clear_24 rfl (lv_at hl 0 rfl) ?_
        refine lv_iconst (v := 0) X.1 X.2.1 dX3_clear_25 (by decide) ?_
        refine kp_putI X h f_a0 fp_3_18 rfl ⟨rfl, rfl⟩ dX3_clear_26 (fun T1002 e_T1002 l_T1002 H locs h => ?_)
        have hw := hw T1002 e_T1002
        have f_a0 := l_T1002.is f_a0
        have f_b1001 := l_T1002.is f_b1001
        have hle := hle.tr l_T1002
        have e_b1001 : kp_R T1002 600 a0 = some b1001 := by rw [e_T1002]; exact e_b1001
        refine lv_aload_n X.1 X.2.1 dX3_clear_29 rfl (lv_at hl 0 rfl) ?_
        refine lv_iconst (v := 0) X.1 X.2.1 dX3_clear_30 (by decide) ?_
        refine kp_putI X h f_a0 fp_3_22 rfl ⟨rfl, rfl⟩ dX3_clear_31 (fun T1003 e_T1003 l_T1003 H locs h => ?_)
        have hw := hw T1003 e_T1003
        have f_a0 := l_T1003.is f_a0
        have f_b1001 := l_T1003.is f_b1001
        have hle := hle.tr l_T1003
        have e_b1001 : kp_R T1003 600 a0 = some b1001 := by rw [e_T1003]; exact e_b1001
        refine lv_aload_n X.1 X.2.1 dX3_clear_34 rfl (lv_at hl 0 rfl) ?_
        refine lv_iconst (v := 0) X.1 X.2.1 dX3_clear_35 (by decide) ?_
        refine kp_putI X h f_a0 fp_3_25 rfl ⟨rfl, rfl⟩ dX3_clear_36 (fun T1004 e_T1004 l_T1004 H locs h => ?_)
        have hw := hw T1004 e_T1004
        have f_a0 := l_T1004.is f_a0
        have f_b1001 := l_T1004.is f_b1001
        have hle := hle.tr l_T1004
        have e_b1001 : kp_R T1004 600 a0 = some b1001 := by rw [e_T1004]; exact e_b1001
        exact kp_retv X hr hlocks h hle hw dX3_clear_39
      · have hw := hw.2 c1007
        refine lv_aload_n X.1 X.2.1 dX3_clear_11 rfl (lv_at hl 0 rfl) ?_
        refine kp_get X h f_a0 ff_3_9.l (v := .ref b1001) (congrArg va_rf e_b1001) dX3_clear_12 ?_
        refine lv_iload_n X.1 X.2.1 dX3_clear_15 rfl (lv_at hl 1 rfl) ?_
        refine lv_iconst (v := 0) X.1 X.2.1 dX3_clear_16 (by decide) ?_
        obtain ⟨hi, hw⟩ := hw
        refine kp_iast X h f_b1001 hi dX3_clear_17 (fun T1005 e_T1005 l_T1005 H locs h => ?_)
        have hw := hw T1005 e_T1005
        have f_a0 := l_T1005.is f_a0
        have f_b1001 := l_T1005.is f_b1001
        have hle := hle.tr l_T1005
        have e_b1001 : kp_R T1005 600 a0 = some b1001 := by rw [e_T1005]; exact e_b1001
        obtain ⟨y1006, e_y1006⟩ : ∃ y : Int32, y = xn1 + 1 := ⟨_, rfl⟩
        have hw := hw y1006 e_y1006
        refine lv_iinc (v := y1006) (lv' := [(1, .int y1006), (0, .ref a0)]) X.1 X.2.1 dX3_clear_18 hl (k := 1) rfl (by rw [e_y1006]; rfl) (by decide) rfl (fun ls hl => ?_)
        refine lv_goto (tgt := 2) X.1 X.2.1 dX3_clear_21 (by decide) ?_
        exact ih2 y1006 T1005 H locs ls (lv_sub hl [1, 0] rfl) h hle f_a0 hw
  unfold wX3_clear at hw
  have h : kp_H D cy A S s.heap s.heap [] := h
  revert h
  intro h
  refine lv_iconst (v := 0) X.1 X.2.1 dX3_clear_0 (by decide) ?_
  refine lv_istore_n (lv' := [(1, .int 0), (0, .ref a0)]) X.1 X.2.1 dX3_clear_1 rfl hl (by decide) rfl (fun ls hl => ?_)
  obtain ⟨n0, hw⟩ := hw
  exact L2 n0 0 S _ _ ls (lv_sub hl [1, 0] rfl) h hle f_a0 hw
theorem dX3_get_0 : decode cX3_get 0 = .ok (.iload_n 1, 1) := by decide +kernel
theorem dX3_get_1 : decode cX3_get 1 = .ok (.ifCond .lt 21, 3) := by decide +kernel
theorem dX3_get_4 : decode cX3_get 4 = .ok (.iload_n 1, 1) := by decide +kernel
theorem dX3_get_5 : decode cX3_get 5 = .ok (.aload_n 0, 1) := by decide +kernel
theorem dX3_get_6 : decode cX3_get 6 = .ok (.getfield 9, 3) := by decide +kernel
theorem dX3_get_9 : decode cX3_get 9 = .ok (.arraylength, 1) := by decide +kernel
theorem dX3_get_10 : decode cX3_get 10 = .ok (.if_icmp .ge 12, 3) := by decide +kernel
theorem dX3_get_13 : decode cX3_get 13 = .ok (.aload_n 0, 1) := by decide +kernel
theorem dX3_get_14 : decode cX3_get 14 = .ok (.getfield 9, 3) := by decide +kernel
theorem dX3_get_17 : decode cX3_get 17 = .ok (.iload_n 1, 1) := by decide +kernel
theorem dX3_get_18 : decode cX3_get 18 = .ok (.iaload, 1) := by decide +kernel
theorem dX3_get_19 : decode cX3_get 19 = .ok (.goto 4, 3) := by decide +kernel
theorem dX3_get_22 : decode cX3_get 22 = .ok (.iconst 0, 1) := by decide +kernel
theorem dX3_get_23 : decode cX3_get 23 = .ok (.ireturn, 1) := by decide +kernel
def wX3_get_b23 (a0 : Nat) (x1 : Int32) (xt0 : Int32)  (Sn : kp_S) (post : Int32 → kp_S → Prop) : Prop :=
  post xt0 Sn
def wX3_get_b22 (a0 : Nat) (x1 : Int32)  (Sn : kp_S) (post : Int32 → kp_S → Prop) : Prop :=
  wX3_get_b23 a0 x1 0  Sn post
def wX3_get (a0 : Nat) (x1 : Int32) (S : kp_S) (post : Int32 → kp_S → Prop) : Prop :=
  ((x1 < 0 →
  wX3_get_b22 a0 x1   S post) ∧ (¬ x1 < 0 →
  ∃ b1 : Nat, kp_R S 600 a0 = some b1 ∧
  (((nI (kp_N S b1)) ≤ x1 →
  wX3_get_b22 a0 x1   S post) ∧ (¬ (nI (kp_N S b1)) ≤ x1 →
  vp_in x1 (kp_N S b1) ∧
  wX3_get_b23 a0 x1 (kp_A S b1 x1.toNatClampNeg)  S post))))
set_option maxHeartbeats 4000000 in
set_option maxRecDepth 100000 in
theorem c_X3_get (l : Launch) (D : va_G) (cy : Nat → ClassId) (ad : (Nat → Nat) × (Nat → Nat)) (S : kp_S) (a0 : Nat) (x1 : Int32) (post : Int32 → kp_S → Prop) (hS : kp_ok S) (f_a0 : kp_is S a0 3) (hw : wX3_get a0 x1 S post) : kp_M l yX3_get cX3_get 2 (some .int) { frames := 0, cells := 0, slots := 0, locals := 0 } D cy ad S [.ref a0, .int x1] 0 0 (fun A => kp_Qi D cy A S post) := by
  refine kp_start (own := RX3) (by decide) rfl (Nat.le_of_ble_eq_true rfl) hS ?_
  intro p e s m below meth c A ls X hr hlocks hname h hl
  have hle : kp_le S S := kp_le.rf
  have hl : lv_has ls 2 [(0, .ref a0), (1, .int x1)] := hl
  have j23 : ∀ (xt0 : Int32) (Sn : kp_S) (H : Heap) (locs : List Loc) (ls : Array Slot), lv_has ls 2 [] → kp_H D cy A Sn s.heap H locs → kp_le S Sn → kp_is Sn a0 3 → wX3_get_b23 a0 x1 xt0  Sn post → W p l e { frames := 0, cells := 0, slots := 0, locals := 0 } s m ([.ref a0, .int x1] : List Value).toArray below meth c H locs 0 0 (MQ below (kp_Qi D cy A S post) ([.ref a0, .int x1] : List Value).toArray s 0 0 A) (F0 m 23 ls [.int xt0]) := by
    intro xt0 Sn H locs ls hl h hle f_a0 hw
    unfold wX3_get_b23 at hw
    exact kp_reti X hr hlocks h hle rfl hw dX3_get_23
  have j22 : ∀  (Sn : kp_S) (H : Heap) (locs : List Loc) (ls : Array Slot), lv_has ls 2 [] → kp_H D cy A Sn s.heap H locs → kp_le S Sn → kp_is Sn a0 3 → wX3_get_b22 a0 x1   Sn post → W p l e { frames := 0, cells := 0, slots := 0, locals := 0 } s m ([.ref a0, .int x1] : List Value).toArray below meth c H locs 0 0 (MQ below (kp_Qi D cy A S post) ([.ref a0, .int x1] : List Value).toArray s 0 0 A) (F0 m 22 ls []) := by
    intro  Sn H locs ls hl h hle f_a0 hw
    unfold wX3_get_b22 at hw
    refine lv_iconst (v := 0) X.1 X.2.1 dX3_get_22 (by decide) ?_
    exact j23 0 Sn H locs ls (lv_sub hl [] rfl) h hle f_a0 hw
  unfold wX3_get at hw
  have h : kp_H D cy A S s.heap s.heap [] := h
  revert h
  intro h
  refine lv_iload_n X.1 X.2.1 dX3_get_0 rfl (lv_at hl 1 rfl) ?_
  refine lv_if_lt (tgt := 22) X.1 X.2.1 dX3_get_1 (by decide) (fun c3 => ?_) (fun c3 => ?_)
  · have hw := hw.1 c3
    exact j22  S _ _ ls (lv_sub hl [] rfl) h hle f_a0 hw
  · have hw := hw.2 c3
    refine lv_iload_n X.1 X.2.1 dX3_get_4 rfl (lv_at hl 1 rfl) ?_
    refine lv_aload_n X.1 X.2.1 dX3_get_5 rfl (lv_at hl 0 rfl) ?_
    obtain ⟨b1, e_b1, hw⟩ := hw
    have f_b1 := h.2.2.2.rf (c := 3) (k := 0) f_a0 (by decide) (by decide) e_b1 (t := 14) rfl
    refine kp_get X h f_a0 ff_3_9.l (v := .ref b1) (congrArg va_rf e_b1) dX3_get_6 ?_
    refine kp_alen X h f_b1 (by decide) dX3_get_9 ?_
    refine lv_icmp_ge (tgt := 22) X.1 X.2.1 dX3_get_10 (by decide) (fun c2 => ?_) (fun c2 => ?_)
    · have hw := hw.1 c2
      exact j22  S _ _ ls (lv_sub hl [] rfl) h hle f_a0 hw
    · have hw := hw.2 c2
      refine lv_aload_n X.1 X.2.1 dX3_get_13 rfl (lv_at hl 0 rfl) ?_
      refine kp_get X h f_a0 ff_3_9.l (v := .ref b1) (congrArg va_rf e_b1) dX3_get_14 ?_
      refine lv_iload_n X.1 X.2.1 dX3_get_17 rfl (lv_at hl 1 rfl) ?_
      obtain ⟨hi, hw⟩ := hw
      refine kp_iald X h f_b1 hi dX3_get_18 ?_
      refine lv_goto (tgt := 23) X.1 X.2.1 dX3_get_19 (by decide) ?_
      exact j23 (kp_A S b1 x1.toNatClampNeg) S _ _ ls (lv_sub hl [] rfl) h hle f_a0 hw
theorem dX3_set_0 : decode cX3_set 0 = .ok (.iload_n 1, 1) := by decide +kernel
theorem dX3_set_1 : decode cX3_set 1 = .ok (.ifCond .lt 19, 3) := by decide +kernel
theorem dX3_set_4 : decode cX3_set 4 = .ok (.iload_n 1, 1) := by decide +kernel
theorem dX3_set_5 : decode cX3_set 5 = .ok (.aload_n 0, 1) := by decide +kernel
theorem dX3_set_6 : decode cX3_set 6 = .ok (.getfield 9, 3) := by decide +kernel
theorem dX3_set_9 : decode cX3_set 9 = .ok (.arraylength, 1) := by decide +kernel
theorem dX3_set_10 : decode cX3_set 10 = .ok (.if_icmp .ge 10, 3) := by decide +kernel
theorem dX3_set_13 : decode cX3_set 13 = .ok (.aload_n 0, 1) := by decide +kernel
theorem dX3_set_14 : decode cX3_set 14 = .ok (.getfield 9, 3) := by decide +kernel
theorem dX3_set_17 : decode cX3_set 17 = .ok (.iload_n 1, 1) := by decide +kernel
theorem dX3_set_18 : decode cX3_set 18 = .ok (.iload_n 2, 1) := by decide +kernel
theorem dX3_set_19 : decode cX3_set 19 = .ok (.iastore, 1) := by decide +kernel
theorem dX3_set_20 : decode cX3_set 20 = .ok (.return_, 1) := by decide +kernel
def wX3_set_b20 (a0 : Nat) (x1 : Int32) (x2 : Int32)  (Sn : kp_S) (post : kp_S → Prop) : Prop :=
  post Sn
def wX3_set (a0 : Nat) (x1 : Int32) (x2 : Int32) (S : kp_S) (post : kp_S → Prop) : Prop :=
  ((x1 < 0 →
  wX3_set_b20 a0 x1 x2   S post) ∧ (¬ x1 < 0 →
  ∃ b1 : Nat, kp_R S 600 a0 = some b1 ∧
  (((nI (kp_N S b1)) ≤ x1 →
  wX3_set_b20 a0 x1 x2   S post) ∧ (¬ (nI (kp_N S b1)) ≤ x1 →
  vp_in x1 (kp_N S b1) ∧ ∀ T2 : kp_S, T2 = kp_sA S b1 (upd (kp_A S b1) (x1.toNatClampNeg) x2) →
  wX3_set_b20 a0 x1 x2   T2 post))))
set_option maxHeartbeats 4000000 in
set_option maxRecDepth 100000 in
theorem c_X3_set (l : Launch) (D : va_G) (cy : Nat → ClassId) (ad : (Nat → Nat) × (Nat → Nat)) (S : kp_S) (a0 : Nat) (x1 : Int32) (x2 : Int32) (post : kp_S → Prop) (hS : kp_ok S) (f_a0 : kp_is S a0 3) (hw : wX3_set a0 x1 x2 S post) : kp_M l yX3_set cX3_set 3 none { frames := 0, cells := 0, slots := 0, locals := 0 } D cy ad S [.ref a0, .int x1, .int x2] 0 0 (fun A => kp_Qv D cy A S post) := by
  refine kp_start (own := RX3) (by decide) rfl (Nat.le_of_ble_eq_true rfl) hS ?_
  intro p e s m below meth c A ls X hr hlocks hname h hl
  have hle : kp_le S S := kp_le.rf
  have hl : lv_has ls 3 [(0, .ref a0), (1, .int x1), (2, .int x2)] := hl
  have j20 : ∀  (Sn : kp_S) (H : Heap) (locs : List Loc) (ls : Array Slot), lv_has ls 3 [] → kp_H D cy A Sn s.heap H locs → kp_le S Sn → kp_is Sn a0 3 → wX3_set_b20 a0 x1 x2   Sn post → W p l e { frames := 0, cells := 0, slots := 0, locals := 0 } s m ([.ref a0, .int x1, .int x2] : List Value).toArray below meth c H locs 0 0 (MQ below (kp_Qv D cy A S post) ([.ref a0, .int x1, .int x2] : List Value).toArray s 0 0 A) (F0 m 20 ls []) := by
    intro  Sn H locs ls hl h hle f_a0 hw
    unfold wX3_set_b20 at hw
    exact kp_retv X hr hlocks h hle hw dX3_set_20
  unfold wX3_set at hw
  have h : kp_H D cy A S s.heap s.heap [] := h
  revert h
  intro h
  refine lv_iload_n X.1 X.2.1 dX3_set_0 rfl (lv_at hl 1 rfl) ?_
  refine lv_if_lt (tgt := 20) X.1 X.2.1 dX3_set_1 (by decide) (fun c4 => ?_) (fun c4 => ?_)
  · have hw := hw.1 c4
    exact j20  S _ _ ls (lv_sub hl [] rfl) h hle f_a0 hw
  · have hw := hw.2 c4
    refine lv_iload_n X.1 X.2.1 dX3_set_4 rfl (lv_at hl 1 rfl) ?_
    refine lv_aload_n X.1 X.2.1 dX3_set_5 rfl (lv_at hl 0 rfl) ?_
    obtain ⟨b1, e_b1, hw⟩ := hw
    have f_b1 := h.2.2.2.rf (c := 3) (k := 0) f_a0 (by decide) (by decide) e_b1 (t := 14) rfl
    refine kp_get X h f_a0 ff_3_9.l (v := .ref b1) (congrArg va_rf e_b1) dX3_set_6 ?_
    refine kp_alen X h f_b1 (by decide) dX3_set_9 ?_
    refine lv_icmp_ge (tgt := 20) X.1 X.2.1 dX3_set_10 (by decide) (fun c3 => ?_) (fun c3 => ?_)
    · have hw := hw.1 c3
      exact j20  S _ _ ls (lv_sub hl [] rfl) h hle f_a0 hw
    · have hw := hw.2 c3
      refine lv_aload_n X.1 X.2.1 dX3_set_13 rfl (lv_at hl 0 rfl) ?_
      refine kp_get X h f_a0 ff_3_9.l (v := .ref b1) (congrArg va_rf e_b1) dX3_set_14 ?_
      refine lv_iload_n X.1 X.2.1 dX3_set_17 rfl (lv_at hl 1 rfl) ?_
      refine lv_iload_n X.1 X.2.1 dX3_set_18 rfl (lv_at hl 2 rfl) ?_
      obtain ⟨hi, hw⟩ := hw
      refine kp_iast X h f_b1 hi dX3_set_19 (fun T2 e_T2 l_T2 H locs h => ?_)
      have hw := hw T2 e_T2
      have f_a0 := l_T2.is f_a0
      have f_b1 := l_T2.is f_b1
      have hle := hle.tr l_T2
      have e_b1 : kp_R T2 600 a0 = some b1 := by rw [e_T2]; exact e_b1
      exact j20  T2 _ _ ls (lv_sub hl [] rfl) h hle f_a0 hw
theorem dX3_pledge_0 : decode cX3_pledge 0 = .ok (.aload_n 0, 1) := by decide +kernel
theorem dX3_pledge_1 : decode cX3_pledge 1 = .ok (.getfield 18, 3) := by decide +kernel
theorem dX3_pledge_4 : decode cX3_pledge 4 = .ok (.ifCond .lt 15, 3) := by decide +kernel
theorem dX3_pledge_7 : decode cX3_pledge 7 = .ok (.aload_n 0, 1) := by decide +kernel
theorem dX3_pledge_8 : decode cX3_pledge 8 = .ok (.getfield 18, 3) := by decide +kernel
theorem dX3_pledge_11 : decode cX3_pledge 11 = .ok (.aload_n 0, 1) := by decide +kernel
theorem dX3_pledge_12 : decode cX3_pledge 12 = .ok (.getfield 15, 3) := by decide +kernel
theorem dX3_pledge_15 : decode cX3_pledge 15 = .ok (.arraylength, 1) := by decide +kernel
theorem dX3_pledge_16 : decode cX3_pledge 16 = .ok (.if_icmp .lt 5, 3) := by decide +kernel
theorem dX3_pledge_19 : decode cX3_pledge 19 = .ok (.iconst 0, 1) := by decide +kernel
theorem dX3_pledge_20 : decode cX3_pledge 20 = .ok (.ireturn, 1) := by decide +kernel
theorem dX3_pledge_21 : decode cX3_pledge 21 = .ok (.aload_n 0, 1) := by decide +kernel
theorem dX3_pledge_22 : decode cX3_pledge 22 = .ok (.getfield 15, 3) := by decide +kernel
theorem dX3_pledge_25 : decode cX3_pledge 25 = .ok (.aload_n 0, 1) := by decide +kernel
theorem dX3_pledge_26 : decode cX3_pledge 26 = .ok (.getfield 18, 3) := by decide +kernel
theorem dX3_pledge_29 : decode cX3_pledge 29 = .ok (.iload_n 1, 1) := by decide +kernel
theorem dX3_pledge_30 : decode cX3_pledge 30 = .ok (.iastore, 1) := by decide +kernel
theorem dX3_pledge_31 : decode cX3_pledge 31 = .ok (.aload_n 0, 1) := by decide +kernel
theorem dX3_pledge_32 : decode cX3_pledge 32 = .ok (.dup, 1) := by decide +kernel
theorem dX3_pledge_33 : decode cX3_pledge 33 = .ok (.getfield 18, 3) := by decide +kernel
theorem dX3_pledge_36 : decode cX3_pledge 36 = .ok (.iconst 1, 1) := by decide +kernel
theorem dX3_pledge_37 : decode cX3_pledge 37 = .ok (.iadd, 1) := by decide +kernel
theorem dX3_pledge_38 : decode cX3_pledge 38 = .ok (.putfield 18, 3) := by decide +kernel
theorem dX3_pledge_41 : decode cX3_pledge 41 = .ok (.iconst 1, 1) := by decide +kernel
theorem dX3_pledge_42 : decode cX3_pledge 42 = .ok (.ireturn, 1) := by decide +kernel
def wX3_pledge_b19 (a0 : Nat) (x1 : Int32)  (Sn : kp_S) (post : Int32 → kp_S → Prop) : Prop :=
  post 0 Sn
def wX3_pledge (a0 : Nat) (x1 : Int32) (S : kp_S) (post : Int32 → kp_S → Prop) : Prop :=
  (((kp_I S 602 a0) < 0 →
  wX3_pledge_b19 a0 x1   S post) ∧ (¬ (kp_I S 602 a0) < 0 →
  ∃ b1 : Nat, kp_R S 601 a0 = some b1 ∧
  (((kp_I S 602 a0) < (nI (kp_N S b1)) →
  vp_in (kp_I S 602 a0) (kp_N S b1) ∧ ∀ T2 : kp_S, T2 = kp_sA S b1 (upd (kp_A S b1) ((kp_I S 602 a0).toNatClampNeg) x1) →
  ∀ T3 : kp_S, T3 = kp_sI T2 602 a0 ((kp_I T2 602 a0) + 1) →
  post 1 T3) ∧ (¬ (kp_I S 602 a0) < (nI (kp_N S b1)) →
  wX3_pledge_b19 a0 x1   S post))))
set_option maxHeartbeats 4000000 in
set_option maxRecDepth 100000 in
theorem c_X3_pledge (l : Launch) (D : va_G) (cy : Nat → ClassId) (ad : (Nat → Nat) × (Nat → Nat)) (S : kp_S) (a0 : Nat) (x1 : Int32) (post : Int32 → kp_S → Prop) (hS : kp_ok S) (f_a0 : kp_is S a0 3) (hw : wX3_pledge a0 x1 S post) : kp_M l yX3_pledge cX3_pledge 2 (some .boolean) { frames := 0, cells := 0, slots := 0, locals := 0 } D cy ad S [.ref a0, .int x1] 0 0 (fun A => kp_Qi D cy A S post) := by
  refine kp_start (own := RX3) (by decide) rfl (Nat.le_of_ble_eq_true rfl) hS ?_
  intro p e s m below meth c A ls X hr hlocks hname h hl
  have hle : kp_le S S := kp_le.rf
  have hl : lv_has ls 2 [(0, .ref a0), (1, .int x1)] := hl
  have j19 : ∀  (Sn : kp_S) (H : Heap) (locs : List Loc) (ls : Array Slot), lv_has ls 2 [] → kp_H D cy A Sn s.heap H locs → kp_le S Sn → kp_is Sn a0 3 → wX3_pledge_b19 a0 x1   Sn post → W p l e { frames := 0, cells := 0, slots := 0, locals := 0 } s m ([.ref a0, .int x1] : List Value).toArray below meth c H locs 0 0 (MQ below (kp_Qi D cy A S post) ([.ref a0, .int x1] : List Value).toArray s 0 0 A) (F0 m 19 ls []) := by
    intro  Sn H locs ls hl h hle f_a0 hw
    unfold wX3_pledge_b19 at hw
    refine lv_iconst (v := 0) X.1 X.2.1 dX3_pledge_19 (by decide) ?_
    exact kp_reti X hr hlocks h hle (by decide) hw dX3_pledge_20
  unfold wX3_pledge at hw
  have h : kp_H D cy A S s.heap s.heap [] := h
  revert h
  intro h
  refine lv_aload_n X.1 X.2.1 dX3_pledge_0 rfl (lv_at hl 0 rfl) ?_
  refine kp_get X h f_a0 fp_3_18.l (v := .int (kp_I S 602 a0)) rfl dX3_pledge_1 ?_
  refine lv_if_lt (tgt := 19) X.1 X.2.1 dX3_pledge_4 (by decide) (fun c5 => ?_) (fun c5 => ?_)
  · have hw := hw.1 c5
    exact j19  S _ _ ls (lv_sub hl [] rfl) h hle f_a0 hw
  · have hw := hw.2 c5
    refine lv_aload_n X.1 X.2.1 dX3_pledge_7 rfl (lv_at hl 0 rfl) ?_
    refine kp_get X h f_a0 fp_3_18.l (v := .int (kp_I S 602 a0)) rfl dX3_pledge_8 ?_
    refine lv_aload_n X.1 X.2.1 dX3_pledge_11 rfl (lv_at hl 0 rfl) ?_
    obtain ⟨b1, e_b1, hw⟩ := hw
    have f_b1 := h.2.2.2.rf (c := 3) (k := 1) f_a0 (by decide) (by decide) e_b1 (t := 14) rfl
    refine kp_get X h f_a0 ff_3_15.l (v := .ref b1) (congrArg va_rf e_b1) dX3_pledge_12 ?_
    refine kp_alen X h f_b1 (by decide) dX3_pledge_15 ?_
    refine lv_icmp_lt (tgt := 21) X.1 X.2.1 dX3_pledge_16 (by decide) (fun c4 => ?_) (fun c4 => ?_)
    · have hw := hw.1 c4
      refine lv_aload_n X.1 X.2.1 dX3_pledge_21 rfl (lv_at hl 0 rfl) ?_
      refine kp_get X h f_a0 ff_3_15.l (v := .ref b1) (congrArg va_rf e_b1) dX3_pledge_22 ?_
      refine lv_aload_n X.1 X.2.1 dX3_pledge_25 rfl (lv_at hl 0 rfl) ?_
      refine kp_get X h f_a0 fp_3_18.l (v := .int (kp_I S 602 a0)) rfl dX3_pledge_26 ?_
      refine lv_iload_n X.1 X.2.1 dX3_pledge_29 rfl (lv_at hl 1 rfl) ?_
      obtain ⟨hi, hw⟩ := hw
      refine kp_iast X h f_b1 hi dX3_pledge_30 (fun T2 e_T2 l_T2 H locs h => ?_)
      have hw := hw T2 e_T2
      have f_a0 := l_T2.is f_a0
      have f_b1 := l_T2.is f_b1
      have hle := hle.tr l_T2
      have e_b1 : kp_R T2 601 a0 = some b1 := by rw [e_T2]; exact e_b1
      refine lv_aload_n X.1 X.2.1 dX3_pledge_31 rfl (lv_at hl 0 rfl) ?_
      refine lv_dup X.1 X.2.1 dX3_pledge_32 rfl ?_
      refine kp_get X h f_a0 fp_3_18.l (v := .int (kp_I T2 602 a0)) rfl dX3_pledge_33 ?_
      refine lv_iconst (v := 1) X.1 X.2.1 dX3_pledge_36 (by decide) ?_
      refine lv_iadd X.1 X.2.1 dX3_pledge_37 ?_
      refine kp_putI X h f_a0 fp_3_18 rfl ⟨rfl, rfl⟩ dX3_pledge_38 (fun T3 e_T3 l_T3 H locs h => ?_)
      have hw := hw T3 e_T3
      have f_a0 := l_T3.is f_a0
      have f_b1 := l_T3.is f_b1
      have hle := hle.tr l_T3
      have e_b1 : kp_R T3 601 a0 = some b1 := by rw [e_T3]; exact e_b1
      refine lv_iconst (v := 1) X.1 X.2.1 dX3_pledge_41 (by decide) ?_
      exact kp_reti X hr hlocks h hle (by decide) hw dX3_pledge_42
    · have hw := hw.2 c4
      exact j19  S _ _ ls (lv_sub hl [] rfl) h hle f_a0 hw
theorem dX3_hasLater_0 : decode cX3_hasLater 0 = .ok (.aload_n 0, 1) := by decide +kernel
theorem dX3_hasLater_1 : decode cX3_hasLater 1 = .ok (.getfield 18, 3) := by decide +kernel
theorem dX3_hasLater_4 : decode cX3_hasLater 4 = .ok (.ifCond .le 19, 3) := by decide +kernel
theorem dX3_hasLater_7 : decode cX3_hasLater 7 = .ok (.aload_n 0, 1) := by decide +kernel
theorem dX3_hasLater_8 : decode cX3_hasLater 8 = .ok (.getfield 18, 3) := by decide +kernel
theorem dX3_hasLater_11 : decode cX3_hasLater 11 = .ok (.aload_n 0, 1) := by decide +kernel
theorem dX3_hasLater_12 : decode cX3_hasLater 12 = .ok (.getfield 15, 3) := by decide +kernel
theorem dX3_hasLater_15 : decode cX3_hasLater 15 = .ok (.arraylength, 1) := by decide +kernel
theorem dX3_hasLater_16 : decode cX3_hasLater 16 = .ok (.if_icmp .gt 7, 3) := by decide +kernel
theorem dX3_hasLater_19 : decode cX3_hasLater 19 = .ok (.iconst 1, 1) := by decide +kernel
theorem dX3_hasLater_20 : decode cX3_hasLater 20 = .ok (.goto 4, 3) := by decide +kernel
theorem dX3_hasLater_23 : decode cX3_hasLater 23 = .ok (.iconst 0, 1) := by decide +kernel
theorem dX3_hasLater_24 : decode cX3_hasLater 24 = .ok (.ireturn, 1) := by decide +kernel
def wX3_hasLater_b24 (a0 : Nat) (xt0 : Int32)  (Sn : kp_S) (post : Int32 → kp_S → Prop) : Prop :=
  kp_b xt0 ∧ post xt0 Sn
def wX3_hasLater_b23 (a0 : Nat)  (Sn : kp_S) (post : Int32 → kp_S → Prop) : Prop :=
  wX3_hasLater_b24 a0 0  Sn post
def wX3_hasLater (a0 : Nat) (S : kp_S) (post : Int32 → kp_S → Prop) : Prop :=
  (((kp_I S 602 a0) ≤ 0 →
  wX3_hasLater_b23 a0   S post) ∧ (¬ (kp_I S 602 a0) ≤ 0 →
  ∃ b1 : Nat, kp_R S 601 a0 = some b1 ∧
  (((nI (kp_N S b1)) < (kp_I S 602 a0) →
  wX3_hasLater_b23 a0   S post) ∧ (¬ (nI (kp_N S b1)) < (kp_I S 602 a0) →
  wX3_hasLater_b24 a0 1  S post))))
set_option maxHeartbeats 4000000 in
set_option maxRecDepth 100000 in
theorem c_X3_hasLater (l : Launch) (D : va_G) (cy : Nat → ClassId) (ad : (Nat → Nat) × (Nat → Nat)) (S : kp_S) (a0 : Nat) (post : Int32 → kp_S → Prop) (hS : kp_ok S) (f_a0 : kp_is S a0 3) (hw : wX3_hasLater a0 S post) : kp_M l yX3_hasLater cX3_hasLater 1 (some .boolean) { frames := 0, cells := 0, slots := 0, locals := 0 } D cy ad S [.ref a0] 0 0 (fun A => kp_Qi D cy A S post) := by
  refine kp_start (own := RX3) (by decide) rfl (Nat.le_of_ble_eq_true rfl) hS ?_
  intro p e s m below meth c A ls X hr hlocks hname h hl
  have hle : kp_le S S := kp_le.rf
  have hl : lv_has ls 1 [(0, .ref a0)] := hl
  have j24 : ∀ (xt0 : Int32) (Sn : kp_S) (H : Heap) (locs : List Loc) (ls : Array Slot), lv_has ls 1 [] → kp_H D cy A Sn s.heap H locs → kp_le S Sn → kp_is Sn a0 3 → wX3_hasLater_b24 a0 xt0  Sn post → W p l e { frames := 0, cells := 0, slots := 0, locals := 0 } s m ([.ref a0] : List Value).toArray below meth c H locs 0 0 (MQ below (kp_Qi D cy A S post) ([.ref a0] : List Value).toArray s 0 0 A) (F0 m 24 ls [.int xt0]) := by
    intro xt0 Sn H locs ls hl h hle f_a0 hw
    unfold wX3_hasLater_b24 at hw
    exact kp_reti X hr hlocks h hle (kp_bz hw.1).1 hw.2 dX3_hasLater_24
  have j23 : ∀  (Sn : kp_S) (H : Heap) (locs : List Loc) (ls : Array Slot), lv_has ls 1 [] → kp_H D cy A Sn s.heap H locs → kp_le S Sn → kp_is Sn a0 3 → wX3_hasLater_b23 a0   Sn post → W p l e { frames := 0, cells := 0, slots := 0, locals := 0 } s m ([.ref a0] : List Value).toArray below meth c H locs 0 0 (MQ below (kp_Qi D cy A S post) ([.ref a0] : List Value).toArray s 0 0 A) (F0 m 23 ls []) := by
    intro  Sn H locs ls hl h hle f_a0 hw
    unfold wX3_hasLater_b23 at hw
    refine lv_iconst (v := 0) X.1 X.2.1 dX3_hasLater_23 (by decide) ?_
    exact j24 0 Sn H locs ls (lv_sub hl [] rfl) h hle f_a0 hw
  unfold wX3_hasLater at hw
  have h : kp_H D cy A S s.heap s.heap [] := h
  revert h
  intro h
  refine lv_aload_n X.1 X.2.1 dX3_hasLater_0 rfl (lv_at hl 0 rfl) ?_
  refine kp_get X h f_a0 fp_3_18.l (v := .int (kp_I S 602 a0)) rfl dX3_hasLater_1 ?_
  refine lv_if_le (tgt := 23) X.1 X.2.1 dX3_hasLater_4 (by decide) (fun c3 => ?_) (fun c3 => ?_)
  · have hw := hw.1 c3
    exact j23  S _ _ ls (lv_sub hl [] rfl) h hle f_a0 hw
  · have hw := hw.2 c3
    refine lv_aload_n X.1 X.2.1 dX3_hasLater_7 rfl (lv_at hl 0 rfl) ?_
    refine kp_get X h f_a0 fp_3_18.l (v := .int (kp_I S 602 a0)) rfl dX3_hasLater_8 ?_
    refine lv_aload_n X.1 X.2.1 dX3_hasLater_11 rfl (lv_at hl 0 rfl) ?_
    obtain ⟨b1, e_b1, hw⟩ := hw
    have f_b1 := h.2.2.2.rf (c := 3) (k := 1) f_a0 (by decide) (by decide) e_b1 (t := 14) rfl
    refine kp_get X h f_a0 ff_3_15.l (v := .ref b1) (congrArg va_rf e_b1) dX3_hasLater_12 ?_
    refine kp_alen X h f_b1 (by decide) dX3_hasLater_15 ?_
    refine lv_icmp_gt (tgt := 23) X.1 X.2.1 dX3_hasLater_16 (by decide) (fun c2 => ?_) (fun c2 => ?_)
    · have hw := hw.1 c2
      exact j23  S _ _ ls (lv_sub hl [] rfl) h hle f_a0 hw
    · have hw := hw.2 c2
      refine lv_iconst (v := 1) X.1 X.2.1 dX3_hasLater_19 (by decide) ?_
      refine lv_goto (tgt := 24) X.1 X.2.1 dX3_hasLater_20 (by decide) ?_
      exact j24 1 S _ _ ls (lv_sub hl [] rfl) h hle f_a0 hw
theorem dX3_takeLater_0 : decode cX3_takeLater 0 = .ok (.aload_n 0, 1) := by decide +kernel
theorem dX3_takeLater_1 : decode cX3_takeLater 1 = .ok (.invokevirtual 28, 3) := by decide +kernel
theorem dX3_takeLater_4 : decode cX3_takeLater 4 = .ok (.ifCond .ne 5, 3) := by decide +kernel
theorem dX3_takeLater_7 : decode cX3_takeLater 7 = .ok (.iconst 0, 1) := by decide +kernel
theorem dX3_takeLater_8 : decode cX3_takeLater 8 = .ok (.ireturn, 1) := by decide +kernel
theorem dX3_takeLater_9 : decode cX3_takeLater 9 = .ok (.aload_n 0, 1) := by decide +kernel
theorem dX3_takeLater_10 : decode cX3_takeLater 10 = .ok (.dup, 1) := by decide +kernel
theorem dX3_takeLater_11 : decode cX3_takeLater 11 = .ok (.getfield 18, 3) := by decide +kernel
theorem dX3_takeLater_14 : decode cX3_takeLater 14 = .ok (.iconst 1, 1) := by decide +kernel
theorem dX3_takeLater_15 : decode cX3_takeLater 15 = .ok (.isub, 1) := by decide +kernel
theorem dX3_takeLater_16 : decode cX3_takeLater 16 = .ok (.putfield 18, 3) := by decide +kernel
theorem dX3_takeLater_19 : decode cX3_takeLater 19 = .ok (.aload_n 0, 1) := by decide +kernel
theorem dX3_takeLater_20 : decode cX3_takeLater 20 = .ok (.getfield 15, 3) := by decide +kernel
theorem dX3_takeLater_23 : decode cX3_takeLater 23 = .ok (.aload_n 0, 1) := by decide +kernel
theorem dX3_takeLater_24 : decode cX3_takeLater 24 = .ok (.getfield 18, 3) := by decide +kernel
theorem dX3_takeLater_27 : decode cX3_takeLater 27 = .ok (.iaload, 1) := by decide +kernel
theorem dX3_takeLater_28 : decode cX3_takeLater 28 = .ok (.ireturn, 1) := by decide +kernel
def wX3_takeLater (a0 : Nat) (S : kp_S) (post : Int32 → kp_S → Prop) : Prop :=
  wX3_hasLater a0 S (fun y2 T1 =>
  ((¬ y2 = 0 →
  ∀ T3 : kp_S, T3 = kp_sI T1 602 a0 ((kp_I T1 602 a0) - 1) →
  ∃ b4 : Nat, kp_R T3 601 a0 = some b4 ∧
  vp_in (kp_I T3 602 a0) (kp_N T3 b4) ∧
  post (kp_A T3 b4 (kp_I T3 602 a0).toNatClampNeg) T3) ∧ (y2 = 0 →
  post 0 T1)))
set_option maxHeartbeats 4000000 in
set_option maxRecDepth 100000 in
theorem c_X3_takeLater (l : Launch) (D : va_G) (cy : Nat → ClassId) (ad : (Nat → Nat) × (Nat → Nat)) (S : kp_S) (a0 : Nat) (post : Int32 → kp_S → Prop) (hS : kp_ok S) (f_a0 : kp_is S a0 3) (hw : wX3_takeLater a0 S post) : kp_M l yX3_takeLater cX3_takeLater 1 (some .int) { frames := 1, cells := 0, slots := 0, locals := 20 } D cy ad S [.ref a0] 0 0 (fun A => kp_Qi D cy A S post) := by
  refine kp_start (own := RX3) (by decide) rfl (Nat.le_of_ble_eq_true rfl) hS ?_
  intro p e s m below meth c A ls X hr hlocks hname h hl
  have hle : kp_le S S := kp_le.rf
  have hl : lv_has ls 1 [(0, .ref a0)] := hl
  unfold wX3_takeLater at hw
  have h : kp_H D cy A S s.heap s.heap [] := h
  revert h
  intro h
  refine lv_aload_n X.1 X.2.1 dX3_takeLater_0 rfl (lv_at hl 0 rfl) ?_
  refine kp_calli X h (kp_runV (rm := { frames := 0, cells := 0, slots := 0, locals := 0 }) (mc := 0) (ms := 0) (rest := []) (Qc := fun A => kp_Qi D cy A S _) X h (c_X3_hasLater l D cy ad S a0 _ h.2.2.2 f_a0 hw) f_a0 cv_3_28 ⟨by decide, by decide, rfl, rfl, by decide, by decide⟩ rfl hl.1 rfl (Nat.le_of_ble_eq_true rfl) dX3_takeLater_1) (fun y2 T1 hw l_T1 H locs h => ?_)
  have f_a0 := l_T1.is f_a0
  have hle := hle.tr l_T1
  refine lv_if_ne (tgt := 9) X.1 X.2.1 dX3_takeLater_4 (by decide) (fun c5 => ?_) (fun c5 => ?_)
  · have hw := hw.1 c5
    refine lv_aload_n X.1 X.2.1 dX3_takeLater_9 rfl (lv_at hl 0 rfl) ?_
    refine lv_dup X.1 X.2.1 dX3_takeLater_10 rfl ?_
    refine kp_get X h f_a0 fp_3_18.l (v := .int (kp_I T1 602 a0)) rfl dX3_takeLater_11 ?_
    refine lv_iconst (v := 1) X.1 X.2.1 dX3_takeLater_14 (by decide) ?_
    refine lv_isub X.1 X.2.1 dX3_takeLater_15 ?_
    refine kp_putI X h f_a0 fp_3_18 rfl ⟨rfl, rfl⟩ dX3_takeLater_16 (fun T3 e_T3 l_T3 H locs h => ?_)
    have hw := hw T3 e_T3
    have f_a0 := l_T3.is f_a0
    have hle := hle.tr l_T3
    refine lv_aload_n X.1 X.2.1 dX3_takeLater_19 rfl (lv_at hl 0 rfl) ?_
    obtain ⟨b4, e_b4, hw⟩ := hw
    have f_b4 := h.2.2.2.rf (c := 3) (k := 1) f_a0 (by decide) (by decide) e_b4 (t := 14) rfl
    refine kp_get X h f_a0 ff_3_15.l (v := .ref b4) (congrArg va_rf e_b4) dX3_takeLater_20 ?_
    refine lv_aload_n X.1 X.2.1 dX3_takeLater_23 rfl (lv_at hl 0 rfl) ?_
    refine kp_get X h f_a0 fp_3_18.l (v := .int (kp_I T3 602 a0)) rfl dX3_takeLater_24 ?_
    obtain ⟨hi, hw⟩ := hw
    refine kp_iald X h f_b4 hi dX3_takeLater_27 ?_
    exact kp_reti X hr hlocks h hle rfl hw dX3_takeLater_28
  · have hw := hw.2 c5
    refine lv_iconst (v := 0) X.1 X.2.1 dX3_takeLater_7 (by decide) ?_
    exact kp_reti X hr hlocks h hle rfl hw dX3_takeLater_8
theorem dX10_become_0 : decode cX10_become 0 = .ok (.aload_n 0, 1) := by decide +kernel
theorem dX10_become_1 : decode cX10_become 1 = .ok (.iload_n 1, 1) := by decide +kernel
theorem dX10_become_2 : decode cX10_become 2 = .ok (.putfield 7, 3) := by decide +kernel
theorem dX10_become_5 : decode cX10_become 5 = .ok (.aload_n 0, 1) := by decide +kernel
theorem dX10_become_6 : decode cX10_become 6 = .ok (.iload_n 2, 1) := by decide +kernel
theorem dX10_become_7 : decode cX10_become 7 = .ok (.putfield 13, 3) := by decide +kernel
theorem dX10_become_10 : decode cX10_become 10 = .ok (.return_, 1) := by decide +kernel
def wX10_become (a0 : Nat) (x1 : Int32) (x2 : Int32) (S : kp_S) (post : kp_S → Prop) : Prop :=
  ∀ T1 : kp_S, T1 = kp_sI S 2000 a0 x1 →
  ∀ T2 : kp_S, T2 = kp_sI T1 2001 a0 x2 →
  post T2
set_option maxHeartbeats 4000000 in
set_option maxRecDepth 100000 in
theorem c_X10_become (l : Launch) (D : va_G) (cy : Nat → ClassId) (ad : (Nat → Nat) × (Nat → Nat)) (S : kp_S) (a0 : Nat) (x1 : Int32) (x2 : Int32) (post : kp_S → Prop) (hS : kp_ok S) (f_a0 : kp_is S a0 10) (hw : wX10_become a0 x1 x2 S post) : kp_M l yX10_become cX10_become 3 none { frames := 0, cells := 0, slots := 0, locals := 0 } D cy ad S [.ref a0, .int x1, .int x2] 0 0 (fun A => kp_Qv D cy A S post) := by
  refine kp_start (own := RX10) (by decide) rfl (Nat.le_of_ble_eq_true rfl) hS ?_
  intro p e s m below meth c A ls X hr hlocks hname h hl
  have hle : kp_le S S := kp_le.rf
  have hl : lv_has ls 3 [(0, .ref a0), (1, .int x1), (2, .int x2)] := hl
  unfold wX10_become at hw
  have h : kp_H D cy A S s.heap s.heap [] := h
  revert h
  intro h
  refine lv_aload_n X.1 X.2.1 dX10_become_0 rfl (lv_at hl 0 rfl) ?_
  refine lv_iload_n X.1 X.2.1 dX10_become_1 rfl (lv_at hl 1 rfl) ?_
  refine kp_putI X h f_a0 fp_10_7 rfl ⟨rfl, rfl⟩ dX10_become_2 (fun T1 e_T1 l_T1 H locs h => ?_)
  have hw := hw T1 e_T1
  have f_a0 := l_T1.is f_a0
  have hle := hle.tr l_T1
  refine lv_aload_n X.1 X.2.1 dX10_become_5 rfl (lv_at hl 0 rfl) ?_
  refine lv_iload_n X.1 X.2.1 dX10_become_6 rfl (lv_at hl 2 rfl) ?_
  refine kp_putI X h f_a0 fp_10_13 rfl ⟨rfl, rfl⟩ dX10_become_7 (fun T2 e_T2 l_T2 H locs h => ?_)
  have hw := hw T2 e_T2
  have f_a0 := l_T2.is f_a0
  have hle := hle.tr l_T2
  exact kp_retv X hr hlocks h hle hw dX10_become_10
theorem dX10_copy_0 : decode cX10_copy 0 = .ok (.aload_n 0, 1) := by decide +kernel
theorem dX10_copy_1 : decode cX10_copy 1 = .ok (.aload_n 1, 1) := by decide +kernel
theorem dX10_copy_2 : decode cX10_copy 2 = .ok (.getfield 7, 3) := by decide +kernel
theorem dX10_copy_5 : decode cX10_copy 5 = .ok (.putfield 7, 3) := by decide +kernel
theorem dX10_copy_8 : decode cX10_copy 8 = .ok (.aload_n 0, 1) := by decide +kernel
theorem dX10_copy_9 : decode cX10_copy 9 = .ok (.aload_n 1, 1) := by decide +kernel
theorem dX10_copy_10 : decode cX10_copy 10 = .ok (.getfield 13, 3) := by decide +kernel
theorem dX10_copy_13 : decode cX10_copy 13 = .ok (.putfield 13, 3) := by decide +kernel
theorem dX10_copy_16 : decode cX10_copy 16 = .ok (.aload_n 0, 1) := by decide +kernel
theorem dX10_copy_17 : decode cX10_copy 17 = .ok (.aload_n 1, 1) := by decide +kernel
theorem dX10_copy_18 : decode cX10_copy 18 = .ok (.getfield 16, 3) := by decide +kernel
theorem dX10_copy_21 : decode cX10_copy 21 = .ok (.putfield 16, 3) := by decide +kernel
theorem dX10_copy_24 : decode cX10_copy 24 = .ok (.aload_n 0, 1) := by decide +kernel
theorem dX10_copy_25 : decode cX10_copy 25 = .ok (.aload_n 1, 1) := by decide +kernel
theorem dX10_copy_26 : decode cX10_copy 26 = .ok (.getfield 19, 3) := by decide +kernel
theorem dX10_copy_29 : decode cX10_copy 29 = .ok (.putfield 19, 3) := by decide +kernel
theorem dX10_copy_32 : decode cX10_copy 32 = .ok (.return_, 1) := by decide +kernel
def wX10_copy (a0 : Nat) (a1 : Nat) (S : kp_S) (post : kp_S → Prop) : Prop :=
  ∀ T1 : kp_S, T1 = kp_sI S 2000 a0 (kp_I S 2000 a1) →
  ∀ T2 : kp_S, T2 = kp_sI T1 2001 a0 (kp_I T1 2001 a1) →
  ∀ T3 : kp_S, T3 = kp_sI T2 2002 a0 (kp_I T2 2002 a1) →
  ∀ T4 : kp_S, T4 = kp_sI T3 2003 a0 (kp_I T3 2003 a1) →
  post T4
set_option maxHeartbeats 4000000 in
set_option maxRecDepth 100000 in
theorem c_X10_copy (l : Launch) (D : va_G) (cy : Nat → ClassId) (ad : (Nat → Nat) × (Nat → Nat)) (S : kp_S) (a0 : Nat) (a1 : Nat) (post : kp_S → Prop) (hS : kp_ok S) (f_a0 : kp_is S a0 10) (f_a1 : kp_is S a1 10) (hw : wX10_copy a0 a1 S post) : kp_M l yX10_copy cX10_copy 2 none { frames := 0, cells := 0, slots := 0, locals := 0 } D cy ad S [.ref a0, .ref a1] 0 0 (fun A => kp_Qv D cy A S post) := by
  refine kp_start (own := RX10) (by decide) rfl (Nat.le_of_ble_eq_true rfl) hS ?_
  intro p e s m below meth c A ls X hr hlocks hname h hl
  have hle : kp_le S S := kp_le.rf
  have hl : lv_has ls 2 [(0, .ref a0), (1, .ref a1)] := hl
  unfold wX10_copy at hw
  have h : kp_H D cy A S s.heap s.heap [] := h
  revert h
  intro h
  refine lv_aload_n X.1 X.2.1 dX10_copy_0 rfl (lv_at hl 0 rfl) ?_
  refine lv_aload_n X.1 X.2.1 dX10_copy_1 rfl (lv_at hl 1 rfl) ?_
  refine kp_get X h f_a1 fp_10_7.l (v := .int (kp_I S 2000 a1)) rfl dX10_copy_2 ?_
  refine kp_putI X h f_a0 fp_10_7 rfl ⟨rfl, rfl⟩ dX10_copy_5 (fun T1 e_T1 l_T1 H locs h => ?_)
  have hw := hw T1 e_T1
  have f_a0 := l_T1.is f_a0
  have f_a1 := l_T1.is f_a1
  have hle := hle.tr l_T1
  refine lv_aload_n X.1 X.2.1 dX10_copy_8 rfl (lv_at hl 0 rfl) ?_
  refine lv_aload_n X.1 X.2.1 dX10_copy_9 rfl (lv_at hl 1 rfl) ?_
  refine kp_get X h f_a1 fp_10_13.l (v := .int (kp_I T1 2001 a1)) rfl dX10_copy_10 ?_
  refine kp_putI X h f_a0 fp_10_13 rfl ⟨rfl, rfl⟩ dX10_copy_13 (fun T2 e_T2 l_T2 H locs h => ?_)
  have hw := hw T2 e_T2
  have f_a0 := l_T2.is f_a0
  have f_a1 := l_T2.is f_a1
  have hle := hle.tr l_T2
  refine lv_aload_n X.1 X.2.1 dX10_copy_16 rfl (lv_at hl 0 rfl) ?_
  refine lv_aload_n X.1 X.2.1 dX10_copy_17 rfl (lv_at hl 1 rfl) ?_
  refine kp_get X h f_a1 fp_10_16.l (v := .int (kp_I T2 2002 a1)) rfl dX10_copy_18 ?_
  refine kp_putI X h f_a0 fp_10_16 rfl ⟨rfl, rfl⟩ dX10_copy_21 (fun T3 e_T3 l_T3 H locs h => ?_)
  have hw := hw T3 e_T3
  have f_a0 := l_T3.is f_a0
  have f_a1 := l_T3.is f_a1
  have hle := hle.tr l_T3
  refine lv_aload_n X.1 X.2.1 dX10_copy_24 rfl (lv_at hl 0 rfl) ?_
  refine lv_aload_n X.1 X.2.1 dX10_copy_25 rfl (lv_at hl 1 rfl) ?_
  refine kp_get X h f_a1 fp_10_19.l (v := .int (kp_I T3 2003 a1)) rfl dX10_copy_26 ?_
  refine kp_putI X h f_a0 fp_10_19 rfl ⟨rfl, rfl⟩ dX10_copy_29 (fun T4 e_T4 l_T4 H locs h => ?_)
  have hw := hw T4 e_T4
  have f_a0 := l_T4.is f_a0
  have f_a1 := l_T4.is f_a1
  have hle := hle.tr l_T4
  exact kp_retv X hr hlocks h hle hw dX10_copy_32
theorem dX10_leaveOf_0 : decode cX10_leaveOf 0 = .ok (.iload_n 0, 1) := by decide +kernel
theorem dX10_leaveOf_1 : decode cX10_leaveOf 1 = .ok (.ifCond .lt 12, 3) := by decide +kernel
theorem dX10_leaveOf_4 : decode cX10_leaveOf 4 = .ok (.bipush 8, 2) := by decide +kernel
theorem dX10_leaveOf_6 : decode cX10_leaveOf 6 = .ok (.iconst 2, 1) := by decide +kernel
theorem dX10_leaveOf_7 : decode cX10_leaveOf 7 = .ok (.iload_n 0, 1) := by decide +kernel
theorem dX10_leaveOf_8 : decode cX10_leaveOf 8 = .ok (.imul, 1) := by decide +kernel
theorem dX10_leaveOf_9 : decode cX10_leaveOf 9 = .ok (.ishl, 1) := by decide +kernel
theorem dX10_leaveOf_10 : decode cX10_leaveOf 10 = .ok (.goto 4, 3) := by decide +kernel
theorem dX10_leaveOf_13 : decode cX10_leaveOf 13 = .ok (.iconst 0, 1) := by decide +kernel
theorem dX10_leaveOf_14 : decode cX10_leaveOf 14 = .ok (.ireturn, 1) := by decide +kernel
def wX10_leaveOf_b14 (x0 : Int32) (xt0 : Int32)  (Sn : kp_S) (post : Int32 → kp_S → Prop) : Prop :=
  post xt0 Sn
def wX10_leaveOf (x0 : Int32) (S : kp_S) (post : Int32 → kp_S → Prop) : Prop :=
  ((x0 < 0 →
  wX10_leaveOf_b14 x0 0  S post) ∧ (¬ x0 < 0 →
  wX10_leaveOf_b14 x0 (8 <<< ((2 * x0) &&& 31))  S post))
set_option maxHeartbeats 4000000 in
set_option maxRecDepth 100000 in
theorem c_X10_leaveOf (l : Launch) (D : va_G) (cy : Nat → ClassId) (ad : (Nat → Nat) × (Nat → Nat)) (S : kp_S) (x0 : Int32) (post : Int32 → kp_S → Prop) (hS : kp_ok S)  (hw : wX10_leaveOf x0 S post) : kp_M l yX10_leaveOf cX10_leaveOf 1 (some .int) { frames := 0, cells := 0, slots := 0, locals := 0 } D cy ad S [.int x0] 0 0 (fun A => kp_Qi D cy A S post) := by
  refine kp_start (own := RX10) (by decide) rfl (Nat.le_of_ble_eq_true rfl) hS ?_
  intro p e s m below meth c A ls X hr hlocks hname h hl
  have hle : kp_le S S := kp_le.rf
  have hl : lv_has ls 1 [(0, .int x0)] := hl
  have j14 : ∀ (xt0 : Int32) (Sn : kp_S) (H : Heap) (locs : List Loc) (ls : Array Slot), lv_has ls 1 [] → kp_H D cy A Sn s.heap H locs → kp_le S Sn → wX10_leaveOf_b14 x0 xt0  Sn post → W p l e { frames := 0, cells := 0, slots := 0, locals := 0 } s m ([.int x0] : List Value).toArray below meth c H locs 0 0 (MQ below (kp_Qi D cy A S post) ([.int x0] : List Value).toArray s 0 0 A) (F0 m 14 ls [.int xt0]) := by
    intro xt0 Sn H locs ls hl h hle  hw
    unfold wX10_leaveOf_b14 at hw
    exact kp_reti X hr hlocks h hle rfl hw dX10_leaveOf_14
  unfold wX10_leaveOf at hw
  have h : kp_H D cy A S s.heap s.heap [] := h
  revert h
  intro h
  refine lv_iload_n X.1 X.2.1 dX10_leaveOf_0 rfl (lv_at hl 0 rfl) ?_
  refine lv_if_lt (tgt := 13) X.1 X.2.1 dX10_leaveOf_1 (by decide) (fun c1 => ?_) (fun c1 => ?_)
  · have hw := hw.1 c1
    refine lv_iconst (v := 0) X.1 X.2.1 dX10_leaveOf_13 (by decide) ?_
    exact j14 0 S _ _ ls (lv_sub hl [] rfl) h hle  hw
  · have hw := hw.2 c1
    refine lv_bipush (v := 8) X.1 X.2.1 dX10_leaveOf_4 (by decide) ?_
    refine lv_iconst (v := 2) X.1 X.2.1 dX10_leaveOf_6 (by decide) ?_
    refine lv_iload_n X.1 X.2.1 dX10_leaveOf_7 rfl (lv_at hl 0 rfl) ?_
    refine lv_imul X.1 X.2.1 dX10_leaveOf_8 ?_
    refine lv_ishl X.1 X.2.1 dX10_leaveOf_9 ?_
    refine lv_goto (tgt := 14) X.1 X.2.1 dX10_leaveOf_10 (by decide) ?_
    exact j14 (8 <<< ((2 * x0) &&& 31)) S _ _ ls (lv_sub hl [] rfl) h hle  hw
theorem dX10_againOf_0 : decode cX10_againOf 0 = .ok (.iload_n 0, 1) := by decide +kernel
theorem dX10_againOf_1 : decode cX10_againOf 1 = .ok (.ifCond .lt 12, 3) := by decide +kernel
theorem dX10_againOf_4 : decode cX10_againOf 4 = .ok (.bipush 16, 2) := by decide +kernel
theorem dX10_againOf_6 : decode cX10_againOf 6 = .ok (.iconst 2, 1) := by decide +kernel
theorem dX10_againOf_7 : decode cX10_againOf 7 = .ok (.iload_n 0, 1) := by decide +kernel
theorem dX10_againOf_8 : decode cX10_againOf 8 = .ok (.imul, 1) := by decide +kernel
theorem dX10_againOf_9 : decode cX10_againOf 9 = .ok (.ishl, 1) := by decide +kernel
theorem dX10_againOf_10 : decode cX10_againOf 10 = .ok (.goto 4, 3) := by decide +kernel
theorem dX10_againOf_13 : decode cX10_againOf 13 = .ok (.iconst 0, 1) := by decide +kernel
theorem dX10_againOf_14 : decode cX10_againOf 14 = .ok (.ireturn, 1) := by decide +kernel
def wX10_againOf_b14 (x0 : Int32) (xt0 : Int32)  (Sn : kp_S) (post : Int32 → kp_S → Prop) : Prop :=
  post xt0 Sn
def wX10_againOf (x0 : Int32) (S : kp_S) (post : Int32 → kp_S → Prop) : Prop :=
  ((x0 < 0 →
  wX10_againOf_b14 x0 0  S post) ∧ (¬ x0 < 0 →
  wX10_againOf_b14 x0 (16 <<< ((2 * x0) &&& 31))  S post))
set_option maxHeartbeats 4000000 in
set_option maxRecDepth 100000 in
theorem c_X10_againOf (l : Launch) (D : va_G) (cy : Nat → ClassId) (ad : (Nat → Nat) × (Nat → Nat)) (S : kp_S) (x0 : Int32) (post : Int32 → kp_S → Prop) (hS : kp_ok S)  (hw : wX10_againOf x0 S post) : kp_M l yX10_againOf cX10_againOf 1 (some .int) { frames := 0, cells := 0, slots := 0, locals := 0 } D cy ad S [.int x0] 0 0 (fun A => kp_Qi D cy A S post) := by
  refine kp_start (own := RX10) (by decide) rfl (Nat.le_of_ble_eq_true rfl) hS ?_
  intro p e s m below meth c A ls X hr hlocks hname h hl
  have hle : kp_le S S := kp_le.rf
  have hl : lv_has ls 1 [(0, .int x0)] := hl
  have j14 : ∀ (xt0 : Int32) (Sn : kp_S) (H : Heap) (locs : List Loc) (ls : Array Slot), lv_has ls 1 [] → kp_H D cy A Sn s.heap H locs → kp_le S Sn → wX10_againOf_b14 x0 xt0  Sn post → W p l e { frames := 0, cells := 0, slots := 0, locals := 0 } s m ([.int x0] : List Value).toArray below meth c H locs 0 0 (MQ below (kp_Qi D cy A S post) ([.int x0] : List Value).toArray s 0 0 A) (F0 m 14 ls [.int xt0]) := by
    intro xt0 Sn H locs ls hl h hle  hw
    unfold wX10_againOf_b14 at hw
    exact kp_reti X hr hlocks h hle rfl hw dX10_againOf_14
  unfold wX10_againOf at hw
  have h : kp_H D cy A S s.heap s.heap [] := h
  revert h
  intro h
  refine lv_iload_n X.1 X.2.1 dX10_againOf_0 rfl (lv_at hl 0 rfl) ?_
  refine lv_if_lt (tgt := 13) X.1 X.2.1 dX10_againOf_1 (by decide) (fun c1 => ?_) (fun c1 => ?_)
  · have hw := hw.1 c1
    refine lv_iconst (v := 0) X.1 X.2.1 dX10_againOf_13 (by decide) ?_
    exact j14 0 S _ _ ls (lv_sub hl [] rfl) h hle  hw
  · have hw := hw.2 c1
    refine lv_bipush (v := 16) X.1 X.2.1 dX10_againOf_4 (by decide) ?_
    refine lv_iconst (v := 2) X.1 X.2.1 dX10_againOf_6 (by decide) ?_
    refine lv_iload_n X.1 X.2.1 dX10_againOf_7 rfl (lv_at hl 0 rfl) ?_
    refine lv_imul X.1 X.2.1 dX10_againOf_8 ?_
    refine lv_ishl X.1 X.2.1 dX10_againOf_9 ?_
    refine lv_goto (tgt := 14) X.1 X.2.1 dX10_againOf_10 (by decide) ?_
    exact j14 (16 <<< ((2 * x0) &&& 31)) S _ _ ls (lv_sub hl [] rfl) h hle  hw
theorem dX5_clear_0 : decode cX5_clear 0 = .ok (.aload_n 0, 1) := by decide +kernel
theorem dX5_clear_1 : decode cX5_clear 1 = .ok (.iconst 0, 1) := by decide +kernel
theorem dX5_clear_2 : decode cX5_clear 2 = .ok (.putfield 31, 3) := by decide +kernel
theorem dX5_clear_5 : decode cX5_clear 5 = .ok (.aload_n 0, 1) := by decide +kernel
theorem dX5_clear_6 : decode cX5_clear 6 = .ok (.iconst 0, 1) := by decide +kernel
theorem dX5_clear_7 : decode cX5_clear 7 = .ok (.putfield 35, 3) := by decide +kernel
theorem dX5_clear_10 : decode cX5_clear 10 = .ok (.aload_n 0, 1) := by decide +kernel
theorem dX5_clear_11 : decode cX5_clear 11 = .ok (.iconst (-1), 1) := by decide +kernel
theorem dX5_clear_12 : decode cX5_clear 12 = .ok (.putfield 38, 3) := by decide +kernel
theorem dX5_clear_15 : decode cX5_clear 15 = .ok (.return_, 1) := by decide +kernel
def wX5_clear (a0 : Nat) (S : kp_S) (post : kp_S → Prop) : Prop :=
  ∀ T1 : kp_S, T1 = kp_sI S 1002 a0 0 →
  ∀ T2 : kp_S, T2 = kp_sI T1 1011 a0 0 →
  ∀ T3 : kp_S, T3 = kp_sI T2 1012 a0 (-1) →
  post T3
set_option maxHeartbeats 4000000 in
set_option maxRecDepth 100000 in
theorem c_X5_clear (l : Launch) (D : va_G) (cy : Nat → ClassId) (ad : (Nat → Nat) × (Nat → Nat)) (S : kp_S) (a0 : Nat) (post : kp_S → Prop) (hS : kp_ok S) (f_a0 : kp_is S a0 5) (hw : wX5_clear a0 S post) : kp_M l yX5_clear cX5_clear 1 none { frames := 0, cells := 0, slots := 0, locals := 0 } D cy ad S [.ref a0] 0 0 (fun A => kp_Qv D cy A S post) := by
  refine kp_start (own := RX5) (by decide) rfl (Nat.le_of_ble_eq_true rfl) hS ?_
  intro p e s m below meth c A ls X hr hlocks hname h hl
  have hle : kp_le S S := kp_le.rf
  have hl : lv_has ls 1 [(0, .ref a0)] := hl
  unfold wX5_clear at hw
  have h : kp_H D cy A S s.heap s.heap [] := h
  revert h
  intro h
  refine lv_aload_n X.1 X.2.1 dX5_clear_0 rfl (lv_at hl 0 rfl) ?_
  refine lv_iconst (v := 0) X.1 X.2.1 dX5_clear_1 (by decide) ?_
  refine kp_putI X h f_a0 fp_5_31 rfl ⟨rfl, rfl⟩ dX5_clear_2 (fun T1 e_T1 l_T1 H locs h => ?_)
  have hw := hw T1 e_T1
  have f_a0 := l_T1.is f_a0
  have hle := hle.tr l_T1
  refine lv_aload_n X.1 X.2.1 dX5_clear_5 rfl (lv_at hl 0 rfl) ?_
  refine lv_iconst (v := 0) X.1 X.2.1 dX5_clear_6 (by decide) ?_
  refine kp_putI X h f_a0 fp_5_35 rfl ⟨rfl, rfl⟩ dX5_clear_7 (fun T2 e_T2 l_T2 H locs h => ?_)
  have hw := hw T2 e_T2
  have f_a0 := l_T2.is f_a0
  have hle := hle.tr l_T2
  refine lv_aload_n X.1 X.2.1 dX5_clear_10 rfl (lv_at hl 0 rfl) ?_
  refine lv_iconst (v := (-1)) X.1 X.2.1 dX5_clear_11 (by decide) ?_
  refine kp_putI X h f_a0 fp_5_38 rfl ⟨rfl, rfl⟩ dX5_clear_12 (fun T3 e_T3 l_T3 H locs h => ?_)
  have hw := hw T3 e_T3
  have f_a0 := l_T3.is f_a0
  have hle := hle.tr l_T3
  exact kp_retv X hr hlocks h hle hw dX5_clear_15
theorem dX5_blame_0 : decode cX5_blame 0 = .ok (.iload_n 2, 1) := by decide +kernel
theorem dX5_blame_1 : decode cX5_blame 1 = .ok (.aload_n 0, 1) := by decide +kernel
theorem dX5_blame_2 : decode cX5_blame 2 = .ok (.getfield 38, 3) := by decide +kernel
theorem dX5_blame_5 : decode cX5_blame 5 = .ok (.if_icmp .lt 19, 3) := by decide +kernel
theorem dX5_blame_8 : decode cX5_blame 8 = .ok (.iload_n 2, 1) := by decide +kernel
theorem dX5_blame_9 : decode cX5_blame 9 = .ok (.aload_n 0, 1) := by decide +kernel
theorem dX5_blame_10 : decode cX5_blame 10 = .ok (.getfield 38, 3) := by decide +kernel
theorem dX5_blame_13 : decode cX5_blame 13 = .ok (.if_icmp .ne 15, 3) := by decide +kernel
theorem dX5_blame_16 : decode cX5_blame 16 = .ok (.iload_n 1, 1) := by decide +kernel
theorem dX5_blame_17 : decode cX5_blame 17 = .ok (.aload_n 0, 1) := by decide +kernel
theorem dX5_blame_18 : decode cX5_blame 18 = .ok (.getfield 35, 3) := by decide +kernel
theorem dX5_blame_21 : decode cX5_blame 21 = .ok (.if_icmp .ge 7, 3) := by decide +kernel
theorem dX5_blame_24 : decode cX5_blame 24 = .ok (.iconst 1, 1) := by decide +kernel
theorem dX5_blame_25 : decode cX5_blame 25 = .ok (.goto 4, 3) := by decide +kernel
theorem dX5_blame_28 : decode cX5_blame 28 = .ok (.iconst 0, 1) := by decide +kernel
theorem dX5_blame_29 : decode cX5_blame 29 = .ok (.istore_n 3, 1) := by decide +kernel
theorem dX5_blame_30 : decode cX5_blame 30 = .ok (.aload_n 0, 1) := by decide +kernel
theorem dX5_blame_31 : decode cX5_blame 31 = .ok (.getfield 35, 3) := by decide +kernel
theorem dX5_blame_34 : decode cX5_blame 34 = .ok (.ifCond .eq 7, 3) := by decide +kernel
theorem dX5_blame_37 : decode cX5_blame 37 = .ok (.iload_n 3, 1) := by decide +kernel
theorem dX5_blame_38 : decode cX5_blame 38 = .ok (.ifCond .eq 13, 3) := by decide +kernel
theorem dX5_blame_41 : decode cX5_blame 41 = .ok (.aload_n 0, 1) := by decide +kernel
theorem dX5_blame_42 : decode cX5_blame 42 = .ok (.iload_n 1, 1) := by decide +kernel
theorem dX5_blame_43 : decode cX5_blame 43 = .ok (.putfield 35, 3) := by decide +kernel
theorem dX5_blame_46 : decode cX5_blame 46 = .ok (.aload_n 0, 1) := by decide +kernel
theorem dX5_blame_47 : decode cX5_blame 47 = .ok (.iload_n 2, 1) := by decide +kernel
theorem dX5_blame_48 : decode cX5_blame 48 = .ok (.putfield 38, 3) := by decide +kernel
theorem dX5_blame_51 : decode cX5_blame 51 = .ok (.return_, 1) := by decide +kernel
def wX5_blame_b51 (a0 : Nat) (x1 : Int32) (x2 : Int32)  (Sn : kp_S) (post : kp_S → Prop) : Prop :=
  post Sn
def wX5_blame_b41 (a0 : Nat) (x1 : Int32) (x2 : Int32)  (Sn : kp_S) (post : kp_S → Prop) : Prop :=
  ∀ T2001 : kp_S, T2001 = kp_sI Sn 1011 a0 x1 →
  ∀ T2002 : kp_S, T2002 = kp_sI T2001 1012 a0 x2 →
  wX5_blame_b51 a0 x1 x2   T2002 post
def wX5_blame_b29 (a0 : Nat) (x1 : Int32) (x2 : Int32) (xt0 : Int32)  (Sn : kp_S) (post : kp_S → Prop) : Prop :=
  (((kp_I Sn 1011 a0) = 0 →
  wX5_blame_b41 a0 x1 x2   Sn post) ∧ (¬ (kp_I Sn 1011 a0) = 0 →
  ((xt0 = 0 →
  wX5_blame_b51 a0 x1 x2   Sn post) ∧ (¬ xt0 = 0 →
  wX5_blame_b41 a0 x1 x2   Sn post))))
def wX5_blame_b24 (a0 : Nat) (x1 : Int32) (x2 : Int32)  (Sn : kp_S) (post : kp_S → Prop) : Prop :=
  wX5_blame_b29 a0 x1 x2 1  Sn post
def wX5_blame_b28 (a0 : Nat) (x1 : Int32) (x2 : Int32)  (Sn : kp_S) (post : kp_S → Prop) : Prop :=
  wX5_blame_b29 a0 x1 x2 0  Sn post
def wX5_blame (a0 : Nat) (x1 : Int32) (x2 : Int32) (S : kp_S) (post : kp_S → Prop) : Prop :=
  ((x2 < (kp_I S 1012 a0) →
  wX5_blame_b24 a0 x1 x2   S post) ∧ (¬ x2 < (kp_I S 1012 a0) →
  ((¬ x2 = (kp_I S 1012 a0) →
  wX5_blame_b28 a0 x1 x2   S post) ∧ (x2 = (kp_I S 1012 a0) →
  (((kp_I S 1011 a0) ≤ x1 →
  wX5_blame_b28 a0 x1 x2   S post) ∧ (¬ (kp_I S 1011 a0) ≤ x1 →
  wX5_blame_b24 a0 x1 x2   S post))))))
set_option maxHeartbeats 4000000 in
set_option maxRecDepth 100000 in
theorem c_X5_blame (l : Launch) (D : va_G) (cy : Nat → ClassId) (ad : (Nat → Nat) × (Nat → Nat)) (S : kp_S) (a0 : Nat) (x1 : Int32) (x2 : Int32) (post : kp_S → Prop) (hS : kp_ok S) (f_a0 : kp_is S a0 5) (hw : wX5_blame a0 x1 x2 S post) : kp_M l yX5_blame cX5_blame 4 none { frames := 0, cells := 0, slots := 0, locals := 0 } D cy ad S [.ref a0, .int x1, .int x2] 0 0 (fun A => kp_Qv D cy A S post) := by
  refine kp_start (own := RX5) (by decide) rfl (Nat.le_of_ble_eq_true rfl) hS ?_
  intro p e s m below meth c A ls X hr hlocks hname h hl
  have hle : kp_le S S := kp_le.rf
  have hl : lv_has ls 4 [(0, .ref a0), (1, .int x1), (2, .int x2)] := hl
  have j51 : ∀  (Sn : kp_S) (H : Heap) (locs : List Loc) (ls : Array Slot), lv_has ls 4 [] → kp_H D cy A Sn s.heap H locs → kp_le S Sn → kp_is Sn a0 5 → wX5_blame_b51 a0 x1 x2   Sn post → W p l e { frames := 0, cells := 0, slots := 0, locals := 0 } s m ([.ref a0, .int x1, .int x2] : List Value).toArray below meth c H locs 0 0 (MQ below (kp_Qv D cy A S post) ([.ref a0, .int x1, .int x2] : List Value).toArray s 0 0 A) (F0 m 51 ls []) := by
    intro  Sn H locs ls hl h hle f_a0 hw
    unfold wX5_blame_b51 at hw
    exact kp_retv X hr hlocks h hle hw dX5_blame_51
  have j41 : ∀  (Sn : kp_S) (H : Heap) (locs : List Loc) (ls : Array Slot), lv_has ls 4 [(0, .ref a0), (1, .int x1), (2, .int x2)] → kp_H D cy A Sn s.heap H locs → kp_le S Sn → kp_is Sn a0 5 → wX5_blame_b41 a0 x1 x2   Sn post → W p l e { frames := 0, cells := 0, slots := 0, locals := 0 } s m ([.ref a0, .int x1, .int x2] : List Value).toArray below meth c H locs 0 0 (MQ below (kp_Qv D cy A S post) ([.ref a0, .int x1, .int x2] : List Value).toArray s 0 0 A) (F0 m 41 ls []) := by
    intro  Sn H locs ls hl h hle f_a0 hw
    unfold wX5_blame_b41 at hw
    refine lv_aload_n X.1 X.2.1 dX5_blame_41 rfl (lv_at hl 0 rfl) ?_
    refine lv_iload_n X.1 X.2.1 dX5_blame_42 rfl (lv_at hl 1 rfl) ?_
    refine kp_putI X h f_a0 fp_5_35 rfl ⟨rfl, rfl⟩ dX5_blame_43 (fun T2001 e_T2001 l_T2001 H locs h => ?_)
    have hw := hw T2001 e_T2001
    have f_a0 := l_T2001.is f_a0
    have hle := hle.tr l_T2001
    refine lv_aload_n X.1 X.2.1 dX5_blame_46 rfl (lv_at hl 0 rfl) ?_
    refine lv_iload_n X.1 X.2.1 dX5_blame_47 rfl (lv_at hl 2 rfl) ?_
    refine kp_putI X h f_a0 fp_5_38 rfl ⟨rfl, rfl⟩ dX5_blame_48 (fun T2002 e_T2002 l_T2002 H locs h => ?_)
    have hw := hw T2002 e_T2002
    have f_a0 := l_T2002.is f_a0
    have hle := hle.tr l_T2002
    exact j51  T2002 H locs ls (lv_sub hl [] rfl) h hle f_a0 hw
  have j29 : ∀ (xt0 : Int32) (Sn : kp_S) (H : Heap) (locs : List Loc) (ls : Array Slot), lv_has ls 4 [(0, .ref a0), (1, .int x1), (2, .int x2)] → kp_H D cy A Sn s.heap H locs → kp_le S Sn → kp_is Sn a0 5 → wX5_blame_b29 a0 x1 x2 xt0  Sn post → W p l e { frames := 0, cells := 0, slots := 0, locals := 0 } s m ([.ref a0, .int x1, .int x2] : List Value).toArray below meth c H locs 0 0 (MQ below (kp_Qv D cy A S post) ([.ref a0, .int x1, .int x2] : List Value).toArray s 0 0 A) (F0 m 29 ls [.int xt0]) := by
    intro xt0 Sn H locs ls hl h hle f_a0 hw
    unfold wX5_blame_b29 at hw
    refine lv_istore_n (lv' := [(3, .int xt0), (0, .ref a0), (1, .int x1), (2, .int x2)]) X.1 X.2.1 dX5_blame_29 rfl hl (by decide) rfl (fun ls hl => ?_)
    refine lv_aload_n X.1 X.2.1 dX5_blame_30 rfl (lv_at hl 1 rfl) ?_
    refine kp_get X h f_a0 fp_5_35.l (v := .int (kp_I Sn 1011 a0)) rfl dX5_blame_31 ?_
    refine lv_if_eq (tgt := 41) X.1 X.2.1 dX5_blame_34 (by decide) (fun c3002 => ?_) (fun c3002 => ?_)
    · have hw := hw.1 c3002
      exact j41  Sn H locs ls (lv_sub hl [1, 2, 3] rfl) h hle f_a0 hw
    · have hw := hw.2 c3002
      refine lv_iload_n X.1 X.2.1 dX5_blame_37 rfl (lv_at hl 0 rfl) ?_
      refine lv_if_eq (tgt := 51) X.1 X.2.1 dX5_blame_38 (by decide) (fun c3001 => ?_) (fun c3001 => ?_)
      · have hw := hw.1 c3001
        exact j51  Sn H locs ls (lv_sub hl [] rfl) h hle f_a0 hw
      · have hw := hw.2 c3001
        exact j41  Sn H locs ls (lv_sub hl [1, 2, 3] rfl) h hle f_a0 hw
  have j24 : ∀  (Sn : kp_S) (H : Heap) (locs : List Loc) (ls : Array Slot), lv_has ls 4 [(0, .ref a0), (1, .int x1), (2, .int x2)] → kp_H D cy A Sn s.heap H locs → kp_le S Sn → kp_is Sn a0 5 → wX5_blame_b24 a0 x1 x2   Sn post → W p l e { frames := 0, cells := 0, slots := 0, locals := 0 } s m ([.ref a0, .int x1, .int x2] : List Value).toArray below meth c H locs 0 0 (MQ below (kp_Qv D cy A S post) ([.ref a0, .int x1, .int x2] : List Value).toArray s 0 0 A) (F0 m 24 ls []) := by
    intro  Sn H locs ls hl h hle f_a0 hw
    unfold wX5_blame_b24 at hw
    refine lv_iconst (v := 1) X.1 X.2.1 dX5_blame_24 (by decide) ?_
    refine lv_goto (tgt := 29) X.1 X.2.1 dX5_blame_25 (by decide) ?_
    exact j29 1 Sn H locs ls (lv_sub hl [0, 1, 2] rfl) h hle f_a0 hw
  have j28 : ∀  (Sn : kp_S) (H : Heap) (locs : List Loc) (ls : Array Slot), lv_has ls 4 [(0, .ref a0), (1, .int x1), (2, .int x2)] → kp_H D cy A Sn s.heap H locs → kp_le S Sn → kp_is Sn a0 5 → wX5_blame_b28 a0 x1 x2   Sn post → W p l e { frames := 0, cells := 0, slots := 0, locals := 0 } s m ([.ref a0, .int x1, .int x2] : List Value).toArray below meth c H locs 0 0 (MQ below (kp_Qv D cy A S post) ([.ref a0, .int x1, .int x2] : List Value).toArray s 0 0 A) (F0 m 28 ls []) := by
    intro  Sn H locs ls hl h hle f_a0 hw
    unfold wX5_blame_b28 at hw
    refine lv_iconst (v := 0) X.1 X.2.1 dX5_blame_28 (by decide) ?_
    exact j29 0 Sn H locs ls (lv_sub hl [0, 1, 2] rfl) h hle f_a0 hw
  unfold wX5_blame at hw
  have h : kp_H D cy A S s.heap s.heap [] := h
  revert h
  intro h
  refine lv_iload_n X.1 X.2.1 dX5_blame_0 rfl (lv_at hl 2 rfl) ?_
  refine lv_aload_n X.1 X.2.1 dX5_blame_1 rfl (lv_at hl 0 rfl) ?_
  refine kp_get X h f_a0 fp_5_38.l (v := .int (kp_I S 1012 a0)) rfl dX5_blame_2 ?_
  refine lv_icmp_lt (tgt := 24) X.1 X.2.1 dX5_blame_5 (by decide) (fun c3 => ?_) (fun c3 => ?_)
  · have hw := hw.1 c3
    exact j24  S _ _ ls (lv_sub hl [0, 1, 2] rfl) h hle f_a0 hw
  · have hw := hw.2 c3
    refine lv_iload_n X.1 X.2.1 dX5_blame_8 rfl (lv_at hl 2 rfl) ?_
    refine lv_aload_n X.1 X.2.1 dX5_blame_9 rfl (lv_at hl 0 rfl) ?_
    refine kp_get X h f_a0 fp_5_38.l (v := .int (kp_I S 1012 a0)) rfl dX5_blame_10 ?_
    refine lv_icmp_ne (tgt := 28) X.1 X.2.1 dX5_blame_13 (by decide) (fun c2 => ?_) (fun c2 => ?_)
    · have hw := hw.1 c2
      exact j28  S _ _ ls (lv_sub hl [0, 1, 2] rfl) h hle f_a0 hw
    · have hw := hw.2 c2
      refine lv_iload_n X.1 X.2.1 dX5_blame_16 rfl (lv_at hl 1 rfl) ?_
      refine lv_aload_n X.1 X.2.1 dX5_blame_17 rfl (lv_at hl 0 rfl) ?_
      refine kp_get X h f_a0 fp_5_35.l (v := .int (kp_I S 1011 a0)) rfl dX5_blame_18 ?_
      refine lv_icmp_ge (tgt := 28) X.1 X.2.1 dX5_blame_21 (by decide) (fun c1 => ?_) (fun c1 => ?_)
      · have hw := hw.1 c1
        exact j28  S _ _ ls (lv_sub hl [0, 1, 2] rfl) h hle f_a0 hw
      · have hw := hw.2 c1
        exact j24  S _ _ ls (lv_sub hl [0, 1, 2] rfl) h hle f_a0 hw
theorem dX5_tellDuty_0 : decode cX5_tellDuty 0 = .ok (.aload_n 0, 1) := by decide +kernel
theorem dX5_tellDuty_1 : decode cX5_tellDuty 1 = .ok (.getfield 31, 3) := by decide +kernel
theorem dX5_tellDuty_4 : decode cX5_tellDuty 4 = .ok (.sipush 300, 3) := by decide +kernel
theorem dX5_tellDuty_7 : decode cX5_tellDuty 7 = .ok (.if_icmp .ge 33, 3) := by decide +kernel
theorem dX5_tellDuty_10 : decode cX5_tellDuty 10 = .ok (.aload_n 0, 1) := by decide +kernel
theorem dX5_tellDuty_11 : decode cX5_tellDuty 11 = .ok (.getfield 11, 3) := by decide +kernel
theorem dX5_tellDuty_14 : decode cX5_tellDuty 14 = .ok (.aload_n 0, 1) := by decide +kernel
theorem dX5_tellDuty_15 : decode cX5_tellDuty 15 = .ok (.getfield 31, 3) := by decide +kernel
theorem dX5_tellDuty_18 : decode cX5_tellDuty 18 = .ok (.lload_n 1, 1) := by decide +kernel
theorem dX5_tellDuty_19 : decode cX5_tellDuty 19 = .ok (.lastore, 1) := by decide +kernel
theorem dX5_tellDuty_20 : decode cX5_tellDuty 20 = .ok (.aload_n 0, 1) := by decide +kernel
theorem dX5_tellDuty_21 : decode cX5_tellDuty 21 = .ok (.getfield 15, 3) := by decide +kernel
theorem dX5_tellDuty_24 : decode cX5_tellDuty 24 = .ok (.aload_n 0, 1) := by decide +kernel
theorem dX5_tellDuty_25 : decode cX5_tellDuty 25 = .ok (.getfield 31, 3) := by decide +kernel
theorem dX5_tellDuty_28 : decode cX5_tellDuty 28 = .ok (.iload_n 3, 1) := by decide +kernel
theorem dX5_tellDuty_29 : decode cX5_tellDuty 29 = .ok (.iastore, 1) := by decide +kernel
theorem dX5_tellDuty_30 : decode cX5_tellDuty 30 = .ok (.aload_n 0, 1) := by decide +kernel
theorem dX5_tellDuty_31 : decode cX5_tellDuty 31 = .ok (.dup, 1) := by decide +kernel
theorem dX5_tellDuty_32 : decode cX5_tellDuty 32 = .ok (.getfield 31, 3) := by decide +kernel
theorem dX5_tellDuty_35 : decode cX5_tellDuty 35 = .ok (.iconst 1, 1) := by decide +kernel
theorem dX5_tellDuty_36 : decode cX5_tellDuty 36 = .ok (.iadd, 1) := by decide +kernel
theorem dX5_tellDuty_37 : decode cX5_tellDuty 37 = .ok (.putfield 31, 3) := by decide +kernel
theorem dX5_tellDuty_40 : decode cX5_tellDuty 40 = .ok (.return_, 1) := by decide +kernel
def wX5_tellDuty_b40 (a0 : Nat) (w1 : Int64) (x3 : Int32)  (Sn : kp_S) (post : kp_S → Prop) : Prop :=
  post Sn
def wX5_tellDuty (a0 : Nat) (w1 : Int64) (x3 : Int32) (S : kp_S) (post : kp_S → Prop) : Prop :=
  ((300 ≤ (kp_I S 1002 a0) →
  wX5_tellDuty_b40 a0 w1 x3   S post) ∧ (¬ 300 ≤ (kp_I S 1002 a0) →
  ∃ b1 : Nat, kp_R S 1000 a0 = some b1 ∧
  vp_in (kp_I S 1002 a0) (kp_N S b1) ∧ ∀ T2 : kp_S, T2 = kp_sB S b1 (vp_updL (kp_B S b1) ((kp_I S 1002 a0).toNatClampNeg) w1) →
  ∃ b3 : Nat, kp_R T2 1001 a0 = some b3 ∧
  vp_in (kp_I T2 1002 a0) (kp_N T2 b3) ∧ ∀ T4 : kp_S, T4 = kp_sA T2 b3 (upd (kp_A T2 b3) ((kp_I T2 1002 a0).toNatClampNeg) x3) →
  ∀ T5 : kp_S, T5 = kp_sI T4 1002 a0 ((kp_I T4 1002 a0) + 1) →
  wX5_tellDuty_b40 a0 w1 x3   T5 post))
set_option maxHeartbeats 4000000 in
set_option maxRecDepth 100000 in
theorem c_X5_tellDuty (l : Launch) (D : va_G) (cy : Nat → ClassId) (ad : (Nat → Nat) × (Nat → Nat)) (S : kp_S) (a0 : Nat) (w1 : Int64) (x3 : Int32) (post : kp_S → Prop) (hS : kp_ok S) (f_a0 : kp_is S a0 5) (hw : wX5_tellDuty a0 w1 x3 S post) : kp_M l yX5_tellDuty cX5_tellDuty 4 none { frames := 0, cells := 0, slots := 0, locals := 0 } D cy ad S [.ref a0, .long w1, .int x3] 0 0 (fun A => kp_Qv D cy A S post) := by
  refine kp_start (own := RX5) (by decide) rfl (Nat.le_of_ble_eq_true rfl) hS ?_
  intro p e s m below meth c A ls X hr hlocks hname h hl
  have hle : kp_le S S := kp_le.rf
  have hl : lv_has ls 4 [(0, .ref a0), (1, .long w1), (3, .int x3)] := hl
  have j40 : ∀  (Sn : kp_S) (H : Heap) (locs : List Loc) (ls : Array Slot), lv_has ls 4 [] → kp_H D cy A Sn s.heap H locs → kp_le S Sn → kp_is Sn a0 5 → wX5_tellDuty_b40 a0 w1 x3   Sn post → W p l e { frames := 0, cells := 0, slots := 0, locals := 0 } s m ([.ref a0, .long w1, .int x3] : List Value).toArray below meth c H locs 0 0 (MQ below (kp_Qv D cy A S post) ([.ref a0, .long w1, .int x3] : List Value).toArray s 0 0 A) (F0 m 40 ls []) := by
    intro  Sn H locs ls hl h hle f_a0 hw
    unfold wX5_tellDuty_b40 at hw
    exact kp_retv X hr hlocks h hle hw dX5_tellDuty_40
  unfold wX5_tellDuty at hw
  have h : kp_H D cy A S s.heap s.heap [] := h
  revert h
  intro h
  refine lv_aload_n X.1 X.2.1 dX5_tellDuty_0 rfl (lv_at hl 0 rfl) ?_
  refine kp_get X h f_a0 fp_5_31.l (v := .int (kp_I S 1002 a0)) rfl dX5_tellDuty_1 ?_
  refine lv_sipush (v := 300) X.1 X.2.1 dX5_tellDuty_4 (by decide) ?_
  refine lv_icmp_ge (tgt := 40) X.1 X.2.1 dX5_tellDuty_7 (by decide) (fun c6 => ?_) (fun c6 => ?_)
  · have hw := hw.1 c6
    exact j40  S _ _ ls (lv_sub hl [] rfl) h hle f_a0 hw
  · have hw := hw.2 c6
    refine lv_aload_n X.1 X.2.1 dX5_tellDuty_10 rfl (lv_at hl 0 rfl) ?_
    obtain ⟨b1, e_b1, hw⟩ := hw
    have f_b1 := h.2.2.2.rf (c := 5) (k := 0) f_a0 (by decide) (by decide) e_b1 (t := 15) rfl
    refine kp_get X h f_a0 ff_5_11.l (v := .ref b1) (congrArg va_rf e_b1) dX5_tellDuty_11 ?_
    refine lv_aload_n X.1 X.2.1 dX5_tellDuty_14 rfl (lv_at hl 0 rfl) ?_
    refine kp_get X h f_a0 fp_5_31.l (v := .int (kp_I S 1002 a0)) rfl dX5_tellDuty_15 ?_
    refine lv_lload_n X.1 X.2.1 dX5_tellDuty_18 rfl (lv_at hl 1 rfl) ?_
    obtain ⟨hi, hw⟩ := hw
    refine kp_last X h f_b1 hi dX5_tellDuty_19 (fun T2 e_T2 l_T2 H locs h => ?_)
    have hw := hw T2 e_T2
    have f_a0 := l_T2.is f_a0
    have f_b1 := l_T2.is f_b1
    have hle := hle.tr l_T2
    have e_b1 : kp_R T2 1000 a0 = some b1 := by rw [e_T2]; exact e_b1
    refine lv_aload_n X.1 X.2.1 dX5_tellDuty_20 rfl (lv_at hl 0 rfl) ?_
    obtain ⟨b3, e_b3, hw⟩ := hw
    have f_b3 := h.2.2.2.rf (c := 5) (k := 1) f_a0 (by decide) (by decide) e_b3 (t := 14) rfl
    refine kp_get X h f_a0 ff_5_15.l (v := .ref b3) (congrArg va_rf e_b3) dX5_tellDuty_21 ?_
    refine lv_aload_n X.1 X.2.1 dX5_tellDuty_24 rfl (lv_at hl 0 rfl) ?_
    refine kp_get X h f_a0 fp_5_31.l (v := .int (kp_I T2 1002 a0)) rfl dX5_tellDuty_25 ?_
    refine lv_iload_n X.1 X.2.1 dX5_tellDuty_28 rfl (lv_at hl 2 rfl) ?_
    obtain ⟨hi, hw⟩ := hw
    refine kp_iast X h f_b3 hi dX5_tellDuty_29 (fun T4 e_T4 l_T4 H locs h => ?_)
    have hw := hw T4 e_T4
    have f_a0 := l_T4.is f_a0
    have f_b1 := l_T4.is f_b1
    have f_b3 := l_T4.is f_b3
    have hle := hle.tr l_T4
    have e_b1 : kp_R T4 1000 a0 = some b1 := by rw [e_T4]; exact e_b1
    have e_b3 : kp_R T4 1001 a0 = some b3 := by rw [e_T4]; exact e_b3
    refine lv_aload_n X.1 X.2.1 dX5_tellDuty_30 rfl (lv_at hl 0 rfl) ?_
    refine lv_dup X.1 X.2.1 dX5_tellDuty_31 rfl ?_
    refine kp_get X h f_a0 fp_5_31.l (v := .int (kp_I T4 1002 a0)) rfl dX5_tellDuty_32 ?_
    refine lv_iconst (v := 1) X.1 X.2.1 dX5_tellDuty_35 (by decide) ?_
    refine lv_iadd X.1 X.2.1 dX5_tellDuty_36 ?_
    refine kp_putI X h f_a0 fp_5_31 rfl ⟨rfl, rfl⟩ dX5_tellDuty_37 (fun T5 e_T5 l_T5 H locs h => ?_)
    have hw := hw T5 e_T5
    have f_a0 := l_T5.is f_a0
    have f_b1 := l_T5.is f_b1
    have f_b3 := l_T5.is f_b3
    have hle := hle.tr l_T5
    have e_b1 : kp_R T5 1000 a0 = some b1 := by rw [e_T5]; exact e_b1
    have e_b3 : kp_R T5 1001 a0 = some b3 := by rw [e_T5]; exact e_b3
    exact j40  T5 _ _ ls (lv_sub hl [] rfl) h hle f_a0 hw
theorem dX5_dutyNamed_0 : decode cX5_dutyNamed 0 = .ok (.iconst 0, 1) := by decide +kernel
theorem dX5_dutyNamed_1 : decode cX5_dutyNamed 1 = .ok (.istore_n 3, 1) := by decide +kernel
theorem dX5_dutyNamed_2 : decode cX5_dutyNamed 2 = .ok (.iload_n 3, 1) := by decide +kernel
theorem dX5_dutyNamed_3 : decode cX5_dutyNamed 3 = .ok (.aload_n 0, 1) := by decide +kernel
theorem dX5_dutyNamed_4 : decode cX5_dutyNamed 4 = .ok (.getfield 31, 3) := by decide +kernel
theorem dX5_dutyNamed_7 : decode cX5_dutyNamed 7 = .ok (.if_icmp .ge 29, 3) := by decide +kernel
theorem dX5_dutyNamed_10 : decode cX5_dutyNamed 10 = .ok (.iload_n 3, 1) := by decide +kernel
theorem dX5_dutyNamed_11 : decode cX5_dutyNamed 11 = .ok (.sipush 300, 3) := by decide +kernel
theorem dX5_dutyNamed_14 : decode cX5_dutyNamed 14 = .ok (.if_icmp .ge 22, 3) := by decide +kernel
theorem dX5_dutyNamed_17 : decode cX5_dutyNamed 17 = .ok (.aload_n 0, 1) := by decide +kernel
theorem dX5_dutyNamed_18 : decode cX5_dutyNamed 18 = .ok (.getfield 11, 3) := by decide +kernel
theorem dX5_dutyNamed_21 : decode cX5_dutyNamed 21 = .ok (.iload_n 3, 1) := by decide +kernel
theorem dX5_dutyNamed_22 : decode cX5_dutyNamed 22 = .ok (.laload, 1) := by decide +kernel
theorem dX5_dutyNamed_23 : decode cX5_dutyNamed 23 = .ok (.lload_n 1, 1) := by decide +kernel
theorem dX5_dutyNamed_24 : decode cX5_dutyNamed 24 = .ok (.lcmp, 1) := by decide +kernel
theorem dX5_dutyNamed_25 : decode cX5_dutyNamed 25 = .ok (.ifCond .ne 5, 3) := by decide +kernel
theorem dX5_dutyNamed_28 : decode cX5_dutyNamed 28 = .ok (.iload_n 3, 1) := by decide +kernel
theorem dX5_dutyNamed_29 : decode cX5_dutyNamed 29 = .ok (.ireturn, 1) := by decide +kernel
theorem dX5_dutyNamed_30 : decode cX5_dutyNamed 30 = .ok (.iinc 3 1, 3) := by decide +kernel
theorem dX5_dutyNamed_33 : decode cX5_dutyNamed 33 = .ok (.goto (-31), 3) := by decide +kernel
theorem dX5_dutyNamed_36 : decode cX5_dutyNamed 36 = .ok (.iconst (-1), 1) := by decide +kernel
theorem dX5_dutyNamed_37 : decode cX5_dutyNamed 37 = .ok (.ireturn, 1) := by decide +kernel
def wX5_dutyNamed_b36 (a0 : Nat) (w1 : Int64)  (Sn : kp_S) (post : Int32 → kp_S → Prop) : Prop :=
  post (-1) Sn
def wX5_dutyNamed_L2 (a0 : Nat) (w1 : Int64)  (post : Int32 → kp_S → Prop) : Nat → Int32 → kp_S → Prop
  | 0, _, _ => False
  | n + 1, xn3, Sn =>
  (((kp_I Sn 1002 a0) ≤ xn3 →
  wX5_dutyNamed_b36 a0 w1   Sn post) ∧ (¬ (kp_I Sn 1002 a0) ≤ xn3 →
  ((300 ≤ xn3 →
  wX5_dutyNamed_b36 a0 w1   Sn post) ∧ (¬ 300 ≤ xn3 →
  ∃ b2001 : Nat, kp_R Sn 1000 a0 = some b2001 ∧
  vp_in xn3 (kp_N Sn b2001) ∧
  ((¬ (lg_cmp (kp_B Sn b2001 xn3.toNatClampNeg) w1) = 0 →
  ∀ y2002 : Int32, y2002 = xn3 + 1 →
  wX5_dutyNamed_L2 a0 w1  post n y2002 Sn) ∧ ((lg_cmp (kp_B Sn b2001 xn3.toNatClampNeg) w1) = 0 →
  post xn3 Sn))))))
def wX5_dutyNamed (a0 : Nat) (w1 : Int64) (S : kp_S) (post : Int32 → kp_S → Prop) : Prop :=
  ∃ n0 : Nat, wX5_dutyNamed_L2 a0 w1  post n0 0 S
set_option maxHeartbeats 4000000 in
set_option maxRecDepth 100000 in
theorem c_X5_dutyNamed (l : Launch) (D : va_G) (cy : Nat → ClassId) (ad : (Nat → Nat) × (Nat → Nat)) (S : kp_S) (a0 : Nat) (w1 : Int64) (post : Int32 → kp_S → Prop) (hS : kp_ok S) (f_a0 : kp_is S a0 5) (hw : wX5_dutyNamed a0 w1 S post) : kp_M l yX5_dutyNamed cX5_dutyNamed 4 (some .int) { frames := 0, cells := 0, slots := 0, locals := 0 } D cy ad S [.ref a0, .long w1] 0 0 (fun A => kp_Qi D cy A S post) := by
  refine kp_start (own := RX5) (by decide) rfl (Nat.le_of_ble_eq_true rfl) hS ?_
  intro p e s m below meth c A ls X hr hlocks hname h hl
  have hle : kp_le S S := kp_le.rf
  have hl : lv_has ls 4 [(0, .ref a0), (1, .long w1)] := hl
  have j36 : ∀  (Sn : kp_S) (H : Heap) (locs : List Loc) (ls : Array Slot), lv_has ls 4 [] → kp_H D cy A Sn s.heap H locs → kp_le S Sn → kp_is Sn a0 5 → wX5_dutyNamed_b36 a0 w1   Sn post → W p l e { frames := 0, cells := 0, slots := 0, locals := 0 } s m ([.ref a0, .long w1] : List Value).toArray below meth c H locs 0 0 (MQ below (kp_Qi D cy A S post) ([.ref a0, .long w1] : List Value).toArray s 0 0 A) (F0 m 36 ls []) := by
    intro  Sn H locs ls hl h hle f_a0 hw
    unfold wX5_dutyNamed_b36 at hw
    refine lv_iconst (v := (-1)) X.1 X.2.1 dX5_dutyNamed_36 (by decide) ?_
    exact kp_reti X hr hlocks h hle rfl hw dX5_dutyNamed_37
  have L2 : ∀ n2 : Nat, ∀ (xn3 : Int32) (Sn : kp_S) (H : Heap) (locs : List Loc) (ls : Array Slot), lv_has ls 4 [(0, .ref a0), (1, .long w1), (3, .int xn3)] → kp_H D cy A Sn s.heap H locs → kp_le S Sn → kp_is Sn a0 5 → wX5_dutyNamed_L2 a0 w1  post n2 xn3 Sn → W p l e { frames := 0, cells := 0, slots := 0, locals := 0 } s m ([.ref a0, .long w1] : List Value).toArray below meth c H locs 0 0 (MQ below (kp_Qi D cy A S post) ([.ref a0, .long w1] : List Value).toArray s 0 0 A) (F0 m 2 ls []) := by
    intro n2
    induction n2 with
    | zero => intro xn3 Sn H locs ls hl h hle f_a0 hw; exact hw.elim
    | succ n2 ih2 =>
      intro xn3 Sn H locs ls hl h hle f_a0 hw
      unfold wX5_dutyNamed_L2 at hw
      refine lv_iload_n X.1 X.2.1 dX5_dutyNamed_2 rfl (lv_at hl 2 rfl) ?_
      refine lv_aload_n X.1 X.2.1 dX5_dutyNamed_3 rfl (lv_at hl 0 rfl) ?_
      refine kp_get X h f_a0 fp_5_31.l (v := .int (kp_I Sn 1002 a0)) rfl dX5_dutyNamed_4 ?_
      refine lv_icmp_ge (tgt := 36) X.1 X.2.1 dX5_dutyNamed_7 (by decide) (fun c2005 => ?_) (fun c2005 => ?_)
      · have hw := hw.1 c2005
        exact j36  Sn H locs ls (lv_sub hl [] rfl) h hle f_a0 hw
      · have hw := hw.2 c2005
        refine lv_iload_n X.1 X.2.1 dX5_dutyNamed_10 rfl (lv_at hl 2 rfl) ?_
        refine lv_sipush (v := 300) X.1 X.2.1 dX5_dutyNamed_11 (by decide) ?_
        refine lv_icmp_ge (tgt := 36) X.1 X.2.1 dX5_dutyNamed_14 (by decide) (fun c2004 => ?_) (fun c2004 => ?_)
        · have hw := hw.1 c2004
          exact j36  Sn H locs ls (lv_sub hl [] rfl) h hle f_a0 hw
        · have hw := hw.2 c2004
          refine lv_aload_n X.1 X.2.1 dX5_dutyNamed_17 rfl (lv_at hl 0 rfl) ?_
          obtain ⟨b2001, e_b2001, hw⟩ := hw
          have f_b2001 := h.2.2.2.rf (c := 5) (k := 0) f_a0 (by decide) (by decide) e_b2001 (t := 15) rfl
          refine kp_get X h f_a0 ff_5_11.l (v := .ref b2001) (congrArg va_rf e_b2001) dX5_dutyNamed_18 ?_
          refine lv_iload_n X.1 X.2.1 dX5_dutyNamed_21 rfl (lv_at hl 2 rfl) ?_
          obtain ⟨hi, hw⟩ := hw
          refine kp_lald X h f_b2001 hi dX5_dutyNamed_22 ?_
          refine lv_lload_n X.1 X.2.1 dX5_dutyNamed_23 rfl (lv_at hl 1 rfl) ?_
          refine W.lcmp X.1 X.2.1 dX5_dutyNamed_24 ?_
          refine lv_if_ne (tgt := 30) X.1 X.2.1 dX5_dutyNamed_25 (by decide) (fun c2003 => ?_) (fun c2003 => ?_)
          · have hw := hw.1 c2003
            obtain ⟨y2002, e_y2002⟩ : ∃ y : Int32, y = xn3 + 1 := ⟨_, rfl⟩
            have hw := hw y2002 e_y2002
            refine lv_iinc (v := y2002) (lv' := [(3, .int y2002), (0, .ref a0), (1, .long w1)]) X.1 X.2.1 dX5_dutyNamed_30 hl (k := 2) rfl (by rw [e_y2002]; rfl) (by decide) rfl (fun ls hl => ?_)
            refine lv_goto (tgt := 2) X.1 X.2.1 dX5_dutyNamed_33 (by decide) ?_
            exact ih2 y2002 Sn H locs ls (lv_sub hl [1, 2, 0] rfl) h hle f_a0 hw
          · have hw := hw.2 c2003
            refine lv_iload_n X.1 X.2.1 dX5_dutyNamed_28 rfl (lv_at hl 2 rfl) ?_
            exact kp_reti X hr hlocks h hle rfl hw dX5_dutyNamed_29
  unfold wX5_dutyNamed at hw
  have h : kp_H D cy A S s.heap s.heap [] := h
  revert h
  intro h
  refine lv_iconst (v := 0) X.1 X.2.1 dX5_dutyNamed_0 (by decide) ?_
  refine lv_istore_n (lv' := [(3, .int 0), (0, .ref a0), (1, .long w1)]) X.1 X.2.1 dX5_dutyNamed_1 rfl hl (by decide) rfl (fun ls hl => ?_)
  obtain ⟨n0, hw⟩ := hw
  exact L2 n0 0 S _ _ ls (lv_sub hl [1, 2, 0] rfl) h hle f_a0 hw
theorem dX5_beginDuty_0 : decode cX5_beginDuty 0 = .ok (.aload_n 0, 1) := by decide +kernel
theorem dX5_beginDuty_1 : decode cX5_beginDuty 1 = .ok (.iconst 0, 1) := by decide +kernel
theorem dX5_beginDuty_2 : decode cX5_beginDuty 2 = .ok (.putfield 41, 3) := by decide +kernel
theorem dX5_beginDuty_5 : decode cX5_beginDuty 5 = .ok (.aload_n 0, 1) := by decide +kernel
theorem dX5_beginDuty_6 : decode cX5_beginDuty 6 = .ok (.iconst 0, 1) := by decide +kernel
theorem dX5_beginDuty_7 : decode cX5_beginDuty 7 = .ok (.putfield 44, 3) := by decide +kernel
theorem dX5_beginDuty_10 : decode cX5_beginDuty 10 = .ok (.aload_n 0, 1) := by decide +kernel
theorem dX5_beginDuty_11 : decode cX5_beginDuty 11 = .ok (.iconst 0, 1) := by decide +kernel
theorem dX5_beginDuty_12 : decode cX5_beginDuty 12 = .ok (.putfield 47, 3) := by decide +kernel
theorem dX5_beginDuty_15 : decode cX5_beginDuty 15 = .ok (.aload_n 0, 1) := by decide +kernel
theorem dX5_beginDuty_16 : decode cX5_beginDuty 16 = .ok (.iconst 0, 1) := by decide +kernel
theorem dX5_beginDuty_17 : decode cX5_beginDuty 17 = .ok (.putfield 50, 3) := by decide +kernel
theorem dX5_beginDuty_20 : decode cX5_beginDuty 20 = .ok (.aload_n 0, 1) := by decide +kernel
theorem dX5_beginDuty_21 : decode cX5_beginDuty 21 = .ok (.lload_n 2, 1) := by decide +kernel
theorem dX5_beginDuty_22 : decode cX5_beginDuty 22 = .ok (.invokevirtual 53, 3) := by decide +kernel
theorem dX5_beginDuty_25 : decode cX5_beginDuty 25 = .ok (.istore 5, 2) := by decide +kernel
theorem dX5_beginDuty_27 : decode cX5_beginDuty 27 = .ok (.iload 5, 2) := by decide +kernel
theorem dX5_beginDuty_29 : decode cX5_beginDuty 29 = .ok (.iconst (-1), 1) := by decide +kernel
theorem dX5_beginDuty_30 : decode cX5_beginDuty 30 = .ok (.if_icmp .eq 16, 3) := by decide +kernel
theorem dX5_beginDuty_33 : decode cX5_beginDuty 33 = .ok (.iload 5, 2) := by decide +kernel
theorem dX5_beginDuty_35 : decode cX5_beginDuty 35 = .ok (.iload_n 1, 1) := by decide +kernel
theorem dX5_beginDuty_36 : decode cX5_beginDuty 36 = .ok (.if_icmp .ge 10, 3) := by decide +kernel
theorem dX5_beginDuty_39 : decode cX5_beginDuty 39 = .ok (.aload_n 0, 1) := by decide +kernel
theorem dX5_beginDuty_40 : decode cX5_beginDuty 40 = .ok (.iconst 4, 1) := by decide +kernel
theorem dX5_beginDuty_41 : decode cX5_beginDuty 41 = .ok (.iload 4, 2) := by decide +kernel
theorem dX5_beginDuty_43 : decode cX5_beginDuty 43 = .ok (.invokevirtual 57, 3) := by decide +kernel
theorem dX5_beginDuty_46 : decode cX5_beginDuty 46 = .ok (.iload_n 1, 1) := by decide +kernel
theorem dX5_beginDuty_47 : decode cX5_beginDuty 47 = .ok (.bipush 30, 2) := by decide +kernel
theorem dX5_beginDuty_49 : decode cX5_beginDuty 49 = .ok (.if_icmp .lt 11, 3) := by decide +kernel
theorem dX5_beginDuty_52 : decode cX5_beginDuty 52 = .ok (.aload_n 0, 1) := by decide +kernel
theorem dX5_beginDuty_53 : decode cX5_beginDuty 53 = .ok (.bipush 8, 2) := by decide +kernel
theorem dX5_beginDuty_55 : decode cX5_beginDuty 55 = .ok (.iload 4, 2) := by decide +kernel
theorem dX5_beginDuty_57 : decode cX5_beginDuty 57 = .ok (.invokevirtual 57, 3) := by decide +kernel
theorem dX5_beginDuty_60 : decode cX5_beginDuty 60 = .ok (.return_, 1) := by decide +kernel
def wX5_beginDuty_b60 (a0 : Nat) (x1 : Int32) (w2 : Int64) (x4 : Int32)  (Sn : kp_S) (post : kp_S → Prop) : Prop :=
  post Sn
def wX5_beginDuty_b46 (a0 : Nat) (x1 : Int32) (w2 : Int64) (x4 : Int32)  (Sn : kp_S) (post : kp_S → Prop) : Prop :=
  ((x1 < 30 →
  wX5_beginDuty_b60 a0 x1 w2 x4   Sn post) ∧ (¬ x1 < 30 →
  wX5_blame a0 8 x4 Sn (fun T2001 =>
  wX5_beginDuty_b60 a0 x1 w2 x4   T2001 post)))
def wX5_beginDuty (a0 : Nat) (x1 : Int32) (w2 : Int64) (x4 : Int32) (S : kp_S) (post : kp_S → Prop) : Prop :=
  ∀ T1 : kp_S, T1 = kp_sI S 1005 a0 0 →
  ∀ T2 : kp_S, T2 = kp_sI T1 1006 a0 0 →
  ∀ T3 : kp_S, T3 = kp_sI T2 1009 a0 0 →
  ∀ T4 : kp_S, T4 = kp_sI T3 1010 a0 0 →
  wX5_dutyNamed a0 w2 T4 (fun y6 T5 =>
  ((y6 = (-1) →
  wX5_beginDuty_b46 a0 x1 w2 x4   T5 post) ∧ (¬ y6 = (-1) →
  ((x1 ≤ y6 →
  wX5_beginDuty_b46 a0 x1 w2 x4   T5 post) ∧ (¬ x1 ≤ y6 →
  wX5_blame a0 4 x4 T5 (fun T7 =>
  wX5_beginDuty_b46 a0 x1 w2 x4   T7 post))))))
set_option maxHeartbeats 4000000 in
set_option maxRecDepth 100000 in
theorem c_X5_beginDuty (l : Launch) (D : va_G) (cy : Nat → ClassId) (ad : (Nat → Nat) × (Nat → Nat)) (S : kp_S) (a0 : Nat) (x1 : Int32) (w2 : Int64) (x4 : Int32) (post : kp_S → Prop) (hS : kp_ok S) (f_a0 : kp_is S a0 5) (hw : wX5_beginDuty a0 x1 w2 x4 S post) : kp_M l yX5_beginDuty cX5_beginDuty 6 none { frames := 1, cells := 0, slots := 0, locals := 23 } D cy ad S [.ref a0, .int x1, .long w2, .int x4] 0 0 (fun A => kp_Qv D cy A S post) := by
  refine kp_start (own := RX5) (by decide) rfl (Nat.le_of_ble_eq_true rfl) hS ?_
  intro p e s m below meth c A ls X hr hlocks hname h hl
  have hle : kp_le S S := kp_le.rf
  have hl : lv_has ls 6 [(0, .ref a0), (1, .int x1), (2, .long w2), (4, .int x4)] := hl
  have j60 : ∀  (Sn : kp_S) (H : Heap) (locs : List Loc) (ls : Array Slot), lv_has ls 6 [] → kp_H D cy A Sn s.heap H locs → kp_le S Sn → kp_is Sn a0 5 → wX5_beginDuty_b60 a0 x1 w2 x4   Sn post → W p l e { frames := 1, cells := 0, slots := 0, locals := 23 } s m ([.ref a0, .int x1, .long w2, .int x4] : List Value).toArray below meth c H locs 0 0 (MQ below (kp_Qv D cy A S post) ([.ref a0, .int x1, .long w2, .int x4] : List Value).toArray s 0 0 A) (F0 m 60 ls []) := by
    intro  Sn H locs ls hl h hle f_a0 hw
    unfold wX5_beginDuty_b60 at hw
    exact kp_retv X hr hlocks h hle hw dX5_beginDuty_60
  have j46 : ∀  (Sn : kp_S) (H : Heap) (locs : List Loc) (ls : Array Slot), lv_has ls 6 [(0, .ref a0), (1, .int x1), (4, .int x4)] → kp_H D cy A Sn s.heap H locs → kp_le S Sn → kp_is Sn a0 5 → wX5_beginDuty_b46 a0 x1 w2 x4   Sn post → W p l e { frames := 1, cells := 0, slots := 0, locals := 23 } s m ([.ref a0, .int x1, .long w2, .int x4] : List Value).toArray below meth c H locs 0 0 (MQ below (kp_Qv D cy A S post) ([.ref a0, .int x1, .long w2, .int x4] : List Value).toArray s 0 0 A) (F0 m 46 ls []) := by
    intro  Sn H locs ls hl h hle f_a0 hw
    unfold wX5_beginDuty_b46 at hw
    refine lv_iload_n X.1 X.2.1 dX5_beginDuty_46 rfl (lv_at hl 1 rfl) ?_
    refine lv_bipush (v := 30) X.1 X.2.1 dX5_beginDuty_47 (by decide) ?_
    refine lv_icmp_lt (tgt := 60) X.1 X.2.1 dX5_beginDuty_49 (by decide) (fun c2002 => ?_) (fun c2002 => ?_)
    · have hw := hw.1 c2002
      exact j60  Sn H locs ls (lv_sub hl [] rfl) h hle f_a0 hw
    · have hw := hw.2 c2002
      refine lv_aload_n X.1 X.2.1 dX5_beginDuty_52 rfl (lv_at hl 0 rfl) ?_
      refine lv_bipush (v := 8) X.1 X.2.1 dX5_beginDuty_53 (by decide) ?_
      refine lv_iload X.1 X.2.1 dX5_beginDuty_55 (lv_at hl 2 rfl) ?_
      refine kp_callv X h (kp_runV (rm := { frames := 0, cells := 0, slots := 0, locals := 0 }) (mc := 0) (ms := 0) (rest := []) (Qc := fun A => kp_Qv D cy A Sn _) X h (c_X5_blame l D cy ad Sn a0 8 x4 _ h.2.2.2 f_a0 hw) f_a0 cv_5_57 ⟨by decide, by decide, rfl, rfl, by decide, by decide⟩ rfl hl.1 rfl (Nat.le_of_ble_eq_true rfl) dX5_beginDuty_57) (fun T2001 hw l_T2001 H locs h => ?_)
      have f_a0 := l_T2001.is f_a0
      have hle := hle.tr l_T2001
      exact j60  T2001 H locs ls (lv_sub hl [] rfl) h hle f_a0 hw
  unfold wX5_beginDuty at hw
  have h : kp_H D cy A S s.heap s.heap [] := h
  revert h
  intro h
  refine lv_aload_n X.1 X.2.1 dX5_beginDuty_0 rfl (lv_at hl 0 rfl) ?_
  refine lv_iconst (v := 0) X.1 X.2.1 dX5_beginDuty_1 (by decide) ?_
  refine kp_putI X h f_a0 fp_5_41 rfl ⟨rfl, rfl⟩ dX5_beginDuty_2 (fun T1 e_T1 l_T1 H locs h => ?_)
  have hw := hw T1 e_T1
  have f_a0 := l_T1.is f_a0
  have hle := hle.tr l_T1
  refine lv_aload_n X.1 X.2.1 dX5_beginDuty_5 rfl (lv_at hl 0 rfl) ?_
  refine lv_iconst (v := 0) X.1 X.2.1 dX5_beginDuty_6 (by decide) ?_
  refine kp_putI X h f_a0 fp_5_44 rfl ⟨rfl, rfl⟩ dX5_beginDuty_7 (fun T2 e_T2 l_T2 H locs h => ?_)
  have hw := hw T2 e_T2
  have f_a0 := l_T2.is f_a0
  have hle := hle.tr l_T2
  refine lv_aload_n X.1 X.2.1 dX5_beginDuty_10 rfl (lv_at hl 0 rfl) ?_
  refine lv_iconst (v := 0) X.1 X.2.1 dX5_beginDuty_11 (by decide) ?_
  refine kp_putI X h f_a0 fp_5_47 rfl ⟨rfl, rfl⟩ dX5_beginDuty_12 (fun T3 e_T3 l_T3 H locs h => ?_)
  have hw := hw T3 e_T3
  have f_a0 := l_T3.is f_a0
  have hle := hle.tr l_T3
  refine lv_aload_n X.1 X.2.1 dX5_beginDuty_15 rfl (lv_at hl 0 rfl) ?_
  refine lv_iconst (v := 0) X.1 X.2.1 dX5_beginDuty_16 (by decide) ?_
  refine kp_putI X h f_a0 fp_5_50 rfl ⟨rfl, rfl⟩ dX5_beginDuty_17 (fun T4 e_T4 l_T4 H locs h => ?_)
  have hw := hw T4 e_T4
  have f_a0 := l_T4.is f_a0
  have hle := hle.tr l_T4
  refine lv_aload_n X.1 X.2.1 dX5_beginDuty_20 rfl (lv_at hl 0 rfl) ?_
  refine lv_lload_n X.1 X.2.1 dX5_beginDuty_21 rfl (lv_at hl 2 rfl) ?_
  refine kp_calli X h (kp_runV (rm := { frames := 0, cells := 0, slots := 0, locals := 0 }) (mc := 0) (ms := 0) (rest := []) (Qc := fun A => kp_Qi D cy A T4 _) X h (c_X5_dutyNamed l D cy ad T4 a0 w2 _ h.2.2.2 f_a0 hw) f_a0 cv_5_53 ⟨by decide, by decide, rfl, rfl, by decide, by decide⟩ rfl hl.1 rfl (Nat.le_of_ble_eq_true rfl) dX5_beginDuty_22) (fun y6 T5 hw l_T5 H locs h => ?_)
  have f_a0 := l_T5.is f_a0
  have hle := hle.tr l_T5
  refine lv_istore (lv' := [(5, .int y6), (0, .ref a0), (1, .int x1), (2, .long w2), (4, .int x4)]) X.1 X.2.1 dX5_beginDuty_25 hl (by decide) rfl (fun ls hl => ?_)
  refine lv_iload X.1 X.2.1 dX5_beginDuty_27 (lv_at hl 0 rfl) ?_
  refine lv_iconst (v := (-1)) X.1 X.2.1 dX5_beginDuty_29 (by decide) ?_
  refine lv_icmp_eq (tgt := 46) X.1 X.2.1 dX5_beginDuty_30 (by decide) (fun c9 => ?_) (fun c9 => ?_)
  · have hw := hw.1 c9
    exact j46  T5 _ _ ls (lv_sub hl [1, 2, 4] rfl) h hle f_a0 hw
  · have hw := hw.2 c9
    refine lv_iload X.1 X.2.1 dX5_beginDuty_33 (lv_at hl 0 rfl) ?_
    refine lv_iload_n X.1 X.2.1 dX5_beginDuty_35 rfl (lv_at hl 2 rfl) ?_
    refine lv_icmp_ge (tgt := 46) X.1 X.2.1 dX5_beginDuty_36 (by decide) (fun c8 => ?_) (fun c8 => ?_)
    · have hw := hw.1 c8
      exact j46  T5 _ _ ls (lv_sub hl [1, 2, 4] rfl) h hle f_a0 hw
    · have hw := hw.2 c8
      refine lv_aload_n X.1 X.2.1 dX5_beginDuty_39 rfl (lv_at hl 1 rfl) ?_
      refine lv_iconst (v := 4) X.1 X.2.1 dX5_beginDuty_40 (by decide) ?_
      refine lv_iload X.1 X.2.1 dX5_beginDuty_41 (lv_at hl 4 rfl) ?_
      refine kp_callv X h (kp_runV (rm := { frames := 0, cells := 0, slots := 0, locals := 0 }) (mc := 0) (ms := 0) (rest := []) (Qc := fun A => kp_Qv D cy A T5 _) X h (c_X5_blame l D cy ad T5 a0 4 x4 _ h.2.2.2 f_a0 hw) f_a0 cv_5_57 ⟨by decide, by decide, rfl, rfl, by decide, by decide⟩ rfl hl.1 rfl (Nat.le_of_ble_eq_true rfl) dX5_beginDuty_43) (fun T7 hw l_T7 H locs h => ?_)
      have f_a0 := l_T7.is f_a0
      have hle := hle.tr l_T7
      exact j46  T7 _ _ ls (lv_sub hl [1, 2, 4] rfl) h hle f_a0 hw
theorem dX5_callee_0 : decode cX5_callee 0 = .ok (.aload_n 0, 1) := by decide +kernel
theorem dX5_callee_1 : decode cX5_callee 1 = .ok (.lload_n 1, 1) := by decide +kernel
theorem dX5_callee_2 : decode cX5_callee 2 = .ok (.invokevirtual 53, 3) := by decide +kernel
theorem dX5_callee_5 : decode cX5_callee 5 = .ok (.istore 5, 2) := by decide +kernel
theorem dX5_callee_7 : decode cX5_callee 7 = .ok (.iload 5, 2) := by decide +kernel
theorem dX5_callee_9 : decode cX5_callee 9 = .ok (.ifCond .lt 11, 3) := by decide +kernel
theorem dX5_callee_12 : decode cX5_callee 12 = .ok (.iload 5, 2) := by decide +kernel
theorem dX5_callee_14 : decode cX5_callee 14 = .ok (.sipush 300, 3) := by decide +kernel
theorem dX5_callee_17 : decode cX5_callee 17 = .ok (.if_icmp .lt 11, 3) := by decide +kernel
theorem dX5_callee_20 : decode cX5_callee 20 = .ok (.aload_n 0, 1) := by decide +kernel
theorem dX5_callee_21 : decode cX5_callee 21 = .ok (.iconst 5, 1) := by decide +kernel
theorem dX5_callee_22 : decode cX5_callee 22 = .ok (.iload_n 3, 1) := by decide +kernel
theorem dX5_callee_23 : decode cX5_callee 23 = .ok (.invokevirtual 57, 3) := by decide +kernel
theorem dX5_callee_26 : decode cX5_callee 26 = .ok (.iconst 0, 1) := by decide +kernel
theorem dX5_callee_27 : decode cX5_callee 27 = .ok (.ireturn, 1) := by decide +kernel
theorem dX5_callee_28 : decode cX5_callee 28 = .ok (.aload_n 0, 1) := by decide +kernel
theorem dX5_callee_29 : decode cX5_callee 29 = .ok (.getfield 15, 3) := by decide +kernel
theorem dX5_callee_32 : decode cX5_callee 32 = .ok (.iload 5, 2) := by decide +kernel
theorem dX5_callee_34 : decode cX5_callee 34 = .ok (.iaload, 1) := by decide +kernel
theorem dX5_callee_35 : decode cX5_callee 35 = .ok (.iload 4, 2) := by decide +kernel
theorem dX5_callee_37 : decode cX5_callee 37 = .ok (.if_icmp .eq 10, 3) := by decide +kernel
theorem dX5_callee_40 : decode cX5_callee 40 = .ok (.aload_n 0, 1) := by decide +kernel
theorem dX5_callee_41 : decode cX5_callee 41 = .ok (.bipush 7, 2) := by decide +kernel
theorem dX5_callee_43 : decode cX5_callee 43 = .ok (.iload_n 3, 1) := by decide +kernel
theorem dX5_callee_44 : decode cX5_callee 44 = .ok (.invokevirtual 57, 3) := by decide +kernel
theorem dX5_callee_47 : decode cX5_callee 47 = .ok (.iload 5, 2) := by decide +kernel
theorem dX5_callee_49 : decode cX5_callee 49 = .ok (.ireturn, 1) := by decide +kernel
def wX5_callee_b20 (a0 : Nat) (w1 : Int64) (x3 : Int32) (x4 : Int32)  (Sn : kp_S) (post : Int32 → kp_S → Prop) : Prop :=
  wX5_blame a0 5 x3 Sn (fun T1001 =>
  post 0 T1001)
def wX5_callee_b47 (a0 : Nat) (w1 : Int64) (x3 : Int32) (x4 : Int32) (xn5 : Int32)  (Sn : kp_S) (post : Int32 → kp_S → Prop) : Prop :=
  post xn5 Sn
def wX5_callee (a0 : Nat) (w1 : Int64) (x3 : Int32) (x4 : Int32) (S : kp_S) (post : Int32 → kp_S → Prop) : Prop :=
  wX5_dutyNamed a0 w1 S (fun y2 T1 =>
  ((y2 < 0 →
  wX5_callee_b20 a0 w1 x3 x4   T1 post) ∧ (¬ y2 < 0 →
  ((y2 < 300 →
  ∃ b3 : Nat, kp_R T1 1001 a0 = some b3 ∧
  vp_in y2 (kp_N T1 b3) ∧
  (((kp_A T1 b3 y2.toNatClampNeg) = x4 →
  wX5_callee_b47 a0 w1 x3 x4 y2  T1 post) ∧ (¬ (kp_A T1 b3 y2.toNatClampNeg) = x4 →
  wX5_blame a0 7 x3 T1 (fun T4 =>
  wX5_callee_b47 a0 w1 x3 x4 y2  T4 post)))) ∧ (¬ y2 < 300 →
  wX5_callee_b20 a0 w1 x3 x4   T1 post)))))
set_option maxHeartbeats 4000000 in
set_option maxRecDepth 100000 in
theorem c_X5_callee (l : Launch) (D : va_G) (cy : Nat → ClassId) (ad : (Nat → Nat) × (Nat → Nat)) (S : kp_S) (a0 : Nat) (w1 : Int64) (x3 : Int32) (x4 : Int32) (post : Int32 → kp_S → Prop) (hS : kp_ok S) (f_a0 : kp_is S a0 5) (hw : wX5_callee a0 w1 x3 x4 S post) : kp_M l yX5_callee cX5_callee 6 (some .int) { frames := 1, cells := 0, slots := 0, locals := 23 } D cy ad S [.ref a0, .long w1, .int x3, .int x4] 0 0 (fun A => kp_Qi D cy A S post) := by
  refine kp_start (own := RX5) (by decide) rfl (Nat.le_of_ble_eq_true rfl) hS ?_
  intro p e s m below meth c A ls X hr hlocks hname h hl
  have hle : kp_le S S := kp_le.rf
  have hl : lv_has ls 6 [(0, .ref a0), (1, .long w1), (3, .int x3), (4, .int x4)] := hl
  have j20 : ∀  (Sn : kp_S) (H : Heap) (locs : List Loc) (ls : Array Slot), lv_has ls 6 [(0, .ref a0), (3, .int x3)] → kp_H D cy A Sn s.heap H locs → kp_le S Sn → kp_is Sn a0 5 → wX5_callee_b20 a0 w1 x3 x4   Sn post → W p l e { frames := 1, cells := 0, slots := 0, locals := 23 } s m ([.ref a0, .long w1, .int x3, .int x4] : List Value).toArray below meth c H locs 0 0 (MQ below (kp_Qi D cy A S post) ([.ref a0, .long w1, .int x3, .int x4] : List Value).toArray s 0 0 A) (F0 m 20 ls []) := by
    intro  Sn H locs ls hl h hle f_a0 hw
    unfold wX5_callee_b20 at hw
    refine lv_aload_n X.1 X.2.1 dX5_callee_20 rfl (lv_at hl 0 rfl) ?_
    refine lv_iconst (v := 5) X.1 X.2.1 dX5_callee_21 (by decide) ?_
    refine lv_iload_n X.1 X.2.1 dX5_callee_22 rfl (lv_at hl 1 rfl) ?_
    refine kp_callv X h (kp_runV (rm := { frames := 0, cells := 0, slots := 0, locals := 0 }) (mc := 0) (ms := 0) (rest := []) (Qc := fun A => kp_Qv D cy A Sn _) X h (c_X5_blame l D cy ad Sn a0 5 x3 _ h.2.2.2 f_a0 hw) f_a0 cv_5_57 ⟨by decide, by decide, rfl, rfl, by decide, by decide⟩ rfl hl.1 rfl (Nat.le_of_ble_eq_true rfl) dX5_callee_23) (fun T1001 hw l_T1001 H locs h => ?_)
    have f_a0 := l_T1001.is f_a0
    have hle := hle.tr l_T1001
    refine lv_iconst (v := 0) X.1 X.2.1 dX5_callee_26 (by decide) ?_
    exact kp_reti X hr hlocks h hle rfl hw dX5_callee_27
  have j47 : ∀ (xn5 : Int32) (Sn : kp_S) (H : Heap) (locs : List Loc) (ls : Array Slot), lv_has ls 6 [(5, .int xn5)] → kp_H D cy A Sn s.heap H locs → kp_le S Sn → kp_is Sn a0 5 → wX5_callee_b47 a0 w1 x3 x4 xn5  Sn post → W p l e { frames := 1, cells := 0, slots := 0, locals := 23 } s m ([.ref a0, .long w1, .int x3, .int x4] : List Value).toArray below meth c H locs 0 0 (MQ below (kp_Qi D cy A S post) ([.ref a0, .long w1, .int x3, .int x4] : List Value).toArray s 0 0 A) (F0 m 47 ls []) := by
    intro xn5 Sn H locs ls hl h hle f_a0 hw
    unfold wX5_callee_b47 at hw
    refine lv_iload X.1 X.2.1 dX5_callee_47 (lv_at hl 0 rfl) ?_
    exact kp_reti X hr hlocks h hle rfl hw dX5_callee_49
  unfold wX5_callee at hw
  have h : kp_H D cy A S s.heap s.heap [] := h
  revert h
  intro h
  refine lv_aload_n X.1 X.2.1 dX5_callee_0 rfl (lv_at hl 0 rfl) ?_
  refine lv_lload_n X.1 X.2.1 dX5_callee_1 rfl (lv_at hl 1 rfl) ?_
  refine kp_calli X h (kp_runV (rm := { frames := 0, cells := 0, slots := 0, locals := 0 }) (mc := 0) (ms := 0) (rest := []) (Qc := fun A => kp_Qi D cy A S _) X h (c_X5_dutyNamed l D cy ad S a0 w1 _ h.2.2.2 f_a0 hw) f_a0 cv_5_53 ⟨by decide, by decide, rfl, rfl, by decide, by decide⟩ rfl hl.1 rfl (Nat.le_of_ble_eq_true rfl) dX5_callee_2) (fun y2 T1 hw l_T1 H locs h => ?_)
  have f_a0 := l_T1.is f_a0
  have hle := hle.tr l_T1
  refine lv_istore (lv' := [(5, .int y2), (0, .ref a0), (1, .long w1), (3, .int x3), (4, .int x4)]) X.1 X.2.1 dX5_callee_5 hl (by decide) rfl (fun ls hl => ?_)
  refine lv_iload X.1 X.2.1 dX5_callee_7 (lv_at hl 0 rfl) ?_
  refine lv_if_lt (tgt := 20) X.1 X.2.1 dX5_callee_9 (by decide) (fun c7 => ?_) (fun c7 => ?_)
  · have hw := hw.1 c7
    exact j20  T1 _ _ ls (lv_sub hl [1, 3] rfl) h hle f_a0 hw
  · have hw := hw.2 c7
    refine lv_iload X.1 X.2.1 dX5_callee_12 (lv_at hl 0 rfl) ?_
    refine lv_sipush (v := 300) X.1 X.2.1 dX5_callee_14 (by decide) ?_
    refine lv_icmp_lt (tgt := 28) X.1 X.2.1 dX5_callee_17 (by decide) (fun c6 => ?_) (fun c6 => ?_)
    · have hw := hw.1 c6
      refine lv_aload_n X.1 X.2.1 dX5_callee_28 rfl (lv_at hl 1 rfl) ?_
      obtain ⟨b3, e_b3, hw⟩ := hw
      have f_b3 := h.2.2.2.rf (c := 5) (k := 1) f_a0 (by decide) (by decide) e_b3 (t := 14) rfl
      refine kp_get X h f_a0 ff_5_15.l (v := .ref b3) (congrArg va_rf e_b3) dX5_callee_29 ?_
      refine lv_iload X.1 X.2.1 dX5_callee_32 (lv_at hl 0 rfl) ?_
      obtain ⟨hi, hw⟩ := hw
      refine kp_iald X h f_b3 hi dX5_callee_34 ?_
      refine lv_iload X.1 X.2.1 dX5_callee_35 (lv_at hl 4 rfl) ?_
      refine lv_icmp_eq (tgt := 47) X.1 X.2.1 dX5_callee_37 (by decide) (fun c5 => ?_) (fun c5 => ?_)
      · have hw := hw.1 c5
        exact j47 y2 T1 _ _ ls (lv_sub hl [0] rfl) h hle f_a0 hw
      · have hw := hw.2 c5
        refine lv_aload_n X.1 X.2.1 dX5_callee_40 rfl (lv_at hl 1 rfl) ?_
        refine lv_bipush (v := 7) X.1 X.2.1 dX5_callee_41 (by decide) ?_
        refine lv_iload_n X.1 X.2.1 dX5_callee_43 rfl (lv_at hl 3 rfl) ?_
        refine kp_callv X h (kp_runV (rm := { frames := 0, cells := 0, slots := 0, locals := 0 }) (mc := 0) (ms := 0) (rest := []) (Qc := fun A => kp_Qv D cy A T1 _) X h (c_X5_blame l D cy ad T1 a0 7 x3 _ h.2.2.2 f_a0 hw) f_a0 cv_5_57 ⟨by decide, by decide, rfl, rfl, by decide, by decide⟩ rfl hl.1 rfl (Nat.le_of_ble_eq_true rfl) dX5_callee_44) (fun T4 hw l_T4 H locs h => ?_)
        have f_a0 := l_T4.is f_a0
        have f_b3 := l_T4.is f_b3
        have hle := hle.tr l_T4
        exact j47 y2 T4 _ _ ls (lv_sub hl [0] rfl) h hle f_a0 hw
    · have hw := hw.2 c6
      exact j20  T1 _ _ ls (lv_sub hl [1, 3] rfl) h hle f_a0 hw
theorem dX5_findVariable_0 : decode cX5_findVariable 0 = .ok (.iconst 0, 1) := by decide +kernel
theorem dX5_findVariable_1 : decode cX5_findVariable 1 = .ok (.istore_n 3, 1) := by decide +kernel
theorem dX5_findVariable_2 : decode cX5_findVariable 2 = .ok (.iload_n 3, 1) := by decide +kernel
theorem dX5_findVariable_3 : decode cX5_findVariable 3 = .ok (.aload_n 0, 1) := by decide +kernel
theorem dX5_findVariable_4 : decode cX5_findVariable 4 = .ok (.getfield 41, 3) := by decide +kernel
theorem dX5_findVariable_7 : decode cX5_findVariable 7 = .ok (.if_icmp .ge 33, 3) := by decide +kernel
theorem dX5_findVariable_10 : decode cX5_findVariable 10 = .ok (.iload_n 3, 1) := by decide +kernel
theorem dX5_findVariable_11 : decode cX5_findVariable 11 = .ok (.bipush 24, 2) := by decide +kernel
theorem dX5_findVariable_13 : decode cX5_findVariable 13 = .ok (.if_icmp .ge 27, 3) := by decide +kernel
theorem dX5_findVariable_16 : decode cX5_findVariable 16 = .ok (.aload_n 0, 1) := by decide +kernel
theorem dX5_findVariable_17 : decode cX5_findVariable 17 = .ok (.getfield 19, 3) := by decide +kernel
theorem dX5_findVariable_20 : decode cX5_findVariable 20 = .ok (.iload_n 3, 1) := by decide +kernel
theorem dX5_findVariable_21 : decode cX5_findVariable 21 = .ok (.laload, 1) := by decide +kernel
theorem dX5_findVariable_22 : decode cX5_findVariable 22 = .ok (.lload_n 1, 1) := by decide +kernel
theorem dX5_findVariable_23 : decode cX5_findVariable 23 = .ok (.lcmp, 1) := by decide +kernel
theorem dX5_findVariable_24 : decode cX5_findVariable 24 = .ok (.ifCond .ne 10, 3) := by decide +kernel
theorem dX5_findVariable_27 : decode cX5_findVariable 27 = .ok (.aload_n 0, 1) := by decide +kernel
theorem dX5_findVariable_28 : decode cX5_findVariable 28 = .ok (.getfield 22, 3) := by decide +kernel
theorem dX5_findVariable_31 : decode cX5_findVariable 31 = .ok (.iload_n 3, 1) := by decide +kernel
theorem dX5_findVariable_32 : decode cX5_findVariable 32 = .ok (.iaload, 1) := by decide +kernel
theorem dX5_findVariable_33 : decode cX5_findVariable 33 = .ok (.ireturn, 1) := by decide +kernel
theorem dX5_findVariable_34 : decode cX5_findVariable 34 = .ok (.iinc 3 1, 3) := by decide +kernel
theorem dX5_findVariable_37 : decode cX5_findVariable 37 = .ok (.goto (-35), 3) := by decide +kernel
theorem dX5_findVariable_40 : decode cX5_findVariable 40 = .ok (.iconst (-1), 1) := by decide +kernel
theorem dX5_findVariable_41 : decode cX5_findVariable 41 = .ok (.ireturn, 1) := by decide +kernel
def wX5_findVariable_b40 (a0 : Nat) (w1 : Int64)  (Sn : kp_S) (post : Int32 → kp_S → Prop) : Prop :=
  post (-1) Sn
def wX5_findVariable_L2 (a0 : Nat) (w1 : Int64)  (post : Int32 → kp_S → Prop) : Nat → Int32 → kp_S → Prop
  | 0, _, _ => False
  | n + 1, xn3, Sn =>
  (((kp_I Sn 1005 a0) ≤ xn3 →
  wX5_findVariable_b40 a0 w1   Sn post) ∧ (¬ (kp_I Sn 1005 a0) ≤ xn3 →
  ((24 ≤ xn3 →
  wX5_findVariable_b40 a0 w1   Sn post) ∧ (¬ 24 ≤ xn3 →
  ∃ b2001 : Nat, kp_R Sn 1003 a0 = some b2001 ∧
  vp_in xn3 (kp_N Sn b2001) ∧
  ((¬ (lg_cmp (kp_B Sn b2001 xn3.toNatClampNeg) w1) = 0 →
  ∀ y2002 : Int32, y2002 = xn3 + 1 →
  wX5_findVariable_L2 a0 w1  post n y2002 Sn) ∧ ((lg_cmp (kp_B Sn b2001 xn3.toNatClampNeg) w1) = 0 →
  ∃ b2003 : Nat, kp_R Sn 1004 a0 = some b2003 ∧
  vp_in xn3 (kp_N Sn b2003) ∧
  post (kp_A Sn b2003 xn3.toNatClampNeg) Sn))))))
def wX5_findVariable (a0 : Nat) (w1 : Int64) (S : kp_S) (post : Int32 → kp_S → Prop) : Prop :=
  ∃ n0 : Nat, wX5_findVariable_L2 a0 w1  post n0 0 S
set_option maxHeartbeats 4000000 in
set_option maxRecDepth 100000 in
theorem c_X5_findVariable (l : Launch) (D : va_G) (cy : Nat → ClassId) (ad : (Nat → Nat) × (Nat → Nat)) (S : kp_S) (a0 : Nat) (w1 : Int64) (post : Int32 → kp_S → Prop) (hS : kp_ok S) (f_a0 : kp_is S a0 5) (hw : wX5_findVariable a0 w1 S post) : kp_M l yX5_findVariable cX5_findVariable 4 (some .int) { frames := 0, cells := 0, slots := 0, locals := 0 } D cy ad S [.ref a0, .long w1] 0 0 (fun A => kp_Qi D cy A S post) := by
  refine kp_start (own := RX5) (by decide) rfl (Nat.le_of_ble_eq_true rfl) hS ?_
  intro p e s m below meth c A ls X hr hlocks hname h hl
  have hle : kp_le S S := kp_le.rf
  have hl : lv_has ls 4 [(0, .ref a0), (1, .long w1)] := hl
  have j40 : ∀  (Sn : kp_S) (H : Heap) (locs : List Loc) (ls : Array Slot), lv_has ls 4 [] → kp_H D cy A Sn s.heap H locs → kp_le S Sn → kp_is Sn a0 5 → wX5_findVariable_b40 a0 w1   Sn post → W p l e { frames := 0, cells := 0, slots := 0, locals := 0 } s m ([.ref a0, .long w1] : List Value).toArray below meth c H locs 0 0 (MQ below (kp_Qi D cy A S post) ([.ref a0, .long w1] : List Value).toArray s 0 0 A) (F0 m 40 ls []) := by
    intro  Sn H locs ls hl h hle f_a0 hw
    unfold wX5_findVariable_b40 at hw
    refine lv_iconst (v := (-1)) X.1 X.2.1 dX5_findVariable_40 (by decide) ?_
    exact kp_reti X hr hlocks h hle rfl hw dX5_findVariable_41
  have L2 : ∀ n2 : Nat, ∀ (xn3 : Int32) (Sn : kp_S) (H : Heap) (locs : List Loc) (ls : Array Slot), lv_has ls 4 [(0, .ref a0), (1, .long w1), (3, .int xn3)] → kp_H D cy A Sn s.heap H locs → kp_le S Sn → kp_is Sn a0 5 → wX5_findVariable_L2 a0 w1  post n2 xn3 Sn → W p l e { frames := 0, cells := 0, slots := 0, locals := 0 } s m ([.ref a0, .long w1] : List Value).toArray below meth c H locs 0 0 (MQ below (kp_Qi D cy A S post) ([.ref a0, .long w1] : List Value).toArray s 0 0 A) (F0 m 2 ls []) := by
    intro n2
    induction n2 with
    | zero => intro xn3 Sn H locs ls hl h hle f_a0 hw; exact hw.elim
    | succ n2 ih2 =>
      intro xn3 Sn H locs ls hl h hle f_a0 hw
      unfold wX5_findVariable_L2 at hw
      refine lv_iload_n X.1 X.2.1 dX5_findVariable_2 rfl (lv_at hl 2 rfl) ?_
      refine lv_aload_n X.1 X.2.1 dX5_findVariable_3 rfl (lv_at hl 0 rfl) ?_
      refine kp_get X h f_a0 fp_5_41.l (v := .int (kp_I Sn 1005 a0)) rfl dX5_findVariable_4 ?_
      refine lv_icmp_ge (tgt := 40) X.1 X.2.1 dX5_findVariable_7 (by decide) (fun c2006 => ?_) (fun c2006 => ?_)
      · have hw := hw.1 c2006
        exact j40  Sn H locs ls (lv_sub hl [] rfl) h hle f_a0 hw
      · have hw := hw.2 c2006
        refine lv_iload_n X.1 X.2.1 dX5_findVariable_10 rfl (lv_at hl 2 rfl) ?_
        refine lv_bipush (v := 24) X.1 X.2.1 dX5_findVariable_11 (by decide) ?_
        refine lv_icmp_ge (tgt := 40) X.1 X.2.1 dX5_findVariable_13 (by decide) (fun c2005 => ?_) (fun c2005 => ?_)
        · have hw := hw.1 c2005
          exact j40  Sn H locs ls (lv_sub hl [] rfl) h hle f_a0 hw
        · have hw := hw.2 c2005
          refine lv_aload_n X.1 X.2.1 dX5_findVariable_16 rfl (lv_at hl 0 rfl) ?_
          obtain ⟨b2001, e_b2001, hw⟩ := hw
          have f_b2001 := h.2.2.2.rf (c := 5) (k := 3) f_a0 (by decide) (by decide) e_b2001 (t := 15) rfl
          refine kp_get X h f_a0 ff_5_19.l (v := .ref b2001) (congrArg va_rf e_b2001) dX5_findVariable_17 ?_
          refine lv_iload_n X.1 X.2.1 dX5_findVariable_20 rfl (lv_at hl 2 rfl) ?_
          obtain ⟨hi, hw⟩ := hw
          refine kp_lald X h f_b2001 hi dX5_findVariable_21 ?_
          refine lv_lload_n X.1 X.2.1 dX5_findVariable_22 rfl (lv_at hl 1 rfl) ?_
          refine W.lcmp X.1 X.2.1 dX5_findVariable_23 ?_
          refine lv_if_ne (tgt := 34) X.1 X.2.1 dX5_findVariable_24 (by decide) (fun c2004 => ?_) (fun c2004 => ?_)
          · have hw := hw.1 c2004
            obtain ⟨y2002, e_y2002⟩ : ∃ y : Int32, y = xn3 + 1 := ⟨_, rfl⟩
            have hw := hw y2002 e_y2002
            refine lv_iinc (v := y2002) (lv' := [(3, .int y2002), (0, .ref a0), (1, .long w1)]) X.1 X.2.1 dX5_findVariable_34 hl (k := 2) rfl (by rw [e_y2002]; rfl) (by decide) rfl (fun ls hl => ?_)
            refine lv_goto (tgt := 2) X.1 X.2.1 dX5_findVariable_37 (by decide) ?_
            exact ih2 y2002 Sn H locs ls (lv_sub hl [1, 2, 0] rfl) h hle f_a0 hw
          · have hw := hw.2 c2004
            refine lv_aload_n X.1 X.2.1 dX5_findVariable_27 rfl (lv_at hl 0 rfl) ?_
            obtain ⟨b2003, e_b2003, hw⟩ := hw
            have f_b2003 := h.2.2.2.rf (c := 5) (k := 4) f_a0 (by decide) (by decide) e_b2003 (t := 14) rfl
            refine kp_get X h f_a0 ff_5_22.l (v := .ref b2003) (congrArg va_rf e_b2003) dX5_findVariable_28 ?_
            refine lv_iload_n X.1 X.2.1 dX5_findVariable_31 rfl (lv_at hl 2 rfl) ?_
            obtain ⟨hi, hw⟩ := hw
            refine kp_iald X h f_b2003 hi dX5_findVariable_32 ?_
            exact kp_reti X hr hlocks h hle rfl hw dX5_findVariable_33
  unfold wX5_findVariable at hw
  have h : kp_H D cy A S s.heap s.heap [] := h
  revert h
  intro h
  refine lv_iconst (v := 0) X.1 X.2.1 dX5_findVariable_0 (by decide) ?_
  refine lv_istore_n (lv' := [(3, .int 0), (0, .ref a0), (1, .long w1)]) X.1 X.2.1 dX5_findVariable_1 rfl hl (by decide) rfl (fun ls hl => ?_)
  obtain ⟨n0, hw⟩ := hw
  exact L2 n0 0 S _ _ ls (lv_sub hl [1, 2, 0] rfl) h hle f_a0 hw
theorem dX5_tellVariable_0 : decode cX5_tellVariable 0 = .ok (.aload_n 0, 1) := by decide +kernel
theorem dX5_tellVariable_1 : decode cX5_tellVariable 1 = .ok (.lload_n 1, 1) := by decide +kernel
theorem dX5_tellVariable_2 : decode cX5_tellVariable 2 = .ok (.invokevirtual 65, 3) := by decide +kernel
theorem dX5_tellVariable_5 : decode cX5_tellVariable 5 = .ok (.iconst (-1), 1) := by decide +kernel
theorem dX5_tellVariable_6 : decode cX5_tellVariable 6 = .ok (.if_icmp .eq 9, 3) := by decide +kernel
theorem dX5_tellVariable_9 : decode cX5_tellVariable 9 = .ok (.aload_n 0, 1) := by decide +kernel
theorem dX5_tellVariable_10 : decode cX5_tellVariable 10 = .ok (.iconst 4, 1) := by decide +kernel
theorem dX5_tellVariable_11 : decode cX5_tellVariable 11 = .ok (.iload_n 3, 1) := by decide +kernel
theorem dX5_tellVariable_12 : decode cX5_tellVariable 12 = .ok (.invokevirtual 57, 3) := by decide +kernel
theorem dX5_tellVariable_15 : decode cX5_tellVariable 15 = .ok (.aload_n 0, 1) := by decide +kernel
theorem dX5_tellVariable_16 : decode cX5_tellVariable 16 = .ok (.getfield 44, 3) := by decide +kernel
theorem dX5_tellVariable_19 : decode cX5_tellVariable 19 = .ok (.istore 4, 2) := by decide +kernel
theorem dX5_tellVariable_21 : decode cX5_tellVariable 21 = .ok (.aload_n 0, 1) := by decide +kernel
theorem dX5_tellVariable_22 : decode cX5_tellVariable 22 = .ok (.dup, 1) := by decide +kernel
theorem dX5_tellVariable_23 : decode cX5_tellVariable 23 = .ok (.getfield 44, 3) := by decide +kernel
theorem dX5_tellVariable_26 : decode cX5_tellVariable 26 = .ok (.iconst 1, 1) := by decide +kernel
theorem dX5_tellVariable_27 : decode cX5_tellVariable 27 = .ok (.iadd, 1) := by decide +kernel
theorem dX5_tellVariable_28 : decode cX5_tellVariable 28 = .ok (.putfield 44, 3) := by decide +kernel
theorem dX5_tellVariable_31 : decode cX5_tellVariable 31 = .ok (.iload 4, 2) := by decide +kernel
theorem dX5_tellVariable_33 : decode cX5_tellVariable 33 = .ok (.bipush 24, 2) := by decide +kernel
theorem dX5_tellVariable_35 : decode cX5_tellVariable 35 = .ok (.if_icmp .lt 13, 3) := by decide +kernel
theorem dX5_tellVariable_38 : decode cX5_tellVariable 38 = .ok (.aload_n 0, 1) := by decide +kernel
theorem dX5_tellVariable_39 : decode cX5_tellVariable 39 = .ok (.bipush 8, 2) := by decide +kernel
theorem dX5_tellVariable_41 : decode cX5_tellVariable 41 = .ok (.iload_n 3, 1) := by decide +kernel
theorem dX5_tellVariable_42 : decode cX5_tellVariable 42 = .ok (.invokevirtual 57, 3) := by decide +kernel
theorem dX5_tellVariable_45 : decode cX5_tellVariable 45 = .ok (.goto 43, 3) := by decide +kernel
theorem dX5_tellVariable_48 : decode cX5_tellVariable 48 = .ok (.aload_n 0, 1) := by decide +kernel
theorem dX5_tellVariable_49 : decode cX5_tellVariable 49 = .ok (.getfield 41, 3) := by decide +kernel
theorem dX5_tellVariable_52 : decode cX5_tellVariable 52 = .ok (.bipush 24, 2) := by decide +kernel
theorem dX5_tellVariable_54 : decode cX5_tellVariable 54 = .ok (.if_icmp .ge 34, 3) := by decide +kernel
theorem dX5_tellVariable_57 : decode cX5_tellVariable 57 = .ok (.aload_n 0, 1) := by decide +kernel
theorem dX5_tellVariable_58 : decode cX5_tellVariable 58 = .ok (.getfield 19, 3) := by decide +kernel
theorem dX5_tellVariable_61 : decode cX5_tellVariable 61 = .ok (.aload_n 0, 1) := by decide +kernel
theorem dX5_tellVariable_62 : decode cX5_tellVariable 62 = .ok (.getfield 41, 3) := by decide +kernel
theorem dX5_tellVariable_65 : decode cX5_tellVariable 65 = .ok (.lload_n 1, 1) := by decide +kernel
theorem dX5_tellVariable_66 : decode cX5_tellVariable 66 = .ok (.lastore, 1) := by decide +kernel
theorem dX5_tellVariable_67 : decode cX5_tellVariable 67 = .ok (.aload_n 0, 1) := by decide +kernel
theorem dX5_tellVariable_68 : decode cX5_tellVariable 68 = .ok (.getfield 22, 3) := by decide +kernel
theorem dX5_tellVariable_71 : decode cX5_tellVariable 71 = .ok (.aload_n 0, 1) := by decide +kernel
theorem dX5_tellVariable_72 : decode cX5_tellVariable 72 = .ok (.getfield 41, 3) := by decide +kernel
theorem dX5_tellVariable_75 : decode cX5_tellVariable 75 = .ok (.iload 4, 2) := by decide +kernel
theorem dX5_tellVariable_77 : decode cX5_tellVariable 77 = .ok (.iastore, 1) := by decide +kernel
theorem dX5_tellVariable_78 : decode cX5_tellVariable 78 = .ok (.aload_n 0, 1) := by decide +kernel
theorem dX5_tellVariable_79 : decode cX5_tellVariable 79 = .ok (.dup, 1) := by decide +kernel
theorem dX5_tellVariable_80 : decode cX5_tellVariable 80 = .ok (.getfield 41, 3) := by decide +kernel
theorem dX5_tellVariable_83 : decode cX5_tellVariable 83 = .ok (.iconst 1, 1) := by decide +kernel
theorem dX5_tellVariable_84 : decode cX5_tellVariable 84 = .ok (.iadd, 1) := by decide +kernel
theorem dX5_tellVariable_85 : decode cX5_tellVariable 85 = .ok (.putfield 41, 3) := by decide +kernel
theorem dX5_tellVariable_88 : decode cX5_tellVariable 88 = .ok (.iload 4, 2) := by decide +kernel
theorem dX5_tellVariable_90 : decode cX5_tellVariable 90 = .ok (.ireturn, 1) := by decide +kernel
def wX5_tellVariable_b88 (a0 : Nat) (w1 : Int64) (x3 : Int32) (xn4 : Int32)  (Sn : kp_S) (post : Int32 → kp_S → Prop) : Prop :=
  post xn4 Sn
def wX5_tellVariable_b15 (a0 : Nat) (w1 : Int64) (x3 : Int32)  (Sn : kp_S) (post : Int32 → kp_S → Prop) : Prop :=
  ∀ y2001 : Int32, y2001 = (kp_I Sn 1006 a0) →
  ∀ T2002 : kp_S, T2002 = kp_sI Sn 1006 a0 ((kp_I Sn 1006 a0) + 1) →
  ((y2001 < 24 →
  ((24 ≤ (kp_I T2002 1005 a0) →
  wX5_tellVariable_b88 a0 w1 x3 y2001  T2002 post) ∧ (¬ 24 ≤ (kp_I T2002 1005 a0) →
  ∃ b2003 : Nat, kp_R T2002 1003 a0 = some b2003 ∧
  vp_in (kp_I T2002 1005 a0) (kp_N T2002 b2003) ∧ ∀ T2004 : kp_S, T2004 = kp_sB T2002 b2003 (vp_updL (kp_B T2002 b2003) ((kp_I T2002 1005 a0).toNatClampNeg) w1) →
  ∃ b2005 : Nat, kp_R T2004 1004 a0 = some b2005 ∧
  vp_in (kp_I T2004 1005 a0) (kp_N T2004 b2005) ∧ ∀ T2006 : kp_S, T2006 = kp_sA T2004 b2005 (upd (kp_A T2004 b2005) ((kp_I T2004 1005 a0).toNatClampNeg) y2001) →
  ∀ T2007 : kp_S, T2007 = kp_sI T2006 1005 a0 ((kp_I T2006 1005 a0) + 1) →
  wX5_tellVariable_b88 a0 w1 x3 y2001  T2007 post))) ∧ (¬ y2001 < 24 →
  wX5_blame a0 8 x3 T2002 (fun T2009 =>
  wX5_tellVariable_b88 a0 w1 x3 y2001  T2009 post)))
def wX5_tellVariable (a0 : Nat) (w1 : Int64) (x3 : Int32) (S : kp_S) (post : Int32 → kp_S → Prop) : Prop :=
  wX5_findVariable a0 w1 S (fun y2 T1 =>
  ((y2 = (-1) →
  wX5_tellVariable_b15 a0 w1 x3   T1 post) ∧ (¬ y2 = (-1) →
  wX5_blame a0 4 x3 T1 (fun T3 =>
  wX5_tellVariable_b15 a0 w1 x3   T3 post))))
set_option maxHeartbeats 4000000 in
set_option maxRecDepth 100000 in
theorem c_X5_tellVariable (l : Launch) (D : va_G) (cy : Nat → ClassId) (ad : (Nat → Nat) × (Nat → Nat)) (S : kp_S) (a0 : Nat) (w1 : Int64) (x3 : Int32) (post : Int32 → kp_S → Prop) (hS : kp_ok S) (f_a0 : kp_is S a0 5) (hw : wX5_tellVariable a0 w1 x3 S post) : kp_M l yX5_tellVariable cX5_tellVariable 5 (some .int) { frames := 1, cells := 0, slots := 0, locals := 23 } D cy ad S [.ref a0, .long w1, .int x3] 0 0 (fun A => kp_Qi D cy A S post) := by
  refine kp_start (own := RX5) (by decide) rfl (Nat.le_of_ble_eq_true rfl) hS ?_
  intro p e s m below meth c A ls X hr hlocks hname h hl
  have hle : kp_le S S := kp_le.rf
  have hl : lv_has ls 5 [(0, .ref a0), (1, .long w1), (3, .int x3)] := hl
  have j88 : ∀ (xn4 : Int32) (Sn : kp_S) (H : Heap) (locs : List Loc) (ls : Array Slot), lv_has ls 5 [(4, .int xn4)] → kp_H D cy A Sn s.heap H locs → kp_le S Sn → kp_is Sn a0 5 → wX5_tellVariable_b88 a0 w1 x3 xn4  Sn post → W p l e { frames := 1, cells := 0, slots := 0, locals := 23 } s m ([.ref a0, .long w1, .int x3] : List Value).toArray below meth c H locs 0 0 (MQ below (kp_Qi D cy A S post) ([.ref a0, .long w1, .int x3] : List Value).toArray s 0 0 A) (F0 m 88 ls []) := by
    intro xn4 Sn H locs ls hl h hle f_a0 hw
    unfold wX5_tellVariable_b88 at hw
    refine lv_iload X.1 X.2.1 dX5_tellVariable_88 (lv_at hl 0 rfl) ?_
    exact kp_reti X hr hlocks h hle rfl hw dX5_tellVariable_90
  have j15 : ∀  (Sn : kp_S) (H : Heap) (locs : List Loc) (ls : Array Slot), lv_has ls 5 [(0, .ref a0), (1, .long w1), (3, .int x3)] → kp_H D cy A Sn s.heap H locs → kp_le S Sn → kp_is Sn a0 5 → wX5_tellVariable_b15 a0 w1 x3   Sn post → W p l e { frames := 1, cells := 0, slots := 0, locals := 23 } s m ([.ref a0, .long w1, .int x3] : List Value).toArray below meth c H locs 0 0 (MQ below (kp_Qi D cy A S post) ([.ref a0, .long w1, .int x3] : List Value).toArray s 0 0 A) (F0 m 15 ls []) := by
    intro  Sn H locs ls hl h hle f_a0 hw
    unfold wX5_tellVariable_b15 at hw
    refine lv_aload_n X.1 X.2.1 dX5_tellVariable_15 rfl (lv_at hl 0 rfl) ?_
    refine kp_get X h f_a0 fp_5_44.l (v := .int (kp_I Sn 1006 a0)) rfl dX5_tellVariable_16 ?_
    refine lv_topi (fun y2001 e_y2001 => ?_)
    have hw := hw y2001 e_y2001
    refine lv_istore (lv' := [(4, .int y2001), (0, .ref a0), (1, .long w1), (3, .int x3)]) X.1 X.2.1 dX5_tellVariable_19 hl (by decide) rfl (fun ls hl => ?_)
    refine lv_aload_n X.1 X.2.1 dX5_tellVariable_21 rfl (lv_at hl 1 rfl) ?_
    refine lv_dup X.1 X.2.1 dX5_tellVariable_22 rfl ?_
    refine kp_get X h f_a0 fp_5_44.l (v := .int (kp_I Sn 1006 a0)) rfl dX5_tellVariable_23 ?_
    refine lv_iconst (v := 1) X.1 X.2.1 dX5_tellVariable_26 (by decide) ?_
    refine lv_iadd X.1 X.2.1 dX5_tellVariable_27 ?_
    refine kp_putI X h f_a0 fp_5_44 rfl ⟨rfl, rfl⟩ dX5_tellVariable_28 (fun T2002 e_T2002 l_T2002 H locs h => ?_)
    have hw := hw T2002 e_T2002
    have f_a0 := l_T2002.is f_a0
    have hle := hle.tr l_T2002
    refine lv_iload X.1 X.2.1 dX5_tellVariable_31 (lv_at hl 0 rfl) ?_
    refine lv_bipush (v := 24) X.1 X.2.1 dX5_tellVariable_33 (by decide) ?_
    refine lv_icmp_lt (tgt := 48) X.1 X.2.1 dX5_tellVariable_35 (by decide) (fun c2010 => ?_) (fun c2010 => ?_)
    · have hw := hw.1 c2010
      refine lv_aload_n X.1 X.2.1 dX5_tellVariable_48 rfl (lv_at hl 1 rfl) ?_
      refine kp_get X h f_a0 fp_5_41.l (v := .int (kp_I T2002 1005 a0)) rfl dX5_tellVariable_49 ?_
      refine lv_bipush (v := 24) X.1 X.2.1 dX5_tellVariable_52 (by decide) ?_
      refine lv_icmp_ge (tgt := 88) X.1 X.2.1 dX5_tellVariable_54 (by decide) (fun c2008 => ?_) (fun c2008 => ?_)
      · have hw := hw.1 c2008
        exact j88 y2001 T2002 H locs ls (lv_sub hl [0] rfl) h hle f_a0 hw
      · have hw := hw.2 c2008
        refine lv_aload_n X.1 X.2.1 dX5_tellVariable_57 rfl (lv_at hl 1 rfl) ?_
        obtain ⟨b2003, e_b2003, hw⟩ := hw
        have f_b2003 := h.2.2.2.rf (c := 5) (k := 3) f_a0 (by decide) (by decide) e_b2003 (t := 15) rfl
        refine kp_get X h f_a0 ff_5_19.l (v := .ref b2003) (congrArg va_rf e_b2003) dX5_tellVariable_58 ?_
        refine lv_aload_n X.1 X.2.1 dX5_tellVariable_61 rfl (lv_at hl 1 rfl) ?_
        refine kp_get X h f_a0 fp_5_41.l (v := .int (kp_I T2002 1005 a0)) rfl dX5_tellVariable_62 ?_
        refine lv_lload_n X.1 X.2.1 dX5_tellVariable_65 rfl (lv_at hl 2 rfl) ?_
        obtain ⟨hi, hw⟩ := hw
        refine kp_last X h f_b2003 hi dX5_tellVariable_66 (fun T2004 e_T2004 l_T2004 H locs h => ?_)
        have hw := hw T2004 e_T2004
        have f_a0 := l_T2004.is f_a0
        have f_b2003 := l_T2004.is f_b2003
        have hle := hle.tr l_T2004
        have e_b2003 : kp_R T2004 1003 a0 = some b2003 := by rw [e_T2004]; exact e_b2003
        refine lv_aload_n X.1 X.2.1 dX5_tellVariable_67 rfl (lv_at hl 1 rfl) ?_
        obtain ⟨b2005, e_b2005, hw⟩ := hw
        have f_b2005 := h.2.2.2.rf (c := 5) (k := 4) f_a0 (by decide) (by decide) e_b2005 (t := 14) rfl
        refine kp_get X h f_a0 ff_5_22.l (v := .ref b2005) (congrArg va_rf e_b2005) dX5_tellVariable_68 ?_
        refine lv_aload_n X.1 X.2.1 dX5_tellVariable_71 rfl (lv_at hl 1 rfl) ?_
        refine kp_get X h f_a0 fp_5_41.l (v := .int (kp_I T2004 1005 a0)) rfl dX5_tellVariable_72 ?_
        refine lv_iload X.1 X.2.1 dX5_tellVariable_75 (lv_at hl 0 rfl) ?_
        obtain ⟨hi, hw⟩ := hw
        refine kp_iast X h f_b2005 hi dX5_tellVariable_77 (fun T2006 e_T2006 l_T2006 H locs h => ?_)
        have hw := hw T2006 e_T2006
        have f_a0 := l_T2006.is f_a0
        have f_b2003 := l_T2006.is f_b2003
        have f_b2005 := l_T2006.is f_b2005
        have hle := hle.tr l_T2006
        have e_b2003 : kp_R T2006 1003 a0 = some b2003 := by rw [e_T2006]; exact e_b2003
        have e_b2005 : kp_R T2006 1004 a0 = some b2005 := by rw [e_T2006]; exact e_b2005
        refine lv_aload_n X.1 X.2.1 dX5_tellVariable_78 rfl (lv_at hl 1 rfl) ?_
        refine lv_dup X.1 X.2.1 dX5_tellVariable_79 rfl ?_
        refine kp_get X h f_a0 fp_5_41.l (v := .int (kp_I T2006 1005 a0)) rfl dX5_tellVariable_80 ?_
        refine lv_iconst (v := 1) X.1 X.2.1 dX5_tellVariable_83 (by decide) ?_
        refine lv_iadd X.1 X.2.1 dX5_tellVariable_84 ?_
        refine kp_putI X h f_a0 fp_5_41 rfl ⟨rfl, rfl⟩ dX5_tellVariable_85 (fun T2007 e_T2007 l_T2007 H locs h => ?_)
        have hw := hw T2007 e_T2007
        have f_a0 := l_T2007.is f_a0
        have f_b2003 := l_T2007.is f_b2003
        have f_b2005 := l_T2007.is f_b2005
        have hle := hle.tr l_T2007
        have e_b2003 : kp_R T2007 1003 a0 = some b2003 := by rw [e_T2007]; exact e_b2003
        have e_b2005 : kp_R T2007 1004 a0 = some b2005 := by rw [e_T2007]; exact e_b2005
        exact j88 y2001 T2007 H locs ls (lv_sub hl [0] rfl) h hle f_a0 hw
    · have hw := hw.2 c2010
      refine lv_aload_n X.1 X.2.1 dX5_tellVariable_38 rfl (lv_at hl 1 rfl) ?_
      refine lv_bipush (v := 8) X.1 X.2.1 dX5_tellVariable_39 (by decide) ?_
      refine lv_iload_n X.1 X.2.1 dX5_tellVariable_41 rfl (lv_at hl 3 rfl) ?_
      refine kp_callv X h (kp_runV (rm := { frames := 0, cells := 0, slots := 0, locals := 0 }) (mc := 0) (ms := 0) (rest := []) (Qc := fun A => kp_Qv D cy A T2002 _) X h (c_X5_blame l D cy ad T2002 a0 8 x3 _ h.2.2.2 f_a0 hw) f_a0 cv_5_57 ⟨by decide, by decide, rfl, rfl, by decide, by decide⟩ rfl hl.1 rfl (Nat.le_of_ble_eq_true rfl) dX5_tellVariable_42) (fun T2009 hw l_T2009 H locs h => ?_)
      have f_a0 := l_T2009.is f_a0
      have hle := hle.tr l_T2009
      refine lv_goto (tgt := 88) X.1 X.2.1 dX5_tellVariable_45 (by decide) ?_
      exact j88 y2001 T2009 H locs ls (lv_sub hl [0] rfl) h hle f_a0 hw
  unfold wX5_tellVariable at hw
  have h : kp_H D cy A S s.heap s.heap [] := h
  revert h
  intro h
  refine lv_aload_n X.1 X.2.1 dX5_tellVariable_0 rfl (lv_at hl 0 rfl) ?_
  refine lv_lload_n X.1 X.2.1 dX5_tellVariable_1 rfl (lv_at hl 1 rfl) ?_
  refine kp_calli X h (kp_runV (rm := { frames := 0, cells := 0, slots := 0, locals := 0 }) (mc := 0) (ms := 0) (rest := []) (Qc := fun A => kp_Qi D cy A S _) X h (c_X5_findVariable l D cy ad S a0 w1 _ h.2.2.2 f_a0 hw) f_a0 cv_5_65 ⟨by decide, by decide, rfl, rfl, by decide, by decide⟩ rfl hl.1 rfl (Nat.le_of_ble_eq_true rfl) dX5_tellVariable_2) (fun y2 T1 hw l_T1 H locs h => ?_)
  have f_a0 := l_T1.is f_a0
  have hle := hle.tr l_T1
  refine lv_iconst (v := (-1)) X.1 X.2.1 dX5_tellVariable_5 (by decide) ?_
  refine lv_icmp_eq (tgt := 15) X.1 X.2.1 dX5_tellVariable_6 (by decide) (fun c4 => ?_) (fun c4 => ?_)
  · have hw := hw.1 c4
    exact j15  T1 _ _ ls (lv_sub hl [0, 1, 2] rfl) h hle f_a0 hw
  · have hw := hw.2 c4
    refine lv_aload_n X.1 X.2.1 dX5_tellVariable_9 rfl (lv_at hl 0 rfl) ?_
    refine lv_iconst (v := 4) X.1 X.2.1 dX5_tellVariable_10 (by decide) ?_
    refine lv_iload_n X.1 X.2.1 dX5_tellVariable_11 rfl (lv_at hl 2 rfl) ?_
    refine kp_callv X h (kp_runV (rm := { frames := 0, cells := 0, slots := 0, locals := 0 }) (mc := 0) (ms := 0) (rest := []) (Qc := fun A => kp_Qv D cy A T1 _) X h (c_X5_blame l D cy ad T1 a0 4 x3 _ h.2.2.2 f_a0 hw) f_a0 cv_5_57 ⟨by decide, by decide, rfl, rfl, by decide, by decide⟩ rfl hl.1 rfl (Nat.le_of_ble_eq_true rfl) dX5_tellVariable_12) (fun T3 hw l_T3 H locs h => ?_)
    have f_a0 := l_T3.is f_a0
    have hle := hle.tr l_T3
    exact j15  T3 _ _ ls (lv_sub hl [0, 1, 2] rfl) h hle f_a0 hw
theorem dX5_tellParameter_0 : decode cX5_tellParameter 0 = .ok (.aload_n 0, 1) := by decide +kernel
theorem dX5_tellParameter_1 : decode cX5_tellParameter 1 = .ok (.getfield 44, 3) := by decide +kernel
theorem dX5_tellParameter_4 : decode cX5_tellParameter 4 = .ok (.bipush 8, 2) := by decide +kernel
theorem dX5_tellParameter_6 : decode cX5_tellParameter 6 = .ok (.if_icmp .lt 10, 3) := by decide +kernel
theorem dX5_tellParameter_9 : decode cX5_tellParameter 9 = .ok (.aload_n 0, 1) := by decide +kernel
theorem dX5_tellParameter_10 : decode cX5_tellParameter 10 = .ok (.bipush 8, 2) := by decide +kernel
theorem dX5_tellParameter_12 : decode cX5_tellParameter 12 = .ok (.iload_n 3, 1) := by decide +kernel
theorem dX5_tellParameter_13 : decode cX5_tellParameter 13 = .ok (.invokevirtual 57, 3) := by decide +kernel
theorem dX5_tellParameter_16 : decode cX5_tellParameter 16 = .ok (.aload_n 0, 1) := by decide +kernel
theorem dX5_tellParameter_17 : decode cX5_tellParameter 17 = .ok (.lload_n 1, 1) := by decide +kernel
theorem dX5_tellParameter_18 : decode cX5_tellParameter 18 = .ok (.iload_n 3, 1) := by decide +kernel
theorem dX5_tellParameter_19 : decode cX5_tellParameter 19 = .ok (.invokevirtual 61, 3) := by decide +kernel
theorem dX5_tellParameter_22 : decode cX5_tellParameter 22 = .ok (.pop, 1) := by decide +kernel
theorem dX5_tellParameter_23 : decode cX5_tellParameter 23 = .ok (.return_, 1) := by decide +kernel
def wX5_tellParameter_b16 (a0 : Nat) (w1 : Int64) (x3 : Int32)  (Sn : kp_S) (post : kp_S → Prop) : Prop :=
  wX5_tellVariable a0 w1 x3 Sn (fun y1002 T1001 =>
  post T1001)
def wX5_tellParameter (a0 : Nat) (w1 : Int64) (x3 : Int32) (S : kp_S) (post : kp_S → Prop) : Prop :=
  (((kp_I S 1006 a0) < 8 →
  wX5_tellParameter_b16 a0 w1 x3   S post) ∧ (¬ (kp_I S 1006 a0) < 8 →
  wX5_blame a0 8 x3 S (fun T1 =>
  wX5_tellParameter_b16 a0 w1 x3   T1 post)))
set_option maxHeartbeats 4000000 in
set_option maxRecDepth 100000 in
theorem c_X5_tellParameter (l : Launch) (D : va_G) (cy : Nat → ClassId) (ad : (Nat → Nat) × (Nat → Nat)) (S : kp_S) (a0 : Nat) (w1 : Int64) (x3 : Int32) (post : kp_S → Prop) (hS : kp_ok S) (f_a0 : kp_is S a0 5) (hw : wX5_tellParameter a0 w1 x3 S post) : kp_M l yX5_tellParameter cX5_tellParameter 4 none { frames := 2, cells := 0, slots := 0, locals := 47 } D cy ad S [.ref a0, .long w1, .int x3] 0 0 (fun A => kp_Qv D cy A S post) := by
  refine kp_start (own := RX5) (by decide) rfl (Nat.le_of_ble_eq_true rfl) hS ?_
  intro p e s m below meth c A ls X hr hlocks hname h hl
  have hle : kp_le S S := kp_le.rf
  have hl : lv_has ls 4 [(0, .ref a0), (1, .long w1), (3, .int x3)] := hl
  have j16 : ∀  (Sn : kp_S) (H : Heap) (locs : List Loc) (ls : Array Slot), lv_has ls 4 [(0, .ref a0), (1, .long w1), (3, .int x3)] → kp_H D cy A Sn s.heap H locs → kp_le S Sn → kp_is Sn a0 5 → wX5_tellParameter_b16 a0 w1 x3   Sn post → W p l e { frames := 2, cells := 0, slots := 0, locals := 47 } s m ([.ref a0, .long w1, .int x3] : List Value).toArray below meth c H locs 0 0 (MQ below (kp_Qv D cy A S post) ([.ref a0, .long w1, .int x3] : List Value).toArray s 0 0 A) (F0 m 16 ls []) := by
    intro  Sn H locs ls hl h hle f_a0 hw
    unfold wX5_tellParameter_b16 at hw
    refine lv_aload_n X.1 X.2.1 dX5_tellParameter_16 rfl (lv_at hl 0 rfl) ?_
    refine lv_lload_n X.1 X.2.1 dX5_tellParameter_17 rfl (lv_at hl 1 rfl) ?_
    refine lv_iload_n X.1 X.2.1 dX5_tellParameter_18 rfl (lv_at hl 2 rfl) ?_
    refine kp_calli X h (kp_runV (rm := { frames := 1, cells := 0, slots := 0, locals := 23 }) (mc := 0) (ms := 0) (rest := []) (Qc := fun A => kp_Qi D cy A Sn _) X h (c_X5_tellVariable l D cy ad Sn a0 w1 x3 _ h.2.2.2 f_a0 hw) f_a0 cv_5_61 ⟨by decide, by decide, rfl, rfl, by decide, by decide⟩ rfl hl.1 rfl (Nat.le_of_ble_eq_true rfl) dX5_tellParameter_19) (fun y1002 T1001 hw l_T1001 H locs h => ?_)
    have f_a0 := l_T1001.is f_a0
    have hle := hle.tr l_T1001
    refine lv_pop X.1 X.2.1 dX5_tellParameter_22 rfl ?_
    exact kp_retv X hr hlocks h hle hw dX5_tellParameter_23
  unfold wX5_tellParameter at hw
  have h : kp_H D cy A S s.heap s.heap [] := h
  revert h
  intro h
  refine lv_aload_n X.1 X.2.1 dX5_tellParameter_0 rfl (lv_at hl 0 rfl) ?_
  refine kp_get X h f_a0 fp_5_44.l (v := .int (kp_I S 1006 a0)) rfl dX5_tellParameter_1 ?_
  refine lv_bipush (v := 8) X.1 X.2.1 dX5_tellParameter_4 (by decide) ?_
  refine lv_icmp_lt (tgt := 16) X.1 X.2.1 dX5_tellParameter_6 (by decide) (fun c2 => ?_) (fun c2 => ?_)
  · have hw := hw.1 c2
    exact j16  S _ _ ls (lv_sub hl [0, 1, 2] rfl) h hle f_a0 hw
  · have hw := hw.2 c2
    refine lv_aload_n X.1 X.2.1 dX5_tellParameter_9 rfl (lv_at hl 0 rfl) ?_
    refine lv_bipush (v := 8) X.1 X.2.1 dX5_tellParameter_10 (by decide) ?_
    refine lv_iload_n X.1 X.2.1 dX5_tellParameter_12 rfl (lv_at hl 2 rfl) ?_
    refine kp_callv X h (kp_runV (rm := { frames := 0, cells := 0, slots := 0, locals := 0 }) (mc := 0) (ms := 0) (rest := []) (Qc := fun A => kp_Qv D cy A S _) X h (c_X5_blame l D cy ad S a0 8 x3 _ h.2.2.2 f_a0 hw) f_a0 cv_5_57 ⟨by decide, by decide, rfl, rfl, by decide, by decide⟩ rfl hl.1 rfl (Nat.le_of_ble_eq_true rfl) dX5_tellParameter_13) (fun T1 hw l_T1 H locs h => ?_)
    have f_a0 := l_T1.is f_a0
    have hle := hle.tr l_T1
    exact j16  T1 _ _ ls (lv_sub hl [0, 1, 2] rfl) h hle f_a0 hw
theorem dX5_slotOf_0 : decode cX5_slotOf 0 = .ok (.aload_n 0, 1) := by decide +kernel
theorem dX5_slotOf_1 : decode cX5_slotOf 1 = .ok (.lload_n 1, 1) := by decide +kernel
theorem dX5_slotOf_2 : decode cX5_slotOf 2 = .ok (.invokevirtual 65, 3) := by decide +kernel
theorem dX5_slotOf_5 : decode cX5_slotOf 5 = .ok (.istore 4, 2) := by decide +kernel
theorem dX5_slotOf_7 : decode cX5_slotOf 7 = .ok (.iload 4, 2) := by decide +kernel
theorem dX5_slotOf_9 : decode cX5_slotOf 9 = .ok (.iconst (-1), 1) := by decide +kernel
theorem dX5_slotOf_10 : decode cX5_slotOf 10 = .ok (.if_icmp .ne 9, 3) := by decide +kernel
theorem dX5_slotOf_13 : decode cX5_slotOf 13 = .ok (.aload_n 0, 1) := by decide +kernel
theorem dX5_slotOf_14 : decode cX5_slotOf 14 = .ok (.iconst 5, 1) := by decide +kernel
theorem dX5_slotOf_15 : decode cX5_slotOf 15 = .ok (.iload_n 3, 1) := by decide +kernel
theorem dX5_slotOf_16 : decode cX5_slotOf 16 = .ok (.invokevirtual 57, 3) := by decide +kernel
theorem dX5_slotOf_19 : decode cX5_slotOf 19 = .ok (.iload 4, 2) := by decide +kernel
theorem dX5_slotOf_21 : decode cX5_slotOf 21 = .ok (.ireturn, 1) := by decide +kernel
def wX5_slotOf_b19 (a0 : Nat) (w1 : Int64) (x3 : Int32) (xn4 : Int32)  (Sn : kp_S) (post : Int32 → kp_S → Prop) : Prop :=
  post xn4 Sn
def wX5_slotOf (a0 : Nat) (w1 : Int64) (x3 : Int32) (S : kp_S) (post : Int32 → kp_S → Prop) : Prop :=
  wX5_findVariable a0 w1 S (fun y2 T1 =>
  ((¬ y2 = (-1) →
  wX5_slotOf_b19 a0 w1 x3 y2  T1 post) ∧ (y2 = (-1) →
  wX5_blame a0 5 x3 T1 (fun T3 =>
  wX5_slotOf_b19 a0 w1 x3 y2  T3 post))))
set_option maxHeartbeats 4000000 in
set_option maxRecDepth 100000 in
theorem c_X5_slotOf (l : Launch) (D : va_G) (cy : Nat → ClassId) (ad : (Nat → Nat) × (Nat → Nat)) (S : kp_S) (a0 : Nat) (w1 : Int64) (x3 : Int32) (post : Int32 → kp_S → Prop) (hS : kp_ok S) (f_a0 : kp_is S a0 5) (hw : wX5_slotOf a0 w1 x3 S post) : kp_M l yX5_slotOf cX5_slotOf 5 (some .int) { frames := 1, cells := 0, slots := 0, locals := 23 } D cy ad S [.ref a0, .long w1, .int x3] 0 0 (fun A => kp_Qi D cy A S post) := by
  refine kp_start (own := RX5) (by decide) rfl (Nat.le_of_ble_eq_true rfl) hS ?_
  intro p e s m below meth c A ls X hr hlocks hname h hl
  have hle : kp_le S S := kp_le.rf
  have hl : lv_has ls 5 [(0, .ref a0), (1, .long w1), (3, .int x3)] := hl
  have j19 : ∀ (xn4 : Int32) (Sn : kp_S) (H : Heap) (locs : List Loc) (ls : Array Slot), lv_has ls 5 [(4, .int xn4)] → kp_H D cy A Sn s.heap H locs → kp_le S Sn → kp_is Sn a0 5 → wX5_slotOf_b19 a0 w1 x3 xn4  Sn post → W p l e { frames := 1, cells := 0, slots := 0, locals := 23 } s m ([.ref a0, .long w1, .int x3] : List Value).toArray below meth c H locs 0 0 (MQ below (kp_Qi D cy A S post) ([.ref a0, .long w1, .int x3] : List Value).toArray s 0 0 A) (F0 m 19 ls []) := by
    intro xn4 Sn H locs ls hl h hle f_a0 hw
    unfold wX5_slotOf_b19 at hw
    refine lv_iload X.1 X.2.1 dX5_slotOf_19 (lv_at hl 0 rfl) ?_
    exact kp_reti X hr hlocks h hle rfl hw dX5_slotOf_21
  unfold wX5_slotOf at hw
  have h : kp_H D cy A S s.heap s.heap [] := h
  revert h
  intro h
  refine lv_aload_n X.1 X.2.1 dX5_slotOf_0 rfl (lv_at hl 0 rfl) ?_
  refine lv_lload_n X.1 X.2.1 dX5_slotOf_1 rfl (lv_at hl 1 rfl) ?_
  refine kp_calli X h (kp_runV (rm := { frames := 0, cells := 0, slots := 0, locals := 0 }) (mc := 0) (ms := 0) (rest := []) (Qc := fun A => kp_Qi D cy A S _) X h (c_X5_findVariable l D cy ad S a0 w1 _ h.2.2.2 f_a0 hw) f_a0 cv_5_65 ⟨by decide, by decide, rfl, rfl, by decide, by decide⟩ rfl hl.1 rfl (Nat.le_of_ble_eq_true rfl) dX5_slotOf_2) (fun y2 T1 hw l_T1 H locs h => ?_)
  have f_a0 := l_T1.is f_a0
  have hle := hle.tr l_T1
  refine lv_istore (lv' := [(4, .int y2), (0, .ref a0), (1, .long w1), (3, .int x3)]) X.1 X.2.1 dX5_slotOf_5 hl (by decide) rfl (fun ls hl => ?_)
  refine lv_iload X.1 X.2.1 dX5_slotOf_7 (lv_at hl 0 rfl) ?_
  refine lv_iconst (v := (-1)) X.1 X.2.1 dX5_slotOf_9 (by decide) ?_
  refine lv_icmp_ne (tgt := 19) X.1 X.2.1 dX5_slotOf_10 (by decide) (fun c4 => ?_) (fun c4 => ?_)
  · have hw := hw.1 c4
    exact j19 y2 T1 _ _ ls (lv_sub hl [0] rfl) h hle f_a0 hw
  · have hw := hw.2 c4
    refine lv_aload_n X.1 X.2.1 dX5_slotOf_13 rfl (lv_at hl 1 rfl) ?_
    refine lv_iconst (v := 5) X.1 X.2.1 dX5_slotOf_14 (by decide) ?_
    refine lv_iload_n X.1 X.2.1 dX5_slotOf_15 rfl (lv_at hl 3 rfl) ?_
    refine kp_callv X h (kp_runV (rm := { frames := 0, cells := 0, slots := 0, locals := 0 }) (mc := 0) (ms := 0) (rest := []) (Qc := fun A => kp_Qv D cy A T1 _) X h (c_X5_blame l D cy ad T1 a0 5 x3 _ h.2.2.2 f_a0 hw) f_a0 cv_5_57 ⟨by decide, by decide, rfl, rfl, by decide, by decide⟩ rfl hl.1 rfl (Nat.le_of_ble_eq_true rfl) dX5_slotOf_16) (fun T3 hw l_T3 H locs h => ?_)
    have f_a0 := l_T3.is f_a0
    have hle := hle.tr l_T3
    exact j19 y2 T3 _ _ ls (lv_sub hl [0] rfl) h hle f_a0 hw
theorem dX5_variableCount_0 : decode cX5_variableCount 0 = .ok (.aload_n 0, 1) := by decide +kernel
theorem dX5_variableCount_1 : decode cX5_variableCount 1 = .ok (.getfield 44, 3) := by decide +kernel
theorem dX5_variableCount_4 : decode cX5_variableCount 4 = .ok (.ireturn, 1) := by decide +kernel
def wX5_variableCount (a0 : Nat) (S : kp_S) (post : Int32 → kp_S → Prop) : Prop :=
  post (kp_I S 1006 a0) S
set_option maxHeartbeats 4000000 in
set_option maxRecDepth 100000 in
theorem c_X5_variableCount (l : Launch) (D : va_G) (cy : Nat → ClassId) (ad : (Nat → Nat) × (Nat → Nat)) (S : kp_S) (a0 : Nat) (post : Int32 → kp_S → Prop) (hS : kp_ok S) (f_a0 : kp_is S a0 5) (hw : wX5_variableCount a0 S post) : kp_M l yX5_variableCount cX5_variableCount 1 (some .int) { frames := 0, cells := 0, slots := 0, locals := 0 } D cy ad S [.ref a0] 0 0 (fun A => kp_Qi D cy A S post) := by
  refine kp_start (own := RX5) (by decide) rfl (Nat.le_of_ble_eq_true rfl) hS ?_
  intro p e s m below meth c A ls X hr hlocks hname h hl
  have hle : kp_le S S := kp_le.rf
  have hl : lv_has ls 1 [(0, .ref a0)] := hl
  unfold wX5_variableCount at hw
  have h : kp_H D cy A S s.heap s.heap [] := h
  revert h
  intro h
  refine lv_aload_n X.1 X.2.1 dX5_variableCount_0 rfl (lv_at hl 0 rfl) ?_
  refine kp_get X h f_a0 fp_5_44.l (v := .int (kp_I S 1006 a0)) rfl dX5_variableCount_1 ?_
  exact kp_reti X hr hlocks h hle rfl hw dX5_variableCount_4
theorem dX5_knownNow_0 : decode cX5_knownNow 0 = .ok (.aload_n 0, 1) := by decide +kernel
theorem dX5_knownNow_1 : decode cX5_knownNow 1 = .ok (.getfield 41, 3) := by decide +kernel
theorem dX5_knownNow_4 : decode cX5_knownNow 4 = .ok (.ireturn, 1) := by decide +kernel
def wX5_knownNow (a0 : Nat) (S : kp_S) (post : Int32 → kp_S → Prop) : Prop :=
  post (kp_I S 1005 a0) S
set_option maxHeartbeats 4000000 in
set_option maxRecDepth 100000 in
theorem c_X5_knownNow (l : Launch) (D : va_G) (cy : Nat → ClassId) (ad : (Nat → Nat) × (Nat → Nat)) (S : kp_S) (a0 : Nat) (post : Int32 → kp_S → Prop) (hS : kp_ok S) (f_a0 : kp_is S a0 5) (hw : wX5_knownNow a0 S post) : kp_M l yX5_knownNow cX5_knownNow 1 (some .int) { frames := 0, cells := 0, slots := 0, locals := 0 } D cy ad S [.ref a0] 0 0 (fun A => kp_Qi D cy A S post) := by
  refine kp_start (own := RX5) (by decide) rfl (Nat.le_of_ble_eq_true rfl) hS ?_
  intro p e s m below meth c A ls X hr hlocks hname h hl
  have hle : kp_le S S := kp_le.rf
  have hl : lv_has ls 1 [(0, .ref a0)] := hl
  unfold wX5_knownNow at hw
  have h : kp_H D cy A S s.heap s.heap [] := h
  revert h
  intro h
  refine lv_aload_n X.1 X.2.1 dX5_knownNow_0 rfl (lv_at hl 0 rfl) ?_
  refine kp_get X h f_a0 fp_5_41.l (v := .int (kp_I S 1005 a0)) rfl dX5_knownNow_1 ?_
  exact kp_reti X hr hlocks h hle rfl hw dX5_knownNow_4
theorem dX5_forgetBehind_0 : decode cX5_forgetBehind 0 = .ok (.aload_n 0, 1) := by decide +kernel
theorem dX5_forgetBehind_1 : decode cX5_forgetBehind 1 = .ok (.iload_n 1, 1) := by decide +kernel
theorem dX5_forgetBehind_2 : decode cX5_forgetBehind 2 = .ok (.putfield 41, 3) := by decide +kernel
theorem dX5_forgetBehind_5 : decode cX5_forgetBehind 5 = .ok (.return_, 1) := by decide +kernel
def wX5_forgetBehind (a0 : Nat) (x1 : Int32) (S : kp_S) (post : kp_S → Prop) : Prop :=
  ∀ T1 : kp_S, T1 = kp_sI S 1005 a0 x1 →
  post T1
set_option maxHeartbeats 4000000 in
set_option maxRecDepth 100000 in
theorem c_X5_forgetBehind (l : Launch) (D : va_G) (cy : Nat → ClassId) (ad : (Nat → Nat) × (Nat → Nat)) (S : kp_S) (a0 : Nat) (x1 : Int32) (post : kp_S → Prop) (hS : kp_ok S) (f_a0 : kp_is S a0 5) (hw : wX5_forgetBehind a0 x1 S post) : kp_M l yX5_forgetBehind cX5_forgetBehind 2 none { frames := 0, cells := 0, slots := 0, locals := 0 } D cy ad S [.ref a0, .int x1] 0 0 (fun A => kp_Qv D cy A S post) := by
  refine kp_start (own := RX5) (by decide) rfl (Nat.le_of_ble_eq_true rfl) hS ?_
  intro p e s m below meth c A ls X hr hlocks hname h hl
  have hle : kp_le S S := kp_le.rf
  have hl : lv_has ls 2 [(0, .ref a0), (1, .int x1)] := hl
  unfold wX5_forgetBehind at hw
  have h : kp_H D cy A S s.heap s.heap [] := h
  revert h
  intro h
  refine lv_aload_n X.1 X.2.1 dX5_forgetBehind_0 rfl (lv_at hl 0 rfl) ?_
  refine lv_iload_n X.1 X.2.1 dX5_forgetBehind_1 rfl (lv_at hl 1 rfl) ?_
  refine kp_putI X h f_a0 fp_5_41 rfl ⟨rfl, rfl⟩ dX5_forgetBehind_2 (fun T1 e_T1 l_T1 H locs h => ?_)
  have hw := hw T1 e_T1
  have f_a0 := l_T1.is f_a0
  have hle := hle.tr l_T1
  exact kp_retv X hr hlocks h hle hw dX5_forgetBehind_5
theorem dX5_findLoop_0 : decode cX5_findLoop 0 = .ok (.aload_n 0, 1) := by decide +kernel
theorem dX5_findLoop_1 : decode cX5_findLoop 1 = .ok (.getfield 47, 3) := by decide +kernel
theorem dX5_findLoop_4 : decode cX5_findLoop 4 = .ok (.bipush 14, 2) := by decide +kernel
theorem dX5_findLoop_6 : decode cX5_findLoop 6 = .ok (.invokestatic 71, 3) := by decide +kernel
theorem dX5_findLoop_9 : decode cX5_findLoop 9 = .ok (.iconst 1, 1) := by decide +kernel
theorem dX5_findLoop_10 : decode cX5_findLoop 10 = .ok (.isub, 1) := by decide +kernel
theorem dX5_findLoop_11 : decode cX5_findLoop 11 = .ok (.istore_n 3, 1) := by decide +kernel
theorem dX5_findLoop_12 : decode cX5_findLoop 12 = .ok (.iload_n 3, 1) := by decide +kernel
theorem dX5_findLoop_13 : decode cX5_findLoop 13 = .ok (.aload_n 0, 1) := by decide +kernel
theorem dX5_findLoop_14 : decode cX5_findLoop 14 = .ok (.getfield 50, 3) := by decide +kernel
theorem dX5_findLoop_17 : decode cX5_findLoop 17 = .ok (.if_icmp .lt 22, 3) := by decide +kernel
theorem dX5_findLoop_20 : decode cX5_findLoop 20 = .ok (.aload_n 0, 1) := by decide +kernel
theorem dX5_findLoop_21 : decode cX5_findLoop 21 = .ok (.getfield 25, 3) := by decide +kernel
theorem dX5_findLoop_24 : decode cX5_findLoop 24 = .ok (.iload_n 3, 1) := by decide +kernel
theorem dX5_findLoop_25 : decode cX5_findLoop 25 = .ok (.laload, 1) := by decide +kernel
theorem dX5_findLoop_26 : decode cX5_findLoop 26 = .ok (.lload_n 1, 1) := by decide +kernel
theorem dX5_findLoop_27 : decode cX5_findLoop 27 = .ok (.lcmp, 1) := by decide +kernel
theorem dX5_findLoop_28 : decode cX5_findLoop 28 = .ok (.ifCond .ne 5, 3) := by decide +kernel
theorem dX5_findLoop_31 : decode cX5_findLoop 31 = .ok (.iload_n 3, 1) := by decide +kernel
theorem dX5_findLoop_32 : decode cX5_findLoop 32 = .ok (.ireturn, 1) := by decide +kernel
theorem dX5_findLoop_33 : decode cX5_findLoop 33 = .ok (.iinc 3 (-1), 3) := by decide +kernel
theorem dX5_findLoop_36 : decode cX5_findLoop 36 = .ok (.goto (-24), 3) := by decide +kernel
theorem dX5_findLoop_39 : decode cX5_findLoop 39 = .ok (.iconst (-1), 1) := by decide +kernel
theorem dX5_findLoop_40 : decode cX5_findLoop 40 = .ok (.ireturn, 1) := by decide +kernel
def wX5_findLoop_L12 (a0 : Nat) (w1 : Int64)  (post : Int32 → kp_S → Prop) : Nat → Int32 → kp_S → Prop
  | 0, _, _ => False
  | n + 1, xn3, Sn =>
  ((xn3 < (kp_I Sn 1010 a0) →
  post (-1) Sn) ∧ (¬ xn3 < (kp_I Sn 1010 a0) →
  ∃ b1001 : Nat, kp_R Sn 1007 a0 = some b1001 ∧
  vp_in xn3 (kp_N Sn b1001) ∧
  ((¬ (lg_cmp (kp_B Sn b1001 xn3.toNatClampNeg) w1) = 0 →
  ∀ y1002 : Int32, y1002 = xn3 + (-1) →
  wX5_findLoop_L12 a0 w1  post n y1002 Sn) ∧ ((lg_cmp (kp_B Sn b1001 xn3.toNatClampNeg) w1) = 0 →
  post xn3 Sn))))
def wX5_findLoop (a0 : Nat) (w1 : Int64) (S : kp_S) (post : Int32 → kp_S → Prop) : Prop :=
  ∀ y1 : Int32, y1 = ((if (14 : Int32) < (kp_I S 1009 a0) then 14 else (kp_I S 1009 a0)) - 1) →
  ∃ n0 : Nat, wX5_findLoop_L12 a0 w1  post n0 y1 S
set_option maxHeartbeats 4000000 in
set_option maxRecDepth 100000 in
theorem c_X5_findLoop (l : Launch) (D : va_G) (cy : Nat → ClassId) (ad : (Nat → Nat) × (Nat → Nat)) (S : kp_S) (a0 : Nat) (w1 : Int64) (post : Int32 → kp_S → Prop) (hS : kp_ok S) (f_a0 : kp_is S a0 5) (hw : wX5_findLoop a0 w1 S post) : kp_M l yX5_findLoop cX5_findLoop 4 (some .int) { frames := 1, cells := 0, slots := 0, locals := 21 } D cy ad S [.ref a0, .long w1] 0 0 (fun A => kp_Qi D cy A S post) := by
  refine kp_start (own := RX5) (by decide) rfl (Nat.le_of_ble_eq_true rfl) hS ?_
  intro p e s m below meth c A ls X hr hlocks hname h hl
  have hle : kp_le S S := kp_le.rf
  have hl : lv_has ls 4 [(0, .ref a0), (1, .long w1)] := hl
  have L12 : ∀ n12 : Nat, ∀ (xn3 : Int32) (Sn : kp_S) (H : Heap) (locs : List Loc) (ls : Array Slot), lv_has ls 4 [(0, .ref a0), (1, .long w1), (3, .int xn3)] → kp_H D cy A Sn s.heap H locs → kp_le S Sn → kp_is Sn a0 5 → wX5_findLoop_L12 a0 w1  post n12 xn3 Sn → W p l e { frames := 1, cells := 0, slots := 0, locals := 21 } s m ([.ref a0, .long w1] : List Value).toArray below meth c H locs 0 0 (MQ below (kp_Qi D cy A S post) ([.ref a0, .long w1] : List Value).toArray s 0 0 A) (F0 m 12 ls []) := by
    intro n12
    induction n12 with
    | zero => intro xn3 Sn H locs ls hl h hle f_a0 hw; exact hw.elim
    | succ n12 ih12 =>
      intro xn3 Sn H locs ls hl h hle f_a0 hw
      unfold wX5_findLoop_L12 at hw
      refine lv_iload_n X.1 X.2.1 dX5_findLoop_12 rfl (lv_at hl 2 rfl) ?_
      refine lv_aload_n X.1 X.2.1 dX5_findLoop_13 rfl (lv_at hl 0 rfl) ?_
      refine kp_get X h f_a0 fp_5_50.l (v := .int (kp_I Sn 1010 a0)) rfl dX5_findLoop_14 ?_
      refine lv_icmp_lt (tgt := 39) X.1 X.2.1 dX5_findLoop_17 (by decide) (fun c1004 => ?_) (fun c1004 => ?_)
      · have hw := hw.1 c1004
        refine lv_iconst (v := (-1)) X.1 X.2.1 dX5_findLoop_39 (by decide) ?_
        exact kp_reti X hr hlocks h hle rfl hw dX5_findLoop_40
      · have hw := hw.2 c1004
        refine lv_aload_n X.1 X.2.1 dX5_findLoop_20 rfl (lv_at hl 0 rfl) ?_
        obtain ⟨b1001, e_b1001, hw⟩ := hw
        have f_b1001 := h.2.2.2.rf (c := 5) (k := 7) f_a0 (by decide) (by decide) e_b1001 (t := 15) rfl
        refine kp_get X h f_a0 ff_5_25.l (v := .ref b1001) (congrArg va_rf e_b1001) dX5_findLoop_21 ?_
        refine lv_iload_n X.1 X.2.1 dX5_findLoop_24 rfl (lv_at hl 2 rfl) ?_
        obtain ⟨hi, hw⟩ := hw
        refine kp_lald X h f_b1001 hi dX5_findLoop_25 ?_
        refine lv_lload_n X.1 X.2.1 dX5_findLoop_26 rfl (lv_at hl 1 rfl) ?_
        refine W.lcmp X.1 X.2.1 dX5_findLoop_27 ?_
        refine lv_if_ne (tgt := 33) X.1 X.2.1 dX5_findLoop_28 (by decide) (fun c1003 => ?_) (fun c1003 => ?_)
        · have hw := hw.1 c1003
          obtain ⟨y1002, e_y1002⟩ : ∃ y : Int32, y = xn3 + (-1) := ⟨_, rfl⟩
          have hw := hw y1002 e_y1002
          refine lv_iinc (v := y1002) (lv' := [(3, .int y1002), (0, .ref a0), (1, .long w1)]) X.1 X.2.1 dX5_findLoop_33 hl (k := 2) rfl (by rw [e_y1002]; rfl) (by decide) rfl (fun ls hl => ?_)
          refine lv_goto (tgt := 12) X.1 X.2.1 dX5_findLoop_36 (by decide) ?_
          exact ih12 y1002 Sn H locs ls (lv_sub hl [1, 2, 0] rfl) h hle f_a0 hw
        · have hw := hw.2 c1003
          refine lv_iload_n X.1 X.2.1 dX5_findLoop_31 rfl (lv_at hl 2 rfl) ?_
          exact kp_reti X hr hlocks h hle rfl hw dX5_findLoop_32
  unfold wX5_findLoop at hw
  have h : kp_H D cy A S s.heap s.heap [] := h
  revert h
  intro h
  refine lv_aload_n X.1 X.2.1 dX5_findLoop_0 rfl (lv_at hl 0 rfl) ?_
  refine kp_get X h f_a0 fp_5_47.l (v := .int (kp_I S 1009 a0)) rfl dX5_findLoop_1 ?_
  refine lv_bipush (v := 14) X.1 X.2.1 dX5_findLoop_4 (by decide) ?_
  refine kp_mmin X hl.1 mm_5_71 (by decide) (Nat.le_of_ble_eq_true rfl) (by decide) (by decide) dX5_findLoop_6 ?_
  refine lv_iconst (v := 1) X.1 X.2.1 dX5_findLoop_9 (by decide) ?_
  refine lv_isub X.1 X.2.1 dX5_findLoop_10 ?_
  refine lv_topi (fun y1 e_y1 => ?_)
  have hw := hw y1 e_y1
  refine lv_istore_n (lv' := [(3, .int y1), (0, .ref a0), (1, .long w1)]) X.1 X.2.1 dX5_findLoop_11 rfl hl (by decide) rfl (fun ls hl => ?_)
  obtain ⟨n0, hw⟩ := hw
  exact L12 n0 y1 S _ _ ls (lv_sub hl [1, 2, 0] rfl) h hle f_a0 hw
theorem dX5_tellLabel_0 : decode cX5_tellLabel 0 = .ok (.aload_n 0, 1) := by decide +kernel
theorem dX5_tellLabel_1 : decode cX5_tellLabel 1 = .ok (.lload_n 1, 1) := by decide +kernel
theorem dX5_tellLabel_2 : decode cX5_tellLabel 2 = .ok (.invokevirtual 68, 3) := by decide +kernel
theorem dX5_tellLabel_5 : decode cX5_tellLabel 5 = .ok (.iconst (-1), 1) := by decide +kernel
theorem dX5_tellLabel_6 : decode cX5_tellLabel 6 = .ok (.if_icmp .eq 9, 3) := by decide +kernel
theorem dX5_tellLabel_9 : decode cX5_tellLabel 9 = .ok (.aload_n 0, 1) := by decide +kernel
theorem dX5_tellLabel_10 : decode cX5_tellLabel 10 = .ok (.iconst 4, 1) := by decide +kernel
theorem dX5_tellLabel_11 : decode cX5_tellLabel 11 = .ok (.iload_n 3, 1) := by decide +kernel
theorem dX5_tellLabel_12 : decode cX5_tellLabel 12 = .ok (.invokevirtual 57, 3) := by decide +kernel
theorem dX5_tellLabel_15 : decode cX5_tellLabel 15 = .ok (.return_, 1) := by decide +kernel
def wX5_tellLabel_b15 (a0 : Nat) (w1 : Int64) (x3 : Int32)  (Sn : kp_S) (post : kp_S → Prop) : Prop :=
  post Sn
def wX5_tellLabel (a0 : Nat) (w1 : Int64) (x3 : Int32) (S : kp_S) (post : kp_S → Prop) : Prop :=
  wX5_findLoop a0 w1 S (fun y2 T1 =>
  ((y2 = (-1) →
  wX5_tellLabel_b15 a0 w1 x3   T1 post) ∧ (¬ y2 = (-1) →
  wX5_blame a0 4 x3 T1 (fun T3 =>
  wX5_tellLabel_b15 a0 w1 x3   T3 post))))
set_option maxHeartbeats 4000000 in
set_option maxRecDepth 100000 in
theorem c_X5_tellLabel (l : Launch) (D : va_G) (cy : Nat → ClassId) (ad : (Nat → Nat) × (Nat → Nat)) (S : kp_S) (a0 : Nat) (w1 : Int64) (x3 : Int32) (post : kp_S → Prop) (hS : kp_ok S) (f_a0 : kp_is S a0 5) (hw : wX5_tellLabel a0 w1 x3 S post) : kp_M l yX5_tellLabel cX5_tellLabel 4 none { frames := 2, cells := 0, slots := 0, locals := 44 } D cy ad S [.ref a0, .long w1, .int x3] 0 0 (fun A => kp_Qv D cy A S post) := by
  refine kp_start (own := RX5) (by decide) rfl (Nat.le_of_ble_eq_true rfl) hS ?_
  intro p e s m below meth c A ls X hr hlocks hname h hl
  have hle : kp_le S S := kp_le.rf
  have hl : lv_has ls 4 [(0, .ref a0), (1, .long w1), (3, .int x3)] := hl
  have j15 : ∀  (Sn : kp_S) (H : Heap) (locs : List Loc) (ls : Array Slot), lv_has ls 4 [] → kp_H D cy A Sn s.heap H locs → kp_le S Sn → kp_is Sn a0 5 → wX5_tellLabel_b15 a0 w1 x3   Sn post → W p l e { frames := 2, cells := 0, slots := 0, locals := 44 } s m ([.ref a0, .long w1, .int x3] : List Value).toArray below meth c H locs 0 0 (MQ below (kp_Qv D cy A S post) ([.ref a0, .long w1, .int x3] : List Value).toArray s 0 0 A) (F0 m 15 ls []) := by
    intro  Sn H locs ls hl h hle f_a0 hw
    unfold wX5_tellLabel_b15 at hw
    exact kp_retv X hr hlocks h hle hw dX5_tellLabel_15
  unfold wX5_tellLabel at hw
  have h : kp_H D cy A S s.heap s.heap [] := h
  revert h
  intro h
  refine lv_aload_n X.1 X.2.1 dX5_tellLabel_0 rfl (lv_at hl 0 rfl) ?_
  refine lv_lload_n X.1 X.2.1 dX5_tellLabel_1 rfl (lv_at hl 1 rfl) ?_
  refine kp_calli X h (kp_runV (rm := { frames := 1, cells := 0, slots := 0, locals := 21 }) (mc := 0) (ms := 0) (rest := []) (Qc := fun A => kp_Qi D cy A S _) X h (c_X5_findLoop l D cy ad S a0 w1 _ h.2.2.2 f_a0 hw) f_a0 cv_5_68 ⟨by decide, by decide, rfl, rfl, by decide, by decide⟩ rfl hl.1 rfl (Nat.le_of_ble_eq_true rfl) dX5_tellLabel_2) (fun y2 T1 hw l_T1 H locs h => ?_)
  have f_a0 := l_T1.is f_a0
  have hle := hle.tr l_T1
  refine lv_iconst (v := (-1)) X.1 X.2.1 dX5_tellLabel_5 (by decide) ?_
  refine lv_icmp_eq (tgt := 15) X.1 X.2.1 dX5_tellLabel_6 (by decide) (fun c4 => ?_) (fun c4 => ?_)
  · have hw := hw.1 c4
    exact j15  T1 _ _ ls (lv_sub hl [] rfl) h hle f_a0 hw
  · have hw := hw.2 c4
    refine lv_aload_n X.1 X.2.1 dX5_tellLabel_9 rfl (lv_at hl 0 rfl) ?_
    refine lv_iconst (v := 4) X.1 X.2.1 dX5_tellLabel_10 (by decide) ?_
    refine lv_iload_n X.1 X.2.1 dX5_tellLabel_11 rfl (lv_at hl 2 rfl) ?_
    refine kp_callv X h (kp_runV (rm := { frames := 0, cells := 0, slots := 0, locals := 0 }) (mc := 0) (ms := 0) (rest := []) (Qc := fun A => kp_Qv D cy A T1 _) X h (c_X5_blame l D cy ad T1 a0 4 x3 _ h.2.2.2 f_a0 hw) f_a0 cv_5_57 ⟨by decide, by decide, rfl, rfl, by decide, by decide⟩ rfl hl.1 rfl (Nat.le_of_ble_eq_true rfl) dX5_tellLabel_12) (fun T3 hw l_T3 H locs h => ?_)
    have f_a0 := l_T3.is f_a0
    have hle := hle.tr l_T3
    exact j15  T3 _ _ ls (lv_sub hl [] rfl) h hle f_a0 hw
theorem dX5_enterLoop_0 : decode cX5_enterLoop 0 = .ok (.aload_n 0, 1) := by decide +kernel
theorem dX5_enterLoop_1 : decode cX5_enterLoop 1 = .ok (.getfield 47, 3) := by decide +kernel
theorem dX5_enterLoop_4 : decode cX5_enterLoop 4 = .ok (.bipush 14, 2) := by decide +kernel
theorem dX5_enterLoop_6 : decode cX5_enterLoop 6 = .ok (.if_icmp .ge 23, 3) := by decide +kernel
theorem dX5_enterLoop_9 : decode cX5_enterLoop 9 = .ok (.aload_n 0, 1) := by decide +kernel
theorem dX5_enterLoop_10 : decode cX5_enterLoop 10 = .ok (.getfield 25, 3) := by decide +kernel
theorem dX5_enterLoop_13 : decode cX5_enterLoop 13 = .ok (.aload_n 0, 1) := by decide +kernel
theorem dX5_enterLoop_14 : decode cX5_enterLoop 14 = .ok (.getfield 47, 3) := by decide +kernel
theorem dX5_enterLoop_17 : decode cX5_enterLoop 17 = .ok (.lload_n 1, 1) := by decide +kernel
theorem dX5_enterLoop_18 : decode cX5_enterLoop 18 = .ok (.lastore, 1) := by decide +kernel
theorem dX5_enterLoop_19 : decode cX5_enterLoop 19 = .ok (.aload_n 0, 1) := by decide +kernel
theorem dX5_enterLoop_20 : decode cX5_enterLoop 20 = .ok (.getfield 28, 3) := by decide +kernel
theorem dX5_enterLoop_23 : decode cX5_enterLoop 23 = .ok (.aload_n 0, 1) := by decide +kernel
theorem dX5_enterLoop_24 : decode cX5_enterLoop 24 = .ok (.getfield 47, 3) := by decide +kernel
theorem dX5_enterLoop_27 : decode cX5_enterLoop 27 = .ok (.iload_n 3, 1) := by decide +kernel
theorem dX5_enterLoop_28 : decode cX5_enterLoop 28 = .ok (.iastore, 1) := by decide +kernel
theorem dX5_enterLoop_29 : decode cX5_enterLoop 29 = .ok (.aload_n 0, 1) := by decide +kernel
theorem dX5_enterLoop_30 : decode cX5_enterLoop 30 = .ok (.dup, 1) := by decide +kernel
theorem dX5_enterLoop_31 : decode cX5_enterLoop 31 = .ok (.getfield 47, 3) := by decide +kernel
theorem dX5_enterLoop_34 : decode cX5_enterLoop 34 = .ok (.iconst 1, 1) := by decide +kernel
theorem dX5_enterLoop_35 : decode cX5_enterLoop 35 = .ok (.iadd, 1) := by decide +kernel
theorem dX5_enterLoop_36 : decode cX5_enterLoop 36 = .ok (.putfield 47, 3) := by decide +kernel
theorem dX5_enterLoop_39 : decode cX5_enterLoop 39 = .ok (.return_, 1) := by decide +kernel
def wX5_enterLoop_b29 (a0 : Nat) (w1 : Int64) (x3 : Int32)  (Sn : kp_S) (post : kp_S → Prop) : Prop :=
  ∀ T1001 : kp_S, T1001 = kp_sI Sn 1009 a0 ((kp_I Sn 1009 a0) + 1) →
  post T1001
def wX5_enterLoop (a0 : Nat) (w1 : Int64) (x3 : Int32) (S : kp_S) (post : kp_S → Prop) : Prop :=
  ((14 ≤ (kp_I S 1009 a0) →
  wX5_enterLoop_b29 a0 w1 x3   S post) ∧ (¬ 14 ≤ (kp_I S 1009 a0) →
  ∃ b1 : Nat, kp_R S 1007 a0 = some b1 ∧
  vp_in (kp_I S 1009 a0) (kp_N S b1) ∧ ∀ T2 : kp_S, T2 = kp_sB S b1 (vp_updL (kp_B S b1) ((kp_I S 1009 a0).toNatClampNeg) w1) →
  ∃ b3 : Nat, kp_R T2 1008 a0 = some b3 ∧
  vp_in (kp_I T2 1009 a0) (kp_N T2 b3) ∧ ∀ T4 : kp_S, T4 = kp_sA T2 b3 (upd (kp_A T2 b3) ((kp_I T2 1009 a0).toNatClampNeg) x3) →
  wX5_enterLoop_b29 a0 w1 x3   T4 post))
set_option maxHeartbeats 4000000 in
set_option maxRecDepth 100000 in
theorem c_X5_enterLoop (l : Launch) (D : va_G) (cy : Nat → ClassId) (ad : (Nat → Nat) × (Nat → Nat)) (S : kp_S) (a0 : Nat) (w1 : Int64) (x3 : Int32) (post : kp_S → Prop) (hS : kp_ok S) (f_a0 : kp_is S a0 5) (hw : wX5_enterLoop a0 w1 x3 S post) : kp_M l yX5_enterLoop cX5_enterLoop 4 none { frames := 0, cells := 0, slots := 0, locals := 0 } D cy ad S [.ref a0, .long w1, .int x3] 0 0 (fun A => kp_Qv D cy A S post) := by
  refine kp_start (own := RX5) (by decide) rfl (Nat.le_of_ble_eq_true rfl) hS ?_
  intro p e s m below meth c A ls X hr hlocks hname h hl
  have hle : kp_le S S := kp_le.rf
  have hl : lv_has ls 4 [(0, .ref a0), (1, .long w1), (3, .int x3)] := hl
  have j29 : ∀  (Sn : kp_S) (H : Heap) (locs : List Loc) (ls : Array Slot), lv_has ls 4 [(0, .ref a0)] → kp_H D cy A Sn s.heap H locs → kp_le S Sn → kp_is Sn a0 5 → wX5_enterLoop_b29 a0 w1 x3   Sn post → W p l e { frames := 0, cells := 0, slots := 0, locals := 0 } s m ([.ref a0, .long w1, .int x3] : List Value).toArray below meth c H locs 0 0 (MQ below (kp_Qv D cy A S post) ([.ref a0, .long w1, .int x3] : List Value).toArray s 0 0 A) (F0 m 29 ls []) := by
    intro  Sn H locs ls hl h hle f_a0 hw
    unfold wX5_enterLoop_b29 at hw
    refine lv_aload_n X.1 X.2.1 dX5_enterLoop_29 rfl (lv_at hl 0 rfl) ?_
    refine lv_dup X.1 X.2.1 dX5_enterLoop_30 rfl ?_
    refine kp_get X h f_a0 fp_5_47.l (v := .int (kp_I Sn 1009 a0)) rfl dX5_enterLoop_31 ?_
    refine lv_iconst (v := 1) X.1 X.2.1 dX5_enterLoop_34 (by decide) ?_
    refine lv_iadd X.1 X.2.1 dX5_enterLoop_35 ?_
    refine kp_putI X h f_a0 fp_5_47 rfl ⟨rfl, rfl⟩ dX5_enterLoop_36 (fun T1001 e_T1001 l_T1001 H locs h => ?_)
    have hw := hw T1001 e_T1001
    have f_a0 := l_T1001.is f_a0
    have hle := hle.tr l_T1001
    exact kp_retv X hr hlocks h hle hw dX5_enterLoop_39
  unfold wX5_enterLoop at hw
  have h : kp_H D cy A S s.heap s.heap [] := h
  revert h
  intro h
  refine lv_aload_n X.1 X.2.1 dX5_enterLoop_0 rfl (lv_at hl 0 rfl) ?_
  refine kp_get X h f_a0 fp_5_47.l (v := .int (kp_I S 1009 a0)) rfl dX5_enterLoop_1 ?_
  refine lv_bipush (v := 14) X.1 X.2.1 dX5_enterLoop_4 (by decide) ?_
  refine lv_icmp_ge (tgt := 29) X.1 X.2.1 dX5_enterLoop_6 (by decide) (fun c5 => ?_) (fun c5 => ?_)
  · have hw := hw.1 c5
    exact j29  S _ _ ls (lv_sub hl [0] rfl) h hle f_a0 hw
  · have hw := hw.2 c5
    refine lv_aload_n X.1 X.2.1 dX5_enterLoop_9 rfl (lv_at hl 0 rfl) ?_
    obtain ⟨b1, e_b1, hw⟩ := hw
    have f_b1 := h.2.2.2.rf (c := 5) (k := 7) f_a0 (by decide) (by decide) e_b1 (t := 15) rfl
    refine kp_get X h f_a0 ff_5_25.l (v := .ref b1) (congrArg va_rf e_b1) dX5_enterLoop_10 ?_
    refine lv_aload_n X.1 X.2.1 dX5_enterLoop_13 rfl (lv_at hl 0 rfl) ?_
    refine kp_get X h f_a0 fp_5_47.l (v := .int (kp_I S 1009 a0)) rfl dX5_enterLoop_14 ?_
    refine lv_lload_n X.1 X.2.1 dX5_enterLoop_17 rfl (lv_at hl 1 rfl) ?_
    obtain ⟨hi, hw⟩ := hw
    refine kp_last X h f_b1 hi dX5_enterLoop_18 (fun T2 e_T2 l_T2 H locs h => ?_)
    have hw := hw T2 e_T2
    have f_a0 := l_T2.is f_a0
    have f_b1 := l_T2.is f_b1
    have hle := hle.tr l_T2
    have e_b1 : kp_R T2 1007 a0 = some b1 := by rw [e_T2]; exact e_b1
    refine lv_aload_n X.1 X.2.1 dX5_enterLoop_19 rfl (lv_at hl 0 rfl) ?_
    obtain ⟨b3, e_b3, hw⟩ := hw
    have f_b3 := h.2.2.2.rf (c := 5) (k := 8) f_a0 (by decide) (by decide) e_b3 (t := 14) rfl
    refine kp_get X h f_a0 ff_5_28.l (v := .ref b3) (congrArg va_rf e_b3) dX5_enterLoop_20 ?_
    refine lv_aload_n X.1 X.2.1 dX5_enterLoop_23 rfl (lv_at hl 0 rfl) ?_
    refine kp_get X h f_a0 fp_5_47.l (v := .int (kp_I T2 1009 a0)) rfl dX5_enterLoop_24 ?_
    refine lv_iload_n X.1 X.2.1 dX5_enterLoop_27 rfl (lv_at hl 2 rfl) ?_
    obtain ⟨hi, hw⟩ := hw
    refine kp_iast X h f_b3 hi dX5_enterLoop_28 (fun T4 e_T4 l_T4 H locs h => ?_)
    have hw := hw T4 e_T4
    have f_a0 := l_T4.is f_a0
    have f_b1 := l_T4.is f_b1
    have f_b3 := l_T4.is f_b3
    have hle := hle.tr l_T4
    have e_b1 : kp_R T4 1007 a0 = some b1 := by rw [e_T4]; exact e_b1
    have e_b3 : kp_R T4 1008 a0 = some b3 := by rw [e_T4]; exact e_b3
    exact j29  T4 _ _ ls (lv_sub hl [0] rfl) h hle f_a0 hw
theorem dX5_leaveLoop_0 : decode cX5_leaveLoop 0 = .ok (.aload_n 0, 1) := by decide +kernel
theorem dX5_leaveLoop_1 : decode cX5_leaveLoop 1 = .ok (.dup, 1) := by decide +kernel
theorem dX5_leaveLoop_2 : decode cX5_leaveLoop 2 = .ok (.getfield 47, 3) := by decide +kernel
theorem dX5_leaveLoop_5 : decode cX5_leaveLoop 5 = .ok (.iconst 1, 1) := by decide +kernel
theorem dX5_leaveLoop_6 : decode cX5_leaveLoop 6 = .ok (.isub, 1) := by decide +kernel
theorem dX5_leaveLoop_7 : decode cX5_leaveLoop 7 = .ok (.putfield 47, 3) := by decide +kernel
theorem dX5_leaveLoop_10 : decode cX5_leaveLoop 10 = .ok (.return_, 1) := by decide +kernel
def wX5_leaveLoop (a0 : Nat) (S : kp_S) (post : kp_S → Prop) : Prop :=
  ∀ T1 : kp_S, T1 = kp_sI S 1009 a0 ((kp_I S 1009 a0) - 1) →
  post T1
set_option maxHeartbeats 4000000 in
set_option maxRecDepth 100000 in
theorem c_X5_leaveLoop (l : Launch) (D : va_G) (cy : Nat → ClassId) (ad : (Nat → Nat) × (Nat → Nat)) (S : kp_S) (a0 : Nat) (post : kp_S → Prop) (hS : kp_ok S) (f_a0 : kp_is S a0 5) (hw : wX5_leaveLoop a0 S post) : kp_M l yX5_leaveLoop cX5_leaveLoop 1 none { frames := 0, cells := 0, slots := 0, locals := 0 } D cy ad S [.ref a0] 0 0 (fun A => kp_Qv D cy A S post) := by
  refine kp_start (own := RX5) (by decide) rfl (Nat.le_of_ble_eq_true rfl) hS ?_
  intro p e s m below meth c A ls X hr hlocks hname h hl
  have hle : kp_le S S := kp_le.rf
  have hl : lv_has ls 1 [(0, .ref a0)] := hl
  unfold wX5_leaveLoop at hw
  have h : kp_H D cy A S s.heap s.heap [] := h
  revert h
  intro h
  refine lv_aload_n X.1 X.2.1 dX5_leaveLoop_0 rfl (lv_at hl 0 rfl) ?_
  refine lv_dup X.1 X.2.1 dX5_leaveLoop_1 rfl ?_
  refine kp_get X h f_a0 fp_5_47.l (v := .int (kp_I S 1009 a0)) rfl dX5_leaveLoop_2 ?_
  refine lv_iconst (v := 1) X.1 X.2.1 dX5_leaveLoop_5 (by decide) ?_
  refine lv_isub X.1 X.2.1 dX5_leaveLoop_6 ?_
  refine kp_putI X h f_a0 fp_5_47 rfl ⟨rfl, rfl⟩ dX5_leaveLoop_7 (fun T1 e_T1 l_T1 H locs h => ?_)
  have hw := hw T1 e_T1
  have f_a0 := l_T1.is f_a0
  have hle := hle.tr l_T1
  exact kp_retv X hr hlocks h hle hw dX5_leaveLoop_10
theorem dX5_loopLabelled_0 : decode cX5_loopLabelled 0 = .ok (.aload_n 0, 1) := by decide +kernel
theorem dX5_loopLabelled_1 : decode cX5_loopLabelled 1 = .ok (.lload_n 1, 1) := by decide +kernel
theorem dX5_loopLabelled_2 : decode cX5_loopLabelled 2 = .ok (.invokevirtual 68, 3) := by decide +kernel
theorem dX5_loopLabelled_5 : decode cX5_loopLabelled 5 = .ok (.istore 4, 2) := by decide +kernel
theorem dX5_loopLabelled_7 : decode cX5_loopLabelled 7 = .ok (.iload 4, 2) := by decide +kernel
theorem dX5_loopLabelled_9 : decode cX5_loopLabelled 9 = .ok (.iconst (-1), 1) := by decide +kernel
theorem dX5_loopLabelled_10 : decode cX5_loopLabelled 10 = .ok (.if_icmp .ne 9, 3) := by decide +kernel
theorem dX5_loopLabelled_13 : decode cX5_loopLabelled 13 = .ok (.aload_n 0, 1) := by decide +kernel
theorem dX5_loopLabelled_14 : decode cX5_loopLabelled 14 = .ok (.iconst 5, 1) := by decide +kernel
theorem dX5_loopLabelled_15 : decode cX5_loopLabelled 15 = .ok (.iload_n 3, 1) := by decide +kernel
theorem dX5_loopLabelled_16 : decode cX5_loopLabelled 16 = .ok (.invokevirtual 57, 3) := by decide +kernel
theorem dX5_loopLabelled_19 : decode cX5_loopLabelled 19 = .ok (.iload 4, 2) := by decide +kernel
theorem dX5_loopLabelled_21 : decode cX5_loopLabelled 21 = .ok (.ireturn, 1) := by decide +kernel
def wX5_loopLabelled_b19 (a0 : Nat) (w1 : Int64) (x3 : Int32) (xn4 : Int32)  (Sn : kp_S) (post : Int32 → kp_S → Prop) : Prop :=
  post xn4 Sn
def wX5_loopLabelled (a0 : Nat) (w1 : Int64) (x3 : Int32) (S : kp_S) (post : Int32 → kp_S → Prop) : Prop :=
  wX5_findLoop a0 w1 S (fun y2 T1 =>
  ((¬ y2 = (-1) →
  wX5_loopLabelled_b19 a0 w1 x3 y2  T1 post) ∧ (y2 = (-1) →
  wX5_blame a0 5 x3 T1 (fun T3 =>
  wX5_loopLabelled_b19 a0 w1 x3 y2  T3 post))))
set_option maxHeartbeats 4000000 in
set_option maxRecDepth 100000 in
theorem c_X5_loopLabelled (l : Launch) (D : va_G) (cy : Nat → ClassId) (ad : (Nat → Nat) × (Nat → Nat)) (S : kp_S) (a0 : Nat) (w1 : Int64) (x3 : Int32) (post : Int32 → kp_S → Prop) (hS : kp_ok S) (f_a0 : kp_is S a0 5) (hw : wX5_loopLabelled a0 w1 x3 S post) : kp_M l yX5_loopLabelled cX5_loopLabelled 5 (some .int) { frames := 2, cells := 0, slots := 0, locals := 44 } D cy ad S [.ref a0, .long w1, .int x3] 0 0 (fun A => kp_Qi D cy A S post) := by
  refine kp_start (own := RX5) (by decide) rfl (Nat.le_of_ble_eq_true rfl) hS ?_
  intro p e s m below meth c A ls X hr hlocks hname h hl
  have hle : kp_le S S := kp_le.rf
  have hl : lv_has ls 5 [(0, .ref a0), (1, .long w1), (3, .int x3)] := hl
  have j19 : ∀ (xn4 : Int32) (Sn : kp_S) (H : Heap) (locs : List Loc) (ls : Array Slot), lv_has ls 5 [(4, .int xn4)] → kp_H D cy A Sn s.heap H locs → kp_le S Sn → kp_is Sn a0 5 → wX5_loopLabelled_b19 a0 w1 x3 xn4  Sn post → W p l e { frames := 2, cells := 0, slots := 0, locals := 44 } s m ([.ref a0, .long w1, .int x3] : List Value).toArray below meth c H locs 0 0 (MQ below (kp_Qi D cy A S post) ([.ref a0, .long w1, .int x3] : List Value).toArray s 0 0 A) (F0 m 19 ls []) := by
    intro xn4 Sn H locs ls hl h hle f_a0 hw
    unfold wX5_loopLabelled_b19 at hw
    refine lv_iload X.1 X.2.1 dX5_loopLabelled_19 (lv_at hl 0 rfl) ?_
    exact kp_reti X hr hlocks h hle rfl hw dX5_loopLabelled_21
  unfold wX5_loopLabelled at hw
  have h : kp_H D cy A S s.heap s.heap [] := h
  revert h
  intro h
  refine lv_aload_n X.1 X.2.1 dX5_loopLabelled_0 rfl (lv_at hl 0 rfl) ?_
  refine lv_lload_n X.1 X.2.1 dX5_loopLabelled_1 rfl (lv_at hl 1 rfl) ?_
  refine kp_calli X h (kp_runV (rm := { frames := 1, cells := 0, slots := 0, locals := 21 }) (mc := 0) (ms := 0) (rest := []) (Qc := fun A => kp_Qi D cy A S _) X h (c_X5_findLoop l D cy ad S a0 w1 _ h.2.2.2 f_a0 hw) f_a0 cv_5_68 ⟨by decide, by decide, rfl, rfl, by decide, by decide⟩ rfl hl.1 rfl (Nat.le_of_ble_eq_true rfl) dX5_loopLabelled_2) (fun y2 T1 hw l_T1 H locs h => ?_)
  have f_a0 := l_T1.is f_a0
  have hle := hle.tr l_T1
  refine lv_istore (lv' := [(4, .int y2), (0, .ref a0), (1, .long w1), (3, .int x3)]) X.1 X.2.1 dX5_loopLabelled_5 hl (by decide) rfl (fun ls hl => ?_)
  refine lv_iload X.1 X.2.1 dX5_loopLabelled_7 (lv_at hl 0 rfl) ?_
  refine lv_iconst (v := (-1)) X.1 X.2.1 dX5_loopLabelled_9 (by decide) ?_
  refine lv_icmp_ne (tgt := 19) X.1 X.2.1 dX5_loopLabelled_10 (by decide) (fun c4 => ?_) (fun c4 => ?_)
  · have hw := hw.1 c4
    exact j19 y2 T1 _ _ ls (lv_sub hl [0] rfl) h hle f_a0 hw
  · have hw := hw.2 c4
    refine lv_aload_n X.1 X.2.1 dX5_loopLabelled_13 rfl (lv_at hl 1 rfl) ?_
    refine lv_iconst (v := 5) X.1 X.2.1 dX5_loopLabelled_14 (by decide) ?_
    refine lv_iload_n X.1 X.2.1 dX5_loopLabelled_15 rfl (lv_at hl 3 rfl) ?_
    refine kp_callv X h (kp_runV (rm := { frames := 0, cells := 0, slots := 0, locals := 0 }) (mc := 0) (ms := 0) (rest := []) (Qc := fun A => kp_Qv D cy A T1 _) X h (c_X5_blame l D cy ad T1 a0 5 x3 _ h.2.2.2 f_a0 hw) f_a0 cv_5_57 ⟨by decide, by decide, rfl, rfl, by decide, by decide⟩ rfl hl.1 rfl (Nat.le_of_ble_eq_true rfl) dX5_loopLabelled_16) (fun T3 hw l_T3 H locs h => ?_)
    have f_a0 := l_T3.is f_a0
    have hle := hle.tr l_T3
    exact j19 y2 T3 _ _ ls (lv_sub hl [0] rfl) h hle f_a0 hw
theorem dX5_innermostLoop_0 : decode cX5_innermostLoop 0 = .ok (.aload_n 0, 1) := by decide +kernel
theorem dX5_innermostLoop_1 : decode cX5_innermostLoop 1 = .ok (.getfield 47, 3) := by decide +kernel
theorem dX5_innermostLoop_4 : decode cX5_innermostLoop 4 = .ok (.aload_n 0, 1) := by decide +kernel
theorem dX5_innermostLoop_5 : decode cX5_innermostLoop 5 = .ok (.getfield 50, 3) := by decide +kernel
theorem dX5_innermostLoop_8 : decode cX5_innermostLoop 8 = .ok (.if_icmp .le 10, 3) := by decide +kernel
theorem dX5_innermostLoop_11 : decode cX5_innermostLoop 11 = .ok (.aload_n 0, 1) := by decide +kernel
theorem dX5_innermostLoop_12 : decode cX5_innermostLoop 12 = .ok (.getfield 47, 3) := by decide +kernel
theorem dX5_innermostLoop_15 : decode cX5_innermostLoop 15 = .ok (.iconst 1, 1) := by decide +kernel
theorem dX5_innermostLoop_16 : decode cX5_innermostLoop 16 = .ok (.isub, 1) := by decide +kernel
theorem dX5_innermostLoop_17 : decode cX5_innermostLoop 17 = .ok (.ireturn, 1) := by decide +kernel
theorem dX5_innermostLoop_18 : decode cX5_innermostLoop 18 = .ok (.aload_n 0, 1) := by decide +kernel
theorem dX5_innermostLoop_19 : decode cX5_innermostLoop 19 = .ok (.bipush 6, 2) := by decide +kernel
theorem dX5_innermostLoop_21 : decode cX5_innermostLoop 21 = .ok (.iload_n 1, 1) := by decide +kernel
theorem dX5_innermostLoop_22 : decode cX5_innermostLoop 22 = .ok (.invokevirtual 57, 3) := by decide +kernel
theorem dX5_innermostLoop_25 : decode cX5_innermostLoop 25 = .ok (.iconst (-1), 1) := by decide +kernel
theorem dX5_innermostLoop_26 : decode cX5_innermostLoop 26 = .ok (.ireturn, 1) := by decide +kernel
def wX5_innermostLoop (a0 : Nat) (x1 : Int32) (S : kp_S) (post : Int32 → kp_S → Prop) : Prop :=
  (((kp_I S 1009 a0) ≤ (kp_I S 1010 a0) →
  wX5_blame a0 6 x1 S (fun T1 =>
  post (-1) T1)) ∧ (¬ (kp_I S 1009 a0) ≤ (kp_I S 1010 a0) →
  post ((kp_I S 1009 a0) - 1) S))
set_option maxHeartbeats 4000000 in
set_option maxRecDepth 100000 in
theorem c_X5_innermostLoop (l : Launch) (D : va_G) (cy : Nat → ClassId) (ad : (Nat → Nat) × (Nat → Nat)) (S : kp_S) (a0 : Nat) (x1 : Int32) (post : Int32 → kp_S → Prop) (hS : kp_ok S) (f_a0 : kp_is S a0 5) (hw : wX5_innermostLoop a0 x1 S post) : kp_M l yX5_innermostLoop cX5_innermostLoop 2 (some .int) { frames := 1, cells := 0, slots := 0, locals := 23 } D cy ad S [.ref a0, .int x1] 0 0 (fun A => kp_Qi D cy A S post) := by
  refine kp_start (own := RX5) (by decide) rfl (Nat.le_of_ble_eq_true rfl) hS ?_
  intro p e s m below meth c A ls X hr hlocks hname h hl
  have hle : kp_le S S := kp_le.rf
  have hl : lv_has ls 2 [(0, .ref a0), (1, .int x1)] := hl
  unfold wX5_innermostLoop at hw
  have h : kp_H D cy A S s.heap s.heap [] := h
  revert h
  intro h
  refine lv_aload_n X.1 X.2.1 dX5_innermostLoop_0 rfl (lv_at hl 0 rfl) ?_
  refine kp_get X h f_a0 fp_5_47.l (v := .int (kp_I S 1009 a0)) rfl dX5_innermostLoop_1 ?_
  refine lv_aload_n X.1 X.2.1 dX5_innermostLoop_4 rfl (lv_at hl 0 rfl) ?_
  refine kp_get X h f_a0 fp_5_50.l (v := .int (kp_I S 1010 a0)) rfl dX5_innermostLoop_5 ?_
  refine lv_icmp_le (tgt := 18) X.1 X.2.1 dX5_innermostLoop_8 (by decide) (fun c2 => ?_) (fun c2 => ?_)
  · have hw := hw.1 c2
    refine lv_aload_n X.1 X.2.1 dX5_innermostLoop_18 rfl (lv_at hl 0 rfl) ?_
    refine lv_bipush (v := 6) X.1 X.2.1 dX5_innermostLoop_19 (by decide) ?_
    refine lv_iload_n X.1 X.2.1 dX5_innermostLoop_21 rfl (lv_at hl 1 rfl) ?_
    refine kp_callv X h (kp_runV (rm := { frames := 0, cells := 0, slots := 0, locals := 0 }) (mc := 0) (ms := 0) (rest := []) (Qc := fun A => kp_Qv D cy A S _) X h (c_X5_blame l D cy ad S a0 6 x1 _ h.2.2.2 f_a0 hw) f_a0 cv_5_57 ⟨by decide, by decide, rfl, rfl, by decide, by decide⟩ rfl hl.1 rfl (Nat.le_of_ble_eq_true rfl) dX5_innermostLoop_22) (fun T1 hw l_T1 H locs h => ?_)
    have f_a0 := l_T1.is f_a0
    have hle := hle.tr l_T1
    refine lv_iconst (v := (-1)) X.1 X.2.1 dX5_innermostLoop_25 (by decide) ?_
    exact kp_reti X hr hlocks h hle rfl hw dX5_innermostLoop_26
  · have hw := hw.2 c2
    refine lv_aload_n X.1 X.2.1 dX5_innermostLoop_11 rfl (lv_at hl 0 rfl) ?_
    refine kp_get X h f_a0 fp_5_47.l (v := .int (kp_I S 1009 a0)) rfl dX5_innermostLoop_12 ?_
    refine lv_iconst (v := 1) X.1 X.2.1 dX5_innermostLoop_15 (by decide) ?_
    refine lv_isub X.1 X.2.1 dX5_innermostLoop_16 ?_
    exact kp_reti X hr hlocks h hle rfl hw dX5_innermostLoop_17
theorem dX5_roundOf_0 : decode cX5_roundOf 0 = .ok (.iload_n 1, 1) := by decide +kernel
theorem dX5_roundOf_1 : decode cX5_roundOf 1 = .ok (.ifCond .lt 18, 3) := by decide +kernel
theorem dX5_roundOf_4 : decode cX5_roundOf 4 = .ok (.iload_n 1, 1) := by decide +kernel
theorem dX5_roundOf_5 : decode cX5_roundOf 5 = .ok (.bipush 14, 2) := by decide +kernel
theorem dX5_roundOf_7 : decode cX5_roundOf 7 = .ok (.if_icmp .ge 12, 3) := by decide +kernel
theorem dX5_roundOf_10 : decode cX5_roundOf 10 = .ok (.aload_n 0, 1) := by decide +kernel
theorem dX5_roundOf_11 : decode cX5_roundOf 11 = .ok (.getfield 28, 3) := by decide +kernel
theorem dX5_roundOf_14 : decode cX5_roundOf 14 = .ok (.iload_n 1, 1) := by decide +kernel
theorem dX5_roundOf_15 : decode cX5_roundOf 15 = .ok (.iaload, 1) := by decide +kernel
theorem dX5_roundOf_16 : decode cX5_roundOf 16 = .ok (.goto 4, 3) := by decide +kernel
theorem dX5_roundOf_19 : decode cX5_roundOf 19 = .ok (.iconst 0, 1) := by decide +kernel
theorem dX5_roundOf_20 : decode cX5_roundOf 20 = .ok (.ireturn, 1) := by decide +kernel
def wX5_roundOf_b20 (a0 : Nat) (x1 : Int32) (xt0 : Int32)  (Sn : kp_S) (post : Int32 → kp_S → Prop) : Prop :=
  post xt0 Sn
def wX5_roundOf_b19 (a0 : Nat) (x1 : Int32)  (Sn : kp_S) (post : Int32 → kp_S → Prop) : Prop :=
  wX5_roundOf_b20 a0 x1 0  Sn post
def wX5_roundOf (a0 : Nat) (x1 : Int32) (S : kp_S) (post : Int32 → kp_S → Prop) : Prop :=
  ((x1 < 0 →
  wX5_roundOf_b19 a0 x1   S post) ∧ (¬ x1 < 0 →
  ((14 ≤ x1 →
  wX5_roundOf_b19 a0 x1   S post) ∧ (¬ 14 ≤ x1 →
  ∃ b1 : Nat, kp_R S 1008 a0 = some b1 ∧
  vp_in x1 (kp_N S b1) ∧
  wX5_roundOf_b20 a0 x1 (kp_A S b1 x1.toNatClampNeg)  S post))))
set_option maxHeartbeats 4000000 in
set_option maxRecDepth 100000 in
theorem c_X5_roundOf (l : Launch) (D : va_G) (cy : Nat → ClassId) (ad : (Nat → Nat) × (Nat → Nat)) (S : kp_S) (a0 : Nat) (x1 : Int32) (post : Int32 → kp_S → Prop) (hS : kp_ok S) (f_a0 : kp_is S a0 5) (hw : wX5_roundOf a0 x1 S post) : kp_M l yX5_roundOf cX5_roundOf 2 (some .int) { frames := 0, cells := 0, slots := 0, locals := 0 } D cy ad S [.ref a0, .int x1] 0 0 (fun A => kp_Qi D cy A S post) := by
  refine kp_start (own := RX5) (by decide) rfl (Nat.le_of_ble_eq_true rfl) hS ?_
  intro p e s m below meth c A ls X hr hlocks hname h hl
  have hle : kp_le S S := kp_le.rf
  have hl : lv_has ls 2 [(0, .ref a0), (1, .int x1)] := hl
  have j20 : ∀ (xt0 : Int32) (Sn : kp_S) (H : Heap) (locs : List Loc) (ls : Array Slot), lv_has ls 2 [] → kp_H D cy A Sn s.heap H locs → kp_le S Sn → kp_is Sn a0 5 → wX5_roundOf_b20 a0 x1 xt0  Sn post → W p l e { frames := 0, cells := 0, slots := 0, locals := 0 } s m ([.ref a0, .int x1] : List Value).toArray below meth c H locs 0 0 (MQ below (kp_Qi D cy A S post) ([.ref a0, .int x1] : List Value).toArray s 0 0 A) (F0 m 20 ls [.int xt0]) := by
    intro xt0 Sn H locs ls hl h hle f_a0 hw
    unfold wX5_roundOf_b20 at hw
    exact kp_reti X hr hlocks h hle rfl hw dX5_roundOf_20
  have j19 : ∀  (Sn : kp_S) (H : Heap) (locs : List Loc) (ls : Array Slot), lv_has ls 2 [] → kp_H D cy A Sn s.heap H locs → kp_le S Sn → kp_is Sn a0 5 → wX5_roundOf_b19 a0 x1   Sn post → W p l e { frames := 0, cells := 0, slots := 0, locals := 0 } s m ([.ref a0, .int x1] : List Value).toArray below meth c H locs 0 0 (MQ below (kp_Qi D cy A S post) ([.ref a0, .int x1] : List Value).toArray s 0 0 A) (F0 m 19 ls []) := by
    intro  Sn H locs ls hl h hle f_a0 hw
    unfold wX5_roundOf_b19 at hw
    refine lv_iconst (v := 0) X.1 X.2.1 dX5_roundOf_19 (by decide) ?_
    exact j20 0 Sn H locs ls (lv_sub hl [] rfl) h hle f_a0 hw
  unfold wX5_roundOf at hw
  have h : kp_H D cy A S s.heap s.heap [] := h
  revert h
  intro h
  refine lv_iload_n X.1 X.2.1 dX5_roundOf_0 rfl (lv_at hl 1 rfl) ?_
  refine lv_if_lt (tgt := 19) X.1 X.2.1 dX5_roundOf_1 (by decide) (fun c3 => ?_) (fun c3 => ?_)
  · have hw := hw.1 c3
    exact j19  S _ _ ls (lv_sub hl [] rfl) h hle f_a0 hw
  · have hw := hw.2 c3
    refine lv_iload_n X.1 X.2.1 dX5_roundOf_4 rfl (lv_at hl 1 rfl) ?_
    refine lv_bipush (v := 14) X.1 X.2.1 dX5_roundOf_5 (by decide) ?_
    refine lv_icmp_ge (tgt := 19) X.1 X.2.1 dX5_roundOf_7 (by decide) (fun c2 => ?_) (fun c2 => ?_)
    · have hw := hw.1 c2
      exact j19  S _ _ ls (lv_sub hl [] rfl) h hle f_a0 hw
    · have hw := hw.2 c2
      refine lv_aload_n X.1 X.2.1 dX5_roundOf_10 rfl (lv_at hl 0 rfl) ?_
      obtain ⟨b1, e_b1, hw⟩ := hw
      have f_b1 := h.2.2.2.rf (c := 5) (k := 8) f_a0 (by decide) (by decide) e_b1 (t := 14) rfl
      refine kp_get X h f_a0 ff_5_28.l (v := .ref b1) (congrArg va_rf e_b1) dX5_roundOf_11 ?_
      refine lv_iload_n X.1 X.2.1 dX5_roundOf_14 rfl (lv_at hl 1 rfl) ?_
      obtain ⟨hi, hw⟩ := hw
      refine kp_iald X h f_b1 hi dX5_roundOf_15 ?_
      refine lv_goto (tgt := 20) X.1 X.2.1 dX5_roundOf_16 (by decide) ?_
      exact j20 (kp_A S b1 x1.toNatClampNeg) S _ _ ls (lv_sub hl [] rfl) h hle f_a0 hw
theorem dX5_loopsNow_0 : decode cX5_loopsNow 0 = .ok (.aload_n 0, 1) := by decide +kernel
theorem dX5_loopsNow_1 : decode cX5_loopsNow 1 = .ok (.getfield 47, 3) := by decide +kernel
theorem dX5_loopsNow_4 : decode cX5_loopsNow 4 = .ok (.ireturn, 1) := by decide +kernel
def wX5_loopsNow (a0 : Nat) (S : kp_S) (post : Int32 → kp_S → Prop) : Prop :=
  post (kp_I S 1009 a0) S
set_option maxHeartbeats 4000000 in
set_option maxRecDepth 100000 in
theorem c_X5_loopsNow (l : Launch) (D : va_G) (cy : Nat → ClassId) (ad : (Nat → Nat) × (Nat → Nat)) (S : kp_S) (a0 : Nat) (post : Int32 → kp_S → Prop) (hS : kp_ok S) (f_a0 : kp_is S a0 5) (hw : wX5_loopsNow a0 S post) : kp_M l yX5_loopsNow cX5_loopsNow 1 (some .int) { frames := 0, cells := 0, slots := 0, locals := 0 } D cy ad S [.ref a0] 0 0 (fun A => kp_Qi D cy A S post) := by
  refine kp_start (own := RX5) (by decide) rfl (Nat.le_of_ble_eq_true rfl) hS ?_
  intro p e s m below meth c A ls X hr hlocks hname h hl
  have hle : kp_le S S := kp_le.rf
  have hl : lv_has ls 1 [(0, .ref a0)] := hl
  unfold wX5_loopsNow at hw
  have h : kp_H D cy A S s.heap s.heap [] := h
  revert h
  intro h
  refine lv_aload_n X.1 X.2.1 dX5_loopsNow_0 rfl (lv_at hl 0 rfl) ?_
  refine kp_get X h f_a0 fp_5_47.l (v := .int (kp_I S 1009 a0)) rfl dX5_loopsNow_1 ?_
  exact kp_reti X hr hlocks h hle rfl hw dX5_loopsNow_4
theorem dX5_enterLater_0 : decode cX5_enterLater 0 = .ok (.aload_n 0, 1) := by decide +kernel
theorem dX5_enterLater_1 : decode cX5_enterLater 1 = .ok (.getfield 50, 3) := by decide +kernel
theorem dX5_enterLater_4 : decode cX5_enterLater 4 = .ok (.istore_n 1, 1) := by decide +kernel
theorem dX5_enterLater_5 : decode cX5_enterLater 5 = .ok (.aload_n 0, 1) := by decide +kernel
theorem dX5_enterLater_6 : decode cX5_enterLater 6 = .ok (.aload_n 0, 1) := by decide +kernel
theorem dX5_enterLater_7 : decode cX5_enterLater 7 = .ok (.getfield 47, 3) := by decide +kernel
theorem dX5_enterLater_10 : decode cX5_enterLater 10 = .ok (.putfield 50, 3) := by decide +kernel
theorem dX5_enterLater_13 : decode cX5_enterLater 13 = .ok (.iload_n 1, 1) := by decide +kernel
theorem dX5_enterLater_14 : decode cX5_enterLater 14 = .ok (.ireturn, 1) := by decide +kernel
def wX5_enterLater (a0 : Nat) (S : kp_S) (post : Int32 → kp_S → Prop) : Prop :=
  ∀ y1 : Int32, y1 = (kp_I S 1010 a0) →
  ∀ T2 : kp_S, T2 = kp_sI S 1010 a0 (kp_I S 1009 a0) →
  post y1 T2
set_option maxHeartbeats 4000000 in
set_option maxRecDepth 100000 in
theorem c_X5_enterLater (l : Launch) (D : va_G) (cy : Nat → ClassId) (ad : (Nat → Nat) × (Nat → Nat)) (S : kp_S) (a0 : Nat) (post : Int32 → kp_S → Prop) (hS : kp_ok S) (f_a0 : kp_is S a0 5) (hw : wX5_enterLater a0 S post) : kp_M l yX5_enterLater cX5_enterLater 2 (some .int) { frames := 0, cells := 0, slots := 0, locals := 0 } D cy ad S [.ref a0] 0 0 (fun A => kp_Qi D cy A S post) := by
  refine kp_start (own := RX5) (by decide) rfl (Nat.le_of_ble_eq_true rfl) hS ?_
  intro p e s m below meth c A ls X hr hlocks hname h hl
  have hle : kp_le S S := kp_le.rf
  have hl : lv_has ls 2 [(0, .ref a0)] := hl
  unfold wX5_enterLater at hw
  have h : kp_H D cy A S s.heap s.heap [] := h
  revert h
  intro h
  refine lv_aload_n X.1 X.2.1 dX5_enterLater_0 rfl (lv_at hl 0 rfl) ?_
  refine kp_get X h f_a0 fp_5_50.l (v := .int (kp_I S 1010 a0)) rfl dX5_enterLater_1 ?_
  refine lv_topi (fun y1 e_y1 => ?_)
  have hw := hw y1 e_y1
  refine lv_istore_n (lv' := [(1, .int y1), (0, .ref a0)]) X.1 X.2.1 dX5_enterLater_4 rfl hl (by decide) rfl (fun ls hl => ?_)
  refine lv_aload_n X.1 X.2.1 dX5_enterLater_5 rfl (lv_at hl 1 rfl) ?_
  refine lv_aload_n X.1 X.2.1 dX5_enterLater_6 rfl (lv_at hl 1 rfl) ?_
  refine kp_get X h f_a0 fp_5_47.l (v := .int (kp_I S 1009 a0)) rfl dX5_enterLater_7 ?_
  refine kp_putI X h f_a0 fp_5_50 rfl ⟨rfl, rfl⟩ dX5_enterLater_10 (fun T2 e_T2 l_T2 H locs h => ?_)
  have hw := hw T2 e_T2
  have f_a0 := l_T2.is f_a0
  have hle := hle.tr l_T2
  refine lv_iload_n X.1 X.2.1 dX5_enterLater_13 rfl (lv_at hl 0 rfl) ?_
  exact kp_reti X hr hlocks h hle rfl hw dX5_enterLater_14
theorem dX5_leaveLater_0 : decode cX5_leaveLater 0 = .ok (.aload_n 0, 1) := by decide +kernel
theorem dX5_leaveLater_1 : decode cX5_leaveLater 1 = .ok (.iload_n 1, 1) := by decide +kernel
theorem dX5_leaveLater_2 : decode cX5_leaveLater 2 = .ok (.putfield 50, 3) := by decide +kernel
theorem dX5_leaveLater_5 : decode cX5_leaveLater 5 = .ok (.return_, 1) := by decide +kernel
def wX5_leaveLater (a0 : Nat) (x1 : Int32) (S : kp_S) (post : kp_S → Prop) : Prop :=
  ∀ T1 : kp_S, T1 = kp_sI S 1010 a0 x1 →
  post T1
set_option maxHeartbeats 4000000 in
set_option maxRecDepth 100000 in
theorem c_X5_leaveLater (l : Launch) (D : va_G) (cy : Nat → ClassId) (ad : (Nat → Nat) × (Nat → Nat)) (S : kp_S) (a0 : Nat) (x1 : Int32) (post : kp_S → Prop) (hS : kp_ok S) (f_a0 : kp_is S a0 5) (hw : wX5_leaveLater a0 x1 S post) : kp_M l yX5_leaveLater cX5_leaveLater 2 none { frames := 0, cells := 0, slots := 0, locals := 0 } D cy ad S [.ref a0, .int x1] 0 0 (fun A => kp_Qv D cy A S post) := by
  refine kp_start (own := RX5) (by decide) rfl (Nat.le_of_ble_eq_true rfl) hS ?_
  intro p e s m below meth c A ls X hr hlocks hname h hl
  have hle : kp_le S S := kp_le.rf
  have hl : lv_has ls 2 [(0, .ref a0), (1, .int x1)] := hl
  unfold wX5_leaveLater at hw
  have h : kp_H D cy A S s.heap s.heap [] := h
  revert h
  intro h
  refine lv_aload_n X.1 X.2.1 dX5_leaveLater_0 rfl (lv_at hl 0 rfl) ?_
  refine lv_iload_n X.1 X.2.1 dX5_leaveLater_1 rfl (lv_at hl 1 rfl) ?_
  refine kp_putI X h f_a0 fp_5_50 rfl ⟨rfl, rfl⟩ dX5_leaveLater_2 (fun T1 e_T1 l_T1 H locs h => ?_)
  have hw := hw T1 e_T1
  have f_a0 := l_T1.is f_a0
  have hle := hle.tr l_T1
  exact kp_retv X hr hlocks h hle hw dX5_leaveLater_5
