theorem oi_11_1 : Cond.methodLink RX11 1 objectInit ∈ kp_tb := kp_mem 233 (by decide +kernel) (by decide +kernel)
theorem ac_13 : Cond.arrayClass .byte ∈ kp_tb := kp_mem 256 (by decide +kernel) (by decide +kernel)
set_option maxRecDepth 100000 in
theorem cl_11 : kp_CL 11 RX11 TX11 9 := ⟨rfl, by decide, rfl, by decide +kernel, tyX11_ok, nmX11⟩
theorem ff_11_9 : kp_FF RX11 9 11 0 := ⟨RX11, TX11, 9, cl_11, by decide, kp_mem 619 (by decide +kernel) (by decide +kernel), rfl, rfl⟩
theorem nw_11_13 : kp_NW RX11 13 0 := ⟨RX0, TX0, 4, cl_0, kp_mem 236 (by decide +kernel) (by decide +kernel), kp_mem 237 (by decide +kernel) (by decide +kernel), kp_mem 205 (by decide +kernel) (by decide +kernel), by decide +kernel⟩
theorem ci_11_15 : kp_CI RX11 15 yX0_init cX0_init 2 1 := ⟨⟨kp_mem 240 (by decide +kernel) (by decide +kernel), kp_mem 205 (by decide +kernel) (by decide +kernel), by decide +kernel⟩, kp_mem 238 (by decide +kernel) (by decide +kernel), kp_mem 239 (by decide +kernel) (by decide +kernel), rfl⟩
theorem fp_11_18 : kp_FP RX11 18 11 5 := ⟨RX11, TX11, 9, cl_11, by decide, kp_mem 624 (by decide +kernel) (by decide +kernel), rfl⟩
theorem nw_11_22 : kp_NW RX11 22 8 := ⟨RX8, TX8, 5, cl_8, kp_mem 258 (by decide +kernel) (by decide +kernel), kp_mem 259 (by decide +kernel) (by decide +kernel), kp_mem 206 (by decide +kernel) (by decide +kernel), by decide +kernel⟩
theorem ci_11_24 : kp_CI RX11 24 yX8_init cX8_init 3 2 := ⟨⟨kp_mem 262 (by decide +kernel) (by decide +kernel), kp_mem 206 (by decide +kernel) (by decide +kernel), by decide +kernel⟩, kp_mem 260 (by decide +kernel) (by decide +kernel), kp_mem 261 (by decide +kernel) (by decide +kernel), rfl⟩
theorem ff_11_27 : kp_FF RX11 27 11 1 := ⟨RX11, TX11, 9, cl_11, by decide, kp_mem 620 (by decide +kernel) (by decide +kernel), rfl, rfl⟩
theorem nw_11_31 : kp_NW RX11 31 1 := ⟨RX1, TX1, 5, cl_1, kp_mem 443 (by decide +kernel) (by decide +kernel), kp_mem 444 (by decide +kernel) (by decide +kernel), kp_mem 214 (by decide +kernel) (by decide +kernel), by decide +kernel⟩
theorem cn_11_33 : kp_CIm yX1_init cX1_init 1 0 := ⟨⟨kp_mem 447 (by decide +kernel) (by decide +kernel), kp_mem 214 (by decide +kernel) (by decide +kernel), by decide +kernel⟩, kp_mem 446 (by decide +kernel) (by decide +kernel), rfl⟩
theorem ff_11_34 : kp_FF RX11 34 11 2 := ⟨RX11, TX11, 9, cl_11, by decide, kp_mem 621 (by decide +kernel) (by decide +kernel), rfl, rfl⟩
theorem nw_11_38 : kp_NW RX11 38 7 := ⟨RX7, TX7, 3, cl_7, kp_mem 465 (by decide +kernel) (by decide +kernel), kp_mem 466 (by decide +kernel) (by decide +kernel), kp_mem 215 (by decide +kernel) (by decide +kernel), by decide +kernel⟩
theorem ci_11_40 : kp_CI RX11 40 yX7_init cX7_init 1 0 := ⟨⟨kp_mem 469 (by decide +kernel) (by decide +kernel), kp_mem 215 (by decide +kernel) (by decide +kernel), by decide +kernel⟩, kp_mem 467 (by decide +kernel) (by decide +kernel), kp_mem 468 (by decide +kernel) (by decide +kernel), rfl⟩
theorem ff_11_41 : kp_FF RX11 41 11 3 := ⟨RX11, TX11, 9, cl_11, by decide, kp_mem 622 (by decide +kernel) (by decide +kernel), rfl, rfl⟩
theorem nw_11_45 : kp_NW RX11 45 4 := ⟨RX4, TX4, 15, cl_4, kp_mem 481 (by decide +kernel) (by decide +kernel), kp_mem 482 (by decide +kernel) (by decide +kernel), kp_mem 216 (by decide +kernel) (by decide +kernel), by decide +kernel⟩
theorem ci_11_47 : kp_CI RX11 47 yX4_init cX4_init 5 3 := ⟨⟨kp_mem 485 (by decide +kernel) (by decide +kernel), kp_mem 216 (by decide +kernel) (by decide +kernel), by decide +kernel⟩, kp_mem 483 (by decide +kernel) (by decide +kernel), kp_mem 484 (by decide +kernel) (by decide +kernel), rfl⟩
theorem ff_11_50 : kp_FF RX11 50 11 4 := ⟨RX11, TX11, 9, cl_11, by decide, kp_mem 623 (by decide +kernel) (by decide +kernel), rfl, rfl⟩
theorem fp_11_54 : kp_FP RX11 54 11 8 := ⟨RX11, TX11, 9, cl_11, by decide, kp_mem 627 (by decide +kernel) (by decide +kernel), rfl⟩
theorem dX11_init_0 : decode cX11_init 0 = .ok (.aload_n 0, 1) := by decide +kernel
theorem dX11_init_1 : decode cX11_init 1 = .ok (.invokespecial 1, 3) := by decide +kernel
theorem dX11_init_4 : decode cX11_init 4 = .ok (.aload_n 0, 1) := by decide +kernel
theorem dX11_init_5 : decode cX11_init 5 = .ok (.sipush 3000, 3) := by decide +kernel
theorem dX11_init_8 : decode cX11_init 8 = .ok (.newarray .byte, 2) := by decide +kernel
theorem dX11_init_10 : decode cX11_init 10 = .ok (.putfield 9, 3) := by decide +kernel
theorem dX11_init_13 : decode cX11_init 13 = .ok (.aload_n 0, 1) := by decide +kernel
theorem dX11_init_14 : decode cX11_init 14 = .ok (.new 13, 3) := by decide +kernel
theorem dX11_init_17 : decode cX11_init 17 = .ok (.dup, 1) := by decide +kernel
theorem dX11_init_18 : decode cX11_init 18 = .ok (.iconst 0, 1) := by decide +kernel
theorem dX11_init_19 : decode cX11_init 19 = .ok (.invokespecial 15, 3) := by decide +kernel
theorem dX11_init_22 : decode cX11_init 22 = .ok (.putfield 18, 3) := by decide +kernel
theorem dX11_init_25 : decode cX11_init 25 = .ok (.aload_n 0, 1) := by decide +kernel
theorem dX11_init_26 : decode cX11_init 26 = .ok (.new 22, 3) := by decide +kernel
theorem dX11_init_29 : decode cX11_init 29 = .ok (.dup, 1) := by decide +kernel
theorem dX11_init_30 : decode cX11_init 30 = .ok (.aload_n 0, 1) := by decide +kernel
theorem dX11_init_31 : decode cX11_init 31 = .ok (.getfield 9, 3) := by decide +kernel
theorem dX11_init_34 : decode cX11_init 34 = .ok (.aload_n 0, 1) := by decide +kernel
theorem dX11_init_35 : decode cX11_init 35 = .ok (.getfield 18, 3) := by decide +kernel
theorem dX11_init_38 : decode cX11_init 38 = .ok (.invokespecial 24, 3) := by decide +kernel
theorem dX11_init_41 : decode cX11_init 41 = .ok (.putfield 27, 3) := by decide +kernel
theorem dX11_init_44 : decode cX11_init 44 = .ok (.aload_n 0, 1) := by decide +kernel
theorem dX11_init_45 : decode cX11_init 45 = .ok (.new 31, 3) := by decide +kernel
theorem dX11_init_48 : decode cX11_init 48 = .ok (.dup, 1) := by decide +kernel
theorem dX11_init_49 : decode cX11_init 49 = .ok (.invokespecial 33, 3) := by decide +kernel
theorem dX11_init_52 : decode cX11_init 52 = .ok (.putfield 34, 3) := by decide +kernel
theorem dX11_init_55 : decode cX11_init 55 = .ok (.aload_n 0, 1) := by decide +kernel
theorem dX11_init_56 : decode cX11_init 56 = .ok (.new 38, 3) := by decide +kernel
theorem dX11_init_59 : decode cX11_init 59 = .ok (.dup, 1) := by decide +kernel
theorem dX11_init_60 : decode cX11_init 60 = .ok (.invokespecial 40, 3) := by decide +kernel
theorem dX11_init_63 : decode cX11_init 63 = .ok (.putfield 41, 3) := by decide +kernel
theorem dX11_init_66 : decode cX11_init 66 = .ok (.aload_n 0, 1) := by decide +kernel
theorem dX11_init_67 : decode cX11_init 67 = .ok (.new 45, 3) := by decide +kernel
theorem dX11_init_70 : decode cX11_init 70 = .ok (.dup, 1) := by decide +kernel
theorem dX11_init_71 : decode cX11_init 71 = .ok (.aload_n 0, 1) := by decide +kernel
theorem dX11_init_72 : decode cX11_init 72 = .ok (.getfield 34, 3) := by decide +kernel
theorem dX11_init_75 : decode cX11_init 75 = .ok (.aload_n 0, 1) := by decide +kernel
theorem dX11_init_76 : decode cX11_init 76 = .ok (.getfield 41, 3) := by decide +kernel
theorem dX11_init_79 : decode cX11_init 79 = .ok (.aload_n 0, 1) := by decide +kernel
theorem dX11_init_80 : decode cX11_init 80 = .ok (.getfield 18, 3) := by decide +kernel
theorem dX11_init_83 : decode cX11_init 83 = .ok (.invokespecial 47, 3) := by decide +kernel
theorem dX11_init_86 : decode cX11_init 86 = .ok (.putfield 50, 3) := by decide +kernel
theorem dX11_init_89 : decode cX11_init 89 = .ok (.aload_n 0, 1) := by decide +kernel
theorem dX11_init_90 : decode cX11_init 90 = .ok (.iconst (-1), 1) := by decide +kernel
theorem dX11_init_91 : decode cX11_init 91 = .ok (.putfield 54, 3) := by decide +kernel
theorem dX11_init_94 : decode cX11_init 94 = .ok (.return_, 1) := by decide +kernel
def wX11_init (a0 : Nat) (S : kp_S) (post : kp_S → Prop) : Prop :=
  ∀ (b1 : Nat) (T2 : kp_S), b1 ∉ kp_L S → T2 = kp_newA S b1 13 3000 →
  ∀ T3 : kp_S, T3 = kp_sR T2 2200 a0 b1 →
  ∀ (b4 : Nat) (T5 : kp_S), b4 ∉ kp_L T3 → T5 = kp_new T3 b4 0 →
  wX0_init b4 0 T5 (fun T6 =>
  ∀ T7 : kp_S, T7 = kp_sR T6 2205 a0 b4 →
  ∀ (b8 : Nat) (T9 : kp_S), b8 ∉ kp_L T7 → T9 = kp_new T7 b8 8 →
  ∃ b10 : Nat, kp_R T9 2200 a0 = some b10 ∧
  ∃ b11 : Nat, kp_R T9 2205 a0 = some b11 ∧
  wX8_init b8 b10 b11 T9 (fun T12 =>
  ∀ T13 : kp_S, T13 = kp_sR T12 2201 a0 b8 →
  ∀ (b14 : Nat) (T15 : kp_S), b14 ∉ kp_L T13 → T15 = kp_new T13 b14 1 →
  wX1_init b14 T15 (fun T16 =>
  ∀ T17 : kp_S, T17 = kp_sR T16 2202 a0 b14 →
  ∀ (b18 : Nat) (T19 : kp_S), b18 ∉ kp_L T17 → T19 = kp_new T17 b18 7 →
  wX7_init b18 T19 (fun T20 =>
  ∀ T21 : kp_S, T21 = kp_sR T20 2203 a0 b18 →
  ∀ (b22 : Nat) (T23 : kp_S), b22 ∉ kp_L T21 → T23 = kp_new T21 b22 4 →
  ∃ b24 : Nat, kp_R T23 2202 a0 = some b24 ∧
  ∃ b25 : Nat, kp_R T23 2203 a0 = some b25 ∧
  ∃ b26 : Nat, kp_R T23 2205 a0 = some b26 ∧
  wX4_init b22 b24 b25 b26 T23 (fun T27 =>
  ∀ T28 : kp_S, T28 = kp_sR T27 2204 a0 b22 →
  ∀ T29 : kp_S, T29 = kp_sI T28 2208 a0 (-1) →
  post T29)))))
set_option maxHeartbeats 4000000 in
set_option maxRecDepth 100000 in
theorem c_X11_init (l : Launch) (D : va_G) (cy : Nat → ClassId) (ad : (Nat → Nat) × (Nat → Nat)) (S : kp_S) (a0 : Nat) (post : kp_S → Prop) (hS : kp_ok S) (f_a0 : kp_is S a0 11) (hw : wX11_init a0 S post) : kp_MN l yX11_init cX11_init 1 none { frames := 6, cells := 407, slots := 15557, locals := 133 } D cy ad S [.ref a0] 407 15557 (fun A => kp_Qv D cy A S post) := by
  refine kp_startN (own := RX11) (by decide) rfl (Nat.le_of_ble_eq_true rfl) hS ?_
  intro p e s m below meth c A ls X hr hlocks hname hN h hl
  have hle : kp_le S S := kp_le.rf
  have hl : lv_has ls 1 [(0, .ref a0)] := hl
  unfold wX11_init at hw
  have h : kp_H D cy A S s.heap s.heap [] := h
  revert h
  intro h
  refine lv_aload_n X.1 X.2.1 dX11_init_0 rfl (lv_at hl 0 rfl) ?_
  refine kp_objInit X hl.1 oi_11_1 (by decide) (by decide) dX11_init_1 ?_
  refine lv_aload_n X.1 X.2.1 dX11_init_4 rfl (lv_at hl 0 rfl) ?_
  refine lv_sipush (v := 3000) X.1 X.2.1 dX11_init_5 (by decide) ?_
  refine kp_newb (n := 3000) X h ac_13 (by decide) (by decide) (by decide) (by decide) (by decide) dX11_init_8 (fun b1 T2 n_b1 e_T2 l_T2 f_b1 H h => ?_)
  have hw := hw b1 T2 n_b1 e_T2
  have f_a0 := l_T2.is f_a0
  have hle := hle.tr l_T2
  refine W.widen (k := 1) (n := 3000) (by decide) (by decide) ?_
  refine kp_putRF X hname h f_a0 ff_11_9 f_b1 rfl ⟨by decide, by decide⟩ ⟨rfl, rfl⟩ dX11_init_10 (fun T3 e_T3 l_T3 H locs h => ?_)
  have hw := hw T3 e_T3
  have f_a0 := l_T3.is f_a0
  have hle := hle.tr l_T3
  refine lv_aload_n X.1 X.2.1 dX11_init_13 rfl (lv_at hl 0 rfl) ?_
  refine kp_newO X h nw_11_13 (by decide) (by decide) dX11_init_14 (fun b4 T5 n_b4 e_T5 l_T5 f_b4 H h => ?_)
  have hw := hw b4 T5 n_b4 e_T5
  have f_a0 := l_T5.is f_a0
  have hle := hle.tr l_T5
  refine W.widen (k := 2) (n := 3004) (by decide) (by decide) ?_
  refine lv_dup X.1 X.2.1 dX11_init_17 rfl ?_
  refine lv_iconst (v := 0) X.1 X.2.1 dX11_init_18 (by decide) ?_
  refine kp_callv X h (kp_runI (rm := { frames := 1, cells := 2, slots := 6166, locals := 20 }) (mc := 2) (ms := 6166) (rest := [.ref b4, .ref a0]) (Qc := fun A => kp_Qv D cy A T5 _) X h (c_X0_init l D cy ad T5 b4 0 _ h.2.2.2 f_b4 hw) ci_11_15 ⟨by decide, by decide, rfl, rfl, by decide, by decide⟩ rfl hl.1 rfl (Nat.le_of_ble_eq_true rfl) dX11_init_19) (fun T6 hw l_T6 H locs h => ?_)
  have f_a0 := l_T6.is f_a0
  have f_b4 := l_T6.is f_b4
  have hle := hle.tr l_T6
  refine W.widen (k := 4) (n := 9170) (by decide) (by decide) ?_
  refine kp_putR X h f_a0 fp_11_18 f_b4 rfl ⟨by decide, by decide⟩ ⟨rfl, rfl⟩ dX11_init_22 (fun T7 e_T7 l_T7 H locs h => ?_)
  have hw := hw T7 e_T7
  have f_a0 := l_T7.is f_a0
  have hle := hle.tr l_T7
  refine lv_aload_n X.1 X.2.1 dX11_init_25 rfl (lv_at hl 0 rfl) ?_
  refine kp_newO X h nw_11_22 (by decide) (by decide) dX11_init_26 (fun b8 T9 n_b8 e_T9 l_T9 f_b8 H h => ?_)
  have hw := hw b8 T9 n_b8 e_T9
  have f_a0 := l_T9.is f_a0
  have hle := hle.tr l_T9
  refine W.widen (k := 5) (n := 9175) (by decide) (by decide) ?_
  refine lv_dup X.1 X.2.1 dX11_init_29 rfl ?_
  refine lv_aload_n X.1 X.2.1 dX11_init_30 rfl (lv_at hl 0 rfl) ?_
  obtain ⟨b10, e_b10, hw⟩ := hw
  have f_b10 := h.2.2.2.rf (c := 11) (k := 0) f_a0 (by decide) (by decide) e_b10 (t := 13) rfl
  refine kp_get X h f_a0 ff_11_9.l (v := .ref b10) (congrArg va_rf e_b10) dX11_init_31 ?_
  refine lv_aload_n X.1 X.2.1 dX11_init_34 rfl (lv_at hl 0 rfl) ?_
  obtain ⟨b11, e_b11, hw⟩ := hw
  have f_b11 := h.2.2.2.rf (c := 11) (k := 5) f_a0 (by decide) (by decide) e_b11 (t := 0) rfl
  refine kp_get X h f_a0 fp_11_18.l (v := .ref b11) (congrArg va_rf e_b11) dX11_init_35 ?_
  refine kp_callv X h (kp_runK (rm := { frames := 5, cells := 10, slots := 743, locals := 111 }) (mc := 10) (ms := 743) (rest := [.ref b8, .ref a0]) (Qc := fun A => kp_Qv D cy A T9 _) (hN := hN) X h (c_X8_init l D cy ad T9 b8 b10 b11 _ h.2.2.2 f_b8 f_b10 f_b11 hw) ci_11_24 ⟨by decide, by decide, rfl, rfl, by decide, by decide⟩ rfl hl.1 rfl (Nat.le_of_ble_eq_true rfl) dX11_init_38) (fun T12 hw l_T12 H locs h => ?_)
  have f_a0 := l_T12.is f_a0
  have f_b8 := l_T12.is f_b8
  have hle := hle.tr l_T12
  refine W.widen (k := 15) (n := 9918) (by decide) (by decide) ?_
  refine kp_putRF X hname h f_a0 ff_11_27 f_b8 rfl ⟨by decide, by decide⟩ ⟨rfl, rfl⟩ dX11_init_41 (fun T13 e_T13 l_T13 H locs h => ?_)
  have hw := hw T13 e_T13
  have f_a0 := l_T13.is f_a0
  have hle := hle.tr l_T13
  refine lv_aload_n X.1 X.2.1 dX11_init_44 rfl (lv_at hl 0 rfl) ?_
  refine kp_newO X h nw_11_31 (by decide) (by decide) dX11_init_45 (fun b14 T15 n_b14 e_T15 l_T15 f_b14 H h => ?_)
  have hw := hw b14 T15 n_b14 e_T15
  have f_a0 := l_T15.is f_a0
  have hle := hle.tr l_T15
  refine W.widen (k := 16) (n := 9923) (by decide) (by decide) ?_
  refine lv_dup X.1 X.2.1 dX11_init_48 rfl ?_
  refine kp_callv X h (kp_runJ (rm := { frames := 1, cells := 5, slots := 39, locals := 20 }) (mc := 5) (ms := 39) (rest := [.ref b14, .ref a0]) (Qc := fun A => kp_Qv D cy A T15 _) X h (c_X1_init l D cy ad T15 b14 _ h.2.2.2 f_b14 hw) (hN 0 _ rfl) cn_11_33 ⟨by decide, by decide, rfl, rfl, by decide, by decide⟩ rfl hl.1 rfl (Nat.le_of_ble_eq_true rfl) dX11_init_49) (fun T16 hw l_T16 H locs h => ?_)
  have f_a0 := l_T16.is f_a0
  have f_b14 := l_T16.is f_b14
  have hle := hle.tr l_T16
  refine W.widen (k := 21) (n := 9962) (by decide) (by decide) ?_
  refine kp_putRF X hname h f_a0 ff_11_34 f_b14 rfl ⟨by decide, by decide⟩ ⟨rfl, rfl⟩ dX11_init_52 (fun T17 e_T17 l_T17 H locs h => ?_)
  have hw := hw T17 e_T17
  have f_a0 := l_T17.is f_a0
  have hle := hle.tr l_T17
  refine lv_aload_n X.1 X.2.1 dX11_init_55 rfl (lv_at hl 0 rfl) ?_
  refine kp_newO X h nw_11_38 (by decide) (by decide) dX11_init_56 (fun b18 T19 n_b18 e_T19 l_T19 f_b18 H h => ?_)
  have hw := hw b18 T19 n_b18 e_T19
  have f_a0 := l_T19.is f_a0
  have hle := hle.tr l_T19
  refine W.widen (k := 22) (n := 9965) (by decide) (by decide) ?_
  refine lv_dup X.1 X.2.1 dX11_init_59 rfl ?_
  refine kp_callv X h (kp_runI (rm := { frames := 1, cells := 3, slots := 619, locals := 20 }) (mc := 3) (ms := 619) (rest := [.ref b18, .ref a0]) (Qc := fun A => kp_Qv D cy A T19 _) X h (c_X7_init l D cy ad T19 b18 _ h.2.2.2 f_b18 hw) ci_11_40 ⟨by decide, by decide, rfl, rfl, by decide, by decide⟩ rfl hl.1 rfl (Nat.le_of_ble_eq_true rfl) dX11_init_60) (fun T20 hw l_T20 H locs h => ?_)
  have f_a0 := l_T20.is f_a0
  have f_b18 := l_T20.is f_b18
  have hle := hle.tr l_T20
  refine W.widen (k := 25) (n := 10584) (by decide) (by decide) ?_
  refine kp_putRF X hname h f_a0 ff_11_41 f_b18 rfl ⟨by decide, by decide⟩ ⟨rfl, rfl⟩ dX11_init_63 (fun T21 e_T21 l_T21 H locs h => ?_)
  have hw := hw T21 e_T21
  have f_a0 := l_T21.is f_a0
  have hle := hle.tr l_T21
  refine lv_aload_n X.1 X.2.1 dX11_init_66 rfl (lv_at hl 0 rfl) ?_
  refine kp_newO X h nw_11_45 (by decide) (by decide) dX11_init_67 (fun b22 T23 n_b22 e_T23 l_T23 f_b22 H h => ?_)
  have hw := hw b22 T23 n_b22 e_T23
  have f_a0 := l_T23.is f_a0
  have hle := hle.tr l_T23
  refine W.widen (k := 26) (n := 10599) (by decide) (by decide) ?_
  refine lv_dup X.1 X.2.1 dX11_init_70 rfl ?_
  refine lv_aload_n X.1 X.2.1 dX11_init_71 rfl (lv_at hl 0 rfl) ?_
  obtain ⟨b24, e_b24, hw⟩ := hw
  have f_b24 := h.2.2.2.rf (c := 11) (k := 2) f_a0 (by decide) (by decide) e_b24 (t := 1) rfl
  refine kp_get X h f_a0 ff_11_34.l (v := .ref b24) (congrArg va_rf e_b24) dX11_init_72 ?_
  refine lv_aload_n X.1 X.2.1 dX11_init_75 rfl (lv_at hl 0 rfl) ?_
  obtain ⟨b25, e_b25, hw⟩ := hw
  have f_b25 := h.2.2.2.rf (c := 11) (k := 3) f_a0 (by decide) (by decide) e_b25 (t := 7) rfl
  refine kp_get X h f_a0 ff_11_41.l (v := .ref b25) (congrArg va_rf e_b25) dX11_init_76 ?_
  refine lv_aload_n X.1 X.2.1 dX11_init_79 rfl (lv_at hl 0 rfl) ?_
  obtain ⟨b26, e_b26, hw⟩ := hw
  have f_b26 := h.2.2.2.rf (c := 11) (k := 5) f_a0 (by decide) (by decide) e_b26 (t := 0) rfl
  refine kp_get X h f_a0 fp_11_18.l (v := .ref b26) (congrArg va_rf e_b26) dX11_init_80 ?_
  refine kp_callv X h (kp_runK (rm := { frames := 3, cells := 381, slots := 4958, locals := 60 }) (mc := 381) (ms := 4958) (rest := [.ref b22, .ref a0]) (Qc := fun A => kp_Qv D cy A T23 _) (hN := hN) X h (c_X4_init l D cy ad T23 b22 b24 b25 b26 _ h.2.2.2 f_b22 f_b24 f_b25 f_b26 hw) ci_11_47 ⟨by decide, by decide, rfl, rfl, by decide, by decide⟩ rfl hl.1 rfl (Nat.le_of_ble_eq_true rfl) dX11_init_83) (fun T27 hw l_T27 H locs h => ?_)
  have f_a0 := l_T27.is f_a0
  have f_b22 := l_T27.is f_b22
  have hle := hle.tr l_T27
  refine W.widen (k := 407) (n := 15557) (by decide) (by decide) ?_
  refine kp_putRF X hname h f_a0 ff_11_50 f_b22 rfl ⟨by decide, by decide⟩ ⟨rfl, rfl⟩ dX11_init_86 (fun T28 e_T28 l_T28 H locs h => ?_)
  have hw := hw T28 e_T28
  have f_a0 := l_T28.is f_a0
  have hle := hle.tr l_T28
  refine lv_aload_n X.1 X.2.1 dX11_init_89 rfl (lv_at hl 0 rfl) ?_
  refine lv_iconst (v := (-1)) X.1 X.2.1 dX11_init_90 (by decide) ?_
  refine kp_putI X h f_a0 fp_11_54 rfl ⟨rfl, rfl⟩ dX11_init_91 (fun T29 e_T29 l_T29 H locs h => ?_)
  have hw := hw T29 e_T29
  have f_a0 := l_T29.is f_a0
  have hle := hle.tr l_T29
  exact kp_retv X hr hlocks h hle hw dX11_init_94
