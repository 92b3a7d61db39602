theorem cw_9_21 : kp_CVs RX9 21 yJ0_length_8abf5 cJ0_length_8abf5 1 (some .int) 0 := ⟨⟨kp_mem 274 (by decide +kernel) (by decide +kernel), kp_mem 208 (by decide +kernel) (by decide +kernel), by decide +kernel⟩, kp_mem 271 (by decide +kernel) (by decide +kernel), kp_mem 272 (by decide +kernel) (by decide +kernel), kp_mem 273 (by decide +kernel) (by decide +kernel), rfl⟩
theorem cw_9_27 : kp_CVs RX9 27 yJ0_charAt_5068e cJ0_charAt_5068e 2 (some .char) 1 := ⟨⟨kp_mem 284 (by decide +kernel) (by decide +kernel), kp_mem 208 (by decide +kernel) (by decide +kernel), by decide +kernel⟩, kp_mem 281 (by decide +kernel) (by decide +kernel), kp_mem 282 (by decide +kernel) (by decide +kernel), kp_mem 283 (by decide +kernel) (by decide +kernel), rfl⟩
theorem oi_9_3 : Cond.methodLink RX9 3 objectInit ∈ kp_tb := kp_mem 269 (by decide +kernel) (by decide +kernel)
theorem oi_8_3 : Cond.methodLink RX8 3 objectInit ∈ kp_tb := kp_mem 263 (by decide +kernel) (by decide +kernel)
theorem nw_8_9 : kp_NW RX8 9 9 := ⟨RX9, TX9, 11, cl_9, kp_mem 264 (by decide +kernel) (by decide +kernel), kp_mem 265 (by decide +kernel) (by decide +kernel), kp_mem 207 (by decide +kernel) (by decide +kernel), by decide +kernel⟩
theorem ci_8_11 : kp_CI RX8 11 yX9_init cX9_init 7 1 := ⟨⟨kp_mem 268 (by decide +kernel) (by decide +kernel), kp_mem 207 (by decide +kernel) (by decide +kernel), by decide +kernel⟩, kp_mem 266 (by decide +kernel) (by decide +kernel), kp_mem 267 (by decide +kernel) (by decide +kernel), rfl⟩
theorem nw_8_20 : kp_NW RX8 20 5 := ⟨RX5, TX5, 13, cl_5, kp_mem 363 (by decide +kernel) (by decide +kernel), kp_mem 364 (by decide +kernel) (by decide +kernel), kp_mem 212 (by decide +kernel) (by decide +kernel), by decide +kernel⟩
theorem cn_8_22 : kp_CIm yX5_init cX5_init 1 0 := ⟨⟨kp_mem 367 (by decide +kernel) (by decide +kernel), kp_mem 212 (by decide +kernel) (by decide +kernel), by decide +kernel⟩, kp_mem 366 (by decide +kernel) (by decide +kernel), rfl⟩
theorem nw_8_31 : kp_NW RX8 31 2 := ⟨RX2, TX2, 3, cl_2, kp_mem 411 (by decide +kernel) (by decide +kernel), kp_mem 412 (by decide +kernel) (by decide +kernel), kp_mem 213 (by decide +kernel) (by decide +kernel), by decide +kernel⟩
theorem ci_8_33 : kp_CI RX8 33 yX2_init cX2_init 4 3 := ⟨⟨kp_mem 415 (by decide +kernel) (by decide +kernel), kp_mem 213 (by decide +kernel) (by decide +kernel), by decide +kernel⟩, kp_mem 413 (by decide +kernel) (by decide +kernel), kp_mem 414 (by decide +kernel) (by decide +kernel), rfl⟩
theorem nw_4_21 : kp_NW RX4 21 6 := ⟨RX6, TX6, 9, cl_6, kp_mem 489 (by decide +kernel) (by decide +kernel), kp_mem 537 (by decide +kernel) (by decide +kernel), kp_mem 219 (by decide +kernel) (by decide +kernel), by decide +kernel⟩
theorem cn_4_47 : kp_CIm yX6_init cX6_init 1 0 := ⟨⟨kp_mem 540 (by decide +kernel) (by decide +kernel), kp_mem 219 (by decide +kernel) (by decide +kernel), by decide +kernel⟩, kp_mem 539 (by decide +kernel) (by decide +kernel), rfl⟩
theorem nw_4_15 : kp_NW RX4 15 3 := ⟨RX3, TX3, 5, cl_3, kp_mem 487 (by decide +kernel) (by decide +kernel), kp_mem 514 (by decide +kernel) (by decide +kernel), kp_mem 218 (by decide +kernel) (by decide +kernel), by decide +kernel⟩
theorem cn_4_46 : kp_CIm yX3_init cX3_init 1 0 := ⟨⟨kp_mem 517 (by decide +kernel) (by decide +kernel), kp_mem 218 (by decide +kernel) (by decide +kernel), by decide +kernel⟩, kp_mem 516 (by decide +kernel) (by decide +kernel), rfl⟩
theorem oi_4_5 : Cond.methodLink RX4 5 objectInit ∈ kp_tb := kp_mem 486 (by decide +kernel) (by decide +kernel)
theorem kk_4_15 : Cond.classLink RX4 15 "LockKeepers$Frame" ∈ kp_tb := kp_mem 487 (by decide +kernel) (by decide +kernel)
theorem kk_4_21 : Cond.classLink RX4 21 "LockKeepers$Part" ∈ kp_tb := kp_mem 489 (by decide +kernel) (by decide +kernel)
theorem nw_4_27 : kp_NW RX4 27 10 := ⟨RX10, TX10, 4, cl_10, kp_mem 491 (by decide +kernel) (by decide +kernel), kp_mem 492 (by decide +kernel) (by decide +kernel), kp_mem 217 (by decide +kernel) (by decide +kernel), by decide +kernel⟩
theorem cn_4_29 : kp_CIm yX10_init cX10_init 1 0 := ⟨⟨kp_mem 495 (by decide +kernel) (by decide +kernel), kp_mem 217 (by decide +kernel) (by decide +kernel), by decide +kernel⟩, kp_mem 494 (by decide +kernel) (by decide +kernel), rfl⟩
theorem dX9_init_0 : decode cX9_init 0 = .ok (.aload_n 0, 1) := by decide +kernel
theorem dX9_init_1 : decode cX9_init 1 = .ok (.invokespecial 3, 3) := by decide +kernel
theorem dX9_init_4 : decode cX9_init 4 = .ok (.aload_n 0, 1) := by decide +kernel
theorem dX9_init_5 : decode cX9_init 5 = .ok (.aload_n 1, 1) := by decide +kernel
theorem dX9_init_6 : decode cX9_init 6 = .ok (.putfield 9, 3) := by decide +kernel
theorem dX9_init_9 : decode cX9_init 9 = .ok (.aload_n 0, 1) := by decide +kernel
theorem dX9_init_10 : decode cX9_init 10 = .ok (.bipush 40, 2) := by decide +kernel
theorem dX9_init_12 : decode cX9_init 12 = .ok (.newarray .long, 2) := by decide +kernel
theorem dX9_init_14 : decode cX9_init 14 = .ok (.putfield 15, 3) := by decide +kernel
theorem dX9_init_17 : decode cX9_init 17 = .ok (.lconst 0, 1) := by decide +kernel
theorem dX9_init_18 : decode cX9_init 18 = .ok (.lstore_n 2, 1) := by decide +kernel
theorem dX9_init_19 : decode cX9_init 19 = .ok (.iconst 0, 1) := by decide +kernel
theorem dX9_init_20 : decode cX9_init 20 = .ok (.istore 4, 2) := by decide +kernel
theorem dX9_init_22 : decode cX9_init 22 = .ok (.iconst 0, 1) := by decide +kernel
theorem dX9_init_23 : decode cX9_init 23 = .ok (.istore 5, 2) := by decide +kernel
theorem dX9_init_25 : decode cX9_init 25 = .ok (.iload 5, 2) := by decide +kernel
theorem dX9_init_27 : decode cX9_init 27 = .ok (.ldc 19, 2) := by decide +kernel
theorem dX9_init_29 : decode cX9_init 29 = .ok (.invokevirtual 21, 3) := by decide +kernel
theorem dX9_init_32 : decode cX9_init 32 = .ok (.if_icmp .ge 57, 3) := by decide +kernel
theorem dX9_init_35 : decode cX9_init 35 = .ok (.ldc 19, 2) := by decide +kernel
theorem dX9_init_37 : decode cX9_init 37 = .ok (.iload 5, 2) := by decide +kernel
theorem dX9_init_39 : decode cX9_init 39 = .ok (.invokevirtual 27, 3) := by decide +kernel
theorem dX9_init_42 : decode cX9_init 42 = .ok (.istore 6, 2) := by decide +kernel
theorem dX9_init_44 : decode cX9_init 44 = .ok (.iload 6, 2) := by decide +kernel
theorem dX9_init_46 : decode cX9_init 46 = .ok (.bipush 32, 2) := by decide +kernel
theorem dX9_init_48 : decode cX9_init 48 = .ok (.if_icmp .eq 15, 3) := by decide +kernel
theorem dX9_init_51 : decode cX9_init 51 = .ok (.lload_n 2, 1) := by decide +kernel
theorem dX9_init_52 : decode cX9_init 52 = .ok (.bipush 8, 2) := by decide +kernel
theorem dX9_init_54 : decode cX9_init 54 = .ok (.lshl, 1) := by decide +kernel
theorem dX9_init_55 : decode cX9_init 55 = .ok (.iload 6, 2) := by decide +kernel
theorem dX9_init_57 : decode cX9_init 57 = .ok (.i2l, 1) := by decide +kernel
theorem dX9_init_58 : decode cX9_init 58 = .ok (.lor, 1) := by decide +kernel
theorem dX9_init_59 : decode cX9_init 59 = .ok (.lstore_n 2, 1) := by decide +kernel
theorem dX9_init_60 : decode cX9_init 60 = .ok (.goto 23, 3) := by decide +kernel
theorem dX9_init_63 : decode cX9_init 63 = .ok (.iload 4, 2) := by decide +kernel
theorem dX9_init_65 : decode cX9_init 65 = .ok (.bipush 40, 2) := by decide +kernel
theorem dX9_init_67 : decode cX9_init 67 = .ok (.if_icmp .ge 16, 3) := by decide +kernel
theorem dX9_init_70 : decode cX9_init 70 = .ok (.aload_n 0, 1) := by decide +kernel
theorem dX9_init_71 : decode cX9_init 71 = .ok (.getfield 15, 3) := by decide +kernel
theorem dX9_init_74 : decode cX9_init 74 = .ok (.iload 4, 2) := by decide +kernel
theorem dX9_init_76 : decode cX9_init 76 = .ok (.lload_n 2, 1) := by decide +kernel
theorem dX9_init_77 : decode cX9_init 77 = .ok (.lastore, 1) := by decide +kernel
theorem dX9_init_78 : decode cX9_init 78 = .ok (.iinc 4 1, 3) := by decide +kernel
theorem dX9_init_81 : decode cX9_init 81 = .ok (.lconst 0, 1) := by decide +kernel
theorem dX9_init_82 : decode cX9_init 82 = .ok (.lstore_n 2, 1) := by decide +kernel
theorem dX9_init_83 : decode cX9_init 83 = .ok (.iinc 5 1, 3) := by decide +kernel
theorem dX9_init_86 : decode cX9_init 86 = .ok (.goto (-61), 3) := by decide +kernel
theorem dX9_init_89 : decode cX9_init 89 = .ok (.return_, 1) := by decide +kernel
def wX9_init_b83 (a0 : Nat) (a1 : Nat) (wn2 : Int64) (xn4 : Int32) (xn5 : Int32) (K25 : Int64 → Int32 → Int32 → kp_S → Prop) (Sn : kp_S) (post : kp_S → Prop) : Prop :=
  ∀ y1001 : Int32, y1001 = xn5 + 1 →
  K25 wn2 xn4 y1001 Sn
def wX9_init_L25 (a0 : Nat) (a1 : Nat)  (post : kp_S → Prop) : Nat → Int64 → Int32 → Int32 → kp_S → Prop
  | 0, _, _, _, _ => False
  | n + 1, wn2, xn4, xn5, Sn =>
  wJ0_length_8abf5 0 Sn (fun y2002 T2001 =>
  ((y2002 ≤ xn5 →
  post T2001) ∧ (¬ y2002 ≤ xn5 →
  wJ0_charAt_5068e 0 xn5 T2001 (fun y2004 T2003 =>
  ((y2004 = 32 →
  ((40 ≤ xn4 →
  wX9_init_b83 a0 a1 wn2 xn4 xn5 (fun wn2_ xn4_ xn5_ S_ => wX9_init_L25 a0 a1  post n wn2_ xn4_ xn5_ S_) T2003 post) ∧ (¬ 40 ≤ xn4 →
  ∃ b2005 : Nat, kp_R T2003 1801 a0 = some b2005 ∧
  vp_in xn4 (kp_N T2003 b2005) ∧ ∀ T2006 : kp_S, T2006 = kp_sB T2003 b2005 (vp_updL (kp_B T2003 b2005) (xn4.toNatClampNeg) wn2) →
  ∀ y2007 : Int32, y2007 = xn4 + 1 →
  wX9_init_b83 a0 a1 0 y2007 xn5 (fun wn2_ xn4_ xn5_ S_ => wX9_init_L25 a0 a1  post n wn2_ xn4_ xn5_ S_) T2006 post))) ∧ (¬ y2004 = 32 →
  ∀ z2009 : Int64, z2009 = (((wn2 : Int64) <<< ((8 : Int32).toInt64 &&& 63)) ||| ((y2004 : Int32).toInt64)) →
  wX9_init_b83 a0 a1 z2009 xn4 xn5 (fun wn2_ xn4_ xn5_ S_ => wX9_init_L25 a0 a1  post n wn2_ xn4_ xn5_ S_) T2003 post))))))
def wX9_init (a0 : Nat) (a1 : Nat) (S : kp_S) (post : kp_S → Prop) : Prop :=
  ∀ T1 : kp_S, T1 = kp_sR S 1800 a0 a1 →
  ∀ (b2 : Nat) (T3 : kp_S), b2 ∉ kp_L T1 → T3 = kp_newA T1 b2 15 40 →
  ∀ T4 : kp_S, T4 = kp_sR T3 1801 a0 b2 →
  ∃ n0 : Nat, wX9_init_L25 a0 a1  post n0 0 0 0 T4
set_option maxHeartbeats 4000000 in
set_option maxRecDepth 100000 in
theorem c_X9_init (l : Launch) (D : va_G) (cy : Nat → ClassId) (ad : (Nat → Nat) × (Nat → Nat)) (S : kp_S) (a0 : Nat) (a1 : Nat) (post : kp_S → Prop) (hS : kp_ok S) (f_a0 : kp_is S a0 9) (f_a1 : kp_is S a1 13) (hw : wX9_init a0 a1 S post) : kp_M l yX9_init cX9_init 7 none { frames := 4, cells := 1, slots := 40, locals := 85 } D cy ad S [.ref a0, .ref a1] 1 40 (fun A => kp_Qv D cy A S post) := by
  refine kp_start (own := RX9) (by decide) rfl (Nat.le_of_ble_eq_true rfl) hS ?_
  intro p e s m below meth c A ls X hr hlocks hname h hl
  have hle : kp_le S S := kp_le.rf
  have hl : lv_has ls 7 [(0, .ref a0), (1, .ref a1)] := hl
  have L25 : ∀ n25 : Nat, ∀ (wn2 : Int64) (xn4 : Int32) (xn5 : Int32) (Sn : kp_S) (H : Heap) (locs : List Loc) (ls : Array Slot), lv_has ls 7 [(0, .ref a0), (2, .long wn2), (4, .int xn4), (5, .int xn5)] → kp_H D cy A Sn s.heap H locs → kp_le S Sn → kp_is Sn a0 9 → kp_is Sn a1 13 → wX9_init_L25 a0 a1  post n25 wn2 xn4 xn5 Sn → W p l e { frames := 4, cells := 1, slots := 40, locals := 85 } s m ([.ref a0, .ref a1] : List Value).toArray below meth c H locs 1 40 (MQ below (kp_Qv D cy A S post) ([.ref a0, .ref a1] : List Value).toArray s 1 40 A) (F0 m 25 ls []) := by
    intro n25
    induction n25 with
    | zero => intro wn2 xn4 xn5 Sn H locs ls hl h hle f_a0 f_a1 hw; exact hw.elim
    | succ n25 ih25 =>
      have j83 : ∀ (wn2 : Int64) (xn4 : Int32) (xn5 : Int32) (Sn : kp_S) (H : Heap) (locs : List Loc) (ls : Array Slot), lv_has ls 7 [(0, .ref a0), (2, .long wn2), (4, .int xn4), (5, .int xn5)] → kp_H D cy A Sn s.heap H locs → kp_le S Sn → kp_is Sn a0 9 → kp_is Sn a1 13 → wX9_init_b83 a0 a1 wn2 xn4 xn5 (fun wn2_ xn4_ xn5_ S_ => wX9_init_L25 a0 a1  post n25 wn2_ xn4_ xn5_ S_) Sn post → W p l e { frames := 4, cells := 1, slots := 40, locals := 85 } s m ([.ref a0, .ref a1] : List Value).toArray below meth c H locs 1 40 (MQ below (kp_Qv D cy A S post) ([.ref a0, .ref a1] : List Value).toArray s 1 40 A) (F0 m 83 ls []) := by
        intro wn2 xn4 xn5 Sn H locs ls hl h hle f_a0 f_a1 hw
        unfold wX9_init_b83 at hw
        obtain ⟨y1001, e_y1001⟩ : ∃ y : Int32, y = xn5 + 1 := ⟨_, rfl⟩
        have hw := hw y1001 e_y1001
        refine lv_iinc (v := y1001) (lv' := [(5, .int y1001), (0, .ref a0), (2, .long wn2), (4, .int xn4)]) X.1 X.2.1 dX9_init_83 hl (k := 3) rfl (by rw [e_y1001]; rfl) (by decide) rfl (fun ls hl => ?_)
        refine lv_goto (tgt := 25) X.1 X.2.1 dX9_init_86 (by decide) ?_
        exact ih25 wn2 xn4 y1001 Sn H locs ls (lv_sub hl [1, 2, 3, 0] rfl) h hle f_a0 f_a1 hw
      intro wn2 xn4 xn5 Sn H locs ls hl h hle f_a0 f_a1 hw
      unfold wX9_init_L25 at hw
      refine lv_iload X.1 X.2.1 dX9_init_25 (lv_at hl 3 rfl) ?_
      refine kp_ldcs X 0 rfl dX9_init_27 ?_
      refine kp_calli X h (kp_runVs (rm := { frames := 1, cells := 0, slots := 0, locals := 20 }) (mc := 0) (ms := 0) (rest := [.int xn5]) (Qc := fun A => kp_Qi D cy A Sn _) X h (c_J0_length_8abf5 l D cy ad Sn 0 _ h.2.2.2 (by decide) hw) (by decide) cw_9_21 ⟨by decide, by decide, rfl, rfl, by decide, by decide⟩ rfl hl.1 rfl (Nat.le_of_ble_eq_true rfl) dX9_init_29) (fun y2002 T2001 hw l_T2001 H locs h => ?_)
      have f_a0 := l_T2001.is f_a0
      have f_a1 := l_T2001.is f_a1
      have hle := hle.tr l_T2001
      refine lv_icmp_ge (tgt := 89) X.1 X.2.1 dX9_init_32 (by decide) (fun c2011 => ?_) (fun c2011 => ?_)
      · have hw := hw.1 c2011
        exact kp_retv X hr hlocks h hle hw dX9_init_89
      · have hw := hw.2 c2011
        refine kp_ldcs X 0 rfl dX9_init_35 ?_
        refine lv_iload X.1 X.2.1 dX9_init_37 (lv_at hl 3 rfl) ?_
        refine kp_calli X h (kp_runVs (rm := { frames := 3, cells := 0, slots := 0, locals := 64 }) (mc := 0) (ms := 0) (rest := []) (Qc := fun A => kp_Qi D cy A T2001 _) X h (c_J0_charAt_5068e l D cy ad T2001 0 xn5 _ h.2.2.2 (by decide) hw) (by decide) cw_9_27 ⟨by decide, by decide, rfl, rfl, by decide, by decide⟩ rfl hl.1 rfl (Nat.le_of_ble_eq_true rfl) dX9_init_39) (fun y2004 T2003 hw l_T2003 H locs h => ?_)
        have f_a0 := l_T2003.is f_a0
        have f_a1 := l_T2003.is f_a1
        have hle := hle.tr l_T2003
        refine lv_istore (lv' := [(6, .int y2004), (0, .ref a0), (2, .long wn2), (4, .int xn4), (5, .int xn5)]) X.1 X.2.1 dX9_init_42 hl (by decide) rfl (fun ls hl => ?_)
        refine lv_iload X.1 X.2.1 dX9_init_44 (lv_at hl 0 rfl) ?_
        refine lv_bipush (v := 32) X.1 X.2.1 dX9_init_46 (by decide) ?_
        refine lv_icmp_eq (tgt := 63) X.1 X.2.1 dX9_init_48 (by decide) (fun c2010 => ?_) (fun c2010 => ?_)
        · have hw := hw.1 c2010
          refine lv_iload X.1 X.2.1 dX9_init_63 (lv_at hl 3 rfl) ?_
          refine lv_bipush (v := 40) X.1 X.2.1 dX9_init_65 (by decide) ?_
          refine lv_icmp_ge (tgt := 83) X.1 X.2.1 dX9_init_67 (by decide) (fun c2008 => ?_) (fun c2008 => ?_)
          · have hw := hw.1 c2008
            exact j83 wn2 xn4 xn5 T2003 H locs ls (lv_sub hl [1, 2, 3, 4] rfl) h hle f_a0 f_a1 hw
          · have hw := hw.2 c2008
            refine lv_aload_n X.1 X.2.1 dX9_init_70 rfl (lv_at hl 1 rfl) ?_
            obtain ⟨b2005, e_b2005, hw⟩ := hw
            have f_b2005 := h.2.2.2.rf (c := 9) (k := 1) f_a0 (by decide) (by decide) e_b2005 (t := 15) rfl
            refine kp_get X h f_a0 ff_9_15.l (v := .ref b2005) (congrArg va_rf e_b2005) dX9_init_71 ?_
            refine lv_iload X.1 X.2.1 dX9_init_74 (lv_at hl 3 rfl) ?_
            refine lv_lload_n X.1 X.2.1 dX9_init_76 rfl (lv_at hl 2 rfl) ?_
            obtain ⟨hi, hw⟩ := hw
            refine kp_last X h f_b2005 hi dX9_init_77 (fun T2006 e_T2006 l_T2006 H locs h => ?_)
            have hw := hw T2006 e_T2006
            have f_a0 := l_T2006.is f_a0
            have f_a1 := l_T2006.is f_a1
            have f_b2005 := l_T2006.is f_b2005
            have hle := hle.tr l_T2006
            have e_b2005 : kp_R T2006 1801 a0 = some b2005 := by rw [e_T2006]; exact e_b2005
            obtain ⟨y2007, e_y2007⟩ : ∃ y : Int32, y = xn4 + 1 := ⟨_, rfl⟩
            have hw := hw y2007 e_y2007
            refine lv_iinc (v := y2007) (lv' := [(4, .int y2007), (6, .int y2004), (0, .ref a0), (2, .long wn2), (5, .int xn5)]) X.1 X.2.1 dX9_init_78 hl (k := 3) rfl (by rw [e_y2007]; rfl) (by decide) rfl (fun ls hl => ?_)
            refine lv_lconst (v := 0) X.1 X.2.1 dX9_init_81 (by decide) ?_
            refine lv_lstore_n (lv' := [(2, .long 0), (4, .int y2007), (6, .int y2004), (0, .ref a0), (5, .int xn5)]) X.1 X.2.1 dX9_init_82 rfl hl (by decide) rfl (fun ls hl => ?_)
            exact j83 0 y2007 xn5 T2006 H locs ls (lv_sub hl [3, 0, 1, 4] rfl) h hle f_a0 f_a1 hw
        · have hw := hw.2 c2010
          refine lv_lload_n X.1 X.2.1 dX9_init_51 rfl (lv_at hl 2 rfl) ?_
          refine lv_bipush (v := 8) X.1 X.2.1 dX9_init_52 (by decide) ?_
          refine lv_lshl X.1 X.2.1 dX9_init_54 rfl ?_
          refine lv_iload X.1 X.2.1 dX9_init_55 (lv_at hl 0 rfl) ?_
          refine lv_i2l X.1 X.2.1 dX9_init_57 rfl ?_
          refine lv_lor X.1 X.2.1 dX9_init_58 ?_
          refine lv_topl (fun z2009 e_z2009 => ?_)
          have hw := hw z2009 e_z2009
          refine lv_lstore_n (lv' := [(2, .long z2009), (6, .int y2004), (0, .ref a0), (4, .int xn4), (5, .int xn5)]) X.1 X.2.1 dX9_init_59 rfl hl (by decide) rfl (fun ls hl => ?_)
          refine lv_goto (tgt := 83) X.1 X.2.1 dX9_init_60 (by decide) ?_
          exact j83 z2009 xn4 xn5 T2003 H locs ls (lv_sub hl [2, 0, 3, 4] rfl) h hle f_a0 f_a1 hw
  unfold wX9_init at hw
  have h : kp_H D cy A S s.heap s.heap [] := h
  revert h
  intro h
  refine lv_aload_n X.1 X.2.1 dX9_init_0 rfl (lv_at hl 0 rfl) ?_
  refine kp_objInit X hl.1 oi_9_3 (by decide) (by decide) dX9_init_1 ?_
  refine lv_aload_n X.1 X.2.1 dX9_init_4 rfl (lv_at hl 0 rfl) ?_
  refine lv_aload_n X.1 X.2.1 dX9_init_5 rfl (lv_at hl 1 rfl) ?_
  refine kp_putRF X hname h f_a0 ff_9_9 f_a1 rfl ⟨by decide, by decide⟩ ⟨rfl, rfl⟩ dX9_init_6 (fun T1 e_T1 l_T1 H locs h => ?_)
  have hw := hw T1 e_T1
  have f_a0 := l_T1.is f_a0
  have f_a1 := l_T1.is f_a1
  have hle := hle.tr l_T1
  refine lv_aload_n X.1 X.2.1 dX9_init_9 rfl (lv_at hl 0 rfl) ?_
  refine lv_bipush (v := 40) X.1 X.2.1 dX9_init_10 (by decide) ?_
  refine kp_newl (n := 40) X h ac_15 (by decide) (by decide) (by decide) (by decide) (by decide) dX9_init_12 (fun b2 T3 n_b2 e_T3 l_T3 f_b2 H h => ?_)
  have hw := hw b2 T3 n_b2 e_T3
  have f_a0 := l_T3.is f_a0
  have f_a1 := l_T3.is f_a1
  have hle := hle.tr l_T3
  refine W.widen (k := 1) (n := 40) (by decide) (by decide) ?_
  refine kp_putRF X hname h f_a0 ff_9_15 f_b2 rfl ⟨by decide, by decide⟩ ⟨rfl, rfl⟩ dX9_init_14 (fun T4 e_T4 l_T4 H locs h => ?_)
  have hw := hw T4 e_T4
  have f_a0 := l_T4.is f_a0
  have f_a1 := l_T4.is f_a1
  have f_b2 := l_T4.is f_b2
  have hle := hle.tr l_T4
  refine lv_lconst (v := 0) X.1 X.2.1 dX9_init_17 (by decide) ?_
  refine lv_lstore_n (lv' := [(2, .long 0), (0, .ref a0), (1, .ref a1)]) X.1 X.2.1 dX9_init_18 rfl hl (by decide) rfl (fun ls hl => ?_)
  refine lv_iconst (v := 0) X.1 X.2.1 dX9_init_19 (by decide) ?_
  refine lv_istore (lv' := [(4, .int 0), (2, .long 0), (0, .ref a0), (1, .ref a1)]) X.1 X.2.1 dX9_init_20 hl (by decide) rfl (fun ls hl => ?_)
  refine lv_iconst (v := 0) X.1 X.2.1 dX9_init_22 (by decide) ?_
  refine lv_istore (lv' := [(5, .int 0), (4, .int 0), (2, .long 0), (0, .ref a0), (1, .ref a1)]) X.1 X.2.1 dX9_init_23 hl (by decide) rfl (fun ls hl => ?_)
  obtain ⟨n0, hw⟩ := hw
  exact L25 n0 0 0 0 T4 _ _ ls (lv_sub hl [3, 2, 1, 0] rfl) h hle f_a0 f_a1 hw
theorem dX8_init_0 : decode cX8_init 0 = .ok (.aload_n 0, 1) := by decide +kernel
theorem dX8_init_1 : decode cX8_init 1 = .ok (.invokespecial 3, 3) := by decide +kernel
theorem dX8_init_4 : decode cX8_init 4 = .ok (.aload_n 0, 1) := by decide +kernel
theorem dX8_init_5 : decode cX8_init 5 = .ok (.new 9, 3) := by decide +kernel
theorem dX8_init_8 : decode cX8_init 8 = .ok (.dup, 1) := by decide +kernel
theorem dX8_init_9 : decode cX8_init 9 = .ok (.aload_n 1, 1) := by decide +kernel
theorem dX8_init_10 : decode cX8_init 10 = .ok (.invokespecial 11, 3) := by decide +kernel
theorem dX8_init_13 : decode cX8_init 13 = .ok (.putfield 14, 3) := by decide +kernel
theorem dX8_init_16 : decode cX8_init 16 = .ok (.aload_n 0, 1) := by decide +kernel
theorem dX8_init_17 : decode cX8_init 17 = .ok (.new 20, 3) := by decide +kernel
theorem dX8_init_20 : decode cX8_init 20 = .ok (.dup, 1) := by decide +kernel
theorem dX8_init_21 : decode cX8_init 21 = .ok (.invokespecial 22, 3) := by decide +kernel
theorem dX8_init_24 : decode cX8_init 24 = .ok (.putfield 23, 3) := by decide +kernel
theorem dX8_init_27 : decode cX8_init 27 = .ok (.aload_n 0, 1) := by decide +kernel
theorem dX8_init_28 : decode cX8_init 28 = .ok (.aload_n 2, 1) := by decide +kernel
theorem dX8_init_29 : decode cX8_init 29 = .ok (.putfield 27, 3) := by decide +kernel
theorem dX8_init_32 : decode cX8_init 32 = .ok (.aload_n 0, 1) := by decide +kernel
theorem dX8_init_33 : decode cX8_init 33 = .ok (.new 31, 3) := by decide +kernel
theorem dX8_init_36 : decode cX8_init 36 = .ok (.dup, 1) := by decide +kernel
theorem dX8_init_37 : decode cX8_init 37 = .ok (.aload_n 0, 1) := by decide +kernel
theorem dX8_init_38 : decode cX8_init 38 = .ok (.getfield 14, 3) := by decide +kernel
theorem dX8_init_41 : decode cX8_init 41 = .ok (.aload_n 0, 1) := by decide +kernel
theorem dX8_init_42 : decode cX8_init 42 = .ok (.getfield 23, 3) := by decide +kernel
theorem dX8_init_45 : decode cX8_init 45 = .ok (.aload_n 2, 1) := by decide +kernel
theorem dX8_init_46 : decode cX8_init 46 = .ok (.invokespecial 33, 3) := by decide +kernel
theorem dX8_init_49 : decode cX8_init 49 = .ok (.putfield 36, 3) := by decide +kernel
theorem dX8_init_52 : decode cX8_init 52 = .ok (.return_, 1) := by decide +kernel
def wX8_init (a0 : Nat) (a1 : Nat) (a2 : Nat) (S : kp_S) (post : kp_S → Prop) : Prop :=
  ∀ (b1 : Nat) (T2 : kp_S), b1 ∉ kp_L S → T2 = kp_new S b1 9 →
  wX9_init b1 a1 T2 (fun T3 =>
  ∀ T4 : kp_S, T4 = kp_sR T3 1600 a0 b1 →
  ∀ (b5 : Nat) (T6 : kp_S), b5 ∉ kp_L T4 → T6 = kp_new T4 b5 5 →
  wX5_init b5 T6 (fun T7 =>
  ∀ T8 : kp_S, T8 = kp_sR T7 1601 a0 b5 →
  ∀ T9 : kp_S, T9 = kp_sR T8 1603 a0 a2 →
  ∀ (b10 : Nat) (T11 : kp_S), b10 ∉ kp_L T9 → T11 = kp_new T9 b10 2 →
  ∃ b12 : Nat, kp_R T11 1600 a0 = some b12 ∧
  ∃ b13 : Nat, kp_R T11 1601 a0 = some b13 ∧
  wX2_init b10 b12 b13 a2 T11 (fun T14 =>
  ∀ T15 : kp_S, T15 = kp_sR T14 1602 a0 b10 →
  post T15)))
set_option maxHeartbeats 4000000 in
set_option maxRecDepth 100000 in
theorem c_X8_init (l : Launch) (D : va_G) (cy : Nat → ClassId) (ad : (Nat → Nat) × (Nat → Nat)) (S : kp_S) (a0 : Nat) (a1 : Nat) (a2 : Nat) (post : kp_S → Prop) (hS : kp_ok S) (f_a0 : kp_is S a0 8) (f_a1 : kp_is S a1 13) (f_a2 : kp_is S a2 0) (hw : wX8_init a0 a1 a2 S post) : kp_MN l yX8_init cX8_init 3 none { frames := 5, cells := 10, slots := 743, locals := 111 } D cy ad S [.ref a0, .ref a1, .ref a2] 10 743 (fun A => kp_Qv D cy A S post) := by
  refine kp_startN (own := RX8) (by decide) rfl (Nat.le_of_ble_eq_true rfl) hS ?_
  intro p e s m below meth c A ls X hr hlocks hname hN h hl
  have hle : kp_le S S := kp_le.rf
  have hl : lv_has ls 3 [(0, .ref a0), (1, .ref a1), (2, .ref a2)] := hl
  unfold wX8_init at hw
  have h : kp_H D cy A S s.heap s.heap [] := h
  revert h
  intro h
  refine lv_aload_n X.1 X.2.1 dX8_init_0 rfl (lv_at hl 0 rfl) ?_
  refine kp_objInit X hl.1 oi_8_3 (by decide) (by decide) dX8_init_1 ?_
  refine lv_aload_n X.1 X.2.1 dX8_init_4 rfl (lv_at hl 0 rfl) ?_
  refine kp_newO X h nw_8_9 (by decide) (by decide) dX8_init_5 (fun b1 T2 n_b1 e_T2 l_T2 f_b1 H h => ?_)
  have hw := hw b1 T2 n_b1 e_T2
  have f_a0 := l_T2.is f_a0
  have f_a1 := l_T2.is f_a1
  have f_a2 := l_T2.is f_a2
  have hle := hle.tr l_T2
  refine W.widen (k := 1) (n := 11) (by decide) (by decide) ?_
  refine lv_dup X.1 X.2.1 dX8_init_8 rfl ?_
  refine lv_aload_n X.1 X.2.1 dX8_init_9 rfl (lv_at hl 1 rfl) ?_
  refine kp_callv X h (kp_runI (rm := { frames := 4, cells := 1, slots := 40, locals := 85 }) (mc := 1) (ms := 40) (rest := [.ref b1, .ref a0]) (Qc := fun A => kp_Qv D cy A T2 _) X h (c_X9_init l D cy ad T2 b1 a1 _ h.2.2.2 f_b1 f_a1 hw) ci_8_11 ⟨by decide, by decide, rfl, rfl, by decide, by decide⟩ rfl hl.1 rfl (Nat.le_of_ble_eq_true rfl) dX8_init_10) (fun T3 hw l_T3 H locs h => ?_)
  have f_a0 := l_T3.is f_a0
  have f_a1 := l_T3.is f_a1
  have f_a2 := l_T3.is f_a2
  have f_b1 := l_T3.is f_b1
  have hle := hle.tr l_T3
  refine W.widen (k := 2) (n := 51) (by decide) (by decide) ?_
  refine kp_putRF X hname h f_a0 ff_8_14 f_b1 rfl ⟨by decide, by decide⟩ ⟨rfl, rfl⟩ dX8_init_13 (fun T4 e_T4 l_T4 H locs h => ?_)
  have hw := hw T4 e_T4
  have f_a0 := l_T4.is f_a0
  have f_a1 := l_T4.is f_a1
  have f_a2 := l_T4.is f_a2
  have f_b1 := l_T4.is f_b1
  have hle := hle.tr l_T4
  refine lv_aload_n X.1 X.2.1 dX8_init_16 rfl (lv_at hl 0 rfl) ?_
  refine kp_newO X h nw_8_20 (by decide) (by decide) dX8_init_17 (fun b5 T6 n_b5 e_T6 l_T6 f_b5 H h => ?_)
  have hw := hw b5 T6 n_b5 e_T6
  have f_a0 := l_T6.is f_a0
  have f_a1 := l_T6.is f_a1
  have f_a2 := l_T6.is f_a2
  have f_b1 := l_T6.is f_b1
  have hle := hle.tr l_T6
  refine W.widen (k := 3) (n := 64) (by decide) (by decide) ?_
  refine lv_dup X.1 X.2.1 dX8_init_20 rfl ?_
  refine kp_callv X h (kp_runJ (rm := { frames := 1, cells := 6, slots := 676, locals := 20 }) (mc := 6) (ms := 676) (rest := [.ref b5, .ref a0]) (Qc := fun A => kp_Qv D cy A T6 _) X h (c_X5_init l D cy ad T6 b5 _ h.2.2.2 f_b5 hw) (hN 5 _ rfl) cn_8_22 ⟨by decide, by decide, rfl, rfl, by decide, by decide⟩ rfl hl.1 rfl (Nat.le_of_ble_eq_true rfl) dX8_init_21) (fun T7 hw l_T7 H locs h => ?_)
  have f_a0 := l_T7.is f_a0
  have f_a1 := l_T7.is f_a1
  have f_a2 := l_T7.is f_a2
  have f_b1 := l_T7.is f_b1
  have f_b5 := l_T7.is f_b5
  have hle := hle.tr l_T7
  refine W.widen (k := 9) (n := 740) (by decide) (by decide) ?_
  refine kp_putRF X hname h f_a0 ff_8_23 f_b5 rfl ⟨by decide, by decide⟩ ⟨rfl, rfl⟩ dX8_init_24 (fun T8 e_T8 l_T8 H locs h => ?_)
  have hw := hw T8 e_T8
  have f_a0 := l_T8.is f_a0
  have f_a1 := l_T8.is f_a1
  have f_a2 := l_T8.is f_a2
  have f_b1 := l_T8.is f_b1
  have f_b5 := l_T8.is f_b5
  have hle := hle.tr l_T8
  refine lv_aload_n X.1 X.2.1 dX8_init_27 rfl (lv_at hl 0 rfl) ?_
  refine lv_aload_n X.1 X.2.1 dX8_init_28 rfl (lv_at hl 2 rfl) ?_
  refine kp_putR X h f_a0 fp_8_27 f_a2 rfl ⟨by decide, by decide⟩ ⟨rfl, rfl⟩ dX8_init_29 (fun T9 e_T9 l_T9 H locs h => ?_)
  have hw := hw T9 e_T9
  have f_a0 := l_T9.is f_a0
  have f_a1 := l_T9.is f_a1
  have f_a2 := l_T9.is f_a2
  have f_b1 := l_T9.is f_b1
  have f_b5 := l_T9.is f_b5
  have hle := hle.tr l_T9
  refine lv_aload_n X.1 X.2.1 dX8_init_32 rfl (lv_at hl 0 rfl) ?_
  refine kp_newO X h nw_8_31 (by decide) (by decide) dX8_init_33 (fun b10 T11 n_b10 e_T11 l_T11 f_b10 H h => ?_)
  have hw := hw b10 T11 n_b10 e_T11
  have f_a0 := l_T11.is f_a0
  have f_a1 := l_T11.is f_a1
  have f_a2 := l_T11.is f_a2
  have f_b1 := l_T11.is f_b1
  have f_b5 := l_T11.is f_b5
  have hle := hle.tr l_T11
  refine W.widen (k := 10) (n := 743) (by decide) (by decide) ?_
  refine lv_dup X.1 X.2.1 dX8_init_36 rfl ?_
  refine lv_aload_n X.1 X.2.1 dX8_init_37 rfl (lv_at hl 0 rfl) ?_
  obtain ⟨b12, e_b12, hw⟩ := hw
  have f_b12 := h.2.2.2.rf (c := 8) (k := 0) f_a0 (by decide) (by decide) e_b12 (t := 9) rfl
  refine kp_get X h f_a0 ff_8_14.l (v := .ref b12) (congrArg va_rf e_b12) dX8_init_38 ?_
  refine lv_aload_n X.1 X.2.1 dX8_init_41 rfl (lv_at hl 0 rfl) ?_
  obtain ⟨b13, e_b13, hw⟩ := hw
  have f_b13 := h.2.2.2.rf (c := 8) (k := 1) f_a0 (by decide) (by decide) e_b13 (t := 5) rfl
  refine kp_get X h f_a0 ff_8_23.l (v := .ref b13) (congrArg va_rf e_b13) dX8_init_42 ?_
  refine lv_aload_n X.1 X.2.1 dX8_init_45 rfl (lv_at hl 2 rfl) ?_
  refine kp_callv X h (kp_runI (rm := { frames := 1, cells := 0, slots := 0, locals := 20 }) (mc := 0) (ms := 0) (rest := [.ref b10, .ref a0]) (Qc := fun A => kp_Qv D cy A T11 _) X h (c_X2_init l D cy ad T11 b10 b12 b13 a2 _ h.2.2.2 f_b10 f_b12 f_b13 f_a2 hw) ci_8_33 ⟨by decide, by decide, rfl, rfl, by decide, by decide⟩ rfl hl.1 rfl (Nat.le_of_ble_eq_true rfl) dX8_init_46) (fun T14 hw l_T14 H locs h => ?_)
  have f_a0 := l_T14.is f_a0
  have f_a1 := l_T14.is f_a1
  have f_a2 := l_T14.is f_a2
  have f_b1 := l_T14.is f_b1
  have f_b5 := l_T14.is f_b5
  have f_b10 := l_T14.is f_b10
  have f_b12 := l_T14.is f_b12
  have f_b13 := l_T14.is f_b13
  have hle := hle.tr l_T14
  refine kp_putRF X hname h f_a0 ff_8_36 f_b10 rfl ⟨by decide, by decide⟩ ⟨rfl, rfl⟩ dX8_init_49 (fun T15 e_T15 l_T15 H locs h => ?_)
  have hw := hw T15 e_T15
  have f_a0 := l_T15.is f_a0
  have f_a1 := l_T15.is f_a1
  have f_a2 := l_T15.is f_a2
  have f_b1 := l_T15.is f_b1
  have f_b5 := l_T15.is f_b5
  have f_b10 := l_T15.is f_b10
  have f_b12 := l_T15.is f_b12
  have f_b13 := l_T15.is f_b13
  have hle := hle.tr l_T15
  exact kp_retv X hr hlocks h hle hw dX8_init_52
theorem dX4_init_0 : decode cX4_init 0 = .ok (.aload_n 0, 1) := by decide +kernel
theorem dX4_init_1 : decode cX4_init 1 = .ok (.invokespecial 5, 3) := by decide +kernel
theorem dX4_init_4 : decode cX4_init 4 = .ok (.aload_n 0, 1) := by decide +kernel
theorem dX4_init_5 : decode cX4_init 5 = .ok (.sipush 1680, 3) := by decide +kernel
theorem dX4_init_8 : decode cX4_init 8 = .ok (.newarray .int, 2) := by decide +kernel
theorem dX4_init_10 : decode cX4_init 10 = .ok (.putfield 11, 3) := by decide +kernel
theorem dX4_init_13 : decode cX4_init 13 = .ok (.aload_n 0, 1) := by decide +kernel
theorem dX4_init_14 : decode cX4_init 14 = .ok (.bipush 12, 2) := by decide +kernel
theorem dX4_init_16 : decode cX4_init 16 = .ok (.anewarray 15, 3) := by decide +kernel
theorem dX4_init_19 : decode cX4_init 19 = .ok (.putfield 17, 3) := by decide +kernel
theorem dX4_init_22 : decode cX4_init 22 = .ok (.aload_n 0, 1) := by decide +kernel
theorem dX4_init_23 : decode cX4_init 23 = .ok (.sipush 168, 3) := by decide +kernel
theorem dX4_init_26 : decode cX4_init 26 = .ok (.anewarray 21, 3) := by decide +kernel
theorem dX4_init_29 : decode cX4_init 29 = .ok (.putfield 23, 3) := by decide +kernel
theorem dX4_init_32 : decode cX4_init 32 = .ok (.aload_n 0, 1) := by decide +kernel
theorem dX4_init_33 : decode cX4_init 33 = .ok (.new 27, 3) := by decide +kernel
theorem dX4_init_36 : decode cX4_init 36 = .ok (.dup, 1) := by decide +kernel
theorem dX4_init_37 : decode cX4_init 37 = .ok (.invokespecial 29, 3) := by decide +kernel
theorem dX4_init_40 : decode cX4_init 40 = .ok (.putfield 30, 3) := by decide +kernel
theorem dX4_init_43 : decode cX4_init 43 = .ok (.aload_n 0, 1) := by decide +kernel
theorem dX4_init_44 : decode cX4_init 44 = .ok (.aload_n 1, 1) := by decide +kernel
theorem dX4_init_45 : decode cX4_init 45 = .ok (.putfield 34, 3) := by decide +kernel
theorem dX4_init_48 : decode cX4_init 48 = .ok (.aload_n 0, 1) := by decide +kernel
theorem dX4_init_49 : decode cX4_init 49 = .ok (.aload_n 2, 1) := by decide +kernel
theorem dX4_init_50 : decode cX4_init 50 = .ok (.putfield 38, 3) := by decide +kernel
theorem dX4_init_53 : decode cX4_init 53 = .ok (.aload_n 0, 1) := by decide +kernel
theorem dX4_init_54 : decode cX4_init 54 = .ok (.aload_n 3, 1) := by decide +kernel
theorem dX4_init_55 : decode cX4_init 55 = .ok (.putfield 42, 3) := by decide +kernel
theorem dX4_init_58 : decode cX4_init 58 = .ok (.iconst 0, 1) := by decide +kernel
theorem dX4_init_59 : decode cX4_init 59 = .ok (.istore 4, 2) := by decide +kernel
theorem dX4_init_61 : decode cX4_init 61 = .ok (.iload 4, 2) := by decide +kernel
theorem dX4_init_63 : decode cX4_init 63 = .ok (.bipush 12, 2) := by decide +kernel
theorem dX4_init_65 : decode cX4_init 65 = .ok (.if_icmp .ge 23, 3) := by decide +kernel
theorem dX4_init_68 : decode cX4_init 68 = .ok (.aload_n 0, 1) := by decide +kernel
theorem dX4_init_69 : decode cX4_init 69 = .ok (.getfield 17, 3) := by decide +kernel
theorem dX4_init_72 : decode cX4_init 72 = .ok (.iload 4, 2) := by decide +kernel
theorem dX4_init_74 : decode cX4_init 74 = .ok (.new 15, 3) := by decide +kernel
theorem dX4_init_77 : decode cX4_init 77 = .ok (.dup, 1) := by decide +kernel
theorem dX4_init_78 : decode cX4_init 78 = .ok (.invokespecial 46, 3) := by decide +kernel
theorem dX4_init_81 : decode cX4_init 81 = .ok (.aastore, 1) := by decide +kernel
theorem dX4_init_82 : decode cX4_init 82 = .ok (.iinc 4 1, 3) := by decide +kernel
theorem dX4_init_85 : decode cX4_init 85 = .ok (.goto (-24), 3) := by decide +kernel
theorem dX4_init_88 : decode cX4_init 88 = .ok (.iconst 0, 1) := by decide +kernel
theorem dX4_init_89 : decode cX4_init 89 = .ok (.istore 4, 2) := by decide +kernel
theorem dX4_init_91 : decode cX4_init 91 = .ok (.iload 4, 2) := by decide +kernel
theorem dX4_init_93 : decode cX4_init 93 = .ok (.sipush 168, 3) := by decide +kernel
theorem dX4_init_96 : decode cX4_init 96 = .ok (.if_icmp .ge 23, 3) := by decide +kernel
theorem dX4_init_99 : decode cX4_init 99 = .ok (.aload_n 0, 1) := by decide +kernel
theorem dX4_init_100 : decode cX4_init 100 = .ok (.getfield 23, 3) := by decide +kernel
theorem dX4_init_103 : decode cX4_init 103 = .ok (.iload 4, 2) := by decide +kernel
theorem dX4_init_105 : decode cX4_init 105 = .ok (.new 21, 3) := by decide +kernel
theorem dX4_init_108 : decode cX4_init 108 = .ok (.dup, 1) := by decide +kernel
theorem dX4_init_109 : decode cX4_init 109 = .ok (.invokespecial 47, 3) := by decide +kernel
theorem dX4_init_112 : decode cX4_init 112 = .ok (.aastore, 1) := by decide +kernel
theorem dX4_init_113 : decode cX4_init 113 = .ok (.iinc 4 1, 3) := by decide +kernel
theorem dX4_init_116 : decode cX4_init 116 = .ok (.goto (-25), 3) := by decide +kernel
theorem dX4_init_119 : decode cX4_init 119 = .ok (.return_, 1) := by decide +kernel
def wX4_init_L91 (a0 : Nat) (a1 : Nat) (a2 : Nat) (a3 : Nat)  (post : kp_S → Prop) : Nat → Int32 → kp_S → Prop
  | 0, _, _ => False
  | n + 1, xn4, Sn =>
  ((168 ≤ xn4 →
  post Sn) ∧ (¬ 168 ≤ xn4 →
  ∃ b1001 : Nat, kp_R Sn 806 a0 = some b1001 ∧
  ∀ (b1002 : Nat) (T1003 : kp_S), b1002 ∉ kp_L Sn → T1003 = kp_new Sn b1002 6 →
  wX6_init b1002 T1003 (fun T1004 =>
  vp_in xn4 (kp_N T1004 b1001) ∧ ∀ T1005 : kp_S, T1005 = kp_sC T1004 b1001 (va_up (kp_C T1004 b1001) (xn4.toNatClampNeg) (some b1002)) →
  ∀ y1006 : Int32, y1006 = xn4 + 1 →
  wX4_init_L91 a0 a1 a2 a3  post n y1006 T1005)))
def wX4_init_L61 (a0 : Nat) (a1 : Nat) (a2 : Nat) (a3 : Nat)  (post : kp_S → Prop) : Nat → Int32 → kp_S → Prop
  | 0, _, _ => False
  | n + 1, xn4, Sn =>
  ((12 ≤ xn4 →
  wX4_init_L91 a0 a1 a2 a3  post 169 0 Sn) ∧ (¬ 12 ≤ xn4 →
  ∃ b2001 : Nat, kp_R Sn 804 a0 = some b2001 ∧
  ∀ (b2002 : Nat) (T2003 : kp_S), b2002 ∉ kp_L Sn → T2003 = kp_new Sn b2002 3 →
  wX3_init b2002 T2003 (fun T2004 =>
  vp_in xn4 (kp_N T2004 b2001) ∧ ∀ T2005 : kp_S, T2005 = kp_sC T2004 b2001 (va_up (kp_C T2004 b2001) (xn4.toNatClampNeg) (some b2002)) →
  ∀ y2006 : Int32, y2006 = xn4 + 1 →
  wX4_init_L61 a0 a1 a2 a3  post n y2006 T2005)))
def wX4_init (a0 : Nat) (a1 : Nat) (a2 : Nat) (a3 : Nat) (S : kp_S) (post : kp_S → Prop) : Prop :=
  ∀ (b1 : Nat) (T2 : kp_S), b1 ∉ kp_L S → T2 = kp_newA S b1 14 1680 →
  ∀ T3 : kp_S, T3 = kp_sR T2 802 a0 b1 →
  ∀ (b4 : Nat) (T5 : kp_S), b4 ∉ kp_L T3 → T5 = kp_newA T3 b4 17 12 →
  ∀ T6 : kp_S, T6 = kp_sR T5 804 a0 b4 →
  ∀ (b7 : Nat) (T8 : kp_S), b7 ∉ kp_L T6 → T8 = kp_newA T6 b7 18 168 →
  ∀ T9 : kp_S, T9 = kp_sR T8 806 a0 b7 →
  ∀ (b10 : Nat) (T11 : kp_S), b10 ∉ kp_L T9 → T11 = kp_new T9 b10 10 →
  wX10_init b10 T11 (fun T12 =>
  ∀ T13 : kp_S, T13 = kp_sR T12 808 a0 b10 →
  ∀ T14 : kp_S, T14 = kp_sR T13 800 a0 a1 →
  ∀ T15 : kp_S, T15 = kp_sR T14 801 a0 a2 →
  ∀ T16 : kp_S, T16 = kp_sR T15 809 a0 a3 →
  wX4_init_L61 a0 a1 a2 a3  post 13 0 T16)
set_option maxHeartbeats 4000000 in
set_option maxRecDepth 100000 in
theorem c_X4_init (l : Launch) (D : va_G) (cy : Nat → ClassId) (ad : (Nat → Nat) × (Nat → Nat)) (S : kp_S) (a0 : Nat) (a1 : Nat) (a2 : Nat) (a3 : Nat) (post : kp_S → Prop) (hS : kp_ok S) (f_a0 : kp_is S a0 4) (f_a1 : kp_is S a1 1) (f_a2 : kp_is S a2 7) (f_a3 : kp_is S a3 0) (hw : wX4_init a0 a1 a2 a3 S post) : kp_MN l yX4_init cX4_init 5 none { frames := 3, cells := 381, slots := 4958, locals := 60 } D cy ad S [.ref a0, .ref a1, .ref a2, .ref a3] 381 4958 (fun A => kp_Qv D cy A S post) := by
  refine kp_startN (own := RX4) (by decide) rfl (Nat.le_of_ble_eq_true rfl) hS ?_
  intro p e s m below meth c A ls X hr hlocks hname hN h hl
  have hle : kp_le S S := kp_le.rf
  have hl : lv_has ls 5 [(0, .ref a0), (1, .ref a1), (2, .ref a2), (3, .ref a3)] := hl
  have L91 : ∀ n91 : Nat, ∀ (ce sl : Nat), ce + n91 * 2 ≤ 381 → sl + n91 * 13 ≤ 4958 → ∀ (xn4 : Int32) (Sn : kp_S) (H : Heap) (locs : List Loc) (ls : Array Slot), lv_has ls 5 [(0, .ref a0), (4, .int xn4)] → kp_H D cy A Sn s.heap H locs → kp_le S Sn → kp_is Sn a0 4 → kp_is Sn a1 1 → kp_is Sn a2 7 → kp_is Sn a3 0 → wX4_init_L91 a0 a1 a2 a3  post n91 xn4 Sn → W p l e { frames := 3, cells := 381, slots := 4958, locals := 60 } s m ([.ref a0, .ref a1, .ref a2, .ref a3] : List Value).toArray below meth c H locs ce sl (MQ below (kp_Qv D cy A S post) ([.ref a0, .ref a1, .ref a2, .ref a3] : List Value).toArray s 381 4958 A) (F0 m 91 ls []) := by
    intro n91
    induction n91 with
    | zero => intro ce sl hce hsl xn4 Sn H locs ls hl h hle f_a0 f_a1 f_a2 f_a3 hw; exact hw.elim
    | succ n91 ih91 =>
      intro ce sl hce hsl xn4 Sn H locs ls hl h hle f_a0 f_a1 f_a2 f_a3 hw
      unfold wX4_init_L91 at hw
      refine lv_iload X.1 X.2.1 dX4_init_91 (lv_at hl 1 rfl) ?_
      refine lv_sipush (v := 168) X.1 X.2.1 dX4_init_93 (by decide) ?_
      refine lv_icmp_ge (tgt := 119) X.1 X.2.1 dX4_init_96 (by decide) (fun c1007 => ?_) (fun c1007 => ?_)
      · have hw := hw.1 c1007
        refine W.widen (k := 381) (n := 4958) (by omega) (by omega) ?_
        exact kp_retv X hr hlocks h hle hw dX4_init_119
      · have hw := hw.2 c1007
        refine lv_aload_n X.1 X.2.1 dX4_init_99 rfl (lv_at hl 0 rfl) ?_
        obtain ⟨b1001, e_b1001, hw⟩ := hw
        have f_b1001 := h.2.2.2.rf (c := 4) (k := 6) f_a0 (by decide) (by decide) e_b1001 (t := 18) rfl
        refine kp_get X h f_a0 ff_4_23.l (v := .ref b1001) (congrArg va_rf e_b1001) dX4_init_100 ?_
        refine lv_iload X.1 X.2.1 dX4_init_103 (lv_at hl 1 rfl) ?_
        have hnf : kp_nf 6 = 9 := rfl
        refine kp_newO X h nw_4_21 (by dsimp only; omega) (by rw [hnf]; dsimp only; omega) dX4_init_105 (fun b1002 T1003 n_b1002 e_T1003 l_T1003 f_b1002 H h => ?_)
        have hw := hw b1002 T1003 n_b1002 e_T1003
        have f_a0 := l_T1003.is f_a0
        have f_a1 := l_T1003.is f_a1
        have f_a2 := l_T1003.is f_a2
        have f_a3 := l_T1003.is f_a3
        have f_b1001 := l_T1003.is f_b1001
        have hle := hle.tr l_T1003
        refine W.widen (k := ce + 1) (n := sl + 9) (by omega) (by first | omega | (rw [hnf]; omega)) ?_
        refine lv_dup X.1 X.2.1 dX4_init_108 rfl ?_
        refine kp_callv X h (kp_runJN (rm := { frames := 2, cells := 1, slots := 4, locals := 40 }) (mc := 1) (ms := 4) (rest := [.ref b1002, .int xn4, .ref b1001]) (Qc := fun A => kp_Qv D cy A T1003 _) (hN := hN) X h (c_X6_init l D cy ad T1003 b1002 _ h.2.2.2 f_b1002 hw) (hN 3 _ rfl) cn_4_47 ⟨by decide, by decide, rfl, rfl, by dsimp only; omega, by dsimp only; omega⟩ rfl hl.1 rfl (Nat.le_of_ble_eq_true rfl) dX4_init_109) (fun T1004 hw l_T1004 H locs h => ?_)
        have f_a0 := l_T1004.is f_a0
        have f_a1 := l_T1004.is f_a1
        have f_a2 := l_T1004.is f_a2
        have f_a3 := l_T1004.is f_a3
        have f_b1001 := l_T1004.is f_b1001
        have f_b1002 := l_T1004.is f_b1002
        have hle := hle.tr l_T1004
        refine W.widen (k := ce + 2) (n := sl + 13) (by omega) (by first | omega | (rw [hnf]; omega)) ?_
        obtain ⟨hi, hw⟩ := hw
        refine kp_astP X h f_b1001 f_b1002 hi dX4_init_112 (fun T1005 e_T1005 l_T1005 H locs h => ?_)
        have hw := hw T1005 e_T1005
        have f_a0 := l_T1005.is f_a0
        have f_a1 := l_T1005.is f_a1
        have f_a2 := l_T1005.is f_a2
        have f_a3 := l_T1005.is f_a3
        have hle := hle.tr l_T1005
        obtain ⟨y1006, e_y1006⟩ : ∃ y : Int32, y = xn4 + 1 := ⟨_, rfl⟩
        have hw := hw y1006 e_y1006
        refine lv_iinc (v := y1006) (lv' := [(4, .int y1006), (0, .ref a0)]) X.1 X.2.1 dX4_init_113 hl (k := 1) rfl (by rw [e_y1006]; rfl) (by decide) rfl (fun ls hl => ?_)
        refine lv_goto (tgt := 91) X.1 X.2.1 dX4_init_116 (by decide) ?_
        exact ih91 (ce + 2) (sl + 13) (by omega) (by omega) y1006 T1005 H locs ls (lv_sub hl [1, 0] rfl) h hle f_a0 f_a1 f_a2 f_a3 hw
  have L61 : ∀ n61 : Nat, ∀ (ce sl : Nat), ce + n61 * 3 ≤ 43 → sl + n61 * 69 ≤ 2761 → ∀ (xn4 : Int32) (Sn : kp_S) (H : Heap) (locs : List Loc) (ls : Array Slot), lv_has ls 5 [(0, .ref a0), (4, .int xn4)] → kp_H D cy A Sn s.heap H locs → kp_le S Sn → kp_is Sn a0 4 → kp_is Sn a1 1 → kp_is Sn a2 7 → kp_is Sn a3 0 → wX4_init_L61 a0 a1 a2 a3  post n61 xn4 Sn → W p l e { frames := 3, cells := 381, slots := 4958, locals := 60 } s m ([.ref a0, .ref a1, .ref a2, .ref a3] : List Value).toArray below meth c H locs ce sl (MQ below (kp_Qv D cy A S post) ([.ref a0, .ref a1, .ref a2, .ref a3] : List Value).toArray s 381 4958 A) (F0 m 61 ls []) := by
    intro n61
    induction n61 with
    | zero => intro ce sl hce hsl xn4 Sn H locs ls hl h hle f_a0 f_a1 f_a2 f_a3 hw; exact hw.elim
    | succ n61 ih61 =>
      intro ce sl hce hsl xn4 Sn H locs ls hl h hle f_a0 f_a1 f_a2 f_a3 hw
      unfold wX4_init_L61 at hw
      refine lv_iload X.1 X.2.1 dX4_init_61 (lv_at hl 1 rfl) ?_
      refine lv_bipush (v := 12) X.1 X.2.1 dX4_init_63 (by decide) ?_
      refine lv_icmp_ge (tgt := 88) X.1 X.2.1 dX4_init_65 (by decide) (fun c2007 => ?_) (fun c2007 => ?_)
      · have hw := hw.1 c2007
        refine lv_iconst (v := 0) X.1 X.2.1 dX4_init_88 (by decide) ?_
        refine lv_istore (lv' := [(4, .int 0), (0, .ref a0)]) X.1 X.2.1 dX4_init_89 hl (by decide) rfl (fun ls hl => ?_)
        refine W.widen (k := 43) (n := 2761) (by omega) (by omega) ?_
        exact L91 169 43 2761 (by omega) (by omega) 0 Sn H locs ls (lv_sub hl [1, 0] rfl) h hle f_a0 f_a1 f_a2 f_a3 hw
      · have hw := hw.2 c2007
        refine lv_aload_n X.1 X.2.1 dX4_init_68 rfl (lv_at hl 0 rfl) ?_
        obtain ⟨b2001, e_b2001, hw⟩ := hw
        have f_b2001 := h.2.2.2.rf (c := 4) (k := 4) f_a0 (by decide) (by decide) e_b2001 (t := 17) rfl
        refine kp_get X h f_a0 ff_4_17.l (v := .ref b2001) (congrArg va_rf e_b2001) dX4_init_69 ?_
        refine lv_iload X.1 X.2.1 dX4_init_72 (lv_at hl 1 rfl) ?_
        have hnf : kp_nf 3 = 5 := rfl
        refine kp_newO X h nw_4_15 (by dsimp only; omega) (by rw [hnf]; dsimp only; omega) dX4_init_74 (fun b2002 T2003 n_b2002 e_T2003 l_T2003 f_b2002 H h => ?_)
        have hw := hw b2002 T2003 n_b2002 e_T2003
        have f_a0 := l_T2003.is f_a0
        have f_a1 := l_T2003.is f_a1
        have f_a2 := l_T2003.is f_a2
        have f_a3 := l_T2003.is f_a3
        have f_b2001 := l_T2003.is f_b2001
        have hle := hle.tr l_T2003
        refine W.widen (k := ce + 1) (n := sl + 5) (by omega) (by first | omega | (rw [hnf]; omega)) ?_
        refine lv_dup X.1 X.2.1 dX4_init_77 rfl ?_
        refine kp_callv X h (kp_runJ (rm := { frames := 1, cells := 2, slots := 64, locals := 20 }) (mc := 2) (ms := 64) (rest := [.ref b2002, .int xn4, .ref b2001]) (Qc := fun A => kp_Qv D cy A T2003 _) X h (c_X3_init l D cy ad T2003 b2002 _ h.2.2.2 f_b2002 hw) (hN 2 _ rfl) cn_4_46 ⟨by decide, by decide, rfl, rfl, by dsimp only; omega, by dsimp only; omega⟩ rfl hl.1 rfl (Nat.le_of_ble_eq_true rfl) dX4_init_78) (fun T2004 hw l_T2004 H locs h => ?_)
        have f_a0 := l_T2004.is f_a0
        have f_a1 := l_T2004.is f_a1
        have f_a2 := l_T2004.is f_a2
        have f_a3 := l_T2004.is f_a3
        have f_b2001 := l_T2004.is f_b2001
        have f_b2002 := l_T2004.is f_b2002
        have hle := hle.tr l_T2004
        refine W.widen (k := ce + 3) (n := sl + 69) (by omega) (by first | omega | (rw [hnf]; omega)) ?_
        obtain ⟨hi, hw⟩ := hw
        refine kp_astF X h f_b2001 f_b2002 hi dX4_init_81 (fun T2005 e_T2005 l_T2005 H locs h => ?_)
        have hw := hw T2005 e_T2005
        have f_a0 := l_T2005.is f_a0
        have f_a1 := l_T2005.is f_a1
        have f_a2 := l_T2005.is f_a2
        have f_a3 := l_T2005.is f_a3
        have hle := hle.tr l_T2005
        obtain ⟨y2006, e_y2006⟩ : ∃ y : Int32, y = xn4 + 1 := ⟨_, rfl⟩
        have hw := hw y2006 e_y2006
        refine lv_iinc (v := y2006) (lv' := [(4, .int y2006), (0, .ref a0)]) X.1 X.2.1 dX4_init_82 hl (k := 1) rfl (by rw [e_y2006]; rfl) (by decide) rfl (fun ls hl => ?_)
        refine lv_goto (tgt := 61) X.1 X.2.1 dX4_init_85 (by decide) ?_
        exact ih61 (ce + 3) (sl + 69) (by omega) (by omega) y2006 T2005 H locs ls (lv_sub hl [1, 0] rfl) h hle f_a0 f_a1 f_a2 f_a3 hw
  unfold wX4_init at hw
  have h : kp_H D cy A S s.heap s.heap [] := h
  revert h
  intro h
  refine lv_aload_n X.1 X.2.1 dX4_init_0 rfl (lv_at hl 0 rfl) ?_
  refine kp_objInit X hl.1 oi_4_5 (by decide) (by decide) dX4_init_1 ?_
  refine lv_aload_n X.1 X.2.1 dX4_init_4 rfl (lv_at hl 0 rfl) ?_
  refine lv_sipush (v := 1680) X.1 X.2.1 dX4_init_5 (by decide) ?_
  refine kp_newi (n := 1680) X h ac_14 (by decide) (by decide) (by decide) (by decide) (by decide) dX4_init_8 (fun b1 T2 n_b1 e_T2 l_T2 f_b1 H h => ?_)
  have hw := hw b1 T2 n_b1 e_T2
  have f_a0 := l_T2.is f_a0
  have f_a1 := l_T2.is f_a1
  have f_a2 := l_T2.is f_a2
  have f_a3 := l_T2.is f_a3
  have hle := hle.tr l_T2
  refine W.widen (k := 1) (n := 1680) (by decide) (by decide) ?_
  refine kp_putRF X hname h f_a0 ff_4_11 f_b1 rfl ⟨by decide, by decide⟩ ⟨rfl, rfl⟩ dX4_init_10 (fun T3 e_T3 l_T3 H locs h => ?_)
  have hw := hw T3 e_T3
  have f_a0 := l_T3.is f_a0
  have f_a1 := l_T3.is f_a1
  have f_a2 := l_T3.is f_a2
  have f_a3 := l_T3.is f_a3
  have hle := hle.tr l_T3
  refine lv_aload_n X.1 X.2.1 dX4_init_13 rfl (lv_at hl 0 rfl) ?_
  refine lv_bipush (v := 12) X.1 X.2.1 dX4_init_14 (by decide) ?_
  refine kp_newq (k := 17) (t0 := 4) (n := 12) X h kk_4_15 X.2.2.2.2.2.2.2.1 rfl (by decide) (by decide) (by decide) (by decide) (by decide) (by decide) dX4_init_16 (fun b4 T5 n_b4 e_T5 l_T5 f_b4 H h => ?_)
  have hw := hw b4 T5 n_b4 e_T5
  have f_a0 := l_T5.is f_a0
  have f_a1 := l_T5.is f_a1
  have f_a2 := l_T5.is f_a2
  have f_a3 := l_T5.is f_a3
  have hle := hle.tr l_T5
  refine W.widen (k := 2) (n := 1692) (by decide) (by decide) ?_
  refine kp_putRF X hname h f_a0 ff_4_17 f_b4 rfl ⟨by decide, by decide⟩ ⟨rfl, rfl⟩ dX4_init_19 (fun T6 e_T6 l_T6 H locs h => ?_)
  have hw := hw T6 e_T6
  have f_a0 := l_T6.is f_a0
  have f_a1 := l_T6.is f_a1
  have f_a2 := l_T6.is f_a2
  have f_a3 := l_T6.is f_a3
  have hle := hle.tr l_T6
  refine lv_aload_n X.1 X.2.1 dX4_init_22 rfl (lv_at hl 0 rfl) ?_
  refine lv_sipush (v := 168) X.1 X.2.1 dX4_init_23 (by decide) ?_
  refine kp_newq (k := 18) (t0 := 5) (n := 168) X h kk_4_21 X.2.2.2.2.2.2.2.2.1 rfl (by decide) (by decide) (by decide) (by decide) (by decide) (by decide) dX4_init_26 (fun b7 T8 n_b7 e_T8 l_T8 f_b7 H h => ?_)
  have hw := hw b7 T8 n_b7 e_T8
  have f_a0 := l_T8.is f_a0
  have f_a1 := l_T8.is f_a1
  have f_a2 := l_T8.is f_a2
  have f_a3 := l_T8.is f_a3
  have hle := hle.tr l_T8
  refine W.widen (k := 3) (n := 1860) (by decide) (by decide) ?_
  refine kp_putRF X hname h f_a0 ff_4_23 f_b7 rfl ⟨by decide, by decide⟩ ⟨rfl, rfl⟩ dX4_init_29 (fun T9 e_T9 l_T9 H locs h => ?_)
  have hw := hw T9 e_T9
  have f_a0 := l_T9.is f_a0
  have f_a1 := l_T9.is f_a1
  have f_a2 := l_T9.is f_a2
  have f_a3 := l_T9.is f_a3
  have hle := hle.tr l_T9
  refine lv_aload_n X.1 X.2.1 dX4_init_32 rfl (lv_at hl 0 rfl) ?_
  refine kp_newO X h nw_4_27 (by decide) (by decide) dX4_init_33 (fun b10 T11 n_b10 e_T11 l_T11 f_b10 H h => ?_)
  have hw := hw b10 T11 n_b10 e_T11
  have f_a0 := l_T11.is f_a0
  have f_a1 := l_T11.is f_a1
  have f_a2 := l_T11.is f_a2
  have f_a3 := l_T11.is f_a3
  have hle := hle.tr l_T11
  refine W.widen (k := 4) (n := 1864) (by decide) (by decide) ?_
  refine lv_dup X.1 X.2.1 dX4_init_36 rfl ?_
  refine kp_callv X h (kp_runJ (rm := { frames := 1, cells := 0, slots := 0, locals := 20 }) (mc := 0) (ms := 0) (rest := [.ref b10, .ref a0]) (Qc := fun A => kp_Qv D cy A T11 _) X h (c_X10_init l D cy ad T11 b10 _ h.2.2.2 f_b10 hw) (hN 1 _ rfl) cn_4_29 ⟨by decide, by decide, rfl, rfl, by decide, by decide⟩ rfl hl.1 rfl (Nat.le_of_ble_eq_true rfl) dX4_init_37) (fun T12 hw l_T12 H locs h => ?_)
  have f_a0 := l_T12.is f_a0
  have f_a1 := l_T12.is f_a1
  have f_a2 := l_T12.is f_a2
  have f_a3 := l_T12.is f_a3
  have f_b10 := l_T12.is f_b10
  have hle := hle.tr l_T12
  refine kp_putRF X hname h f_a0 ff_4_30 f_b10 rfl ⟨by decide, by decide⟩ ⟨rfl, rfl⟩ dX4_init_40 (fun T13 e_T13 l_T13 H locs h => ?_)
  have hw := hw T13 e_T13
  have f_a0 := l_T13.is f_a0
  have f_a1 := l_T13.is f_a1
  have f_a2 := l_T13.is f_a2
  have f_a3 := l_T13.is f_a3
  have hle := hle.tr l_T13
  refine lv_aload_n X.1 X.2.1 dX4_init_43 rfl (lv_at hl 0 rfl) ?_
  refine lv_aload_n X.1 X.2.1 dX4_init_44 rfl (lv_at hl 1 rfl) ?_
  refine kp_putRF X hname h f_a0 ff_4_34 f_a1 rfl ⟨by decide, by decide⟩ ⟨rfl, rfl⟩ dX4_init_45 (fun T14 e_T14 l_T14 H locs h => ?_)
  have hw := hw T14 e_T14
  have f_a0 := l_T14.is f_a0
  have f_a1 := l_T14.is f_a1
  have f_a2 := l_T14.is f_a2
  have f_a3 := l_T14.is f_a3
  have hle := hle.tr l_T14
  refine lv_aload_n X.1 X.2.1 dX4_init_48 rfl (lv_at hl 0 rfl) ?_
  refine lv_aload_n X.1 X.2.1 dX4_init_49 rfl (lv_at hl 2 rfl) ?_
  refine kp_putRF X hname h f_a0 ff_4_38 f_a2 rfl ⟨by decide, by decide⟩ ⟨rfl, rfl⟩ dX4_init_50 (fun T15 e_T15 l_T15 H locs h => ?_)
  have hw := hw T15 e_T15
  have f_a0 := l_T15.is f_a0
  have f_a1 := l_T15.is f_a1
  have f_a2 := l_T15.is f_a2
  have f_a3 := l_T15.is f_a3
  have hle := hle.tr l_T15
  refine lv_aload_n X.1 X.2.1 dX4_init_53 rfl (lv_at hl 0 rfl) ?_
  refine lv_aload_n X.1 X.2.1 dX4_init_54 rfl (lv_at hl 3 rfl) ?_
  refine kp_putR X h f_a0 fp_4_42 f_a3 rfl ⟨by decide, by decide⟩ ⟨rfl, rfl⟩ dX4_init_55 (fun T16 e_T16 l_T16 H locs h => ?_)
  have hw := hw T16 e_T16
  have f_a0 := l_T16.is f_a0
  have f_a1 := l_T16.is f_a1
  have f_a2 := l_T16.is f_a2
  have f_a3 := l_T16.is f_a3
  have hle := hle.tr l_T16
  refine lv_iconst (v := 0) X.1 X.2.1 dX4_init_58 (by decide) ?_
  refine lv_istore (lv' := [(4, .int 0), (0, .ref a0), (1, .ref a1), (2, .ref a2), (3, .ref a3)]) X.1 X.2.1 dX4_init_59 hl (by decide) rfl (fun ls hl => ?_)
  exact L61 13 4 1864 (by omega) (by omega) 0 T16 _ _ ls (lv_sub hl [1, 0] rfl) h hle f_a0 f_a1 f_a2 f_a3 hw
