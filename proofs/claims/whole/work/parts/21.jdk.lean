theorem gs_J0_38 : Cond.fieldLink RJ0 38 "java/lang/String" "COMPACT_STRINGS" "Z" ∈ kp_tb := kp_mem 279 (by decide +kernel) (by decide +kernel)
theorem gs_J0_15 : Cond.fieldLink RJ0 15 "java/lang/String" "coder" "B" ∈ kp_tb := kp_mem 2537 (by decide +kernel) (by decide +kernel)
theorem gs_J0_9 : Cond.fieldLink RJ0 9 "java/lang/String" "value" "[B" ∈ kp_tb := kp_mem 2536 (by decide +kernel) (by decide +kernel)
theorem cw_J0_335 : kp_CVs RJ0 335 yJ0_coder_7d493 cJ0_coder_7d493 1 (some .byte) 0 := ⟨⟨kp_mem 278 (by decide +kernel) (by decide +kernel), kp_mem 208 (by decide +kernel) (by decide +kernel), by decide +kernel⟩, kp_mem 275 (by decide +kernel) (by decide +kernel), kp_mem 276 (by decide +kernel) (by decide +kernel), kp_mem 277 (by decide +kernel) (by decide +kernel), rfl⟩
theorem cs_J1_9 : kp_CS RJ1 9 yJ0_checkIndex_df160 cJ0_checkIndex_df160 2 none 2 := ⟨⟨kp_mem 294 (by decide +kernel) (by decide +kernel), kp_mem 208 (by decide +kernel) (by decide +kernel), by decide +kernel⟩, kp_mem 292 (by decide +kernel) (by decide +kernel), kp_mem 293 (by decide +kernel) (by decide +kernel)⟩
theorem cw_J0_492 : kp_CVs RJ0 492 yJ0_isLatin1_aae02 cJ0_isLatin1_aae02 1 (some .boolean) 0 := ⟨⟨kp_mem 288 (by decide +kernel) (by decide +kernel), kp_mem 208 (by decide +kernel) (by decide +kernel), by decide +kernel⟩, kp_mem 285 (by decide +kernel) (by decide +kernel), kp_mem 286 (by decide +kernel) (by decide +kernel), kp_mem 287 (by decide +kernel) (by decide +kernel), rfl⟩
theorem cs_J0_498 : kp_CS RJ0 498 yJ2_charAt_3b067 cJ2_charAt_3b067 2 (some .char) 2 := ⟨⟨kp_mem 302 (by decide +kernel) (by decide +kernel), kp_mem 211 (by decide +kernel) (by decide +kernel), by decide +kernel⟩, kp_mem 300 (by decide +kernel) (by decide +kernel), kp_mem 301 (by decide +kernel) (by decide +kernel)⟩
theorem cs_J0_495 : kp_CS RJ0 495 yJ1_charAt_3b067 cJ1_charAt_3b067 2 (some .char) 2 := ⟨⟨kp_mem 291 (by decide +kernel) (by decide +kernel), kp_mem 209 (by decide +kernel) (by decide +kernel), by decide +kernel⟩, kp_mem 289 (by decide +kernel) (by decide +kernel), kp_mem 290 (by decide +kernel) (by decide +kernel)⟩
theorem cs_J1_88 : kp_CS RJ1 88 yJ1_canEncode_9a6ad cJ1_canEncode_9a6ad 1 (some .boolean) 1 := ⟨⟨kp_mem 727 (by decide +kernel) (by decide +kernel), kp_mem 209 (by decide +kernel) (by decide +kernel), by decide +kernel⟩, kp_mem 725 (by decide +kernel) (by decide +kernel), kp_mem 726 (by decide +kernel) (by decide +kernel)⟩
theorem mm_J1_92 : Cond.methodLink RJ1 92 Lib.Math.max.name ∈ kp_tb := kp_mem 728 (by decide +kernel) (by decide +kernel)
theorem mm_J1_38 : Cond.methodLink RJ1 38 Lib.Math.min.name ∈ kp_tb := kp_mem 731 (by decide +kernel) (by decide +kernel)
theorem cs_J1_95 : kp_CS RJ1 95 yJ1_indexOfChar_4cfef cJ1_indexOfChar_4cfef 6 (some .int) 4 := ⟨⟨kp_mem 734 (by decide +kernel) (by decide +kernel), kp_mem 209 (by decide +kernel) (by decide +kernel), by decide +kernel⟩, kp_mem 732 (by decide +kernel) (by decide +kernel), kp_mem 733 (by decide +kernel) (by decide +kernel)⟩
theorem cw_J0_505 : kp_CVs RJ0 505 yJ0_length_8abf5 cJ0_length_8abf5 1 (some .int) 0 := ⟨⟨kp_mem 274 (by decide +kernel) (by decide +kernel), kp_mem 208 (by decide +kernel) (by decide +kernel), by decide +kernel⟩, kp_mem 721 (by decide +kernel) (by decide +kernel), kp_mem 272 (by decide +kernel) (by decide +kernel), kp_mem 273 (by decide +kernel) (by decide +kernel), rfl⟩
theorem cs_J0_640 : kp_CS RJ0 640 yJ2_indexOf_4cfef cJ2_indexOf_4cfef 4 (some .int) 4 := ⟨⟨kp_mem 737 (by decide +kernel) (by decide +kernel), kp_mem 211 (by decide +kernel) (by decide +kernel), by decide +kernel⟩, kp_mem 735 (by decide +kernel) (by decide +kernel), kp_mem 736 (by decide +kernel) (by decide +kernel)⟩
theorem cs_J0_637 : kp_CS RJ0 637 yJ1_indexOf_4cfef cJ1_indexOf_4cfef 4 (some .int) 4 := ⟨⟨kp_mem 724 (by decide +kernel) (by decide +kernel), kp_mem 209 (by decide +kernel) (by decide +kernel), by decide +kernel⟩, kp_mem 722 (by decide +kernel) (by decide +kernel), kp_mem 723 (by decide +kernel) (by decide +kernel)⟩
theorem cw_J0_633 : kp_CVs RJ0 633 yJ0_indexOf_7cf53 cJ0_indexOf_7cf53 3 (some .int) 2 := ⟨⟨kp_mem 720 (by decide +kernel) (by decide +kernel), kp_mem 208 (by decide +kernel) (by decide +kernel), by decide +kernel⟩, kp_mem 717 (by decide +kernel) (by decide +kernel), kp_mem 718 (by decide +kernel) (by decide +kernel), kp_mem 719 (by decide +kernel) (by decide +kernel), rfl⟩
theorem dJ0_coder_7d493_0 : decode cJ0_coder_7d493 0 = .ok (.getstatic 38, 3) := by decide +kernel
theorem dJ0_coder_7d493_3 : decode cJ0_coder_7d493 3 = .ok (.ifCond .eq 10, 3) := by decide +kernel
theorem dJ0_coder_7d493_6 : decode cJ0_coder_7d493 6 = .ok (.aload_n 0, 1) := by decide +kernel
theorem dJ0_coder_7d493_7 : decode cJ0_coder_7d493 7 = .ok (.getfield 15, 3) := by decide +kernel
theorem dJ0_coder_7d493_10 : decode cJ0_coder_7d493 10 = .ok (.goto 4, 3) := by decide +kernel
theorem dJ0_coder_7d493_13 : decode cJ0_coder_7d493 13 = .ok (.iconst 1, 1) := by decide +kernel
theorem dJ0_coder_7d493_14 : decode cJ0_coder_7d493 14 = .ok (.ireturn, 1) := by decide +kernel
def wJ0_coder_7d493_b14 (i0 : Nat) (xt0 : Int32)  (Sn : kp_S) (post : Int32 → kp_S → Prop) : Prop :=
  narrow .byte (.int xt0) = .int xt0 ∧ post xt0 Sn
def wJ0_coder_7d493 (i0 : Nat) (S : kp_S) (post : Int32 → kp_S → Prop) : Prop :=
  (((1 : Int32) = 0 →
  wJ0_coder_7d493_b14 i0 1  S post) ∧ (¬ (1 : Int32) = 0 →
  wJ0_coder_7d493_b14 i0 0  S post))
set_option maxHeartbeats 4000000 in
set_option maxRecDepth 100000 in
theorem c_J0_coder_7d493 (l : Launch) (D : va_G) (cy : Nat → ClassId) (ad : (Nat → Nat) × (Nat → Nat)) (S : kp_S) (i0 : Nat) (post : Int32 → kp_S → Prop) (hS : kp_ok S) (f_i0 : i0 < kp_sN) (hw : wJ0_coder_7d493 i0 S post) : kp_M l yJ0_coder_7d493 cJ0_coder_7d493 1 (some .byte) { frames := 0, cells := 0, slots := 0, locals := 0 } D cy ad S [.ref (ad.1 i0)] 0 0 (fun A => kp_Qi D cy A S post) := by
  refine kp_start (own := RJ0) (by decide) rfl (Nat.le_of_ble_eq_true rfl) hS ?_
  intro p e s m below meth c A ls X hr hlocks hname h hl
  have hle : kp_le S S := kp_le.rf
  have hl : lv_has ls 1 [(0, .ref (ad.1 i0))] := hl
  have j14 : ∀ (xt0 : Int32) (Sn : kp_S) (H : Heap) (locs : List Loc) (ls : Array Slot), lv_has ls 1 [] → kp_H D cy A Sn s.heap H locs → kp_le S Sn → wJ0_coder_7d493_b14 i0 xt0  Sn post → W p l e { frames := 0, cells := 0, slots := 0, locals := 0 } s m ([.ref (ad.1 i0)] : List Value).toArray below meth c H locs 0 0 (MQ below (kp_Qi D cy A S post) ([.ref (ad.1 i0)] : List Value).toArray s 0 0 A) (F0 m 14 ls [.int xt0]) := by
    intro xt0 Sn H locs ls hl h hle  hw
    unfold wJ0_coder_7d493_b14 at hw
    exact kp_reti X hr hlocks h hle hw.1 hw.2 dJ0_coder_7d493_14
  unfold wJ0_coder_7d493 at hw
  have h : kp_H D cy A S s.heap s.heap [] := h
  revert h
  intro h
  refine kp_gcs X h gs_J0_38 dJ0_coder_7d493_0 ?_
  refine lv_if_eq (tgt := 13) X.1 X.2.1 dJ0_coder_7d493_3 (by decide) (fun c1 => ?_) (fun c1 => ?_)
  · have hw := hw.1 c1
    refine lv_iconst (v := 1) X.1 X.2.1 dJ0_coder_7d493_13 (by decide) ?_
    exact j14 1 S _ _ ls (lv_sub hl [] rfl) h hle  hw
  · have hw := hw.2 c1
    refine lv_aload_n X.1 X.2.1 dJ0_coder_7d493_6 rfl (lv_at hl 0 rfl) ?_
    refine kp_scod X h f_i0 gs_J0_15 dJ0_coder_7d493_7 ?_
    refine lv_goto (tgt := 14) X.1 X.2.1 dJ0_coder_7d493_10 (by decide) ?_
    exact j14 0 S _ _ ls (lv_sub hl [] rfl) h hle  hw
theorem dJ0_length_8abf5_0 : decode cJ0_length_8abf5 0 = .ok (.aload_n 0, 1) := by decide +kernel
theorem dJ0_length_8abf5_1 : decode cJ0_length_8abf5 1 = .ok (.getfield 9, 3) := by decide +kernel
theorem dJ0_length_8abf5_4 : decode cJ0_length_8abf5 4 = .ok (.arraylength, 1) := by decide +kernel
theorem dJ0_length_8abf5_5 : decode cJ0_length_8abf5 5 = .ok (.aload_n 0, 1) := by decide +kernel
theorem dJ0_length_8abf5_6 : decode cJ0_length_8abf5 6 = .ok (.invokevirtual 335, 3) := by decide +kernel
theorem dJ0_length_8abf5_9 : decode cJ0_length_8abf5 9 = .ok (.ishr, 1) := by decide +kernel
theorem dJ0_length_8abf5_10 : decode cJ0_length_8abf5 10 = .ok (.ireturn, 1) := by decide +kernel
def wJ0_length_8abf5 (i0 : Nat) (S : kp_S) (post : Int32 → kp_S → Prop) : Prop :=
  wJ0_coder_7d493 i0 S (fun y2 T1 =>
  post ((nI (kp_sl.getD i0 0)) >>> (y2 &&& 31)) T1)
set_option maxHeartbeats 4000000 in
set_option maxRecDepth 100000 in
theorem c_J0_length_8abf5 (l : Launch) (D : va_G) (cy : Nat → ClassId) (ad : (Nat → Nat) × (Nat → Nat)) (S : kp_S) (i0 : Nat) (post : Int32 → kp_S → Prop) (hS : kp_ok S) (f_i0 : i0 < kp_sN) (hw : wJ0_length_8abf5 i0 S post) : kp_M l yJ0_length_8abf5 cJ0_length_8abf5 1 (some .int) { frames := 1, cells := 0, slots := 0, locals := 20 } D cy ad S [.ref (ad.1 i0)] 0 0 (fun A => kp_Qi D cy A S post) := by
  refine kp_start (own := RJ0) (by decide) rfl (Nat.le_of_ble_eq_true rfl) hS ?_
  intro p e s m below meth c A ls X hr hlocks hname h hl
  have hle : kp_le S S := kp_le.rf
  have hl : lv_has ls 1 [(0, .ref (ad.1 i0))] := hl
  unfold wJ0_length_8abf5 at hw
  have h : kp_H D cy A S s.heap s.heap [] := h
  revert h
  intro h
  refine lv_aload_n X.1 X.2.1 dJ0_length_8abf5_0 rfl (lv_at hl 0 rfl) ?_
  refine kp_sval X h f_i0 gs_J0_9 dJ0_length_8abf5_1 ?_
  refine kp_slen X h f_i0 dJ0_length_8abf5_4 ?_
  refine lv_aload_n X.1 X.2.1 dJ0_length_8abf5_5 rfl (lv_at hl 0 rfl) ?_
  refine kp_calli X h (kp_runVs (rm := { frames := 0, cells := 0, slots := 0, locals := 0 }) (mc := 0) (ms := 0) (rest := [.int (nI (kp_sl.getD i0 0))]) (Qc := fun A => kp_Qi D cy A S _) X h (c_J0_coder_7d493 l D cy ad S i0 _ h.2.2.2 f_i0 hw) f_i0 cw_J0_335 ⟨by decide, by decide, rfl, rfl, by decide, by decide⟩ rfl hl.1 rfl (Nat.le_of_ble_eq_true rfl) dJ0_length_8abf5_6) (fun y2 T1 hw l_T1 H locs h => ?_)
  have hle := hle.tr l_T1
  refine lv_ishr X.1 X.2.1 dJ0_length_8abf5_9 ?_
  exact kp_reti X hr hlocks h hle rfl hw dJ0_length_8abf5_10
theorem dJ0_isLatin1_aae02_0 : decode cJ0_isLatin1_aae02 0 = .ok (.getstatic 38, 3) := by decide +kernel
theorem dJ0_isLatin1_aae02_3 : decode cJ0_isLatin1_aae02 3 = .ok (.ifCond .eq 14, 3) := by decide +kernel
theorem dJ0_isLatin1_aae02_6 : decode cJ0_isLatin1_aae02 6 = .ok (.aload_n 0, 1) := by decide +kernel
theorem dJ0_isLatin1_aae02_7 : decode cJ0_isLatin1_aae02 7 = .ok (.getfield 15, 3) := by decide +kernel
theorem dJ0_isLatin1_aae02_10 : decode cJ0_isLatin1_aae02 10 = .ok (.ifCond .ne 7, 3) := by decide +kernel
theorem dJ0_isLatin1_aae02_13 : decode cJ0_isLatin1_aae02 13 = .ok (.iconst 1, 1) := by decide +kernel
theorem dJ0_isLatin1_aae02_14 : decode cJ0_isLatin1_aae02 14 = .ok (.goto 4, 3) := by decide +kernel
theorem dJ0_isLatin1_aae02_17 : decode cJ0_isLatin1_aae02 17 = .ok (.iconst 0, 1) := by decide +kernel
theorem dJ0_isLatin1_aae02_18 : decode cJ0_isLatin1_aae02 18 = .ok (.ireturn, 1) := by decide +kernel
def wJ0_isLatin1_aae02_b18 (i0 : Nat) (xt0 : Int32)  (Sn : kp_S) (post : Int32 → kp_S → Prop) : Prop :=
  kp_b xt0 ∧ post xt0 Sn
def wJ0_isLatin1_aae02_b17 (i0 : Nat)  (Sn : kp_S) (post : Int32 → kp_S → Prop) : Prop :=
  wJ0_isLatin1_aae02_b18 i0 0  Sn post
def wJ0_isLatin1_aae02 (i0 : Nat) (S : kp_S) (post : Int32 → kp_S → Prop) : Prop :=
  (((1 : Int32) = 0 →
  wJ0_isLatin1_aae02_b17 i0   S post) ∧ (¬ (1 : Int32) = 0 →
  ((¬ (0 : Int32) = 0 →
  wJ0_isLatin1_aae02_b17 i0   S post) ∧ ((0 : Int32) = 0 →
  wJ0_isLatin1_aae02_b18 i0 1  S post))))
set_option maxHeartbeats 4000000 in
set_option maxRecDepth 100000 in
theorem c_J0_isLatin1_aae02 (l : Launch) (D : va_G) (cy : Nat → ClassId) (ad : (Nat → Nat) × (Nat → Nat)) (S : kp_S) (i0 : Nat) (post : Int32 → kp_S → Prop) (hS : kp_ok S) (f_i0 : i0 < kp_sN) (hw : wJ0_isLatin1_aae02 i0 S post) : kp_M l yJ0_isLatin1_aae02 cJ0_isLatin1_aae02 1 (some .boolean) { frames := 0, cells := 0, slots := 0, locals := 0 } D cy ad S [.ref (ad.1 i0)] 0 0 (fun A => kp_Qi D cy A S post) := by
  refine kp_start (own := RJ0) (by decide) rfl (Nat.le_of_ble_eq_true rfl) hS ?_
  intro p e s m below meth c A ls X hr hlocks hname h hl
  have hle : kp_le S S := kp_le.rf
  have hl : lv_has ls 1 [(0, .ref (ad.1 i0))] := hl
  have j18 : ∀ (xt0 : Int32) (Sn : kp_S) (H : Heap) (locs : List Loc) (ls : Array Slot), lv_has ls 1 [] → kp_H D cy A Sn s.heap H locs → kp_le S Sn → wJ0_isLatin1_aae02_b18 i0 xt0  Sn post → W p l e { frames := 0, cells := 0, slots := 0, locals := 0 } s m ([.ref (ad.1 i0)] : List Value).toArray below meth c H locs 0 0 (MQ below (kp_Qi D cy A S post) ([.ref (ad.1 i0)] : List Value).toArray s 0 0 A) (F0 m 18 ls [.int xt0]) := by
    intro xt0 Sn H locs ls hl h hle  hw
    unfold wJ0_isLatin1_aae02_b18 at hw
    exact kp_reti X hr hlocks h hle (kp_bz hw.1).1 hw.2 dJ0_isLatin1_aae02_18
  have j17 : ∀  (Sn : kp_S) (H : Heap) (locs : List Loc) (ls : Array Slot), lv_has ls 1 [] → kp_H D cy A Sn s.heap H locs → kp_le S Sn → wJ0_isLatin1_aae02_b17 i0   Sn post → W p l e { frames := 0, cells := 0, slots := 0, locals := 0 } s m ([.ref (ad.1 i0)] : List Value).toArray below meth c H locs 0 0 (MQ below (kp_Qi D cy A S post) ([.ref (ad.1 i0)] : List Value).toArray s 0 0 A) (F0 m 17 ls []) := by
    intro  Sn H locs ls hl h hle  hw
    unfold wJ0_isLatin1_aae02_b17 at hw
    refine lv_iconst (v := 0) X.1 X.2.1 dJ0_isLatin1_aae02_17 (by decide) ?_
    exact j18 0 Sn H locs ls (lv_sub hl [] rfl) h hle  hw
  unfold wJ0_isLatin1_aae02 at hw
  have h : kp_H D cy A S s.heap s.heap [] := h
  revert h
  intro h
  refine kp_gcs X h gs_J0_38 dJ0_isLatin1_aae02_0 ?_
  refine lv_if_eq (tgt := 17) X.1 X.2.1 dJ0_isLatin1_aae02_3 (by decide) (fun c2 => ?_) (fun c2 => ?_)
  · have hw := hw.1 c2
    exact j17  S _ _ ls (lv_sub hl [] rfl) h hle  hw
  · have hw := hw.2 c2
    refine lv_aload_n X.1 X.2.1 dJ0_isLatin1_aae02_6 rfl (lv_at hl 0 rfl) ?_
    refine kp_scod X h f_i0 gs_J0_15 dJ0_isLatin1_aae02_7 ?_
    refine lv_if_ne (tgt := 17) X.1 X.2.1 dJ0_isLatin1_aae02_10 (by decide) (fun c1 => ?_) (fun c1 => ?_)
    · have hw := hw.1 c1
      exact j17  S _ _ ls (lv_sub hl [] rfl) h hle  hw
    · have hw := hw.2 c1
      refine lv_iconst (v := 1) X.1 X.2.1 dJ0_isLatin1_aae02_13 (by decide) ?_
      refine lv_goto (tgt := 18) X.1 X.2.1 dJ0_isLatin1_aae02_14 (by decide) ?_
      exact j18 1 S _ _ ls (lv_sub hl [] rfl) h hle  hw
theorem dJ1_charAt_3b067_0 : decode cJ1_charAt_3b067 0 = .ok (.iload_n 1, 1) := by decide +kernel
theorem dJ1_charAt_3b067_1 : decode cJ1_charAt_3b067 1 = .ok (.aload_n 0, 1) := by decide +kernel
theorem dJ1_charAt_3b067_2 : decode cJ1_charAt_3b067 2 = .ok (.arraylength, 1) := by decide +kernel
theorem dJ1_charAt_3b067_3 : decode cJ1_charAt_3b067 3 = .ok (.invokestatic 9, 3) := by decide +kernel
theorem dJ1_charAt_3b067_6 : decode cJ1_charAt_3b067 6 = .ok (.aload_n 0, 1) := by decide +kernel
theorem dJ1_charAt_3b067_7 : decode cJ1_charAt_3b067 7 = .ok (.iload_n 1, 1) := by decide +kernel
theorem dJ1_charAt_3b067_8 : decode cJ1_charAt_3b067 8 = .ok (.baload, 1) := by decide +kernel
theorem dJ1_charAt_3b067_9 : decode cJ1_charAt_3b067 9 = .ok (.sipush 255, 3) := by decide +kernel
theorem dJ1_charAt_3b067_12 : decode cJ1_charAt_3b067 12 = .ok (.iand, 1) := by decide +kernel
theorem dJ1_charAt_3b067_13 : decode cJ1_charAt_3b067 13 = .ok (.i2c, 1) := by decide +kernel
theorem dJ1_charAt_3b067_14 : decode cJ1_charAt_3b067 14 = .ok (.ireturn, 1) := by decide +kernel
def wJ1_charAt_3b067 (i0 : Nat) (x1 : Int32) (S : kp_S) (post : Int32 → kp_S → Prop) : Prop :=
  wJ0_checkIndex_df160 x1 (nI (kp_sl.getD i0 0)) S (fun T1 =>
  vp_in x1 (kp_sl.getD i0 0) ∧
  narrow .char (.int (((((kp_sb.getD i0 []).getD x1.toNatClampNeg 0) &&& 255 : Int32).toUInt32 % 65536).toInt32)) = .int (((((kp_sb.getD i0 []).getD x1.toNatClampNeg 0) &&& 255 : Int32).toUInt32 % 65536).toInt32) ∧ post (((((kp_sb.getD i0 []).getD x1.toNatClampNeg 0) &&& 255 : Int32).toUInt32 % 65536).toInt32) T1)
set_option maxHeartbeats 4000000 in
set_option maxRecDepth 100000 in
theorem c_J1_charAt_3b067 (l : Launch) (D : va_G) (cy : Nat → ClassId) (ad : (Nat → Nat) × (Nat → Nat)) (S : kp_S) (i0 : Nat) (x1 : Int32) (post : Int32 → kp_S → Prop) (hS : kp_ok S) (f_i0 : i0 < kp_sN) (hw : wJ1_charAt_3b067 i0 x1 S post) : kp_M l yJ1_charAt_3b067 cJ1_charAt_3b067 2 (some .char) { frames := 2, cells := 0, slots := 0, locals := 43 } D cy ad S [.ref (ad.2 i0), .int x1] 0 0 (fun A => kp_Qi D cy A S post) := by
  refine kp_start (own := RJ1) (by decide) rfl (Nat.le_of_ble_eq_true rfl) hS ?_
  intro p e s m below meth c A ls X hr hlocks hname h hl
  have hle : kp_le S S := kp_le.rf
  have hl : lv_has ls 2 [(0, .ref (ad.2 i0)), (1, .int x1)] := hl
  unfold wJ1_charAt_3b067 at hw
  have h : kp_H D cy A S s.heap s.heap [] := h
  revert h
  intro h
  refine lv_iload_n X.1 X.2.1 dJ1_charAt_3b067_0 rfl (lv_at hl 1 rfl) ?_
  refine lv_aload_n X.1 X.2.1 dJ1_charAt_3b067_1 rfl (lv_at hl 0 rfl) ?_
  refine kp_slen X h f_i0 dJ1_charAt_3b067_2 ?_
  refine kp_callv X h (kp_runS (rm := { frames := 1, cells := 0, slots := 0, locals := 22 }) (mc := 0) (ms := 0) (rest := []) (Qc := fun A => kp_Qv D cy A S _) X h (c_J0_checkIndex_df160 l D cy ad S x1 (nI (kp_sl.getD i0 0)) _ h.2.2.2  hw) cs_J1_9 ⟨by decide, by decide, rfl, rfl, by decide, by decide⟩ rfl hl.1 rfl (Nat.le_of_ble_eq_true rfl) dJ1_charAt_3b067_3) (fun T1 hw l_T1 H locs h => ?_)
  have hle := hle.tr l_T1
  refine lv_aload_n X.1 X.2.1 dJ1_charAt_3b067_6 rfl (lv_at hl 0 rfl) ?_
  refine lv_iload_n X.1 X.2.1 dJ1_charAt_3b067_7 rfl (lv_at hl 1 rfl) ?_
  obtain ⟨hi, hw⟩ := hw
  refine kp_sbld X h f_i0 hi dJ1_charAt_3b067_8 ?_
  refine lv_sipush (v := 255) X.1 X.2.1 dJ1_charAt_3b067_9 (by decide) ?_
  refine lv_iand X.1 X.2.1 dJ1_charAt_3b067_12 ?_
  refine lv_i2c X.1 X.2.1 dJ1_charAt_3b067_13 rfl ?_
  exact kp_reti X hr hlocks h hle hw.1 hw.2 dJ1_charAt_3b067_14
def wJ2_charAt_3b067 (_i0 : Nat) (_x1 : Int32) (_S : kp_S) (_post : Int32 → kp_S → Prop) : Prop := False
theorem c_J2_charAt_3b067 (l : Launch) (D : va_G) (cy : Nat → ClassId) (ad : (Nat → Nat) × (Nat → Nat)) (S : kp_S) (i0 : Nat) (x1 : Int32) (post : Int32 → kp_S → Prop) (_hS : kp_ok S) (_f_i0 : i0 < kp_sN) (hw : wJ2_charAt_3b067 i0 x1 S post) : kp_M l yJ2_charAt_3b067 cJ2_charAt_3b067 2 (some .char) { frames := 0, cells := 0, slots := 0, locals := 0 } D cy ad S [.ref (ad.2 i0), .int x1] 0 0 (fun A => kp_Qi D cy A S post) := kp_never hw
theorem dJ0_charAt_5068e_0 : decode cJ0_charAt_5068e 0 = .ok (.aload_n 0, 1) := by decide +kernel
theorem dJ0_charAt_5068e_1 : decode cJ0_charAt_5068e 1 = .ok (.invokevirtual 492, 3) := by decide +kernel
theorem dJ0_charAt_5068e_4 : decode cJ0_charAt_5068e 4 = .ok (.ifCond .eq 12, 3) := by decide +kernel
theorem dJ0_charAt_5068e_7 : decode cJ0_charAt_5068e 7 = .ok (.aload_n 0, 1) := by decide +kernel
theorem dJ0_charAt_5068e_8 : decode cJ0_charAt_5068e 8 = .ok (.getfield 9, 3) := by decide +kernel
theorem dJ0_charAt_5068e_11 : decode cJ0_charAt_5068e 11 = .ok (.iload_n 1, 1) := by decide +kernel
theorem dJ0_charAt_5068e_12 : decode cJ0_charAt_5068e 12 = .ok (.invokestatic 495, 3) := by decide +kernel
theorem dJ0_charAt_5068e_15 : decode cJ0_charAt_5068e 15 = .ok (.ireturn, 1) := by decide +kernel
theorem dJ0_charAt_5068e_16 : decode cJ0_charAt_5068e 16 = .ok (.aload_n 0, 1) := by decide +kernel
theorem dJ0_charAt_5068e_17 : decode cJ0_charAt_5068e 17 = .ok (.getfield 9, 3) := by decide +kernel
theorem dJ0_charAt_5068e_20 : decode cJ0_charAt_5068e 20 = .ok (.iload_n 1, 1) := by decide +kernel
theorem dJ0_charAt_5068e_21 : decode cJ0_charAt_5068e 21 = .ok (.invokestatic 498, 3) := by decide +kernel
theorem dJ0_charAt_5068e_24 : decode cJ0_charAt_5068e 24 = .ok (.ireturn, 1) := by decide +kernel
def wJ0_charAt_5068e (i0 : Nat) (x1 : Int32) (S : kp_S) (post : Int32 → kp_S → Prop) : Prop :=
  wJ0_isLatin1_aae02 i0 S (fun y2 T1 =>
  ((y2 = 0 →
  wJ2_charAt_3b067 i0 x1 T1 (fun y4 T3 =>
  narrow .char (.int y4) = .int y4 ∧ post y4 T3)) ∧ (¬ y2 = 0 →
  wJ1_charAt_3b067 i0 x1 T1 (fun y6 T5 =>
  narrow .char (.int y6) = .int y6 ∧ post y6 T5))))
set_option maxHeartbeats 4000000 in
set_option maxRecDepth 100000 in
theorem c_J0_charAt_5068e (l : Launch) (D : va_G) (cy : Nat → ClassId) (ad : (Nat → Nat) × (Nat → Nat)) (S : kp_S) (i0 : Nat) (x1 : Int32) (post : Int32 → kp_S → Prop) (hS : kp_ok S) (f_i0 : i0 < kp_sN) (hw : wJ0_charAt_5068e i0 x1 S post) : kp_M l yJ0_charAt_5068e cJ0_charAt_5068e 2 (some .char) { frames := 3, cells := 0, slots := 0, locals := 64 } D cy ad S [.ref (ad.1 i0), .int x1] 0 0 (fun A => kp_Qi D cy A S post) := by
  refine kp_start (own := RJ0) (by decide) rfl (Nat.le_of_ble_eq_true rfl) hS ?_
  intro p e s m below meth c A ls X hr hlocks hname h hl
  have hle : kp_le S S := kp_le.rf
  have hl : lv_has ls 2 [(0, .ref (ad.1 i0)), (1, .int x1)] := hl
  unfold wJ0_charAt_5068e at hw
  have h : kp_H D cy A S s.heap s.heap [] := h
  revert h
  intro h
  refine lv_aload_n X.1 X.2.1 dJ0_charAt_5068e_0 rfl (lv_at hl 0 rfl) ?_
  refine kp_calli X h (kp_runVs (rm := { frames := 0, cells := 0, slots := 0, locals := 0 }) (mc := 0) (ms := 0) (rest := []) (Qc := fun A => kp_Qi D cy A S _) X h (c_J0_isLatin1_aae02 l D cy ad S i0 _ h.2.2.2 f_i0 hw) f_i0 cw_J0_492 ⟨by decide, by decide, rfl, rfl, by decide, by decide⟩ rfl hl.1 rfl (Nat.le_of_ble_eq_true rfl) dJ0_charAt_5068e_1) (fun y2 T1 hw l_T1 H locs h => ?_)
  have hle := hle.tr l_T1
  refine lv_if_eq (tgt := 16) X.1 X.2.1 dJ0_charAt_5068e_4 (by decide) (fun c7 => ?_) (fun c7 => ?_)
  · have hw := hw.1 c7
    refine lv_aload_n X.1 X.2.1 dJ0_charAt_5068e_16 rfl (lv_at hl 0 rfl) ?_
    refine kp_sval X h f_i0 gs_J0_9 dJ0_charAt_5068e_17 ?_
    refine lv_iload_n X.1 X.2.1 dJ0_charAt_5068e_20 rfl (lv_at hl 1 rfl) ?_
    refine kp_calli X h (kp_runS (rm := { frames := 0, cells := 0, slots := 0, locals := 0 }) (mc := 0) (ms := 0) (rest := []) (Qc := fun A => kp_Qi D cy A T1 _) X h (c_J2_charAt_3b067 l D cy ad T1 i0 x1 _ h.2.2.2 f_i0 hw) cs_J0_498 ⟨by decide, by decide, rfl, rfl, by decide, by decide⟩ rfl hl.1 rfl (Nat.le_of_ble_eq_true rfl) dJ0_charAt_5068e_21) (fun y4 T3 hw l_T3 H locs h => ?_)
    have hle := hle.tr l_T3
    exact kp_reti X hr hlocks h hle hw.1 hw.2 dJ0_charAt_5068e_24
  · have hw := hw.2 c7
    refine lv_aload_n X.1 X.2.1 dJ0_charAt_5068e_7 rfl (lv_at hl 0 rfl) ?_
    refine kp_sval X h f_i0 gs_J0_9 dJ0_charAt_5068e_8 ?_
    refine lv_iload_n X.1 X.2.1 dJ0_charAt_5068e_11 rfl (lv_at hl 1 rfl) ?_
    refine kp_calli X h (kp_runS (rm := { frames := 2, cells := 0, slots := 0, locals := 43 }) (mc := 0) (ms := 0) (rest := []) (Qc := fun A => kp_Qi D cy A T1 _) X h (c_J1_charAt_3b067 l D cy ad T1 i0 x1 _ h.2.2.2 f_i0 hw) cs_J0_495 ⟨by decide, by decide, rfl, rfl, by decide, by decide⟩ rfl hl.1 rfl (Nat.le_of_ble_eq_true rfl) dJ0_charAt_5068e_12) (fun y6 T5 hw l_T5 H locs h => ?_)
    have hle := hle.tr l_T5
    exact kp_reti X hr hlocks h hle hw.1 hw.2 dJ0_charAt_5068e_15
theorem dJ1_canEncode_9a6ad_0 : decode cJ1_canEncode_9a6ad 0 = .ok (.iload_n 0, 1) := by decide +kernel
theorem dJ1_canEncode_9a6ad_1 : decode cJ1_canEncode_9a6ad 1 = .ok (.ifCond .lt 14, 3) := by decide +kernel
theorem dJ1_canEncode_9a6ad_4 : decode cJ1_canEncode_9a6ad 4 = .ok (.iload_n 0, 1) := by decide +kernel
theorem dJ1_canEncode_9a6ad_5 : decode cJ1_canEncode_9a6ad 5 = .ok (.sipush 255, 3) := by decide +kernel
theorem dJ1_canEncode_9a6ad_8 : decode cJ1_canEncode_9a6ad 8 = .ok (.if_icmp .gt 7, 3) := by decide +kernel
theorem dJ1_canEncode_9a6ad_11 : decode cJ1_canEncode_9a6ad 11 = .ok (.iconst 1, 1) := by decide +kernel
theorem dJ1_canEncode_9a6ad_12 : decode cJ1_canEncode_9a6ad 12 = .ok (.goto 4, 3) := by decide +kernel
theorem dJ1_canEncode_9a6ad_15 : decode cJ1_canEncode_9a6ad 15 = .ok (.iconst 0, 1) := by decide +kernel
theorem dJ1_canEncode_9a6ad_16 : decode cJ1_canEncode_9a6ad 16 = .ok (.ireturn, 1) := by decide +kernel
def wJ1_canEncode_9a6ad_b16 (x0 : Int32) (xt0 : Int32)  (Sn : kp_S) (post : Int32 → kp_S → Prop) : Prop :=
  kp_b xt0 ∧ post xt0 Sn
def wJ1_canEncode_9a6ad_b15 (x0 : Int32)  (Sn : kp_S) (post : Int32 → kp_S → Prop) : Prop :=
  wJ1_canEncode_9a6ad_b16 x0 0  Sn post
def wJ1_canEncode_9a6ad (x0 : Int32) (S : kp_S) (post : Int32 → kp_S → Prop) : Prop :=
  ((x0 < 0 →
  wJ1_canEncode_9a6ad_b15 x0   S post) ∧ (¬ x0 < 0 →
  ((255 < x0 →
  wJ1_canEncode_9a6ad_b15 x0   S post) ∧ (¬ 255 < x0 →
  wJ1_canEncode_9a6ad_b16 x0 1  S post))))
set_option maxHeartbeats 4000000 in
set_option maxRecDepth 100000 in
theorem c_J1_canEncode_9a6ad (l : Launch) (D : va_G) (cy : Nat → ClassId) (ad : (Nat → Nat) × (Nat → Nat)) (S : kp_S) (x0 : Int32) (post : Int32 → kp_S → Prop) (hS : kp_ok S)  (hw : wJ1_canEncode_9a6ad x0 S post) : kp_M l yJ1_canEncode_9a6ad cJ1_canEncode_9a6ad 1 (some .boolean) { frames := 0, cells := 0, slots := 0, locals := 0 } D cy ad S [.int x0] 0 0 (fun A => kp_Qi D cy A S post) := by
  refine kp_start (own := RJ1) (by decide) rfl (Nat.le_of_ble_eq_true rfl) hS ?_
  intro p e s m below meth c A ls X hr hlocks hname h hl
  have hle : kp_le S S := kp_le.rf
  have hl : lv_has ls 1 [(0, .int x0)] := hl
  have j16 : ∀ (xt0 : Int32) (Sn : kp_S) (H : Heap) (locs : List Loc) (ls : Array Slot), lv_has ls 1 [] → kp_H D cy A Sn s.heap H locs → kp_le S Sn → wJ1_canEncode_9a6ad_b16 x0 xt0  Sn post → W p l e { frames := 0, cells := 0, slots := 0, locals := 0 } s m ([.int x0] : List Value).toArray below meth c H locs 0 0 (MQ below (kp_Qi D cy A S post) ([.int x0] : List Value).toArray s 0 0 A) (F0 m 16 ls [.int xt0]) := by
    intro xt0 Sn H locs ls hl h hle  hw
    unfold wJ1_canEncode_9a6ad_b16 at hw
    exact kp_reti X hr hlocks h hle (kp_bz hw.1).1 hw.2 dJ1_canEncode_9a6ad_16
  have j15 : ∀  (Sn : kp_S) (H : Heap) (locs : List Loc) (ls : Array Slot), lv_has ls 1 [] → kp_H D cy A Sn s.heap H locs → kp_le S Sn → wJ1_canEncode_9a6ad_b15 x0   Sn post → W p l e { frames := 0, cells := 0, slots := 0, locals := 0 } s m ([.int x0] : List Value).toArray below meth c H locs 0 0 (MQ below (kp_Qi D cy A S post) ([.int x0] : List Value).toArray s 0 0 A) (F0 m 15 ls []) := by
    intro  Sn H locs ls hl h hle  hw
    unfold wJ1_canEncode_9a6ad_b15 at hw
    refine lv_iconst (v := 0) X.1 X.2.1 dJ1_canEncode_9a6ad_15 (by decide) ?_
    exact j16 0 Sn H locs ls (lv_sub hl [] rfl) h hle  hw
  unfold wJ1_canEncode_9a6ad at hw
  have h : kp_H D cy A S s.heap s.heap [] := h
  revert h
  intro h
  refine lv_iload_n X.1 X.2.1 dJ1_canEncode_9a6ad_0 rfl (lv_at hl 0 rfl) ?_
  refine lv_if_lt (tgt := 15) X.1 X.2.1 dJ1_canEncode_9a6ad_1 (by decide) (fun c2 => ?_) (fun c2 => ?_)
  · have hw := hw.1 c2
    exact j15  S _ _ ls (lv_sub hl [] rfl) h hle  hw
  · have hw := hw.2 c2
    refine lv_iload_n X.1 X.2.1 dJ1_canEncode_9a6ad_4 rfl (lv_at hl 0 rfl) ?_
    refine lv_sipush (v := 255) X.1 X.2.1 dJ1_canEncode_9a6ad_5 (by decide) ?_
    refine lv_icmp_gt (tgt := 15) X.1 X.2.1 dJ1_canEncode_9a6ad_8 (by decide) (fun c1 => ?_) (fun c1 => ?_)
    · have hw := hw.1 c1
      exact j15  S _ _ ls (lv_sub hl [] rfl) h hle  hw
    · have hw := hw.2 c1
      refine lv_iconst (v := 1) X.1 X.2.1 dJ1_canEncode_9a6ad_11 (by decide) ?_
      refine lv_goto (tgt := 16) X.1 X.2.1 dJ1_canEncode_9a6ad_12 (by decide) ?_
      exact j16 1 S _ _ ls (lv_sub hl [] rfl) h hle  hw
theorem dJ1_indexOfChar_4cfef_0 : decode cJ1_indexOfChar_4cfef 0 = .ok (.iload_n 1, 1) := by decide +kernel
theorem dJ1_indexOfChar_4cfef_1 : decode cJ1_indexOfChar_4cfef 1 = .ok (.i2b, 1) := by decide +kernel
theorem dJ1_indexOfChar_4cfef_2 : decode cJ1_indexOfChar_4cfef 2 = .ok (.istore 4, 2) := by decide +kernel
theorem dJ1_indexOfChar_4cfef_4 : decode cJ1_indexOfChar_4cfef 4 = .ok (.iload_n 2, 1) := by decide +kernel
theorem dJ1_indexOfChar_4cfef_5 : decode cJ1_indexOfChar_4cfef 5 = .ok (.istore 5, 2) := by decide +kernel
theorem dJ1_indexOfChar_4cfef_7 : decode cJ1_indexOfChar_4cfef 7 = .ok (.iload 5, 2) := by decide +kernel
theorem dJ1_indexOfChar_4cfef_9 : decode cJ1_indexOfChar_4cfef 9 = .ok (.iload_n 3, 1) := by decide +kernel
theorem dJ1_indexOfChar_4cfef_10 : decode cJ1_indexOfChar_4cfef 10 = .ok (.if_icmp .ge 21, 3) := by decide +kernel
theorem dJ1_indexOfChar_4cfef_13 : decode cJ1_indexOfChar_4cfef 13 = .ok (.aload_n 0, 1) := by decide +kernel
theorem dJ1_indexOfChar_4cfef_14 : decode cJ1_indexOfChar_4cfef 14 = .ok (.iload 5, 2) := by decide +kernel
theorem dJ1_indexOfChar_4cfef_16 : decode cJ1_indexOfChar_4cfef 16 = .ok (.baload, 1) := by decide +kernel
theorem dJ1_indexOfChar_4cfef_17 : decode cJ1_indexOfChar_4cfef 17 = .ok (.iload 4, 2) := by decide +kernel
theorem dJ1_indexOfChar_4cfef_19 : decode cJ1_indexOfChar_4cfef 19 = .ok (.if_icmp .ne 6, 3) := by decide +kernel
theorem dJ1_indexOfChar_4cfef_22 : decode cJ1_indexOfChar_4cfef 22 = .ok (.iload 5, 2) := by decide +kernel
theorem dJ1_indexOfChar_4cfef_24 : decode cJ1_indexOfChar_4cfef 24 = .ok (.ireturn, 1) := by decide +kernel
theorem dJ1_indexOfChar_4cfef_25 : decode cJ1_indexOfChar_4cfef 25 = .ok (.iinc 5 1, 3) := by decide +kernel
theorem dJ1_indexOfChar_4cfef_28 : decode cJ1_indexOfChar_4cfef 28 = .ok (.goto (-21), 3) := by decide +kernel
theorem dJ1_indexOfChar_4cfef_31 : decode cJ1_indexOfChar_4cfef 31 = .ok (.iconst (-1), 1) := by decide +kernel
theorem dJ1_indexOfChar_4cfef_32 : decode cJ1_indexOfChar_4cfef 32 = .ok (.ireturn, 1) := by decide +kernel
def wJ1_indexOfChar_4cfef_L7 (i0 : Nat) (x1 : Int32) (x2 : Int32) (x3 : Int32)  (post : Int32 → kp_S → Prop) : Nat → Int32 → Int32 → kp_S → Prop
  | 0, _, _, _ => False
  | n + 1, xn4, xn5, Sn =>
  ((x3 ≤ xn5 →
  post (-1) Sn) ∧ (¬ x3 ≤ xn5 →
  vp_in xn5 (kp_sl.getD i0 0) ∧
  ((¬ ((kp_sb.getD i0 []).getD xn5.toNatClampNeg 0) = xn4 →
  ∀ y1001 : Int32, y1001 = xn5 + 1 →
  wJ1_indexOfChar_4cfef_L7 i0 x1 x2 x3  post n xn4 y1001 Sn) ∧ (((kp_sb.getD i0 []).getD xn5.toNatClampNeg 0) = xn4 →
  post xn5 Sn))))
def wJ1_indexOfChar_4cfef (i0 : Nat) (x1 : Int32) (x2 : Int32) (x3 : Int32) (S : kp_S) (post : Int32 → kp_S → Prop) : Prop :=
  ∀ y1 : Int32, y1 = ((x1 : Int32).toInt8.toInt32) →
  ∃ n0 : Nat, wJ1_indexOfChar_4cfef_L7 i0 x1 x2 x3  post n0 y1 x2 S
set_option maxHeartbeats 4000000 in
set_option maxRecDepth 100000 in
theorem c_J1_indexOfChar_4cfef (l : Launch) (D : va_G) (cy : Nat → ClassId) (ad : (Nat → Nat) × (Nat → Nat)) (S : kp_S) (i0 : Nat) (x1 : Int32) (x2 : Int32) (x3 : Int32) (post : Int32 → kp_S → Prop) (hS : kp_ok S) (f_i0 : i0 < kp_sN) (hw : wJ1_indexOfChar_4cfef i0 x1 x2 x3 S post) : kp_M l yJ1_indexOfChar_4cfef cJ1_indexOfChar_4cfef 6 (some .int) { frames := 0, cells := 0, slots := 0, locals := 0 } D cy ad S [.ref (ad.2 i0), .int x1, .int x2, .int x3] 0 0 (fun A => kp_Qi D cy A S post) := by
  refine kp_start (own := RJ1) (by decide) rfl (Nat.le_of_ble_eq_true rfl) hS ?_
  intro p e s m below meth c A ls X hr hlocks hname h hl
  have hle : kp_le S S := kp_le.rf
  have hl : lv_has ls 6 [(0, .ref (ad.2 i0)), (1, .int x1), (2, .int x2), (3, .int x3)] := hl
  have L7 : ∀ n7 : Nat, ∀ (xn4 : Int32) (xn5 : Int32) (Sn : kp_S) (H : Heap) (locs : List Loc) (ls : Array Slot), lv_has ls 6 [(0, .ref (ad.2 i0)), (3, .int x3), (4, .int xn4), (5, .int xn5)] → kp_H D cy A Sn s.heap H locs → kp_le S Sn → wJ1_indexOfChar_4cfef_L7 i0 x1 x2 x3  post n7 xn4 xn5 Sn → W p l e { frames := 0, cells := 0, slots := 0, locals := 0 } s m ([.ref (ad.2 i0), .int x1, .int x2, .int x3] : List Value).toArray below meth c H locs 0 0 (MQ below (kp_Qi D cy A S post) ([.ref (ad.2 i0), .int x1, .int x2, .int x3] : List Value).toArray s 0 0 A) (F0 m 7 ls []) := by
    intro n7
    induction n7 with
    | zero => intro xn4 xn5 Sn H locs ls hl h hle  hw; exact hw.elim
    | succ n7 ih7 =>
      intro xn4 xn5 Sn H locs ls hl h hle  hw
      unfold wJ1_indexOfChar_4cfef_L7 at hw
      refine lv_iload X.1 X.2.1 dJ1_indexOfChar_4cfef_7 (lv_at hl 3 rfl) ?_
      refine lv_iload_n X.1 X.2.1 dJ1_indexOfChar_4cfef_9 rfl (lv_at hl 1 rfl) ?_
      refine lv_icmp_ge (tgt := 31) X.1 X.2.1 dJ1_indexOfChar_4cfef_10 (by decide) (fun c1003 => ?_) (fun c1003 => ?_)
      · have hw := hw.1 c1003
        refine lv_iconst (v := (-1)) X.1 X.2.1 dJ1_indexOfChar_4cfef_31 (by decide) ?_
        exact kp_reti X hr hlocks h hle rfl hw dJ1_indexOfChar_4cfef_32
      · have hw := hw.2 c1003
        refine lv_aload_n X.1 X.2.1 dJ1_indexOfChar_4cfef_13 rfl (lv_at hl 0 rfl) ?_
        refine lv_iload X.1 X.2.1 dJ1_indexOfChar_4cfef_14 (lv_at hl 3 rfl) ?_
        obtain ⟨hi, hw⟩ := hw
        refine kp_sbld X h f_i0 hi dJ1_indexOfChar_4cfef_16 ?_
        refine lv_iload X.1 X.2.1 dJ1_indexOfChar_4cfef_17 (lv_at hl 2 rfl) ?_
        refine lv_icmp_ne (tgt := 25) X.1 X.2.1 dJ1_indexOfChar_4cfef_19 (by decide) (fun c1002 => ?_) (fun c1002 => ?_)
        · have hw := hw.1 c1002
          obtain ⟨y1001, e_y1001⟩ : ∃ y : Int32, y = xn5 + 1 := ⟨_, rfl⟩
          have hw := hw y1001 e_y1001
          refine lv_iinc (v := y1001) (lv' := [(5, .int y1001), (0, .ref (ad.2 i0)), (3, .int x3), (4, .int xn4)]) X.1 X.2.1 dJ1_indexOfChar_4cfef_25 hl (k := 3) rfl (by rw [e_y1001]; rfl) (by decide) rfl (fun ls hl => ?_)
          refine lv_goto (tgt := 7) X.1 X.2.1 dJ1_indexOfChar_4cfef_28 (by decide) ?_
          exact ih7 xn4 y1001 Sn H locs ls (lv_sub hl [1, 2, 3, 0] rfl) h hle  hw
        · have hw := hw.2 c1002
          refine lv_iload X.1 X.2.1 dJ1_indexOfChar_4cfef_22 (lv_at hl 3 rfl) ?_
          exact kp_reti X hr hlocks h hle rfl hw dJ1_indexOfChar_4cfef_24
  unfold wJ1_indexOfChar_4cfef at hw
  have h : kp_H D cy A S s.heap s.heap [] := h
  revert h
  intro h
  refine lv_iload_n X.1 X.2.1 dJ1_indexOfChar_4cfef_0 rfl (lv_at hl 1 rfl) ?_
  refine lv_i2b X.1 X.2.1 dJ1_indexOfChar_4cfef_1 rfl ?_
  refine lv_topi (fun y1 e_y1 => ?_)
  have hw := hw y1 e_y1
  refine lv_istore (lv' := [(4, .int y1), (0, .ref (ad.2 i0)), (1, .int x1), (2, .int x2), (3, .int x3)]) X.1 X.2.1 dJ1_indexOfChar_4cfef_2 hl (by decide) rfl (fun ls hl => ?_)
  refine lv_iload_n X.1 X.2.1 dJ1_indexOfChar_4cfef_4 rfl (lv_at hl 3 rfl) ?_
  refine lv_istore (lv' := [(5, .int x2), (4, .int y1), (0, .ref (ad.2 i0)), (1, .int x1), (2, .int x2), (3, .int x3)]) X.1 X.2.1 dJ1_indexOfChar_4cfef_5 hl (by decide) rfl (fun ls hl => ?_)
  obtain ⟨n0, hw⟩ := hw
  exact L7 n0 y1 x2 S _ _ ls (lv_sub hl [2, 5, 1, 0] rfl) h hle  hw
theorem dJ1_indexOf_4cfef_0 : decode cJ1_indexOf_4cfef 0 = .ok (.iload_n 1, 1) := by decide +kernel
theorem dJ1_indexOf_4cfef_1 : decode cJ1_indexOf_4cfef 1 = .ok (.invokestatic 88, 3) := by decide +kernel
theorem dJ1_indexOf_4cfef_4 : decode cJ1_indexOf_4cfef 4 = .ok (.ifCond .ne 5, 3) := by decide +kernel
theorem dJ1_indexOf_4cfef_7 : decode cJ1_indexOf_4cfef 7 = .ok (.iconst (-1), 1) := by decide +kernel
theorem dJ1_indexOf_4cfef_8 : decode cJ1_indexOf_4cfef 8 = .ok (.ireturn, 1) := by decide +kernel
theorem dJ1_indexOf_4cfef_9 : decode cJ1_indexOf_4cfef 9 = .ok (.iload_n 2, 1) := by decide +kernel
theorem dJ1_indexOf_4cfef_10 : decode cJ1_indexOf_4cfef 10 = .ok (.iconst 0, 1) := by decide +kernel
theorem dJ1_indexOf_4cfef_11 : decode cJ1_indexOf_4cfef 11 = .ok (.invokestatic 92, 3) := by decide +kernel
theorem dJ1_indexOf_4cfef_14 : decode cJ1_indexOf_4cfef 14 = .ok (.istore_n 2, 1) := by decide +kernel
theorem dJ1_indexOf_4cfef_15 : decode cJ1_indexOf_4cfef 15 = .ok (.iload_n 3, 1) := by decide +kernel
theorem dJ1_indexOf_4cfef_16 : decode cJ1_indexOf_4cfef 16 = .ok (.aload_n 0, 1) := by decide +kernel
theorem dJ1_indexOf_4cfef_17 : decode cJ1_indexOf_4cfef 17 = .ok (.arraylength, 1) := by decide +kernel
theorem dJ1_indexOf_4cfef_18 : decode cJ1_indexOf_4cfef 18 = .ok (.invokestatic 38, 3) := by decide +kernel
theorem dJ1_indexOf_4cfef_21 : decode cJ1_indexOf_4cfef 21 = .ok (.istore_n 3, 1) := by decide +kernel
theorem dJ1_indexOf_4cfef_22 : decode cJ1_indexOf_4cfef 22 = .ok (.iload_n 2, 1) := by decide +kernel
theorem dJ1_indexOf_4cfef_23 : decode cJ1_indexOf_4cfef 23 = .ok (.iload_n 3, 1) := by decide +kernel
theorem dJ1_indexOf_4cfef_24 : decode cJ1_indexOf_4cfef 24 = .ok (.if_icmp .lt 5, 3) := by decide +kernel
theorem dJ1_indexOf_4cfef_27 : decode cJ1_indexOf_4cfef 27 = .ok (.iconst (-1), 1) := by decide +kernel
theorem dJ1_indexOf_4cfef_28 : decode cJ1_indexOf_4cfef 28 = .ok (.ireturn, 1) := by decide +kernel
theorem dJ1_indexOf_4cfef_29 : decode cJ1_indexOf_4cfef 29 = .ok (.aload_n 0, 1) := by decide +kernel
theorem dJ1_indexOf_4cfef_30 : decode cJ1_indexOf_4cfef 30 = .ok (.iload_n 1, 1) := by decide +kernel
theorem dJ1_indexOf_4cfef_31 : decode cJ1_indexOf_4cfef 31 = .ok (.iload_n 2, 1) := by decide +kernel
theorem dJ1_indexOf_4cfef_32 : decode cJ1_indexOf_4cfef 32 = .ok (.iload_n 3, 1) := by decide +kernel
theorem dJ1_indexOf_4cfef_33 : decode cJ1_indexOf_4cfef 33 = .ok (.invokestatic 95, 3) := by decide +kernel
theorem dJ1_indexOf_4cfef_36 : decode cJ1_indexOf_4cfef 36 = .ok (.ireturn, 1) := by decide +kernel
def wJ1_indexOf_4cfef (i0 : Nat) (x1 : Int32) (x2 : Int32) (x3 : Int32) (S : kp_S) (post : Int32 → kp_S → Prop) : Prop :=
  wJ1_canEncode_9a6ad x1 S (fun y2 T1 =>
  ((¬ y2 = 0 →
  ∀ y3 : Int32, y3 = (if x2 < (0 : Int32) then 0 else x2) →
  ∀ y4 : Int32, y4 = (if (nI (kp_sl.getD i0 0)) < x3 then (nI (kp_sl.getD i0 0)) else x3) →
  ((y3 < y4 →
  wJ1_indexOfChar_4cfef i0 x1 y3 y4 T1 (fun y6 T5 =>
  post y6 T5)) ∧ (¬ y3 < y4 →
  post (-1) T1))) ∧ (y2 = 0 →
  post (-1) T1)))
set_option maxHeartbeats 4000000 in
set_option maxRecDepth 100000 in
theorem c_J1_indexOf_4cfef (l : Launch) (D : va_G) (cy : Nat → ClassId) (ad : (Nat → Nat) × (Nat → Nat)) (S : kp_S) (i0 : Nat) (x1 : Int32) (x2 : Int32) (x3 : Int32) (post : Int32 → kp_S → Prop) (hS : kp_ok S) (f_i0 : i0 < kp_sN) (hw : wJ1_indexOf_4cfef i0 x1 x2 x3 S post) : kp_M l yJ1_indexOf_4cfef cJ1_indexOf_4cfef 4 (some .int) { frames := 1, cells := 0, slots := 0, locals := 25 } D cy ad S [.ref (ad.2 i0), .int x1, .int x2, .int x3] 0 0 (fun A => kp_Qi D cy A S post) := by
  refine kp_start (own := RJ1) (by decide) rfl (Nat.le_of_ble_eq_true rfl) hS ?_
  intro p e s m below meth c A ls X hr hlocks hname h hl
  have hle : kp_le S S := kp_le.rf
  have hl : lv_has ls 4 [(0, .ref (ad.2 i0)), (1, .int x1), (2, .int x2), (3, .int x3)] := hl
  unfold wJ1_indexOf_4cfef at hw
  have h : kp_H D cy A S s.heap s.heap [] := h
  revert h
  intro h
  refine lv_iload_n X.1 X.2.1 dJ1_indexOf_4cfef_0 rfl (lv_at hl 1 rfl) ?_
  refine kp_calli X h (kp_runS (rm := { frames := 0, cells := 0, slots := 0, locals := 0 }) (mc := 0) (ms := 0) (rest := []) (Qc := fun A => kp_Qi D cy A S _) X h (c_J1_canEncode_9a6ad l D cy ad S x1 _ h.2.2.2  hw) cs_J1_88 ⟨by decide, by decide, rfl, rfl, by decide, by decide⟩ rfl hl.1 rfl (Nat.le_of_ble_eq_true rfl) dJ1_indexOf_4cfef_1) (fun y2 T1 hw l_T1 H locs h => ?_)
  have hle := hle.tr l_T1
  refine lv_if_ne (tgt := 9) X.1 X.2.1 dJ1_indexOf_4cfef_4 (by decide) (fun c8 => ?_) (fun c8 => ?_)
  · have hw := hw.1 c8
    refine lv_iload_n X.1 X.2.1 dJ1_indexOf_4cfef_9 rfl (lv_at hl 2 rfl) ?_
    refine lv_iconst (v := 0) X.1 X.2.1 dJ1_indexOf_4cfef_10 (by decide) ?_
    refine kp_mmax X hl.1 mm_J1_92 (by decide) (Nat.le_of_ble_eq_true rfl) (by decide) (by decide) dJ1_indexOf_4cfef_11 ?_
    refine lv_topi (fun y3 e_y3 => ?_)
    have hw := hw y3 e_y3
    refine lv_istore_n (lv' := [(2, .int y3), (0, .ref (ad.2 i0)), (1, .int x1), (3, .int x3)]) X.1 X.2.1 dJ1_indexOf_4cfef_14 rfl hl (by decide) rfl (fun ls hl => ?_)
    refine lv_iload_n X.1 X.2.1 dJ1_indexOf_4cfef_15 rfl (lv_at hl 3 rfl) ?_
    refine lv_aload_n X.1 X.2.1 dJ1_indexOf_4cfef_16 rfl (lv_at hl 1 rfl) ?_
    refine kp_slen X h f_i0 dJ1_indexOf_4cfef_17 ?_
    refine kp_mmin X hl.1 mm_J1_38 (by decide) (Nat.le_of_ble_eq_true rfl) (by decide) (by decide) dJ1_indexOf_4cfef_18 ?_
    refine lv_topi (fun y4 e_y4 => ?_)
    have hw := hw y4 e_y4
    refine lv_istore_n (lv' := [(3, .int y4), (2, .int y3), (0, .ref (ad.2 i0)), (1, .int x1)]) X.1 X.2.1 dJ1_indexOf_4cfef_21 rfl hl (by decide) rfl (fun ls hl => ?_)
    refine lv_iload_n X.1 X.2.1 dJ1_indexOf_4cfef_22 rfl (lv_at hl 1 rfl) ?_
    refine lv_iload_n X.1 X.2.1 dJ1_indexOf_4cfef_23 rfl (lv_at hl 0 rfl) ?_
    refine lv_icmp_lt (tgt := 29) X.1 X.2.1 dJ1_indexOf_4cfef_24 (by decide) (fun c7 => ?_) (fun c7 => ?_)
    · have hw := hw.1 c7
      refine lv_aload_n X.1 X.2.1 dJ1_indexOf_4cfef_29 rfl (lv_at hl 2 rfl) ?_
      refine lv_iload_n X.1 X.2.1 dJ1_indexOf_4cfef_30 rfl (lv_at hl 3 rfl) ?_
      refine lv_iload_n X.1 X.2.1 dJ1_indexOf_4cfef_31 rfl (lv_at hl 1 rfl) ?_
      refine lv_iload_n X.1 X.2.1 dJ1_indexOf_4cfef_32 rfl (lv_at hl 0 rfl) ?_
      refine kp_calli X h (kp_runS (rm := { frames := 0, cells := 0, slots := 0, locals := 0 }) (mc := 0) (ms := 0) (rest := []) (Qc := fun A => kp_Qi D cy A T1 _) X h (c_J1_indexOfChar_4cfef l D cy ad T1 i0 x1 y3 y4 _ h.2.2.2 f_i0 hw) cs_J1_95 ⟨by decide, by decide, rfl, rfl, by decide, by decide⟩ rfl hl.1 rfl (Nat.le_of_ble_eq_true rfl) dJ1_indexOf_4cfef_33) (fun y6 T5 hw l_T5 H locs h => ?_)
      have hle := hle.tr l_T5
      exact kp_reti X hr hlocks h hle rfl hw dJ1_indexOf_4cfef_36
    · have hw := hw.2 c7
      refine lv_iconst (v := (-1)) X.1 X.2.1 dJ1_indexOf_4cfef_27 (by decide) ?_
      exact kp_reti X hr hlocks h hle rfl hw dJ1_indexOf_4cfef_28
  · have hw := hw.2 c8
    refine lv_iconst (v := (-1)) X.1 X.2.1 dJ1_indexOf_4cfef_7 (by decide) ?_
    exact kp_reti X hr hlocks h hle rfl hw dJ1_indexOf_4cfef_8
def wJ2_indexOf_4cfef (_i0 : Nat) (_x1 : Int32) (_x2 : Int32) (_x3 : Int32) (_S : kp_S) (_post : Int32 → kp_S → Prop) : Prop := False
theorem c_J2_indexOf_4cfef (l : Launch) (D : va_G) (cy : Nat → ClassId) (ad : (Nat → Nat) × (Nat → Nat)) (S : kp_S) (i0 : Nat) (x1 : Int32) (x2 : Int32) (x3 : Int32) (post : Int32 → kp_S → Prop) (_hS : kp_ok S) (_f_i0 : i0 < kp_sN) (hw : wJ2_indexOf_4cfef i0 x1 x2 x3 S post) : kp_M l yJ2_indexOf_4cfef cJ2_indexOf_4cfef 4 (some .int) { frames := 0, cells := 0, slots := 0, locals := 0 } D cy ad S [.ref (ad.2 i0), .int x1, .int x2, .int x3] 0 0 (fun A => kp_Qi D cy A S post) := kp_never hw
theorem dJ0_indexOf_7cf53_0 : decode cJ0_indexOf_7cf53 0 = .ok (.aload_n 0, 1) := by decide +kernel
theorem dJ0_indexOf_7cf53_1 : decode cJ0_indexOf_7cf53 1 = .ok (.invokevirtual 492, 3) := by decide +kernel
theorem dJ0_indexOf_7cf53_4 : decode cJ0_indexOf_7cf53 4 = .ok (.ifCond .eq 19, 3) := by decide +kernel
theorem dJ0_indexOf_7cf53_7 : decode cJ0_indexOf_7cf53 7 = .ok (.aload_n 0, 1) := by decide +kernel
theorem dJ0_indexOf_7cf53_8 : decode cJ0_indexOf_7cf53 8 = .ok (.getfield 9, 3) := by decide +kernel
theorem dJ0_indexOf_7cf53_11 : decode cJ0_indexOf_7cf53 11 = .ok (.iload_n 1, 1) := by decide +kernel
theorem dJ0_indexOf_7cf53_12 : decode cJ0_indexOf_7cf53 12 = .ok (.iload_n 2, 1) := by decide +kernel
theorem dJ0_indexOf_7cf53_13 : decode cJ0_indexOf_7cf53 13 = .ok (.aload_n 0, 1) := by decide +kernel
theorem dJ0_indexOf_7cf53_14 : decode cJ0_indexOf_7cf53 14 = .ok (.invokevirtual 505, 3) := by decide +kernel
theorem dJ0_indexOf_7cf53_17 : decode cJ0_indexOf_7cf53 17 = .ok (.invokestatic 637, 3) := by decide +kernel
theorem dJ0_indexOf_7cf53_20 : decode cJ0_indexOf_7cf53 20 = .ok (.goto 16, 3) := by decide +kernel
theorem dJ0_indexOf_7cf53_23 : decode cJ0_indexOf_7cf53 23 = .ok (.aload_n 0, 1) := by decide +kernel
theorem dJ0_indexOf_7cf53_24 : decode cJ0_indexOf_7cf53 24 = .ok (.getfield 9, 3) := by decide +kernel
theorem dJ0_indexOf_7cf53_27 : decode cJ0_indexOf_7cf53 27 = .ok (.iload_n 1, 1) := by decide +kernel
theorem dJ0_indexOf_7cf53_28 : decode cJ0_indexOf_7cf53 28 = .ok (.iload_n 2, 1) := by decide +kernel
theorem dJ0_indexOf_7cf53_29 : decode cJ0_indexOf_7cf53 29 = .ok (.aload_n 0, 1) := by decide +kernel
theorem dJ0_indexOf_7cf53_30 : decode cJ0_indexOf_7cf53 30 = .ok (.invokevirtual 505, 3) := by decide +kernel
theorem dJ0_indexOf_7cf53_33 : decode cJ0_indexOf_7cf53 33 = .ok (.invokestatic 640, 3) := by decide +kernel
theorem dJ0_indexOf_7cf53_36 : decode cJ0_indexOf_7cf53 36 = .ok (.ireturn, 1) := by decide +kernel
def wJ0_indexOf_7cf53_b36 (i0 : Nat) (x1 : Int32) (x2 : Int32) (xt0 : Int32)  (Sn : kp_S) (post : Int32 → kp_S → Prop) : Prop :=
  post xt0 Sn
def wJ0_indexOf_7cf53 (i0 : Nat) (x1 : Int32) (x2 : Int32) (S : kp_S) (post : Int32 → kp_S → Prop) : Prop :=
  wJ0_isLatin1_aae02 i0 S (fun y2 T1 =>
  ((y2 = 0 →
  wJ0_length_8abf5 i0 T1 (fun y4 T3 =>
  wJ2_indexOf_4cfef i0 x1 x2 y4 T3 (fun y6 T5 =>
  wJ0_indexOf_7cf53_b36 i0 x1 x2 y6  T5 post))) ∧ (¬ y2 = 0 →
  wJ0_length_8abf5 i0 T1 (fun y8 T7 =>
  wJ1_indexOf_4cfef i0 x1 x2 y8 T7 (fun y10 T9 =>
  wJ0_indexOf_7cf53_b36 i0 x1 x2 y10  T9 post)))))
set_option maxHeartbeats 4000000 in
set_option maxRecDepth 100000 in
theorem c_J0_indexOf_7cf53 (l : Launch) (D : va_G) (cy : Nat → ClassId) (ad : (Nat → Nat) × (Nat → Nat)) (S : kp_S) (i0 : Nat) (x1 : Int32) (x2 : Int32) (post : Int32 → kp_S → Prop) (hS : kp_ok S) (f_i0 : i0 < kp_sN) (hw : wJ0_indexOf_7cf53 i0 x1 x2 S post) : kp_M l yJ0_indexOf_7cf53 cJ0_indexOf_7cf53 3 (some .int) { frames := 2, cells := 0, slots := 0, locals := 48 } D cy ad S [.ref (ad.1 i0), .int x1, .int x2] 0 0 (fun A => kp_Qi D cy A S post) := by
  refine kp_start (own := RJ0) (by decide) rfl (Nat.le_of_ble_eq_true rfl) hS ?_
  intro p e s m below meth c A ls X hr hlocks hname h hl
  have hle : kp_le S S := kp_le.rf
  have hl : lv_has ls 3 [(0, .ref (ad.1 i0)), (1, .int x1), (2, .int x2)] := hl
  have j36 : ∀ (xt0 : Int32) (Sn : kp_S) (H : Heap) (locs : List Loc) (ls : Array Slot), lv_has ls 3 [] → kp_H D cy A Sn s.heap H locs → kp_le S Sn → wJ0_indexOf_7cf53_b36 i0 x1 x2 xt0  Sn post → W p l e { frames := 2, cells := 0, slots := 0, locals := 48 } s m ([.ref (ad.1 i0), .int x1, .int x2] : List Value).toArray below meth c H locs 0 0 (MQ below (kp_Qi D cy A S post) ([.ref (ad.1 i0), .int x1, .int x2] : List Value).toArray s 0 0 A) (F0 m 36 ls [.int xt0]) := by
    intro xt0 Sn H locs ls hl h hle  hw
    unfold wJ0_indexOf_7cf53_b36 at hw
    exact kp_reti X hr hlocks h hle rfl hw dJ0_indexOf_7cf53_36
  unfold wJ0_indexOf_7cf53 at hw
  have h : kp_H D cy A S s.heap s.heap [] := h
  revert h
  intro h
  refine lv_aload_n X.1 X.2.1 dJ0_indexOf_7cf53_0 rfl (lv_at hl 0 rfl) ?_
  refine kp_calli X h (kp_runVs (rm := { frames := 0, cells := 0, slots := 0, locals := 0 }) (mc := 0) (ms := 0) (rest := []) (Qc := fun A => kp_Qi D cy A S _) X h (c_J0_isLatin1_aae02 l D cy ad S i0 _ h.2.2.2 f_i0 hw) f_i0 cw_J0_492 ⟨by decide, by decide, rfl, rfl, by decide, by decide⟩ rfl hl.1 rfl (Nat.le_of_ble_eq_true rfl) dJ0_indexOf_7cf53_1) (fun y2 T1 hw l_T1 H locs h => ?_)
  have hle := hle.tr l_T1
  refine lv_if_eq (tgt := 23) X.1 X.2.1 dJ0_indexOf_7cf53_4 (by decide) (fun c11 => ?_) (fun c11 => ?_)
  · have hw := hw.1 c11
    refine lv_aload_n X.1 X.2.1 dJ0_indexOf_7cf53_23 rfl (lv_at hl 0 rfl) ?_
    refine kp_sval X h f_i0 gs_J0_9 dJ0_indexOf_7cf53_24 ?_
    refine lv_iload_n X.1 X.2.1 dJ0_indexOf_7cf53_27 rfl (lv_at hl 1 rfl) ?_
    refine lv_iload_n X.1 X.2.1 dJ0_indexOf_7cf53_28 rfl (lv_at hl 2 rfl) ?_
    refine lv_aload_n X.1 X.2.1 dJ0_indexOf_7cf53_29 rfl (lv_at hl 0 rfl) ?_
    refine kp_calli X h (kp_runVs (rm := { frames := 1, cells := 0, slots := 0, locals := 20 }) (mc := 0) (ms := 0) (rest := [.int x2, .int x1, .ref (ad.2 i0)]) (Qc := fun A => kp_Qi D cy A T1 _) X h (c_J0_length_8abf5 l D cy ad T1 i0 _ h.2.2.2 f_i0 hw) f_i0 cw_J0_505 ⟨by decide, by decide, rfl, rfl, by decide, by decide⟩ rfl hl.1 rfl (Nat.le_of_ble_eq_true rfl) dJ0_indexOf_7cf53_30) (fun y4 T3 hw l_T3 H locs h => ?_)
    have hle := hle.tr l_T3
    refine kp_calli X h (kp_runS (rm := { frames := 0, cells := 0, slots := 0, locals := 0 }) (mc := 0) (ms := 0) (rest := []) (Qc := fun A => kp_Qi D cy A T3 _) X h (c_J2_indexOf_4cfef l D cy ad T3 i0 x1 x2 y4 _ h.2.2.2 f_i0 hw) cs_J0_640 ⟨by decide, by decide, rfl, rfl, by decide, by decide⟩ rfl hl.1 rfl (Nat.le_of_ble_eq_true rfl) dJ0_indexOf_7cf53_33) (fun y6 T5 hw l_T5 H locs h => ?_)
    have hle := hle.tr l_T5
    exact j36 y6 T5 _ _ ls (lv_sub hl [] rfl) h hle  hw
  · have hw := hw.2 c11
    refine lv_aload_n X.1 X.2.1 dJ0_indexOf_7cf53_7 rfl (lv_at hl 0 rfl) ?_
    refine kp_sval X h f_i0 gs_J0_9 dJ0_indexOf_7cf53_8 ?_
    refine lv_iload_n X.1 X.2.1 dJ0_indexOf_7cf53_11 rfl (lv_at hl 1 rfl) ?_
    refine lv_iload_n X.1 X.2.1 dJ0_indexOf_7cf53_12 rfl (lv_at hl 2 rfl) ?_
    refine lv_aload_n X.1 X.2.1 dJ0_indexOf_7cf53_13 rfl (lv_at hl 0 rfl) ?_
    refine kp_calli X h (kp_runVs (rm := { frames := 1, cells := 0, slots := 0, locals := 20 }) (mc := 0) (ms := 0) (rest := [.int x2, .int x1, .ref (ad.2 i0)]) (Qc := fun A => kp_Qi D cy A T1 _) X h (c_J0_length_8abf5 l D cy ad T1 i0 _ h.2.2.2 f_i0 hw) f_i0 cw_J0_505 ⟨by decide, by decide, rfl, rfl, by decide, by decide⟩ rfl hl.1 rfl (Nat.le_of_ble_eq_true rfl) dJ0_indexOf_7cf53_14) (fun y8 T7 hw l_T7 H locs h => ?_)
    have hle := hle.tr l_T7
    refine kp_calli X h (kp_runS (rm := { frames := 1, cells := 0, slots := 0, locals := 25 }) (mc := 0) (ms := 0) (rest := []) (Qc := fun A => kp_Qi D cy A T7 _) X h (c_J1_indexOf_4cfef l D cy ad T7 i0 x1 x2 y8 _ h.2.2.2 f_i0 hw) cs_J0_637 ⟨by decide, by decide, rfl, rfl, by decide, by decide⟩ rfl hl.1 rfl (Nat.le_of_ble_eq_true rfl) dJ0_indexOf_7cf53_17) (fun y10 T9 hw l_T9 H locs h => ?_)
    have hle := hle.tr l_T9
    refine lv_goto (tgt := 36) X.1 X.2.1 dJ0_indexOf_7cf53_20 (by decide) ?_
    exact j36 y10 T9 _ _ ls (lv_sub hl [] rfl) h hle  hw
theorem dJ0_indexOf_0f7a4_0 : decode cJ0_indexOf_0f7a4 0 = .ok (.aload_n 0, 1) := by decide +kernel
theorem dJ0_indexOf_0f7a4_1 : decode cJ0_indexOf_0f7a4 1 = .ok (.iload_n 1, 1) := by decide +kernel
theorem dJ0_indexOf_0f7a4_2 : decode cJ0_indexOf_0f7a4 2 = .ok (.iconst 0, 1) := by decide +kernel
theorem dJ0_indexOf_0f7a4_3 : decode cJ0_indexOf_0f7a4 3 = .ok (.invokevirtual 633, 3) := by decide +kernel
theorem dJ0_indexOf_0f7a4_6 : decode cJ0_indexOf_0f7a4 6 = .ok (.ireturn, 1) := by decide +kernel
def wJ0_indexOf_0f7a4 (i0 : Nat) (x1 : Int32) (S : kp_S) (post : Int32 → kp_S → Prop) : Prop :=
  wJ0_indexOf_7cf53 i0 x1 0 S (fun y2 T1 =>
  post y2 T1)
set_option maxHeartbeats 4000000 in
set_option maxRecDepth 100000 in
theorem c_J0_indexOf_0f7a4 (l : Launch) (D : va_G) (cy : Nat → ClassId) (ad : (Nat → Nat) × (Nat → Nat)) (S : kp_S) (i0 : Nat) (x1 : Int32) (post : Int32 → kp_S → Prop) (hS : kp_ok S) (f_i0 : i0 < kp_sN) (hw : wJ0_indexOf_0f7a4 i0 x1 S post) : kp_M l yJ0_indexOf_0f7a4 cJ0_indexOf_0f7a4 2 (some .int) { frames := 3, cells := 0, slots := 0, locals := 70 } D cy ad S [.ref (ad.1 i0), .int x1] 0 0 (fun A => kp_Qi D cy A S post) := by
  refine kp_start (own := RJ0) (by decide) rfl (Nat.le_of_ble_eq_true rfl) hS ?_
  intro p e s m below meth c A ls X hr hlocks hname h hl
  have hle : kp_le S S := kp_le.rf
  have hl : lv_has ls 2 [(0, .ref (ad.1 i0)), (1, .int x1)] := hl
  unfold wJ0_indexOf_0f7a4 at hw
  have h : kp_H D cy A S s.heap s.heap [] := h
  revert h
  intro h
  refine lv_aload_n X.1 X.2.1 dJ0_indexOf_0f7a4_0 rfl (lv_at hl 0 rfl) ?_
  refine lv_iload_n X.1 X.2.1 dJ0_indexOf_0f7a4_1 rfl (lv_at hl 1 rfl) ?_
  refine lv_iconst (v := 0) X.1 X.2.1 dJ0_indexOf_0f7a4_2 (by decide) ?_
  refine kp_calli X h (kp_runVs (rm := { frames := 2, cells := 0, slots := 0, locals := 48 }) (mc := 0) (ms := 0) (rest := []) (Qc := fun A => kp_Qi D cy A S _) X h (c_J0_indexOf_7cf53 l D cy ad S i0 x1 0 _ h.2.2.2 f_i0 hw) f_i0 cw_J0_633 ⟨by decide, by decide, rfl, rfl, by decide, by decide⟩ rfl hl.1 rfl (Nat.le_of_ble_eq_true rfl) dJ0_indexOf_0f7a4_3) (fun y2 T1 hw l_T1 H locs h => ?_)
  have hle := hle.tr l_T1
  exact kp_reti X hr hlocks h hle rfl hw dJ0_indexOf_0f7a4_6
