theorem cv_12_515 : kp_CV RX12 515 yX12_later cX12_later 7 (some .long) 1 12 := ⟨⟨kp_mem 2308 (by decide +kernel) (by decide +kernel), kp_mem 220 (by decide +kernel) (by decide +kernel), by decide +kernel⟩, kp_mem 2305 (by decide +kernel) (by decide +kernel), kp_mem 2307 (by decide +kernel) (by decide +kernel), kp_mem 156 (by decide +kernel) (by decide +kernel), by decide, TX12, 125, rfl⟩
theorem cv_12_509 : kp_CV RX12 509 yX12_ensure cX12_ensure 6 (some .long) 1 12 := ⟨⟨kp_mem 2299 (by decide +kernel) (by decide +kernel), kp_mem 220 (by decide +kernel) (by decide +kernel), by decide +kernel⟩, kp_mem 2296 (by decide +kernel) (by decide +kernel), kp_mem 2298 (by decide +kernel) (by decide +kernel), kp_mem 154 (by decide +kernel) (by decide +kernel), by decide, TX12, 125, rfl⟩
theorem cv_12_492 : kp_CV RX12 492 yX12_choose cX12_choose 9 (some .long) 0 12 := ⟨⟨kp_mem 2258 (by decide +kernel) (by decide +kernel), kp_mem 220 (by decide +kernel) (by decide +kernel), by decide +kernel⟩, kp_mem 2255 (by decide +kernel) (by decide +kernel), kp_mem 2257 (by decide +kernel) (by decide +kernel), kp_mem 145 (by decide +kernel) (by decide +kernel), by decide, TX12, 125, rfl⟩
theorem cv_12_466 : kp_CV RX12 466 yX12_statement cX12_statement 2 (some .long) 0 12 := ⟨⟨kp_mem 2188 (by decide +kernel) (by decide +kernel), kp_mem 220 (by decide +kernel) (by decide +kernel), by decide +kernel⟩, kp_mem 2185 (by decide +kernel) (by decide +kernel), kp_mem 2187 (by decide +kernel) (by decide +kernel), kp_mem 128 (by decide +kernel) (by decide +kernel), by decide, TX12, 125, rfl⟩
theorem dX12_always_0 : decode cX12_always 0 = .ok (.aload_n 0, 1) := by decide +kernel
theorem dX12_always_1 : decode cX12_always 1 = .ok (.bipush 27, 2) := by decide +kernel
theorem dX12_always_3 : decode cX12_always 3 = .ok (.invokevirtual 440, 3) := by decide +kernel
theorem dX12_always_6 : decode cX12_always 6 = .ok (.ifCond .ne 5, 3) := by decide +kernel
theorem dX12_always_9 : decode cX12_always 9 = .ok (.lload_n 2, 1) := by decide +kernel
theorem dX12_always_10 : decode cX12_always 10 = .ok (.lreturn, 1) := by decide +kernel
theorem dX12_always_11 : decode cX12_always 11 = .ok (.aload_n 0, 1) := by decide +kernel
theorem dX12_always_12 : decode cX12_always 12 = .ok (.getfield 55, 3) := by decide +kernel
theorem dX12_always_15 : decode cX12_always 15 = .ok (.iload_n 1, 1) := by decide +kernel
theorem dX12_always_16 : decode cX12_always 16 = .ok (.aload_n 0, 1) := by decide +kernel
theorem dX12_always_17 : decode cX12_always 17 = .ok (.getfield 370, 3) := by decide +kernel
theorem dX12_always_20 : decode cX12_always 20 = .ok (.iastore, 1) := by decide +kernel
theorem dX12_always_21 : decode cX12_always 21 = .ok (.aload_n 0, 1) := by decide +kernel
theorem dX12_always_22 : decode cX12_always 22 = .ok (.invokevirtual 447, 3) := by decide +kernel
theorem dX12_always_25 : decode cX12_always 25 = .ok (.lstore 4, 2) := by decide +kernel
theorem dX12_always_27 : decode cX12_always 27 = .ok (.aload_n 0, 1) := by decide +kernel
theorem dX12_always_28 : decode cX12_always 28 = .ok (.bipush 48, 2) := by decide +kernel
theorem dX12_always_30 : decode cX12_always 30 = .ok (.iconst 0, 1) := by decide +kernel
theorem dX12_always_31 : decode cX12_always 31 = .ok (.iconst 0, 1) := by decide +kernel
theorem dX12_always_32 : decode cX12_always 32 = .ok (.invokevirtual 451, 3) := by decide +kernel
theorem dX12_always_35 : decode cX12_always 35 = .ok (.pop, 1) := by decide +kernel
theorem dX12_always_36 : decode cX12_always 36 = .ok (.lload_n 2, 1) := by decide +kernel
theorem dX12_always_37 : decode cX12_always 37 = .ok (.lconst 0, 1) := by decide +kernel
theorem dX12_always_38 : decode cX12_always 38 = .ok (.lcmp, 1) := by decide +kernel
theorem dX12_always_39 : decode cX12_always 39 = .ok (.ifCond .ne 5, 3) := by decide +kernel
theorem dX12_always_42 : decode cX12_always 42 = .ok (.lconst 0, 1) := by decide +kernel
theorem dX12_always_43 : decode cX12_always 43 = .ok (.lreturn, 1) := by decide +kernel
theorem dX12_always_44 : decode cX12_always 44 = .ok (.lload 4, 2) := by decide +kernel
theorem dX12_always_46 : decode cX12_always 46 = .ok (.ldc2_w 469, 3) := by decide +kernel
theorem dX12_always_49 : decode cX12_always 49 = .ok (.land, 1) := by decide +kernel
theorem dX12_always_50 : decode cX12_always 50 = .ok (.lload 4, 2) := by decide +kernel
theorem dX12_always_52 : decode cX12_always 52 = .ok (.lconst 1, 1) := by decide +kernel
theorem dX12_always_53 : decode cX12_always 53 = .ok (.land, 1) := by decide +kernel
theorem dX12_always_54 : decode cX12_always 54 = .ok (.lconst 0, 1) := by decide +kernel
theorem dX12_always_55 : decode cX12_always 55 = .ok (.lcmp, 1) := by decide +kernel
theorem dX12_always_56 : decode cX12_always 56 = .ok (.ifCond .eq 7, 3) := by decide +kernel
theorem dX12_always_59 : decode cX12_always 59 = .ok (.lload_n 2, 1) := by decide +kernel
theorem dX12_always_60 : decode cX12_always 60 = .ok (.goto 4, 3) := by decide +kernel
theorem dX12_always_63 : decode cX12_always 63 = .ok (.lconst 0, 1) := by decide +kernel
theorem dX12_always_64 : decode cX12_always 64 = .ok (.lor, 1) := by decide +kernel
theorem dX12_always_65 : decode cX12_always 65 = .ok (.lreturn, 1) := by decide +kernel
def wX12_always_b64 (B : Nat → kp_S → (Int64 → kp_S → Prop) → Prop) (a0 : Nat) (x1 : Int32) (w2 : Int64) (wt0 : Int64) (wt1 : Int64)  (Sn : kp_S) (post : Int64 → kp_S → Prop) : Prop :=
  post (wt1 ||| wt0) Sn
def wX12_always (B : Nat → kp_S → (Int64 → kp_S → Prop) → Prop) (a0 : Nat) (x1 : Int32) (w2 : Int64) (S : kp_S) (post : Int64 → kp_S → Prop) : Prop :=
  wX12_skip a0 27 S (fun y2 T1 =>
  ((¬ y2 = 0 →
  ∃ b3 : Nat, kp_R T1 2419 a0 = some b3 ∧
  vp_in x1 (kp_N T1 b3) ∧ ∀ T4 : kp_S, T4 = kp_sA T1 b3 (upd (kp_A T1 b3) (x1.toNatClampNeg) (kp_I T1 2417 a0)) →
  B a0 T4 (fun z6 T5 =>
  wX12_emit a0 48 0 0 T5 (fun y8 T7 =>
  ((¬ (lg_cmp w2 0) = 0 →
  (((lg_cmp (z6 &&& 1) 0) = 0 →
  wX12_always_b64 B a0 x1 w2 0 (z6 &&& (-2))  T7 post) ∧ (¬ (lg_cmp (z6 &&& 1) 0) = 0 →
  wX12_always_b64 B a0 x1 w2 w2 (z6 &&& (-2))  T7 post))) ∧ ((lg_cmp w2 0) = 0 →
  post 0 T7))))) ∧ (y2 = 0 →
  post w2 T1)))
set_option maxHeartbeats 4000000 in
set_option maxRecDepth 100000 in
theorem c_X12_always (l : Launch) (D : va_G) (cy : Nat → ClassId) (ad : (Nat → Nat) × (Nat → Nat)) (F L : Nat) (B : Nat → kp_S → (Int64 → kp_S → Prop) → Prop) (hB : ∀ (S : kp_S) (a0 : Nat) (post : Int64 → kp_S → Prop), kp_ok S → kp_is S a0 12 → B a0 S post → kp_M l yX12_block cX12_block 6 (some .long) { frames := F, cells := 0, slots := 0, locals := L } D cy ad S [.ref a0] 0 0 (fun A => kp_Ql D cy A S post)) (hF : 151 ≤ F) (hL : 3211 ≤ L) (S : kp_S) (a0 : Nat) (x1 : Int32) (w2 : Int64) (post : Int64 → kp_S → Prop) (hS : kp_ok S) (f_a0 : kp_is S a0 12) (hw : wX12_always B a0 x1 w2 S post) : kp_M l yX12_always cX12_always 6 (some .long) { frames := F + 1, cells := 0, slots := 0, locals := L + 25 } D cy ad S [.ref a0, .int x1, .long w2] 0 0 (fun A => kp_Ql D cy A S post) := by
  refine kp_start (own := RX12) (by decide) rfl (Nat.le_of_ble_eq_true rfl) hS ?_
  intro p e s m below meth c A ls X hr hlocks hname h hl
  have hle : kp_le S S := kp_le.rf
  have hl : lv_has ls 6 [(0, .ref a0), (1, .int x1), (2, .long w2)] := hl
  have j64 : ∀ (wt0 : Int64) (wt1 : Int64) (Sn : kp_S) (H : Heap) (locs : List Loc) (ls : Array Slot), lv_has ls 6 [] → kp_H D cy A Sn s.heap H locs → kp_le S Sn → kp_is Sn a0 12 → wX12_always_b64 B a0 x1 w2 wt0 wt1  Sn post → W p l e { frames := F + 1, cells := 0, slots := 0, locals := L + 25 } s m ([.ref a0, .int x1, .long w2] : List Value).toArray below meth c H locs 0 0 (MQ below (kp_Ql D cy A S post) ([.ref a0, .int x1, .long w2] : List Value).toArray s 0 0 A) (F0 m 64 ls [.long wt0, .long wt1]) := by
    intro wt0 wt1 Sn H locs ls hl h hle f_a0 hw
    unfold wX12_always_b64 at hw
    refine lv_lor X.1 X.2.1 dX12_always_64 ?_
    exact kp_retl X hr hlocks h hle hw dX12_always_65
  unfold wX12_always at hw
  have h : kp_H D cy A S s.heap s.heap [] := h
  revert h
  intro h
  refine lv_aload_n X.1 X.2.1 dX12_always_0 rfl (lv_at hl 0 rfl) ?_
  refine lv_bipush (v := 27) X.1 X.2.1 dX12_always_1 (by decide) ?_
  refine kp_calli X h (kp_runV (rm := { frames := 1, cells := 0, slots := 0, locals := 21 }) (mc := 0) (ms := 0) (rest := []) (Qc := fun A => kp_Qi D cy A S _) X h (c_X12_skip l D cy ad S a0 27 _ h.2.2.2 f_a0 hw) f_a0 cv_12_440 ⟨by dsimp only; omega, by dsimp only; omega, rfl, rfl, by dsimp only; omega, by dsimp only; omega⟩ rfl hl.1 rfl (Nat.le_of_ble_eq_true rfl) dX12_always_3) (fun y2 T1 hw l_T1 H locs h => ?_)
  have f_a0 := l_T1.is f_a0
  have hle := hle.tr l_T1
  refine lv_if_ne (tgt := 11) X.1 X.2.1 dX12_always_6 (by decide) (fun c11 => ?_) (fun c11 => ?_)
  · have hw := hw.1 c11
    refine lv_aload_n X.1 X.2.1 dX12_always_11 rfl (lv_at hl 0 rfl) ?_
    obtain ⟨b3, e_b3, hw⟩ := hw
    have f_b3 := h.2.2.2.rf (c := 12) (k := 19) f_a0 (by decide) (by decide) e_b3 (t := 14) rfl
    refine kp_get X h f_a0 ff_12_55.l (v := .ref b3) (congrArg va_rf e_b3) dX12_always_12 ?_
    refine lv_iload_n X.1 X.2.1 dX12_always_15 rfl (lv_at hl 1 rfl) ?_
    refine lv_aload_n X.1 X.2.1 dX12_always_16 rfl (lv_at hl 0 rfl) ?_
    refine kp_get X h f_a0 fp_12_370.l (v := .int (kp_I T1 2417 a0)) rfl dX12_always_17 ?_
    obtain ⟨hi, hw⟩ := hw
    refine kp_iast X h f_b3 hi dX12_always_20 (fun T4 e_T4 l_T4 H locs h => ?_)
    have hw := hw T4 e_T4
    have f_a0 := l_T4.is f_a0
    have f_b3 := l_T4.is f_b3
    have hle := hle.tr l_T4
    have e_b3 : kp_R T4 2419 a0 = some b3 := by rw [e_T4]; exact e_b3
    refine lv_aload_n X.1 X.2.1 dX12_always_21 rfl (lv_at hl 0 rfl) ?_
    refine kp_calll X h (kp_runV (rm := { frames := F, cells := 0, slots := 0, locals := L }) (mc := 0) (ms := 0) (rest := []) (Qc := fun A => kp_Ql D cy A T4 _) X h (hB T4 a0 _ h.2.2.2 f_a0 hw) f_a0 cv_12_447 ⟨by dsimp only; omega, by dsimp only; omega, rfl, rfl, by dsimp only; omega, by dsimp only; omega⟩ rfl hl.1 rfl (Nat.le_of_ble_eq_true rfl) dX12_always_22) (fun z6 T5 hw l_T5 H locs h => ?_)
    have f_a0 := l_T5.is f_a0
    have f_b3 := l_T5.is f_b3
    have hle := hle.tr l_T5
    refine lv_lstore (lv' := [(4, .long z6), (0, .ref a0), (1, .int x1), (2, .long w2)]) X.1 X.2.1 dX12_always_25 hl (by decide) rfl (fun ls hl => ?_)
    refine lv_aload_n X.1 X.2.1 dX12_always_27 rfl (lv_at hl 1 rfl) ?_
    refine lv_bipush (v := 48) X.1 X.2.1 dX12_always_28 (by decide) ?_
    refine lv_iconst (v := 0) X.1 X.2.1 dX12_always_30 (by decide) ?_
    refine lv_iconst (v := 0) X.1 X.2.1 dX12_always_31 (by decide) ?_
    refine kp_calli X h (kp_runV (rm := { frames := 0, cells := 0, slots := 0, locals := 0 }) (mc := 0) (ms := 0) (rest := []) (Qc := fun A => kp_Qi D cy A T5 _) X h (c_X12_emit l D cy ad T5 a0 48 0 0 _ h.2.2.2 f_a0 hw) f_a0 cv_12_451 ⟨by dsimp only; omega, by dsimp only; omega, rfl, rfl, by dsimp only; omega, by dsimp only; omega⟩ rfl hl.1 rfl (Nat.le_of_ble_eq_true rfl) dX12_always_32) (fun y8 T7 hw l_T7 H locs h => ?_)
    have f_a0 := l_T7.is f_a0
    have f_b3 := l_T7.is f_b3
    have hle := hle.tr l_T7
    refine lv_pop X.1 X.2.1 dX12_always_35 rfl ?_
    refine lv_lload_n X.1 X.2.1 dX12_always_36 rfl (lv_at hl 3 rfl) ?_
    refine lv_lconst (v := 0) X.1 X.2.1 dX12_always_37 (by decide) ?_
    refine W.lcmp X.1 X.2.1 dX12_always_38 ?_
    refine lv_if_ne (tgt := 44) X.1 X.2.1 dX12_always_39 (by decide) (fun c10 => ?_) (fun c10 => ?_)
    · have hw := hw.1 c10
      refine lv_lload X.1 X.2.1 dX12_always_44 (lv_at hl 0 rfl) ?_
      refine lv_ldc2 (v := (-2)) X.1 X.2.1 X.2.2.2.1 (X.2.2.2.2.1 _ kl_12_469) dX12_always_46 ?_
      refine lv_land X.1 X.2.1 dX12_always_49 ?_
      refine lv_lload X.1 X.2.1 dX12_always_50 (lv_at hl 0 rfl) ?_
      refine lv_lconst (v := 1) X.1 X.2.1 dX12_always_52 (by decide) ?_
      refine lv_land X.1 X.2.1 dX12_always_53 ?_
      refine lv_lconst (v := 0) X.1 X.2.1 dX12_always_54 (by decide) ?_
      refine W.lcmp X.1 X.2.1 dX12_always_55 ?_
      refine lv_if_eq (tgt := 63) X.1 X.2.1 dX12_always_56 (by decide) (fun c9 => ?_) (fun c9 => ?_)
      · have hw := hw.1 c9
        refine lv_lconst (v := 0) X.1 X.2.1 dX12_always_63 (by decide) ?_
        exact j64 0 (z6 &&& (-2)) T7 _ _ ls (lv_sub hl [] rfl) h hle f_a0 hw
      · have hw := hw.2 c9
        refine lv_lload_n X.1 X.2.1 dX12_always_59 rfl (lv_at hl 3 rfl) ?_
        refine lv_goto (tgt := 64) X.1 X.2.1 dX12_always_60 (by decide) ?_
        exact j64 w2 (z6 &&& (-2)) T7 _ _ ls (lv_sub hl [] rfl) h hle f_a0 hw
    · have hw := hw.2 c10
      refine lv_lconst (v := 0) X.1 X.2.1 dX12_always_42 (by decide) ?_
      exact kp_retl X hr hlocks h hle hw dX12_always_43
  · have hw := hw.2 c11
    refine lv_lload_n X.1 X.2.1 dX12_always_9 rfl (lv_at hl 2 rfl) ?_
    exact kp_retl X hr hlocks h hle hw dX12_always_10
theorem dX12_loop_0 : decode cX12_loop 0 = .ok (.aload_n 0, 1) := by decide +kernel
theorem dX12_loop_1 : decode cX12_loop 1 = .ok (.iload_n 1, 1) := by decide +kernel
theorem dX12_loop_2 : decode cX12_loop 2 = .ok (.invokevirtual 538, 3) := by decide +kernel
theorem dX12_loop_5 : decode cX12_loop 5 = .ok (.istore 4, 2) := by decide +kernel
theorem dX12_loop_7 : decode cX12_loop 7 = .ok (.aload_n 0, 1) := by decide +kernel
theorem dX12_loop_8 : decode cX12_loop 8 = .ok (.getfield 397, 3) := by decide +kernel
theorem dX12_loop_11 : decode cX12_loop 11 = .ok (.istore 5, 2) := by decide +kernel
theorem dX12_loop_13 : decode cX12_loop 13 = .ok (.aload_n 0, 1) := by decide +kernel
theorem dX12_loop_14 : decode cX12_loop 14 = .ok (.bipush 45, 2) := by decide +kernel
theorem dX12_loop_16 : decode cX12_loop 16 = .ok (.invokevirtual 379, 3) := by decide +kernel
theorem dX12_loop_19 : decode cX12_loop 19 = .ok (.istore 6, 2) := by decide +kernel
theorem dX12_loop_21 : decode cX12_loop 21 = .ok (.aload_n 0, 1) := by decide +kernel
theorem dX12_loop_22 : decode cX12_loop 22 = .ok (.getfield 370, 3) := by decide +kernel
theorem dX12_loop_25 : decode cX12_loop 25 = .ok (.istore 7, 2) := by decide +kernel
theorem dX12_loop_27 : decode cX12_loop 27 = .ok (.aload_n 0, 1) := by decide +kernel
theorem dX12_loop_28 : decode cX12_loop 28 = .ok (.bipush 45, 2) := by decide +kernel
theorem dX12_loop_30 : decode cX12_loop 30 = .ok (.invokevirtual 440, 3) := by decide +kernel
theorem dX12_loop_33 : decode cX12_loop 33 = .ok (.ifCond .eq 27, 3) := by decide +kernel
theorem dX12_loop_36 : decode cX12_loop 36 = .ok (.aload_n 0, 1) := by decide +kernel
theorem dX12_loop_37 : decode cX12_loop 37 = .ok (.bipush 43, 2) := by decide +kernel
theorem dX12_loop_39 : decode cX12_loop 39 = .ok (.iload 4, 2) := by decide +kernel
theorem dX12_loop_41 : decode cX12_loop 41 = .ok (.iconst 0, 1) := by decide +kernel
theorem dX12_loop_42 : decode cX12_loop 42 = .ok (.invokevirtual 451, 3) := by decide +kernel
theorem dX12_loop_45 : decode cX12_loop 45 = .ok (.pop, 1) := by decide +kernel
theorem dX12_loop_46 : decode cX12_loop 46 = .ok (.aload_n 0, 1) := by decide +kernel
theorem dX12_loop_47 : decode cX12_loop 47 = .ok (.bipush 56, 2) := by decide +kernel
theorem dX12_loop_49 : decode cX12_loop 49 = .ok (.iload 4, 2) := by decide +kernel
theorem dX12_loop_51 : decode cX12_loop 51 = .ok (.iconst 0, 1) := by decide +kernel
theorem dX12_loop_52 : decode cX12_loop 52 = .ok (.invokevirtual 451, 3) := by decide +kernel
theorem dX12_loop_55 : decode cX12_loop 55 = .ok (.istore 7, 2) := by decide +kernel
theorem dX12_loop_57 : decode cX12_loop 57 = .ok (.goto 158, 3) := by decide +kernel
theorem dX12_loop_60 : decode cX12_loop 60 = .ok (.aload_n 0, 1) := by decide +kernel
theorem dX12_loop_61 : decode cX12_loop 61 = .ok (.bipush 15, 2) := by decide +kernel
theorem dX12_loop_63 : decode cX12_loop 63 = .ok (.invokevirtual 440, 3) := by decide +kernel
theorem dX12_loop_66 : decode cX12_loop 66 = .ok (.ifCond .eq 55, 3) := by decide +kernel
theorem dX12_loop_69 : decode cX12_loop 69 = .ok (.aload_n 0, 1) := by decide +kernel
theorem dX12_loop_70 : decode cX12_loop 70 = .ok (.bipush 43, 2) := by decide +kernel
theorem dX12_loop_72 : decode cX12_loop 72 = .ok (.iload 4, 2) := by decide +kernel
theorem dX12_loop_74 : decode cX12_loop 74 = .ok (.iconst 0, 1) := by decide +kernel
theorem dX12_loop_75 : decode cX12_loop 75 = .ok (.invokevirtual 451, 3) := by decide +kernel
theorem dX12_loop_78 : decode cX12_loop 78 = .ok (.pop, 1) := by decide +kernel
theorem dX12_loop_79 : decode cX12_loop 79 = .ok (.aload_n 0, 1) := by decide +kernel
theorem dX12_loop_80 : decode cX12_loop 80 = .ok (.getfield 52, 3) := by decide +kernel
theorem dX12_loop_83 : decode cX12_loop 83 = .ok (.iload 4, 2) := by decide +kernel
theorem dX12_loop_85 : decode cX12_loop 85 = .ok (.aload_n 0, 1) := by decide +kernel
theorem dX12_loop_86 : decode cX12_loop 86 = .ok (.getfield 370, 3) := by decide +kernel
theorem dX12_loop_89 : decode cX12_loop 89 = .ok (.iastore, 1) := by decide +kernel
theorem dX12_loop_90 : decode cX12_loop 90 = .ok (.aload_n 0, 1) := by decide +kernel
theorem dX12_loop_91 : decode cX12_loop 91 = .ok (.bipush 44, 2) := by decide +kernel
theorem dX12_loop_93 : decode cX12_loop 93 = .ok (.aload_n 0, 1) := by decide +kernel
theorem dX12_loop_94 : decode cX12_loop 94 = .ok (.getfield 34, 3) := by decide +kernel
theorem dX12_loop_97 : decode cX12_loop 97 = .ok (.iload_n 1, 1) := by decide +kernel
theorem dX12_loop_98 : decode cX12_loop 98 = .ok (.iaload, 1) := by decide +kernel
theorem dX12_loop_99 : decode cX12_loop 99 = .ok (.iconst 0, 1) := by decide +kernel
theorem dX12_loop_100 : decode cX12_loop 100 = .ok (.invokevirtual 451, 3) := by decide +kernel
theorem dX12_loop_103 : decode cX12_loop 103 = .ok (.pop, 1) := by decide +kernel
theorem dX12_loop_104 : decode cX12_loop 104 = .ok (.aload_n 0, 1) := by decide +kernel
theorem dX12_loop_105 : decode cX12_loop 105 = .ok (.invokevirtual 520, 3) := by decide +kernel
theorem dX12_loop_108 : decode cX12_loop 108 = .ok (.aload_n 0, 1) := by decide +kernel
theorem dX12_loop_109 : decode cX12_loop 109 = .ok (.bipush 45, 2) := by decide +kernel
theorem dX12_loop_111 : decode cX12_loop 111 = .ok (.iload 4, 2) := by decide +kernel
theorem dX12_loop_113 : decode cX12_loop 113 = .ok (.iconst 0, 1) := by decide +kernel
theorem dX12_loop_114 : decode cX12_loop 114 = .ok (.invokevirtual 451, 3) := by decide +kernel
theorem dX12_loop_117 : decode cX12_loop 117 = .ok (.pop, 1) := by decide +kernel
theorem dX12_loop_118 : decode cX12_loop 118 = .ok (.goto 97, 3) := by decide +kernel
theorem dX12_loop_121 : decode cX12_loop 121 = .ok (.aload_n 0, 1) := by decide +kernel
theorem dX12_loop_122 : decode cX12_loop 122 = .ok (.dup, 1) := by decide +kernel
theorem dX12_loop_123 : decode cX12_loop 123 = .ok (.getfield 376, 3) := by decide +kernel
theorem dX12_loop_126 : decode cX12_loop 126 = .ok (.iconst 1, 1) := by decide +kernel
theorem dX12_loop_127 : decode cX12_loop 127 = .ok (.iadd, 1) := by decide +kernel
theorem dX12_loop_128 : decode cX12_loop 128 = .ok (.putfield 376, 3) := by decide +kernel
theorem dX12_loop_131 : decode cX12_loop 131 = .ok (.aload_n 0, 1) := by decide +kernel
theorem dX12_loop_132 : decode cX12_loop 132 = .ok (.getfield 376, 3) := by decide +kernel
theorem dX12_loop_135 : decode cX12_loop 135 = .ok (.istore 8, 2) := by decide +kernel
theorem dX12_loop_137 : decode cX12_loop 137 = .ok (.aload_n 0, 1) := by decide +kernel
theorem dX12_loop_138 : decode cX12_loop 138 = .ok (.iconst 2, 1) := by decide +kernel
theorem dX12_loop_139 : decode cX12_loop 139 = .ok (.invokevirtual 385, 3) := by decide +kernel
theorem dX12_loop_142 : decode cX12_loop 142 = .ok (.aload_n 0, 1) := by decide +kernel
theorem dX12_loop_143 : decode cX12_loop 143 = .ok (.bipush 17, 2) := by decide +kernel
theorem dX12_loop_145 : decode cX12_loop 145 = .ok (.invokevirtual 385, 3) := by decide +kernel
theorem dX12_loop_148 : decode cX12_loop 148 = .ok (.aload_n 0, 1) := by decide +kernel
theorem dX12_loop_149 : decode cX12_loop 149 = .ok (.invokevirtual 520, 3) := by decide +kernel
theorem dX12_loop_152 : decode cX12_loop 152 = .ok (.aload_n 0, 1) := by decide +kernel
theorem dX12_loop_153 : decode cX12_loop 153 = .ok (.bipush 18, 2) := by decide +kernel
theorem dX12_loop_155 : decode cX12_loop 155 = .ok (.invokevirtual 385, 3) := by decide +kernel
theorem dX12_loop_158 : decode cX12_loop 158 = .ok (.aload_n 0, 1) := by decide +kernel
theorem dX12_loop_159 : decode cX12_loop 159 = .ok (.invokevirtual 520, 3) := by decide +kernel
theorem dX12_loop_162 : decode cX12_loop 162 = .ok (.aload_n 0, 1) := by decide +kernel
theorem dX12_loop_163 : decode cX12_loop 163 = .ok (.invokevirtual 408, 3) := by decide +kernel
theorem dX12_loop_166 : decode cX12_loop 166 = .ok (.ifCond .ne 5, 3) := by decide +kernel
theorem dX12_loop_169 : decode cX12_loop 169 = .ok (.lconst 0, 1) := by decide +kernel
theorem dX12_loop_170 : decode cX12_loop 170 = .ok (.lreturn, 1) := by decide +kernel
theorem dX12_loop_171 : decode cX12_loop 171 = .ok (.aload_n 0, 1) := by decide +kernel
theorem dX12_loop_172 : decode cX12_loop 172 = .ok (.getfield 64, 3) := by decide +kernel
theorem dX12_loop_175 : decode cX12_loop 175 = .ok (.iload 4, 2) := by decide +kernel
theorem dX12_loop_177 : decode cX12_loop 177 = .ok (.aload_n 0, 1) := by decide +kernel
theorem dX12_loop_178 : decode cX12_loop 178 = .ok (.iload 8, 2) := by decide +kernel
theorem dX12_loop_180 : decode cX12_loop 180 = .ok (.invokevirtual 523, 3) := by decide +kernel
theorem dX12_loop_183 : decode cX12_loop 183 = .ok (.iastore, 1) := by decide +kernel
theorem dX12_loop_184 : decode cX12_loop 184 = .ok (.aload_n 0, 1) := by decide +kernel
theorem dX12_loop_185 : decode cX12_loop 185 = .ok (.bipush 46, 2) := by decide +kernel
theorem dX12_loop_187 : decode cX12_loop 187 = .ok (.iload 4, 2) := by decide +kernel
theorem dX12_loop_189 : decode cX12_loop 189 = .ok (.iconst 0, 1) := by decide +kernel
theorem dX12_loop_190 : decode cX12_loop 190 = .ok (.invokevirtual 451, 3) := by decide +kernel
theorem dX12_loop_193 : decode cX12_loop 193 = .ok (.pop, 1) := by decide +kernel
theorem dX12_loop_194 : decode cX12_loop 194 = .ok (.aload_n 0, 1) := by decide +kernel
theorem dX12_loop_195 : decode cX12_loop 195 = .ok (.getfield 52, 3) := by decide +kernel
theorem dX12_loop_198 : decode cX12_loop 198 = .ok (.iload 4, 2) := by decide +kernel
theorem dX12_loop_200 : decode cX12_loop 200 = .ok (.aload_n 0, 1) := by decide +kernel
theorem dX12_loop_201 : decode cX12_loop 201 = .ok (.getfield 370, 3) := by decide +kernel
theorem dX12_loop_204 : decode cX12_loop 204 = .ok (.iastore, 1) := by decide +kernel
theorem dX12_loop_205 : decode cX12_loop 205 = .ok (.aload_n 0, 1) := by decide +kernel
theorem dX12_loop_206 : decode cX12_loop 206 = .ok (.bipush 47, 2) := by decide +kernel
theorem dX12_loop_208 : decode cX12_loop 208 = .ok (.iload 4, 2) := by decide +kernel
theorem dX12_loop_210 : decode cX12_loop 210 = .ok (.iconst 0, 1) := by decide +kernel
theorem dX12_loop_211 : decode cX12_loop 211 = .ok (.invokevirtual 451, 3) := by decide +kernel
theorem dX12_loop_214 : decode cX12_loop 214 = .ok (.pop, 1) := by decide +kernel
theorem dX12_loop_215 : decode cX12_loop 215 = .ok (.iload 6, 2) := by decide +kernel
theorem dX12_loop_217 : decode cX12_loop 217 = .ok (.ifCond .eq 7, 3) := by decide +kernel
theorem dX12_loop_220 : decode cX12_loop 220 = .ok (.lconst 0, 1) := by decide +kernel
theorem dX12_loop_221 : decode cX12_loop 221 = .ok (.goto 8, 3) := by decide +kernel
theorem dX12_loop_224 : decode cX12_loop 224 = .ok (.aload_n 0, 1) := by decide +kernel
theorem dX12_loop_225 : decode cX12_loop 225 = .ok (.lconst 0, 1) := by decide +kernel
theorem dX12_loop_226 : decode cX12_loop 226 = .ok (.invokevirtual 483, 3) := by decide +kernel
theorem dX12_loop_229 : decode cX12_loop 229 = .ok (.lstore 8, 2) := by decide +kernel
theorem dX12_loop_231 : decode cX12_loop 231 = .ok (.aload_n 0, 1) := by decide +kernel
theorem dX12_loop_232 : decode cX12_loop 232 = .ok (.invokevirtual 408, 3) := by decide +kernel
theorem dX12_loop_235 : decode cX12_loop 235 = .ok (.ifCond .ne 5, 3) := by decide +kernel
theorem dX12_loop_238 : decode cX12_loop 238 = .ok (.lconst 0, 1) := by decide +kernel
theorem dX12_loop_239 : decode cX12_loop 239 = .ok (.lreturn, 1) := by decide +kernel
theorem dX12_loop_240 : decode cX12_loop 240 = .ok (.aload_n 0, 1) := by decide +kernel
theorem dX12_loop_241 : decode cX12_loop 241 = .ok (.getfield 106, 3) := by decide +kernel
theorem dX12_loop_244 : decode cX12_loop 244 = .ok (.aload_n 0, 1) := by decide +kernel
theorem dX12_loop_245 : decode cX12_loop 245 = .ok (.getfield 423, 3) := by decide +kernel
theorem dX12_loop_248 : decode cX12_loop 248 = .ok (.lload_n 2, 1) := by decide +kernel
theorem dX12_loop_249 : decode cX12_loop 249 = .ok (.lastore, 1) := by decide +kernel
theorem dX12_loop_250 : decode cX12_loop 250 = .ok (.aload_n 0, 1) := by decide +kernel
theorem dX12_loop_251 : decode cX12_loop 251 = .ok (.getfield 109, 3) := by decide +kernel
theorem dX12_loop_254 : decode cX12_loop 254 = .ok (.aload_n 0, 1) := by decide +kernel
theorem dX12_loop_255 : decode cX12_loop 255 = .ok (.getfield 423, 3) := by decide +kernel
theorem dX12_loop_258 : decode cX12_loop 258 = .ok (.iload 4, 2) := by decide +kernel
theorem dX12_loop_260 : decode cX12_loop 260 = .ok (.iastore, 1) := by decide +kernel
theorem dX12_loop_261 : decode cX12_loop 261 = .ok (.aload_n 0, 1) := by decide +kernel
theorem dX12_loop_262 : decode cX12_loop 262 = .ok (.dup, 1) := by decide +kernel
theorem dX12_loop_263 : decode cX12_loop 263 = .ok (.getfield 423, 3) := by decide +kernel
theorem dX12_loop_266 : decode cX12_loop 266 = .ok (.iconst 1, 1) := by decide +kernel
theorem dX12_loop_267 : decode cX12_loop 267 = .ok (.iadd, 1) := by decide +kernel
theorem dX12_loop_268 : decode cX12_loop 268 = .ok (.putfield 423, 3) := by decide +kernel
theorem dX12_loop_271 : decode cX12_loop 271 = .ok (.aload_n 0, 1) := by decide +kernel
theorem dX12_loop_272 : decode cX12_loop 272 = .ok (.invokevirtual 447, 3) := by decide +kernel
theorem dX12_loop_275 : decode cX12_loop 275 = .ok (.lstore 10, 2) := by decide +kernel
theorem dX12_loop_277 : decode cX12_loop 277 = .ok (.aload_n 0, 1) := by decide +kernel
theorem dX12_loop_278 : decode cX12_loop 278 = .ok (.bipush 48, 2) := by decide +kernel
theorem dX12_loop_280 : decode cX12_loop 280 = .ok (.iconst 0, 1) := by decide +kernel
theorem dX12_loop_281 : decode cX12_loop 281 = .ok (.iconst 0, 1) := by decide +kernel
theorem dX12_loop_282 : decode cX12_loop 282 = .ok (.invokevirtual 451, 3) := by decide +kernel
theorem dX12_loop_285 : decode cX12_loop 285 = .ok (.pop, 1) := by decide +kernel
theorem dX12_loop_286 : decode cX12_loop 286 = .ok (.aload_n 0, 1) := by decide +kernel
theorem dX12_loop_287 : decode cX12_loop 287 = .ok (.iload 4, 2) := by decide +kernel
theorem dX12_loop_289 : decode cX12_loop 289 = .ok (.lload 10, 2) := by decide +kernel
theorem dX12_loop_291 : decode cX12_loop 291 = .ok (.invokevirtual 541, 3) := by decide +kernel
theorem dX12_loop_294 : decode cX12_loop 294 = .ok (.lstore 10, 2) := by decide +kernel
theorem dX12_loop_296 : decode cX12_loop 296 = .ok (.aload_n 0, 1) := by decide +kernel
theorem dX12_loop_297 : decode cX12_loop 297 = .ok (.dup, 1) := by decide +kernel
theorem dX12_loop_298 : decode cX12_loop 298 = .ok (.getfield 423, 3) := by decide +kernel
theorem dX12_loop_301 : decode cX12_loop 301 = .ok (.iconst 1, 1) := by decide +kernel
theorem dX12_loop_302 : decode cX12_loop 302 = .ok (.isub, 1) := by decide +kernel
theorem dX12_loop_303 : decode cX12_loop 303 = .ok (.putfield 423, 3) := by decide +kernel
theorem dX12_loop_306 : decode cX12_loop 306 = .ok (.aload_n 0, 1) := by decide +kernel
theorem dX12_loop_307 : decode cX12_loop 307 = .ok (.iload 5, 2) := by decide +kernel
theorem dX12_loop_309 : decode cX12_loop 309 = .ok (.putfield 397, 3) := by decide +kernel
theorem dX12_loop_312 : decode cX12_loop 312 = .ok (.ldc2_w 498, 3) := by decide +kernel
theorem dX12_loop_315 : decode cX12_loop 315 = .ok (.aload_n 0, 1) := by decide +kernel
theorem dX12_loop_316 : decode cX12_loop 316 = .ok (.getfield 423, 3) := by decide +kernel
theorem dX12_loop_319 : decode cX12_loop 319 = .ok (.lshl, 1) := by decide +kernel
theorem dX12_loop_320 : decode cX12_loop 320 = .ok (.lstore 12, 2) := by decide +kernel
theorem dX12_loop_322 : decode cX12_loop 322 = .ok (.ldc2_w 503, 3) := by decide +kernel
theorem dX12_loop_325 : decode cX12_loop 325 = .ok (.aload_n 0, 1) := by decide +kernel
theorem dX12_loop_326 : decode cX12_loop 326 = .ok (.getfield 423, 3) := by decide +kernel
theorem dX12_loop_329 : decode cX12_loop 329 = .ok (.lshl, 1) := by decide +kernel
theorem dX12_loop_330 : decode cX12_loop 330 = .ok (.lstore 14, 2) := by decide +kernel
theorem dX12_loop_332 : decode cX12_loop 332 = .ok (.lload 8, 2) := by decide +kernel
theorem dX12_loop_334 : decode cX12_loop 334 = .ok (.lload 10, 2) := by decide +kernel
theorem dX12_loop_336 : decode cX12_loop 336 = .ok (.lconst 1, 1) := by decide +kernel
theorem dX12_loop_337 : decode cX12_loop 337 = .ok (.lload 12, 2) := by decide +kernel
theorem dX12_loop_339 : decode cX12_loop 339 = .ok (.lor, 1) := by decide +kernel
theorem dX12_loop_340 : decode cX12_loop 340 = .ok (.lload 14, 2) := by decide +kernel
theorem dX12_loop_342 : decode cX12_loop 342 = .ok (.lor, 1) := by decide +kernel
theorem dX12_loop_343 : decode cX12_loop 343 = .ok (.ldc2_w 543, 3) := by decide +kernel
theorem dX12_loop_346 : decode cX12_loop 346 = .ok (.lxor, 1) := by decide +kernel
theorem dX12_loop_347 : decode cX12_loop 347 = .ok (.land, 1) := by decide +kernel
theorem dX12_loop_348 : decode cX12_loop 348 = .ok (.lor, 1) := by decide +kernel
theorem dX12_loop_349 : decode cX12_loop 349 = .ok (.lstore 8, 2) := by decide +kernel
theorem dX12_loop_351 : decode cX12_loop 351 = .ok (.lload 8, 2) := by decide +kernel
theorem dX12_loop_353 : decode cX12_loop 353 = .ok (.iload 6, 2) := by decide +kernel
theorem dX12_loop_355 : decode cX12_loop 355 = .ok (.ifCond .eq 18, 3) := by decide +kernel
theorem dX12_loop_358 : decode cX12_loop 358 = .ok (.lload 10, 2) := by decide +kernel
theorem dX12_loop_360 : decode cX12_loop 360 = .ok (.lconst 1, 1) := by decide +kernel
theorem dX12_loop_361 : decode cX12_loop 361 = .ok (.lload 12, 2) := by decide +kernel
theorem dX12_loop_363 : decode cX12_loop 363 = .ok (.lor, 1) := by decide +kernel
theorem dX12_loop_364 : decode cX12_loop 364 = .ok (.lload 14, 2) := by decide +kernel
theorem dX12_loop_366 : decode cX12_loop 366 = .ok (.lor, 1) := by decide +kernel
theorem dX12_loop_367 : decode cX12_loop 367 = .ok (.land, 1) := by decide +kernel
theorem dX12_loop_368 : decode cX12_loop 368 = .ok (.lconst 0, 1) := by decide +kernel
theorem dX12_loop_369 : decode cX12_loop 369 = .ok (.lcmp, 1) := by decide +kernel
theorem dX12_loop_370 : decode cX12_loop 370 = .ok (.ifCond .eq 7, 3) := by decide +kernel
theorem dX12_loop_373 : decode cX12_loop 373 = .ok (.lconst 1, 1) := by decide +kernel
theorem dX12_loop_374 : decode cX12_loop 374 = .ok (.goto 4, 3) := by decide +kernel
theorem dX12_loop_377 : decode cX12_loop 377 = .ok (.lconst 0, 1) := by decide +kernel
theorem dX12_loop_378 : decode cX12_loop 378 = .ok (.lor, 1) := by decide +kernel
theorem dX12_loop_379 : decode cX12_loop 379 = .ok (.lstore 8, 2) := by decide +kernel
theorem dX12_loop_381 : decode cX12_loop 381 = .ok (.iload 6, 2) := by decide +kernel
theorem dX12_loop_383 : decode cX12_loop 383 = .ok (.ifCond .eq 33, 3) := by decide +kernel
theorem dX12_loop_386 : decode cX12_loop 386 = .ok (.aload_n 0, 1) := by decide +kernel
theorem dX12_loop_387 : decode cX12_loop 387 = .ok (.iload 4, 2) := by decide +kernel
theorem dX12_loop_389 : decode cX12_loop 389 = .ok (.iload_n 1, 1) := by decide +kernel
theorem dX12_loop_390 : decode cX12_loop 390 = .ok (.iload 7, 2) := by decide +kernel
theorem dX12_loop_392 : decode cX12_loop 392 = .ok (.lload 10, 2) := by decide +kernel
theorem dX12_loop_394 : decode cX12_loop 394 = .ok (.lconst 1, 1) := by decide +kernel
theorem dX12_loop_395 : decode cX12_loop 395 = .ok (.lload 14, 2) := by decide +kernel
theorem dX12_loop_397 : decode cX12_loop 397 = .ok (.lor, 1) := by decide +kernel
theorem dX12_loop_398 : decode cX12_loop 398 = .ok (.land, 1) := by decide +kernel
theorem dX12_loop_399 : decode cX12_loop 399 = .ok (.lconst 0, 1) := by decide +kernel
theorem dX12_loop_400 : decode cX12_loop 400 = .ok (.lcmp, 1) := by decide +kernel
theorem dX12_loop_401 : decode cX12_loop 401 = .ok (.ifCond .eq 7, 3) := by decide +kernel
theorem dX12_loop_404 : decode cX12_loop 404 = .ok (.iconst 1, 1) := by decide +kernel
theorem dX12_loop_405 : decode cX12_loop 405 = .ok (.goto 4, 3) := by decide +kernel
theorem dX12_loop_408 : decode cX12_loop 408 = .ok (.iconst 0, 1) := by decide +kernel
theorem dX12_loop_409 : decode cX12_loop 409 = .ok (.lload 8, 2) := by decide +kernel
theorem dX12_loop_411 : decode cX12_loop 411 = .ok (.invokevirtual 545, 3) := by decide +kernel
theorem dX12_loop_414 : decode cX12_loop 414 = .ok (.lstore 8, 2) := by decide +kernel
theorem dX12_loop_416 : decode cX12_loop 416 = .ok (.aload_n 0, 1) := by decide +kernel
theorem dX12_loop_417 : decode cX12_loop 417 = .ok (.getfield 58, 3) := by decide +kernel
theorem dX12_loop_420 : decode cX12_loop 420 = .ok (.iload 4, 2) := by decide +kernel
theorem dX12_loop_422 : decode cX12_loop 422 = .ok (.aload_n 0, 1) := by decide +kernel
theorem dX12_loop_423 : decode cX12_loop 423 = .ok (.getfield 370, 3) := by decide +kernel
theorem dX12_loop_426 : decode cX12_loop 426 = .ok (.iastore, 1) := by decide +kernel
theorem dX12_loop_427 : decode cX12_loop 427 = .ok (.lload 8, 2) := by decide +kernel
theorem dX12_loop_429 : decode cX12_loop 429 = .ok (.lreturn, 1) := by decide +kernel
def wX12_loop_b416 (B : Nat → kp_S → (Int64 → kp_S → Prop) → Prop) (a0 : Nat) (x1 : Int32) (w2 : Int64) (xn4 : Int32) (wn8 : Int64)  (Sn : kp_S) (post : Int64 → kp_S → Prop) : Prop :=
  ∃ b1001 : Nat, kp_R Sn 2420 a0 = some b1001 ∧
  vp_in xn4 (kp_N Sn b1001) ∧ ∀ T1002 : kp_S, T1002 = kp_sA Sn b1001 (upd (kp_A Sn b1001) (xn4.toNatClampNeg) (kp_I Sn 2417 a0)) →
  post wn8 T1002
def wX12_loop_b409 (B : Nat → kp_S → (Int64 → kp_S → Prop) → Prop) (a0 : Nat) (x1 : Int32) (w2 : Int64) (xn4 : Int32) (wn8 : Int64) (xt0 : Int32) (xt1 : Int32) (xt2 : Int32) (xt3 : Int32) (at4 : Nat)  (Sn : kp_S) (post : Int64 → kp_S → Prop) : Prop :=
  wX12_until at4 xt3 xt2 xt1 xt0 wn8 Sn (fun z2002 T2001 =>
  wX12_loop_b416 B a0 x1 w2 xn4 z2002  T2001 post)
def wX12_loop_b378 (B : Nat → kp_S → (Int64 → kp_S → Prop) → Prop) (a0 : Nat) (x1 : Int32) (w2 : Int64) (xn4 : Int32) (xn6 : Int32) (xn7 : Int32) (wn10 : Int64) (wn14 : Int64) (wt0 : Int64) (wt1 : Int64)  (Sn : kp_S) (post : Int64 → kp_S → Prop) : Prop :=
  ∀ z3001 : Int64, z3001 = (wt1 ||| wt0) →
  ((xn6 = 0 →
  wX12_loop_b416 B a0 x1 w2 xn4 z3001  Sn post) ∧ (¬ xn6 = 0 →
  (((lg_cmp (wn10 &&& (1 ||| wn14)) 0) = 0 →
  wX12_loop_b409 B a0 x1 w2 xn4 z3001 0 xn7 x1 xn4 a0  Sn post) ∧ (¬ (lg_cmp (wn10 &&& (1 ||| wn14)) 0) = 0 →
  wX12_loop_b409 B a0 x1 w2 xn4 z3001 1 xn7 x1 xn4 a0  Sn post))))
def wX12_loop_b373 (B : Nat → kp_S → (Int64 → kp_S → Prop) → Prop) (a0 : Nat) (x1 : Int32) (w2 : Int64) (xn4 : Int32) (xn6 : Int32) (xn7 : Int32) (wn10 : Int64) (wn14 : Int64) (wt0 : Int64)  (Sn : kp_S) (post : Int64 → kp_S → Prop) : Prop :=
  wX12_loop_b378 B a0 x1 w2 xn4 xn6 xn7 wn10 wn14 1 wt0  Sn post
def wX12_loop_b229 (B : Nat → kp_S → (Int64 → kp_S → Prop) → Prop) (a0 : Nat) (x1 : Int32) (w2 : Int64) (xn4 : Int32) (xn5 : Int32) (xn6 : Int32) (xn7 : Int32) (wt0 : Int64)  (Sn : kp_S) (post : Int64 → kp_S → Prop) : Prop :=
  wX12_fine a0 Sn (fun y5002 T5001 =>
  ((¬ y5002 = 0 →
  ∃ b5003 : Nat, kp_R T5001 2443 a0 = some b5003 ∧
  vp_in (kp_I T5001 2445 a0) (kp_N T5001 b5003) ∧ ∀ T5004 : kp_S, T5004 = kp_sB T5001 b5003 (vp_updL (kp_B T5001 b5003) ((kp_I T5001 2445 a0).toNatClampNeg) w2) →
  ∃ b5005 : Nat, kp_R T5004 2444 a0 = some b5005 ∧
  vp_in (kp_I T5004 2445 a0) (kp_N T5004 b5005) ∧ ∀ T5006 : kp_S, T5006 = kp_sA T5004 b5005 (upd (kp_A T5004 b5005) ((kp_I T5004 2445 a0).toNatClampNeg) xn4) →
  ∀ T5007 : kp_S, T5007 = kp_sI T5006 2445 a0 ((kp_I T5006 2445 a0) + 1) →
  B a0 T5007 (fun z5009 T5008 =>
  wX12_emit a0 48 0 0 T5008 (fun y5011 T5010 =>
  wX12_always B a0 xn4 z5009 T5010 (fun z5013 T5012 =>
  ∀ T5014 : kp_S, T5014 = kp_sI T5012 2445 a0 ((kp_I T5012 2445 a0) - 1) →
  ∀ T5015 : kp_S, T5015 = kp_sI T5014 2441 a0 xn5 →
  ∀ z5016 : Int64, z5016 = ((8 : Int64) <<< ((kp_I T5015 2445 a0 : Int32).toInt64 &&& 63)) →
  ∀ z5017 : Int64, z5017 = ((1048576 : Int64) <<< ((kp_I T5015 2445 a0 : Int32).toInt64 &&& 63)) →
  ∀ z5018 : Int64, z5018 = (wt0 ||| (z5013 &&& (((1 ||| z5016) ||| z5017) ^^^ (-1)))) →
  ((xn6 = 0 →
  wX12_loop_b373 B a0 x1 w2 xn4 xn6 xn7 z5013 z5017 z5018  T5015 post) ∧ (¬ xn6 = 0 →
  (((lg_cmp (z5013 &&& ((1 ||| z5016) ||| z5017)) 0) = 0 →
  wX12_loop_b378 B a0 x1 w2 xn4 xn6 xn7 z5013 z5017 0 z5018  T5015 post) ∧ (¬ (lg_cmp (z5013 &&& ((1 ||| z5016) ||| z5017)) 0) = 0 →
  wX12_loop_b373 B a0 x1 w2 xn4 xn6 xn7 z5013 z5017 z5018  T5015 post)))))))) ∧ (y5002 = 0 →
  post 0 T5001)))
def wX12_loop_b215 (B : Nat → kp_S → (Int64 → kp_S → Prop) → Prop) (a0 : Nat) (x1 : Int32) (w2 : Int64) (xn4 : Int32) (xn5 : Int32) (xn6 : Int32) (xn7 : Int32)  (Sn : kp_S) (post : Int64 → kp_S → Prop) : Prop :=
  ((xn6 = 0 →
  wX12_risky a0 0 Sn (fun z6002 T6001 =>
  wX12_loop_b229 B a0 x1 w2 xn4 xn5 xn6 xn7 z6002  T6001 post)) ∧ (¬ xn6 = 0 →
  wX12_loop_b229 B a0 x1 w2 xn4 xn5 xn6 xn7 0  Sn post))
def wX12_loop (B : Nat → kp_S → (Int64 → kp_S → Prop) → Prop) (a0 : Nat) (x1 : Int32) (w2 : Int64) (S : kp_S) (post : Int64 → kp_S → Prop) : Prop :=
  wX12_describe a0 x1 S (fun y2 T1 =>
  ∀ y3 : Int32, y3 = (kp_I T1 2441 a0) →
  wX12_is a0 45 T1 (fun y5 T4 =>
  ∀ y6 : Int32, y6 = (kp_I T4 2417 a0) →
  wX12_skip a0 45 T4 (fun y8 T7 =>
  ((y8 = 0 →
  wX12_skip a0 15 T7 (fun y10 T9 =>
  ((y10 = 0 →
  ∀ T11 : kp_S, T11 = kp_sI T9 2410 a0 ((kp_I T9 2410 a0) + 1) →
  ∀ y12 : Int32, y12 = (kp_I T11 2410 a0) →
  wX12_take a0 2 T11 (fun T13 =>
  wX12_take a0 17 T13 (fun T14 =>
  wX12_expression_t a0 T14 (fun T15 =>
  wX12_take a0 18 T15 (fun T16 =>
  wX12_expression_t a0 T16 (fun T17 =>
  wX12_fine a0 T17 (fun y19 T18 =>
  ((¬ y19 = 0 →
  ∃ b20 : Nat, kp_R T18 2422 a0 = some b20 ∧
  wX12_tell a0 y12 T18 (fun y22 T21 =>
  vp_in y2 (kp_N T21 b20) ∧ ∀ T23 : kp_S, T23 = kp_sA T21 b20 (upd (kp_A T21 b20) (y2.toNatClampNeg) y22) →
  wX12_emit a0 46 y2 0 T23 (fun y25 T24 =>
  ∃ b26 : Nat, kp_R T24 2418 a0 = some b26 ∧
  vp_in y2 (kp_N T24 b26) ∧ ∀ T27 : kp_S, T27 = kp_sA T24 b26 (upd (kp_A T24 b26) (y2.toNatClampNeg) (kp_I T24 2417 a0)) →
  wX12_emit a0 47 y2 0 T27 (fun y29 T28 =>
  wX12_loop_b215 B a0 x1 w2 y2 y3 y5 y6  T28 post)))) ∧ (y19 = 0 →
  post 0 T18))))))))) ∧ (¬ y10 = 0 →
  wX12_emit a0 43 y2 0 T9 (fun y32 T31 =>
  ∃ b33 : Nat, kp_R T31 2418 a0 = some b33 ∧
  vp_in y2 (kp_N T31 b33) ∧ ∀ T34 : kp_S, T34 = kp_sA T31 b33 (upd (kp_A T31 b33) (y2.toNatClampNeg) (kp_I T31 2417 a0)) →
  ∃ b35 : Nat, kp_R T34 2405 a0 = some b35 ∧
  vp_in x1 (kp_N T34 b35) ∧
  wX12_emit a0 44 (kp_A T34 b35 x1.toNatClampNeg) 0 T34 (fun y37 T36 =>
  wX12_expression_t a0 T36 (fun T38 =>
  wX12_emit a0 45 y2 0 T38 (fun y40 T39 =>
  wX12_loop_b215 B a0 x1 w2 y2 y3 y5 y6  T39 post)))))))) ∧ (¬ y8 = 0 →
  wX12_emit a0 43 y2 0 T7 (fun y43 T42 =>
  wX12_emit a0 56 y2 0 T42 (fun y45 T44 =>
  wX12_loop_b215 B a0 x1 w2 y2 y3 y5 y45  T44 post)))))))
set_option maxHeartbeats 4000000 in
set_option maxRecDepth 100000 in
theorem c_X12_loop (l : Launch) (D : va_G) (cy : Nat → ClassId) (ad : (Nat → Nat) × (Nat → Nat)) (F L : Nat) (B : Nat → kp_S → (Int64 → kp_S → Prop) → Prop) (hB : ∀ (S : kp_S) (a0 : Nat) (post : Int64 → kp_S → Prop), kp_ok S → kp_is S a0 12 → B a0 S post → kp_M l yX12_block cX12_block 6 (some .long) { frames := F, cells := 0, slots := 0, locals := L } D cy ad S [.ref a0] 0 0 (fun A => kp_Ql D cy A S post)) (hF : 151 ≤ F) (hL : 3211 ≤ L) (S : kp_S) (a0 : Nat) (x1 : Int32) (w2 : Int64) (post : Int64 → kp_S → Prop) (hS : kp_ok S) (f_a0 : kp_is S a0 12) (hw : wX12_loop B a0 x1 w2 S post) : kp_M l yX12_loop cX12_loop 16 (some .long) { frames := F + 2, cells := 0, slots := 0, locals := L + 50 } D cy ad S [.ref a0, .int x1, .long w2] 0 0 (fun A => kp_Ql D cy A S post) := by
  refine kp_start (own := RX12) (by decide) rfl (Nat.le_of_ble_eq_true rfl) hS ?_
  intro p e s m below meth c A ls X hr hlocks hname h hl
  have hle : kp_le S S := kp_le.rf
  have hl : lv_has ls 16 [(0, .ref a0), (1, .int x1), (2, .long w2)] := hl
  have j416 : ∀ (xn4 : Int32) (wn8 : Int64) (Sn : kp_S) (H : Heap) (locs : List Loc) (ls : Array Slot), lv_has ls 16 [(0, .ref a0), (4, .int xn4), (8, .long wn8)] → kp_H D cy A Sn s.heap H locs → kp_le S Sn → kp_is Sn a0 12 → wX12_loop_b416 B a0 x1 w2 xn4 wn8  Sn post → W p l e { frames := F + 2, cells := 0, slots := 0, locals := L + 50 } s m ([.ref a0, .int x1, .long w2] : List Value).toArray below meth c H locs 0 0 (MQ below (kp_Ql D cy A S post) ([.ref a0, .int x1, .long w2] : List Value).toArray s 0 0 A) (F0 m 416 ls []) := by
    intro xn4 wn8 Sn H locs ls hl h hle f_a0 hw
    unfold wX12_loop_b416 at hw
    refine lv_aload_n X.1 X.2.1 dX12_loop_416 rfl (lv_at hl 0 rfl) ?_
    obtain ⟨b1001, e_b1001, hw⟩ := hw
    have f_b1001 := h.2.2.2.rf (c := 12) (k := 20) f_a0 (by decide) (by decide) e_b1001 (t := 14) rfl
    refine kp_get X h f_a0 ff_12_58.l (v := .ref b1001) (congrArg va_rf e_b1001) dX12_loop_417 ?_
    refine lv_iload X.1 X.2.1 dX12_loop_420 (lv_at hl 1 rfl) ?_
    refine lv_aload_n X.1 X.2.1 dX12_loop_422 rfl (lv_at hl 0 rfl) ?_
    refine kp_get X h f_a0 fp_12_370.l (v := .int (kp_I Sn 2417 a0)) rfl dX12_loop_423 ?_
    obtain ⟨hi, hw⟩ := hw
    refine kp_iast X h f_b1001 hi dX12_loop_426 (fun T1002 e_T1002 l_T1002 H locs h => ?_)
    have hw := hw T1002 e_T1002
    have f_a0 := l_T1002.is f_a0
    have f_b1001 := l_T1002.is f_b1001
    have hle := hle.tr l_T1002
    have e_b1001 : kp_R T1002 2420 a0 = some b1001 := by rw [e_T1002]; exact e_b1001
    refine lv_lload X.1 X.2.1 dX12_loop_427 (lv_at hl 2 rfl) ?_
    exact kp_retl X hr hlocks h hle hw dX12_loop_429
  have j409 : ∀ (xn4 : Int32) (wn8 : Int64) (xt0 : Int32) (xt1 : Int32) (xt2 : Int32) (xt3 : Int32) (at4 : Nat) (Sn : kp_S) (H : Heap) (locs : List Loc) (ls : Array Slot), lv_has ls 16 [(0, .ref a0), (4, .int xn4), (8, .long wn8)] → kp_H D cy A Sn s.heap H locs → kp_le S Sn → kp_is Sn a0 12 → kp_is Sn at4 12 → wX12_loop_b409 B a0 x1 w2 xn4 wn8 xt0 xt1 xt2 xt3 at4  Sn post → W p l e { frames := F + 2, cells := 0, slots := 0, locals := L + 50 } s m ([.ref a0, .int x1, .long w2] : List Value).toArray below meth c H locs 0 0 (MQ below (kp_Ql D cy A S post) ([.ref a0, .int x1, .long w2] : List Value).toArray s 0 0 A) (F0 m 409 ls [.int xt0, .int xt1, .int xt2, .int xt3, .ref at4]) := by
    intro xn4 wn8 xt0 xt1 xt2 xt3 at4 Sn H locs ls hl h hle f_a0 f_at4 hw
    unfold wX12_loop_b409 at hw
    refine lv_lload X.1 X.2.1 dX12_loop_409 (lv_at hl 2 rfl) ?_
    refine kp_calll X h (kp_runV (rm := { frames := 150, cells := 0, slots := 0, locals := 3185 }) (mc := 0) (ms := 0) (rest := []) (Qc := fun A => kp_Ql D cy A Sn _) X h (c_X12_until l D cy ad Sn at4 xt3 xt2 xt1 xt0 wn8 _ h.2.2.2 f_at4 hw) f_at4 cv_12_545 ⟨by dsimp only; omega, by dsimp only; omega, rfl, rfl, by dsimp only; omega, by dsimp only; omega⟩ rfl hl.1 rfl (Nat.le_of_ble_eq_true rfl) dX12_loop_411) (fun z2002 T2001 hw l_T2001 H locs h => ?_)
    have f_a0 := l_T2001.is f_a0
    have f_at4 := l_T2001.is f_at4
    have hle := hle.tr l_T2001
    refine lv_lstore (lv' := [(8, .long z2002), (0, .ref a0), (4, .int xn4)]) X.1 X.2.1 dX12_loop_414 hl (by decide) rfl (fun ls hl => ?_)
    exact j416 xn4 z2002 T2001 H locs ls (lv_sub hl [1, 2, 0] rfl) h hle f_a0 hw
  have j378 : ∀ (xn4 : Int32) (xn6 : Int32) (xn7 : Int32) (wn10 : Int64) (wn14 : Int64) (wt0 : Int64) (wt1 : Int64) (Sn : kp_S) (H : Heap) (locs : List Loc) (ls : Array Slot), lv_has ls 16 [(0, .ref a0), (1, .int x1), (4, .int xn4), (6, .int xn6), (7, .int xn7), (10, .long wn10), (14, .long wn14)] → kp_H D cy A Sn s.heap H locs → kp_le S Sn → kp_is Sn a0 12 → wX12_loop_b378 B a0 x1 w2 xn4 xn6 xn7 wn10 wn14 wt0 wt1  Sn post → W p l e { frames := F + 2, cells := 0, slots := 0, locals := L + 50 } s m ([.ref a0, .int x1, .long w2] : List Value).toArray below meth c H locs 0 0 (MQ below (kp_Ql D cy A S post) ([.ref a0, .int x1, .long w2] : List Value).toArray s 0 0 A) (F0 m 378 ls [.long wt0, .long wt1]) := by
    intro xn4 xn6 xn7 wn10 wn14 wt0 wt1 Sn H locs ls hl h hle f_a0 hw
    unfold wX12_loop_b378 at hw
    refine lv_lor X.1 X.2.1 dX12_loop_378 ?_
    refine lv_topl (fun z3001 e_z3001 => ?_)
    have hw := hw z3001 e_z3001
    refine lv_lstore (lv' := [(8, .long z3001), (0, .ref a0), (1, .int x1), (4, .int xn4), (6, .int xn6), (7, .int xn7), (10, .long wn10), (14, .long wn14)]) X.1 X.2.1 dX12_loop_379 hl (by decide) rfl (fun ls hl => ?_)
    refine lv_iload X.1 X.2.1 dX12_loop_381 (lv_at hl 4 rfl) ?_
    refine lv_if_eq (tgt := 416) X.1 X.2.1 dX12_loop_383 (by decide) (fun c3003 => ?_) (fun c3003 => ?_)
    · have hw := hw.1 c3003
      exact j416 xn4 z3001 Sn H locs ls (lv_sub hl [1, 3, 0] rfl) h hle f_a0 hw
    · have hw := hw.2 c3003
      refine lv_aload_n X.1 X.2.1 dX12_loop_386 rfl (lv_at hl 1 rfl) ?_
      refine lv_iload X.1 X.2.1 dX12_loop_387 (lv_at hl 3 rfl) ?_
      refine lv_iload_n X.1 X.2.1 dX12_loop_389 rfl (lv_at hl 2 rfl) ?_
      refine lv_iload X.1 X.2.1 dX12_loop_390 (lv_at hl 5 rfl) ?_
      refine lv_lload X.1 X.2.1 dX12_loop_392 (lv_at hl 6 rfl) ?_
      refine lv_lconst (v := 1) X.1 X.2.1 dX12_loop_394 (by decide) ?_
      refine lv_lload X.1 X.2.1 dX12_loop_395 (lv_at hl 7 rfl) ?_
      refine lv_lor X.1 X.2.1 dX12_loop_397 ?_
      refine lv_land X.1 X.2.1 dX12_loop_398 ?_
      refine lv_lconst (v := 0) X.1 X.2.1 dX12_loop_399 (by decide) ?_
      refine W.lcmp X.1 X.2.1 dX12_loop_400 ?_
      refine lv_if_eq (tgt := 408) X.1 X.2.1 dX12_loop_401 (by decide) (fun c3002 => ?_) (fun c3002 => ?_)
      · have hw := hw.1 c3002
        refine lv_iconst (v := 0) X.1 X.2.1 dX12_loop_408 (by decide) ?_
        exact j409 xn4 z3001 0 xn7 x1 xn4 a0 Sn H locs ls (lv_sub hl [1, 3, 0] rfl) h hle f_a0 f_a0 hw
      · have hw := hw.2 c3002
        refine lv_iconst (v := 1) X.1 X.2.1 dX12_loop_404 (by decide) ?_
        refine lv_goto (tgt := 409) X.1 X.2.1 dX12_loop_405 (by decide) ?_
        exact j409 xn4 z3001 1 xn7 x1 xn4 a0 Sn H locs ls (lv_sub hl [1, 3, 0] rfl) h hle f_a0 f_a0 hw
  have j373 : ∀ (xn4 : Int32) (xn6 : Int32) (xn7 : Int32) (wn10 : Int64) (wn14 : Int64) (wt0 : Int64) (Sn : kp_S) (H : Heap) (locs : List Loc) (ls : Array Slot), lv_has ls 16 [(0, .ref a0), (1, .int x1), (4, .int xn4), (6, .int xn6), (7, .int xn7), (10, .long wn10), (14, .long wn14)] → kp_H D cy A Sn s.heap H locs → kp_le S Sn → kp_is Sn a0 12 → wX12_loop_b373 B a0 x1 w2 xn4 xn6 xn7 wn10 wn14 wt0  Sn post → W p l e { frames := F + 2, cells := 0, slots := 0, locals := L + 50 } s m ([.ref a0, .int x1, .long w2] : List Value).toArray below meth c H locs 0 0 (MQ below (kp_Ql D cy A S post) ([.ref a0, .int x1, .long w2] : List Value).toArray s 0 0 A) (F0 m 373 ls [.long wt0]) := by
    intro xn4 xn6 xn7 wn10 wn14 wt0 Sn H locs ls hl h hle f_a0 hw
    unfold wX12_loop_b373 at hw
    refine lv_lconst (v := 1) X.1 X.2.1 dX12_loop_373 (by decide) ?_
    refine lv_goto (tgt := 378) X.1 X.2.1 dX12_loop_374 (by decide) ?_
    exact j378 xn4 xn6 xn7 wn10 wn14 1 wt0 Sn H locs ls (lv_sub hl [0, 1, 2, 3, 4, 5, 6] rfl) h hle f_a0 hw
  have j229 : ∀ (xn4 : Int32) (xn5 : Int32) (xn6 : Int32) (xn7 : Int32) (wt0 : Int64) (Sn : kp_S) (H : Heap) (locs : List Loc) (ls : Array Slot), lv_has ls 16 [(0, .ref a0), (1, .int x1), (2, .long w2), (4, .int xn4), (5, .int xn5), (6, .int xn6), (7, .int xn7)] → kp_H D cy A Sn s.heap H locs → kp_le S Sn → kp_is Sn a0 12 → wX12_loop_b229 B a0 x1 w2 xn4 xn5 xn6 xn7 wt0  Sn post → W p l e { frames := F + 2, cells := 0, slots := 0, locals := L + 50 } s m ([.ref a0, .int x1, .long w2] : List Value).toArray below meth c H locs 0 0 (MQ below (kp_Ql D cy A S post) ([.ref a0, .int x1, .long w2] : List Value).toArray s 0 0 A) (F0 m 229 ls [.long wt0]) := by
    intro xn4 xn5 xn6 xn7 wt0 Sn H locs ls hl h hle f_a0 hw
    unfold wX12_loop_b229 at hw
    refine lv_lstore (lv' := [(8, .long wt0), (0, .ref a0), (1, .int x1), (2, .long w2), (4, .int xn4), (5, .int xn5), (6, .int xn6), (7, .int xn7)]) X.1 X.2.1 dX12_loop_229 hl (by decide) rfl (fun ls hl => ?_)
    refine lv_aload_n X.1 X.2.1 dX12_loop_231 rfl (lv_at hl 1 rfl) ?_
    refine kp_calli X h (kp_runV (rm := { frames := 0, cells := 0, slots := 0, locals := 0 }) (mc := 0) (ms := 0) (rest := []) (Qc := fun A => kp_Qi D cy A Sn _) X h (c_X12_fine l D cy ad Sn a0 _ h.2.2.2 f_a0 hw) f_a0 cv_12_408 ⟨by dsimp only; omega, by dsimp only; omega, rfl, rfl, by dsimp only; omega, by dsimp only; omega⟩ rfl hl.1 rfl (Nat.le_of_ble_eq_true rfl) dX12_loop_232) (fun y5002 T5001 hw l_T5001 H locs h => ?_)
    have f_a0 := l_T5001.is f_a0
    have hle := hle.tr l_T5001
    refine lv_if_ne (tgt := 240) X.1 X.2.1 dX12_loop_235 (by decide) (fun c5021 => ?_) (fun c5021 => ?_)
    · have hw := hw.1 c5021
      refine lv_aload_n X.1 X.2.1 dX12_loop_240 rfl (lv_at hl 1 rfl) ?_
      obtain ⟨b5003, e_b5003, hw⟩ := hw
      have f_b5003 := h.2.2.2.rf (c := 12) (k := 43) f_a0 (by decide) (by decide) e_b5003 (t := 15) rfl
      refine kp_get X h f_a0 ff_12_106.l (v := .ref b5003) (congrArg va_rf e_b5003) dX12_loop_241 ?_
      refine lv_aload_n X.1 X.2.1 dX12_loop_244 rfl (lv_at hl 1 rfl) ?_
      refine kp_get X h f_a0 fp_12_423.l (v := .int (kp_I T5001 2445 a0)) rfl dX12_loop_245 ?_
      refine lv_lload_n X.1 X.2.1 dX12_loop_248 rfl (lv_at hl 3 rfl) ?_
      obtain ⟨hi, hw⟩ := hw
      refine kp_last X h f_b5003 hi dX12_loop_249 (fun T5004 e_T5004 l_T5004 H locs h => ?_)
      have hw := hw T5004 e_T5004
      have f_a0 := l_T5004.is f_a0
      have f_b5003 := l_T5004.is f_b5003
      have hle := hle.tr l_T5004
      have e_b5003 : kp_R T5004 2443 a0 = some b5003 := by rw [e_T5004]; exact e_b5003
      refine lv_aload_n X.1 X.2.1 dX12_loop_250 rfl (lv_at hl 1 rfl) ?_
      obtain ⟨b5005, e_b5005, hw⟩ := hw
      have f_b5005 := h.2.2.2.rf (c := 12) (k := 44) f_a0 (by decide) (by decide) e_b5005 (t := 14) rfl
      refine kp_get X h f_a0 ff_12_109.l (v := .ref b5005) (congrArg va_rf e_b5005) dX12_loop_251 ?_
      refine lv_aload_n X.1 X.2.1 dX12_loop_254 rfl (lv_at hl 1 rfl) ?_
      refine kp_get X h f_a0 fp_12_423.l (v := .int (kp_I T5004 2445 a0)) rfl dX12_loop_255 ?_
      refine lv_iload X.1 X.2.1 dX12_loop_258 (lv_at hl 4 rfl) ?_
      obtain ⟨hi, hw⟩ := hw
      refine kp_iast X h f_b5005 hi dX12_loop_260 (fun T5006 e_T5006 l_T5006 H locs h => ?_)
      have hw := hw T5006 e_T5006
      have f_a0 := l_T5006.is f_a0
      have f_b5003 := l_T5006.is f_b5003
      have f_b5005 := l_T5006.is f_b5005
      have hle := hle.tr l_T5006
      have e_b5003 : kp_R T5006 2443 a0 = some b5003 := by rw [e_T5006]; exact e_b5003
      have e_b5005 : kp_R T5006 2444 a0 = some b5005 := by rw [e_T5006]; exact e_b5005
      refine lv_aload_n X.1 X.2.1 dX12_loop_261 rfl (lv_at hl 1 rfl) ?_
      refine lv_dup X.1 X.2.1 dX12_loop_262 rfl ?_
      refine kp_get X h f_a0 fp_12_423.l (v := .int (kp_I T5006 2445 a0)) rfl dX12_loop_263 ?_
      refine lv_iconst (v := 1) X.1 X.2.1 dX12_loop_266 (by decide) ?_
      refine lv_iadd X.1 X.2.1 dX12_loop_267 ?_
      refine kp_putI X h f_a0 fp_12_423 rfl ⟨rfl, rfl⟩ dX12_loop_268 (fun T5007 e_T5007 l_T5007 H locs h => ?_)
      have hw := hw T5007 e_T5007
      have f_a0 := l_T5007.is f_a0
      have f_b5003 := l_T5007.is f_b5003
      have f_b5005 := l_T5007.is f_b5005
      have hle := hle.tr l_T5007
      have e_b5003 : kp_R T5007 2443 a0 = some b5003 := by rw [e_T5007]; exact e_b5003
      have e_b5005 : kp_R T5007 2444 a0 = some b5005 := by rw [e_T5007]; exact e_b5005
      refine lv_aload_n X.1 X.2.1 dX12_loop_271 rfl (lv_at hl 1 rfl) ?_
      refine kp_calll X h (kp_runV (rm := { frames := F, cells := 0, slots := 0, locals := L }) (mc := 0) (ms := 0) (rest := []) (Qc := fun A => kp_Ql D cy A T5007 _) X h (hB T5007 a0 _ h.2.2.2 f_a0 hw) f_a0 cv_12_447 ⟨by dsimp only; omega, by dsimp only; omega, rfl, rfl, by dsimp only; omega, by dsimp only; omega⟩ rfl hl.1 rfl (Nat.le_of_ble_eq_true rfl) dX12_loop_272) (fun z5009 T5008 hw l_T5008 H locs h => ?_)
      have f_a0 := l_T5008.is f_a0
      have f_b5003 := l_T5008.is f_b5003
      have f_b5005 := l_T5008.is f_b5005
      have hle := hle.tr l_T5008
      refine lv_lstore (lv' := [(10, .long z5009), (8, .long wt0), (0, .ref a0), (1, .int x1), (2, .long w2), (4, .int xn4), (5, .int xn5), (6, .int xn6), (7, .int xn7)]) X.1 X.2.1 dX12_loop_275 hl (by decide) rfl (fun ls hl => ?_)
      refine lv_aload_n X.1 X.2.1 dX12_loop_277 rfl (lv_at hl 2 rfl) ?_
      refine lv_bipush (v := 48) X.1 X.2.1 dX12_loop_278 (by decide) ?_
      refine lv_iconst (v := 0) X.1 X.2.1 dX12_loop_280 (by decide) ?_
      refine lv_iconst (v := 0) X.1 X.2.1 dX12_loop_281 (by decide) ?_
      refine kp_calli X h (kp_runV (rm := { frames := 0, cells := 0, slots := 0, locals := 0 }) (mc := 0) (ms := 0) (rest := []) (Qc := fun A => kp_Qi D cy A T5008 _) X h (c_X12_emit l D cy ad T5008 a0 48 0 0 _ h.2.2.2 f_a0 hw) f_a0 cv_12_451 ⟨by dsimp only; omega, by dsimp only; omega, rfl, rfl, by dsimp only; omega, by dsimp only; omega⟩ rfl hl.1 rfl (Nat.le_of_ble_eq_true rfl) dX12_loop_282) (fun y5011 T5010 hw l_T5010 H locs h => ?_)
      have f_a0 := l_T5010.is f_a0
      have f_b5003 := l_T5010.is f_b5003
      have f_b5005 := l_T5010.is f_b5005
      have hle := hle.tr l_T5010
      refine lv_pop X.1 X.2.1 dX12_loop_285 rfl ?_
      refine lv_aload_n X.1 X.2.1 dX12_loop_286 rfl (lv_at hl 2 rfl) ?_
      refine lv_iload X.1 X.2.1 dX12_loop_287 (lv_at hl 5 rfl) ?_
      refine lv_lload X.1 X.2.1 dX12_loop_289 (lv_at hl 0 rfl) ?_
      refine kp_calll X h (kp_runV (rm := { frames := F + 1, cells := 0, slots := 0, locals := L + 25 }) (mc := 0) (ms := 0) (rest := []) (Qc := fun A => kp_Ql D cy A T5010 _) X h (c_X12_always l D cy ad F L B hB hF hL T5010 a0 xn4 z5009 _ h.2.2.2 f_a0 hw) f_a0 cv_12_541 ⟨by dsimp only; omega, by dsimp only; omega, rfl, rfl, by dsimp only; omega, by dsimp only; omega⟩ rfl hl.1 rfl (Nat.le_of_ble_eq_true rfl) dX12_loop_291) (fun z5013 T5012 hw l_T5012 H locs h => ?_)
      have f_a0 := l_T5012.is f_a0
      have f_b5003 := l_T5012.is f_b5003
      have f_b5005 := l_T5012.is f_b5005
      have hle := hle.tr l_T5012
      refine lv_lstore (lv' := [(10, .long z5013), (8, .long wt0), (0, .ref a0), (1, .int x1), (2, .long w2), (4, .int xn4), (5, .int xn5), (6, .int xn6), (7, .int xn7)]) X.1 X.2.1 dX12_loop_294 hl (by decide) rfl (fun ls hl => ?_)
      refine lv_aload_n X.1 X.2.1 dX12_loop_296 rfl (lv_at hl 2 rfl) ?_
      refine lv_dup X.1 X.2.1 dX12_loop_297 rfl ?_
      refine kp_get X h f_a0 fp_12_423.l (v := .int (kp_I T5012 2445 a0)) rfl dX12_loop_298 ?_
      refine lv_iconst (v := 1) X.1 X.2.1 dX12_loop_301 (by decide) ?_
      refine lv_isub X.1 X.2.1 dX12_loop_302 ?_
      refine kp_putI X h f_a0 fp_12_423 rfl ⟨rfl, rfl⟩ dX12_loop_303 (fun T5014 e_T5014 l_T5014 H locs h => ?_)
      have hw := hw T5014 e_T5014
      have f_a0 := l_T5014.is f_a0
      have f_b5003 := l_T5014.is f_b5003
      have f_b5005 := l_T5014.is f_b5005
      have hle := hle.tr l_T5014
      refine lv_aload_n X.1 X.2.1 dX12_loop_306 rfl (lv_at hl 2 rfl) ?_
      refine lv_iload X.1 X.2.1 dX12_loop_307 (lv_at hl 6 rfl) ?_
      refine kp_putI X h f_a0 fp_12_397 rfl ⟨rfl, rfl⟩ dX12_loop_309 (fun T5015 e_T5015 l_T5015 H locs h => ?_)
      have hw := hw T5015 e_T5015
      have f_a0 := l_T5015.is f_a0
      have f_b5003 := l_T5015.is f_b5003
      have f_b5005 := l_T5015.is f_b5005
      have hle := hle.tr l_T5015
      refine lv_ldc2 (v := 8) X.1 X.2.1 X.2.2.2.1 (X.2.2.2.2.1 _ kl_12_498) dX12_loop_312 ?_
      refine lv_aload_n X.1 X.2.1 dX12_loop_315 rfl (lv_at hl 2 rfl) ?_
      refine kp_get X h f_a0 fp_12_423.l (v := .int (kp_I T5015 2445 a0)) rfl dX12_loop_316 ?_
      refine lv_lshl X.1 X.2.1 dX12_loop_319 rfl ?_
      refine lv_topl (fun z5016 e_z5016 => ?_)
      have hw := hw z5016 e_z5016
      refine lv_lstore (lv' := [(12, .long z5016), (10, .long z5013), (8, .long wt0), (0, .ref a0), (1, .int x1), (2, .long w2), (4, .int xn4), (5, .int xn5), (6, .int xn6), (7, .int xn7)]) X.1 X.2.1 dX12_loop_320 hl (by decide) rfl (fun ls hl => ?_)
      refine lv_ldc2 (v := 1048576) X.1 X.2.1 X.2.2.2.1 (X.2.2.2.2.1 _ kl_12_503) dX12_loop_322 ?_
      refine lv_aload_n X.1 X.2.1 dX12_loop_325 rfl (lv_at hl 3 rfl) ?_
      refine kp_get X h f_a0 fp_12_423.l (v := .int (kp_I T5015 2445 a0)) rfl dX12_loop_326 ?_
      refine lv_lshl X.1 X.2.1 dX12_loop_329 rfl ?_
      refine lv_topl (fun z5017 e_z5017 => ?_)
      have hw := hw z5017 e_z5017
      refine lv_lstore (lv' := [(14, .long z5017), (12, .long z5016), (10, .long z5013), (8, .long wt0), (0, .ref a0), (1, .int x1), (2, .long w2), (4, .int xn4), (5, .int xn5), (6, .int xn6), (7, .int xn7)]) X.1 X.2.1 dX12_loop_330 hl (by decide) rfl (fun ls hl => ?_)
      refine lv_lload X.1 X.2.1 dX12_loop_332 (lv_at hl 3 rfl) ?_
      refine lv_lload X.1 X.2.1 dX12_loop_334 (lv_at hl 2 rfl) ?_
      refine lv_lconst (v := 1) X.1 X.2.1 dX12_loop_336 (by decide) ?_
      refine lv_lload X.1 X.2.1 dX12_loop_337 (lv_at hl 1 rfl) ?_
      refine lv_lor X.1 X.2.1 dX12_loop_339 ?_
      refine lv_lload X.1 X.2.1 dX12_loop_340 (lv_at hl 0 rfl) ?_
      refine lv_lor X.1 X.2.1 dX12_loop_342 ?_
      refine lv_ldc2 (v := (-1)) X.1 X.2.1 X.2.2.2.1 (X.2.2.2.2.1 _ kl_12_543) dX12_loop_343 ?_
      refine lv_lxor X.1 X.2.1 dX12_loop_346 ?_
      refine lv_land X.1 X.2.1 dX12_loop_347 ?_
      refine lv_lor X.1 X.2.1 dX12_loop_348 ?_
      refine lv_topl (fun z5018 e_z5018 => ?_)
      have hw := hw z5018 e_z5018
      refine lv_lstore (lv' := [(8, .long z5018), (14, .long z5017), (12, .long z5016), (10, .long z5013), (0, .ref a0), (1, .int x1), (2, .long w2), (4, .int xn4), (5, .int xn5), (6, .int xn6), (7, .int xn7)]) X.1 X.2.1 dX12_loop_349 hl (by decide) rfl (fun ls hl => ?_)
      refine lv_lload X.1 X.2.1 dX12_loop_351 (lv_at hl 0 rfl) ?_
      refine lv_iload X.1 X.2.1 dX12_loop_353 (lv_at hl 9 rfl) ?_
      refine lv_if_eq (tgt := 373) X.1 X.2.1 dX12_loop_355 (by decide) (fun c5020 => ?_) (fun c5020 => ?_)
      · have hw := hw.1 c5020
        exact j373 xn4 xn6 xn7 z5013 z5017 z5018 T5015 H locs ls (lv_sub hl [4, 5, 7, 9, 10, 3, 1] rfl) h hle f_a0 hw
      · have hw := hw.2 c5020
        refine lv_lload X.1 X.2.1 dX12_loop_358 (lv_at hl 3 rfl) ?_
        refine lv_lconst (v := 1) X.1 X.2.1 dX12_loop_360 (by decide) ?_
        refine lv_lload X.1 X.2.1 dX12_loop_361 (lv_at hl 2 rfl) ?_
        refine lv_lor X.1 X.2.1 dX12_loop_363 ?_
        refine lv_lload X.1 X.2.1 dX12_loop_364 (lv_at hl 1 rfl) ?_
        refine lv_lor X.1 X.2.1 dX12_loop_366 ?_
        refine lv_land X.1 X.2.1 dX12_loop_367 ?_
        refine lv_lconst (v := 0) X.1 X.2.1 dX12_loop_368 (by decide) ?_
        refine W.lcmp X.1 X.2.1 dX12_loop_369 ?_
        refine lv_if_eq (tgt := 377) X.1 X.2.1 dX12_loop_370 (by decide) (fun c5019 => ?_) (fun c5019 => ?_)
        · have hw := hw.1 c5019
          refine lv_lconst (v := 0) X.1 X.2.1 dX12_loop_377 (by decide) ?_
          exact j378 xn4 xn6 xn7 z5013 z5017 0 z5018 T5015 H locs ls (lv_sub hl [4, 5, 7, 9, 10, 3, 1] rfl) h hle f_a0 hw
        · have hw := hw.2 c5019
          exact j373 xn4 xn6 xn7 z5013 z5017 z5018 T5015 H locs ls (lv_sub hl [4, 5, 7, 9, 10, 3, 1] rfl) h hle f_a0 hw
    · have hw := hw.2 c5021
      refine lv_lconst (v := 0) X.1 X.2.1 dX12_loop_238 (by decide) ?_
      exact kp_retl X hr hlocks h hle hw dX12_loop_239
  have j215 : ∀ (xn4 : Int32) (xn5 : Int32) (xn6 : Int32) (xn7 : Int32) (Sn : kp_S) (H : Heap) (locs : List Loc) (ls : Array Slot), lv_has ls 16 [(0, .ref a0), (1, .int x1), (2, .long w2), (4, .int xn4), (5, .int xn5), (6, .int xn6), (7, .int xn7)] → kp_H D cy A Sn s.heap H locs → kp_le S Sn → kp_is Sn a0 12 → wX12_loop_b215 B a0 x1 w2 xn4 xn5 xn6 xn7  Sn post → W p l e { frames := F + 2, cells := 0, slots := 0, locals := L + 50 } s m ([.ref a0, .int x1, .long w2] : List Value).toArray below meth c H locs 0 0 (MQ below (kp_Ql D cy A S post) ([.ref a0, .int x1, .long w2] : List Value).toArray s 0 0 A) (F0 m 215 ls []) := by
    intro xn4 xn5 xn6 xn7 Sn H locs ls hl h hle f_a0 hw
    unfold wX12_loop_b215 at hw
    refine lv_iload X.1 X.2.1 dX12_loop_215 (lv_at hl 5 rfl) ?_
    refine lv_if_eq (tgt := 224) X.1 X.2.1 dX12_loop_217 (by decide) (fun c6003 => ?_) (fun c6003 => ?_)
    · have hw := hw.1 c6003
      refine lv_aload_n X.1 X.2.1 dX12_loop_224 rfl (lv_at hl 0 rfl) ?_
      refine lv_lconst (v := 0) X.1 X.2.1 dX12_loop_225 (by decide) ?_
      refine kp_calll X h (kp_runV (rm := { frames := 0, cells := 0, slots := 0, locals := 0 }) (mc := 0) (ms := 0) (rest := []) (Qc := fun A => kp_Ql D cy A Sn _) X h (c_X12_risky l D cy ad Sn a0 0 _ h.2.2.2 f_a0 hw) f_a0 cv_12_483 ⟨by dsimp only; omega, by dsimp only; omega, rfl, rfl, by dsimp only; omega, by dsimp only; omega⟩ rfl hl.1 rfl (Nat.le_of_ble_eq_true rfl) dX12_loop_226) (fun z6002 T6001 hw l_T6001 H locs h => ?_)
      have f_a0 := l_T6001.is f_a0
      have hle := hle.tr l_T6001
      exact j229 xn4 xn5 xn6 xn7 z6002 T6001 H locs ls (lv_sub hl [0, 1, 2, 3, 4, 5, 6] rfl) h hle f_a0 hw
    · have hw := hw.2 c6003
      refine lv_lconst (v := 0) X.1 X.2.1 dX12_loop_220 (by decide) ?_
      refine lv_goto (tgt := 229) X.1 X.2.1 dX12_loop_221 (by decide) ?_
      exact j229 xn4 xn5 xn6 xn7 0 Sn H locs ls (lv_sub hl [0, 1, 2, 3, 4, 5, 6] rfl) h hle f_a0 hw
  unfold wX12_loop at hw
  have h : kp_H D cy A S s.heap s.heap [] := h
  revert h
  intro h
  refine lv_aload_n X.1 X.2.1 dX12_loop_0 rfl (lv_at hl 0 rfl) ?_
  refine lv_iload_n X.1 X.2.1 dX12_loop_1 rfl (lv_at hl 1 rfl) ?_
  refine kp_calli X h (kp_runV (rm := { frames := 0, cells := 0, slots := 0, locals := 0 }) (mc := 0) (ms := 0) (rest := []) (Qc := fun A => kp_Qi D cy A S _) X h (c_X12_describe l D cy ad S a0 x1 _ h.2.2.2 f_a0 hw) f_a0 cv_12_538 ⟨by dsimp only; omega, by dsimp only; omega, rfl, rfl, by dsimp only; omega, by dsimp only; omega⟩ rfl hl.1 rfl (Nat.le_of_ble_eq_true rfl) dX12_loop_2) (fun y2 T1 hw l_T1 H locs h => ?_)
  have f_a0 := l_T1.is f_a0
  have hle := hle.tr l_T1
  refine lv_istore (lv' := [(4, .int y2), (0, .ref a0), (1, .int x1), (2, .long w2)]) X.1 X.2.1 dX12_loop_5 hl (by decide) rfl (fun ls hl => ?_)
  refine lv_aload_n X.1 X.2.1 dX12_loop_7 rfl (lv_at hl 1 rfl) ?_
  refine kp_get X h f_a0 fp_12_397.l (v := .int (kp_I T1 2441 a0)) rfl dX12_loop_8 ?_
  refine lv_topi (fun y3 e_y3 => ?_)
  have hw := hw y3 e_y3
  refine lv_istore (lv' := [(5, .int y3), (4, .int y2), (0, .ref a0), (1, .int x1), (2, .long w2)]) X.1 X.2.1 dX12_loop_11 hl (by decide) rfl (fun ls hl => ?_)
  refine lv_aload_n X.1 X.2.1 dX12_loop_13 rfl (lv_at hl 2 rfl) ?_
  refine lv_bipush (v := 45) X.1 X.2.1 dX12_loop_14 (by decide) ?_
  refine kp_calli X h (kp_runV (rm := { frames := 0, cells := 0, slots := 0, locals := 0 }) (mc := 0) (ms := 0) (rest := []) (Qc := fun A => kp_Qi D cy A T1 _) X h (c_X12_is l D cy ad T1 a0 45 _ h.2.2.2 f_a0 hw) f_a0 cv_12_379 ⟨by dsimp only; omega, by dsimp only; omega, rfl, rfl, by dsimp only; omega, by dsimp only; omega⟩ rfl hl.1 rfl (Nat.le_of_ble_eq_true rfl) dX12_loop_16) (fun y5 T4 hw l_T4 H locs h => ?_)
  have f_a0 := l_T4.is f_a0
  have hle := hle.tr l_T4
  refine lv_istore (lv' := [(6, .int y5), (5, .int y3), (4, .int y2), (0, .ref a0), (1, .int x1), (2, .long w2)]) X.1 X.2.1 dX12_loop_19 hl (by decide) rfl (fun ls hl => ?_)
  refine lv_aload_n X.1 X.2.1 dX12_loop_21 rfl (lv_at hl 3 rfl) ?_
  refine kp_get X h f_a0 fp_12_370.l (v := .int (kp_I T4 2417 a0)) rfl dX12_loop_22 ?_
  refine lv_topi (fun y6 e_y6 => ?_)
  have hw := hw y6 e_y6
  refine lv_istore (lv' := [(7, .int y6), (6, .int y5), (5, .int y3), (4, .int y2), (0, .ref a0), (1, .int x1), (2, .long w2)]) X.1 X.2.1 dX12_loop_25 hl (by decide) rfl (fun ls hl => ?_)
  refine lv_aload_n X.1 X.2.1 dX12_loop_27 rfl (lv_at hl 4 rfl) ?_
  refine lv_bipush (v := 45) X.1 X.2.1 dX12_loop_28 (by decide) ?_
  refine kp_calli X h (kp_runV (rm := { frames := 1, cells := 0, slots := 0, locals := 21 }) (mc := 0) (ms := 0) (rest := []) (Qc := fun A => kp_Qi D cy A T4 _) X h (c_X12_skip l D cy ad T4 a0 45 _ h.2.2.2 f_a0 hw) f_a0 cv_12_440 ⟨by dsimp only; omega, by dsimp only; omega, rfl, rfl, by dsimp only; omega, by dsimp only; omega⟩ rfl hl.1 rfl (Nat.le_of_ble_eq_true rfl) dX12_loop_30) (fun y8 T7 hw l_T7 H locs h => ?_)
  have f_a0 := l_T7.is f_a0
  have hle := hle.tr l_T7
  refine lv_if_eq (tgt := 60) X.1 X.2.1 dX12_loop_33 (by decide) (fun c46 => ?_) (fun c46 => ?_)
  · have hw := hw.1 c46
    refine lv_aload_n X.1 X.2.1 dX12_loop_60 rfl (lv_at hl 4 rfl) ?_
    refine lv_bipush (v := 15) X.1 X.2.1 dX12_loop_61 (by decide) ?_
    refine kp_calli X h (kp_runV (rm := { frames := 1, cells := 0, slots := 0, locals := 21 }) (mc := 0) (ms := 0) (rest := []) (Qc := fun A => kp_Qi D cy A T7 _) X h (c_X12_skip l D cy ad T7 a0 15 _ h.2.2.2 f_a0 hw) f_a0 cv_12_440 ⟨by dsimp only; omega, by dsimp only; omega, rfl, rfl, by dsimp only; omega, by dsimp only; omega⟩ rfl hl.1 rfl (Nat.le_of_ble_eq_true rfl) dX12_loop_63) (fun y10 T9 hw l_T9 H locs h => ?_)
    have f_a0 := l_T9.is f_a0
    have hle := hle.tr l_T9
    refine lv_if_eq (tgt := 121) X.1 X.2.1 dX12_loop_66 (by decide) (fun c41 => ?_) (fun c41 => ?_)
    · have hw := hw.1 c41
      refine lv_aload_n X.1 X.2.1 dX12_loop_121 rfl (lv_at hl 4 rfl) ?_
      refine lv_dup X.1 X.2.1 dX12_loop_122 rfl ?_
      refine kp_get X h f_a0 fp_12_376.l (v := .int (kp_I T9 2410 a0)) rfl dX12_loop_123 ?_
      refine lv_iconst (v := 1) X.1 X.2.1 dX12_loop_126 (by decide) ?_
      refine lv_iadd X.1 X.2.1 dX12_loop_127 ?_
      refine kp_putI X h f_a0 fp_12_376 rfl ⟨rfl, rfl⟩ dX12_loop_128 (fun T11 e_T11 l_T11 H locs h => ?_)
      have hw := hw T11 e_T11
      have f_a0 := l_T11.is f_a0
      have hle := hle.tr l_T11
      refine lv_aload_n X.1 X.2.1 dX12_loop_131 rfl (lv_at hl 4 rfl) ?_
      refine kp_get X h f_a0 fp_12_376.l (v := .int (kp_I T11 2410 a0)) rfl dX12_loop_132 ?_
      refine lv_topi (fun y12 e_y12 => ?_)
      have hw := hw y12 e_y12
      refine lv_istore (lv' := [(8, .int y12), (7, .int y6), (6, .int y5), (5, .int y3), (4, .int y2), (0, .ref a0), (1, .int x1), (2, .long w2)]) X.1 X.2.1 dX12_loop_135 hl (by decide) rfl (fun ls hl => ?_)
      refine lv_aload_n X.1 X.2.1 dX12_loop_137 rfl (lv_at hl 5 rfl) ?_
      refine lv_iconst (v := 2) X.1 X.2.1 dX12_loop_138 (by decide) ?_
      refine kp_callv X h (kp_runV (rm := { frames := 1, cells := 0, slots := 0, locals := 21 }) (mc := 0) (ms := 0) (rest := []) (Qc := fun A => kp_Qv D cy A T11 _) X h (c_X12_take l D cy ad T11 a0 2 _ h.2.2.2 f_a0 hw) f_a0 cv_12_385 ⟨by dsimp only; omega, by dsimp only; omega, rfl, rfl, by dsimp only; omega, by dsimp only; omega⟩ rfl hl.1 rfl (Nat.le_of_ble_eq_true rfl) dX12_loop_139) (fun T13 hw l_T13 H locs h => ?_)
      have f_a0 := l_T13.is f_a0
      have hle := hle.tr l_T13
      refine lv_aload_n X.1 X.2.1 dX12_loop_142 rfl (lv_at hl 5 rfl) ?_
      refine lv_bipush (v := 17) X.1 X.2.1 dX12_loop_143 (by decide) ?_
      refine kp_callv X h (kp_runV (rm := { frames := 1, cells := 0, slots := 0, locals := 21 }) (mc := 0) (ms := 0) (rest := []) (Qc := fun A => kp_Qv D cy A T13 _) X h (c_X12_take l D cy ad T13 a0 17 _ h.2.2.2 f_a0 hw) f_a0 cv_12_385 ⟨by dsimp only; omega, by dsimp only; omega, rfl, rfl, by dsimp only; omega, by dsimp only; omega⟩ rfl hl.1 rfl (Nat.le_of_ble_eq_true rfl) dX12_loop_145) (fun T14 hw l_T14 H locs h => ?_)
      have f_a0 := l_T14.is f_a0
      have hle := hle.tr l_T14
      refine lv_aload_n X.1 X.2.1 dX12_loop_148 rfl (lv_at hl 5 rfl) ?_
      refine kp_callv X h (kp_runV (rm := { frames := 149, cells := 0, slots := 0, locals := 3164 }) (mc := 0) (ms := 0) (rest := []) (Qc := fun A => kp_Qv D cy A T14 _) X h (c_X12_expression_t l D cy ad T14 a0 _ h.2.2.2 f_a0 hw) f_a0 cv_12_520 ⟨by dsimp only; omega, by dsimp only; omega, rfl, rfl, by dsimp only; omega, by dsimp only; omega⟩ rfl hl.1 rfl (Nat.le_of_ble_eq_true rfl) dX12_loop_149) (fun T15 hw l_T15 H locs h => ?_)
      have f_a0 := l_T15.is f_a0
      have hle := hle.tr l_T15
      refine lv_aload_n X.1 X.2.1 dX12_loop_152 rfl (lv_at hl 5 rfl) ?_
      refine lv_bipush (v := 18) X.1 X.2.1 dX12_loop_153 (by decide) ?_
      refine kp_callv X h (kp_runV (rm := { frames := 1, cells := 0, slots := 0, locals := 21 }) (mc := 0) (ms := 0) (rest := []) (Qc := fun A => kp_Qv D cy A T15 _) X h (c_X12_take l D cy ad T15 a0 18 _ h.2.2.2 f_a0 hw) f_a0 cv_12_385 ⟨by dsimp only; omega, by dsimp only; omega, rfl, rfl, by dsimp only; omega, by dsimp only; omega⟩ rfl hl.1 rfl (Nat.le_of_ble_eq_true rfl) dX12_loop_155) (fun T16 hw l_T16 H locs h => ?_)
      have f_a0 := l_T16.is f_a0
      have hle := hle.tr l_T16
      refine lv_aload_n X.1 X.2.1 dX12_loop_158 rfl (lv_at hl 5 rfl) ?_
      refine kp_callv X h (kp_runV (rm := { frames := 149, cells := 0, slots := 0, locals := 3164 }) (mc := 0) (ms := 0) (rest := []) (Qc := fun A => kp_Qv D cy A T16 _) X h (c_X12_expression_t l D cy ad T16 a0 _ h.2.2.2 f_a0 hw) f_a0 cv_12_520 ⟨by dsimp only; omega, by dsimp only; omega, rfl, rfl, by dsimp only; omega, by dsimp only; omega⟩ rfl hl.1 rfl (Nat.le_of_ble_eq_true rfl) dX12_loop_159) (fun T17 hw l_T17 H locs h => ?_)
      have f_a0 := l_T17.is f_a0
      have hle := hle.tr l_T17
      refine lv_aload_n X.1 X.2.1 dX12_loop_162 rfl (lv_at hl 5 rfl) ?_
      refine kp_calli X h (kp_runV (rm := { frames := 0, cells := 0, slots := 0, locals := 0 }) (mc := 0) (ms := 0) (rest := []) (Qc := fun A => kp_Qi D cy A T17 _) X h (c_X12_fine l D cy ad T17 a0 _ h.2.2.2 f_a0 hw) f_a0 cv_12_408 ⟨by dsimp only; omega, by dsimp only; omega, rfl, rfl, by dsimp only; omega, by dsimp only; omega⟩ rfl hl.1 rfl (Nat.le_of_ble_eq_true rfl) dX12_loop_163) (fun y19 T18 hw l_T18 H locs h => ?_)
      have f_a0 := l_T18.is f_a0
      have hle := hle.tr l_T18
      refine lv_if_ne (tgt := 171) X.1 X.2.1 dX12_loop_166 (by decide) (fun c30 => ?_) (fun c30 => ?_)
      · have hw := hw.1 c30
        refine lv_aload_n X.1 X.2.1 dX12_loop_171 rfl (lv_at hl 5 rfl) ?_
        obtain ⟨b20, e_b20, hw⟩ := hw
        have f_b20 := h.2.2.2.rf (c := 12) (k := 22) f_a0 (by decide) (by decide) e_b20 (t := 14) rfl
        refine kp_get X h f_a0 ff_12_64.l (v := .ref b20) (congrArg va_rf e_b20) dX12_loop_172 ?_
        refine lv_iload X.1 X.2.1 dX12_loop_175 (lv_at hl 4 rfl) ?_
        refine lv_aload_n X.1 X.2.1 dX12_loop_177 rfl (lv_at hl 5 rfl) ?_
        refine lv_iload X.1 X.2.1 dX12_loop_178 (lv_at hl 0 rfl) ?_
        refine kp_calli X h (kp_runV (rm := { frames := 1, cells := 0, slots := 0, locals := 23 }) (mc := 0) (ms := 0) (rest := [.int y2, .ref b20]) (Qc := fun A => kp_Qi D cy A T18 _) X h (c_X12_tell l D cy ad T18 a0 y12 _ h.2.2.2 f_a0 hw) f_a0 cv_12_523 ⟨by dsimp only; omega, by dsimp only; omega, rfl, rfl, by dsimp only; omega, by dsimp only; omega⟩ rfl hl.1 rfl (Nat.le_of_ble_eq_true rfl) dX12_loop_180) (fun y22 T21 hw l_T21 H locs h => ?_)
        have f_a0 := l_T21.is f_a0
        have f_b20 := l_T21.is f_b20
        have hle := hle.tr l_T21
        obtain ⟨hi, hw⟩ := hw
        refine kp_iast X h f_b20 hi dX12_loop_183 (fun T23 e_T23 l_T23 H locs h => ?_)
        have hw := hw T23 e_T23
        have f_a0 := l_T23.is f_a0
        have f_b20 := l_T23.is f_b20
        have hle := hle.tr l_T23
        refine lv_aload_n X.1 X.2.1 dX12_loop_184 rfl (lv_at hl 5 rfl) ?_
        refine lv_bipush (v := 46) X.1 X.2.1 dX12_loop_185 (by decide) ?_
        refine lv_iload X.1 X.2.1 dX12_loop_187 (lv_at hl 4 rfl) ?_
        refine lv_iconst (v := 0) X.1 X.2.1 dX12_loop_189 (by decide) ?_
        refine kp_calli X h (kp_runV (rm := { frames := 0, cells := 0, slots := 0, locals := 0 }) (mc := 0) (ms := 0) (rest := []) (Qc := fun A => kp_Qi D cy A T23 _) X h (c_X12_emit l D cy ad T23 a0 46 y2 0 _ h.2.2.2 f_a0 hw) f_a0 cv_12_451 ⟨by dsimp only; omega, by dsimp only; omega, rfl, rfl, by dsimp only; omega, by dsimp only; omega⟩ rfl hl.1 rfl (Nat.le_of_ble_eq_true rfl) dX12_loop_190) (fun y25 T24 hw l_T24 H locs h => ?_)
        have f_a0 := l_T24.is f_a0
        have f_b20 := l_T24.is f_b20
        have hle := hle.tr l_T24
        refine lv_pop X.1 X.2.1 dX12_loop_193 rfl ?_
        refine lv_aload_n X.1 X.2.1 dX12_loop_194 rfl (lv_at hl 5 rfl) ?_
        obtain ⟨b26, e_b26, hw⟩ := hw
        have f_b26 := h.2.2.2.rf (c := 12) (k := 18) f_a0 (by decide) (by decide) e_b26 (t := 14) rfl
        refine kp_get X h f_a0 ff_12_52.l (v := .ref b26) (congrArg va_rf e_b26) dX12_loop_195 ?_
        refine lv_iload X.1 X.2.1 dX12_loop_198 (lv_at hl 4 rfl) ?_
        refine lv_aload_n X.1 X.2.1 dX12_loop_200 rfl (lv_at hl 5 rfl) ?_
        refine kp_get X h f_a0 fp_12_370.l (v := .int (kp_I T24 2417 a0)) rfl dX12_loop_201 ?_
        obtain ⟨hi, hw⟩ := hw
        refine kp_iast X h f_b26 hi dX12_loop_204 (fun T27 e_T27 l_T27 H locs h => ?_)
        have hw := hw T27 e_T27
        have f_a0 := l_T27.is f_a0
        have f_b20 := l_T27.is f_b20
        have f_b26 := l_T27.is f_b26
        have hle := hle.tr l_T27
        have e_b26 : kp_R T27 2418 a0 = some b26 := by rw [e_T27]; exact e_b26
        refine lv_aload_n X.1 X.2.1 dX12_loop_205 rfl (lv_at hl 5 rfl) ?_
        refine lv_bipush (v := 47) X.1 X.2.1 dX12_loop_206 (by decide) ?_
        refine lv_iload X.1 X.2.1 dX12_loop_208 (lv_at hl 4 rfl) ?_
        refine lv_iconst (v := 0) X.1 X.2.1 dX12_loop_210 (by decide) ?_
        refine kp_calli X h (kp_runV (rm := { frames := 0, cells := 0, slots := 0, locals := 0 }) (mc := 0) (ms := 0) (rest := []) (Qc := fun A => kp_Qi D cy A T27 _) X h (c_X12_emit l D cy ad T27 a0 47 y2 0 _ h.2.2.2 f_a0 hw) f_a0 cv_12_451 ⟨by dsimp only; omega, by dsimp only; omega, rfl, rfl, by dsimp only; omega, by dsimp only; omega⟩ rfl hl.1 rfl (Nat.le_of_ble_eq_true rfl) dX12_loop_211) (fun y29 T28 hw l_T28 H locs h => ?_)
        have f_a0 := l_T28.is f_a0
        have f_b20 := l_T28.is f_b20
        have f_b26 := l_T28.is f_b26
        have hle := hle.tr l_T28
        refine lv_pop X.1 X.2.1 dX12_loop_214 rfl ?_
        exact j215 y2 y3 y5 y6 T28 _ _ ls (lv_sub hl [5, 6, 7, 4, 3, 2, 1] rfl) h hle f_a0 hw
      · have hw := hw.2 c30
        refine lv_lconst (v := 0) X.1 X.2.1 dX12_loop_169 (by decide) ?_
        exact kp_retl X hr hlocks h hle hw dX12_loop_170
    · have hw := hw.2 c41
      refine lv_aload_n X.1 X.2.1 dX12_loop_69 rfl (lv_at hl 4 rfl) ?_
      refine lv_bipush (v := 43) X.1 X.2.1 dX12_loop_70 (by decide) ?_
      refine lv_iload X.1 X.2.1 dX12_loop_72 (lv_at hl 3 rfl) ?_
      refine lv_iconst (v := 0) X.1 X.2.1 dX12_loop_74 (by decide) ?_
      refine kp_calli X h (kp_runV (rm := { frames := 0, cells := 0, slots := 0, locals := 0 }) (mc := 0) (ms := 0) (rest := []) (Qc := fun A => kp_Qi D cy A T9 _) X h (c_X12_emit l D cy ad T9 a0 43 y2 0 _ h.2.2.2 f_a0 hw) f_a0 cv_12_451 ⟨by dsimp only; omega, by dsimp only; omega, rfl, rfl, by dsimp only; omega, by dsimp only; omega⟩ rfl hl.1 rfl (Nat.le_of_ble_eq_true rfl) dX12_loop_75) (fun y32 T31 hw l_T31 H locs h => ?_)
      have f_a0 := l_T31.is f_a0
      have hle := hle.tr l_T31
      refine lv_pop X.1 X.2.1 dX12_loop_78 rfl ?_
      refine lv_aload_n X.1 X.2.1 dX12_loop_79 rfl (lv_at hl 4 rfl) ?_
      obtain ⟨b33, e_b33, hw⟩ := hw
      have f_b33 := h.2.2.2.rf (c := 12) (k := 18) f_a0 (by decide) (by decide) e_b33 (t := 14) rfl
      refine kp_get X h f_a0 ff_12_52.l (v := .ref b33) (congrArg va_rf e_b33) dX12_loop_80 ?_
      refine lv_iload X.1 X.2.1 dX12_loop_83 (lv_at hl 3 rfl) ?_
      refine lv_aload_n X.1 X.2.1 dX12_loop_85 rfl (lv_at hl 4 rfl) ?_
      refine kp_get X h f_a0 fp_12_370.l (v := .int (kp_I T31 2417 a0)) rfl dX12_loop_86 ?_
      obtain ⟨hi, hw⟩ := hw
      refine kp_iast X h f_b33 hi dX12_loop_89 (fun T34 e_T34 l_T34 H locs h => ?_)
      have hw := hw T34 e_T34
      have f_a0 := l_T34.is f_a0
      have f_b33 := l_T34.is f_b33
      have hle := hle.tr l_T34
      have e_b33 : kp_R T34 2418 a0 = some b33 := by rw [e_T34]; exact e_b33
      refine lv_aload_n X.1 X.2.1 dX12_loop_90 rfl (lv_at hl 4 rfl) ?_
      refine lv_bipush (v := 44) X.1 X.2.1 dX12_loop_91 (by decide) ?_
      refine lv_aload_n X.1 X.2.1 dX12_loop_93 rfl (lv_at hl 4 rfl) ?_
      obtain ⟨b35, e_b35, hw⟩ := hw
      have f_b35 := h.2.2.2.rf (c := 12) (k := 5) f_a0 (by decide) (by decide) e_b35 (t := 14) rfl
      refine kp_get X h f_a0 ff_12_34.l (v := .ref b35) (congrArg va_rf e_b35) dX12_loop_94 ?_
      refine lv_iload_n X.1 X.2.1 dX12_loop_97 rfl (lv_at hl 5 rfl) ?_
      obtain ⟨hi, hw⟩ := hw
      refine kp_iald X h f_b35 hi dX12_loop_98 ?_
      refine lv_iconst (v := 0) X.1 X.2.1 dX12_loop_99 (by decide) ?_
      refine kp_calli X h (kp_runV (rm := { frames := 0, cells := 0, slots := 0, locals := 0 }) (mc := 0) (ms := 0) (rest := []) (Qc := fun A => kp_Qi D cy A T34 _) X h (c_X12_emit l D cy ad T34 a0 44 (kp_A T34 b35 x1.toNatClampNeg) 0 _ h.2.2.2 f_a0 hw) f_a0 cv_12_451 ⟨by dsimp only; omega, by dsimp only; omega, rfl, rfl, by dsimp only; omega, by dsimp only; omega⟩ rfl hl.1 rfl (Nat.le_of_ble_eq_true rfl) dX12_loop_100) (fun y37 T36 hw l_T36 H locs h => ?_)
      have f_a0 := l_T36.is f_a0
      have f_b33 := l_T36.is f_b33
      have f_b35 := l_T36.is f_b35
      have hle := hle.tr l_T36
      refine lv_pop X.1 X.2.1 dX12_loop_103 rfl ?_
      refine lv_aload_n X.1 X.2.1 dX12_loop_104 rfl (lv_at hl 4 rfl) ?_
      refine kp_callv X h (kp_runV (rm := { frames := 149, cells := 0, slots := 0, locals := 3164 }) (mc := 0) (ms := 0) (rest := []) (Qc := fun A => kp_Qv D cy A T36 _) X h (c_X12_expression_t l D cy ad T36 a0 _ h.2.2.2 f_a0 hw) f_a0 cv_12_520 ⟨by dsimp only; omega, by dsimp only; omega, rfl, rfl, by dsimp only; omega, by dsimp only; omega⟩ rfl hl.1 rfl (Nat.le_of_ble_eq_true rfl) dX12_loop_105) (fun T38 hw l_T38 H locs h => ?_)
      have f_a0 := l_T38.is f_a0
      have f_b33 := l_T38.is f_b33
      have f_b35 := l_T38.is f_b35
      have hle := hle.tr l_T38
      refine lv_aload_n X.1 X.2.1 dX12_loop_108 rfl (lv_at hl 4 rfl) ?_
      refine lv_bipush (v := 45) X.1 X.2.1 dX12_loop_109 (by decide) ?_
      refine lv_iload X.1 X.2.1 dX12_loop_111 (lv_at hl 3 rfl) ?_
      refine lv_iconst (v := 0) X.1 X.2.1 dX12_loop_113 (by decide) ?_
      refine kp_calli X h (kp_runV (rm := { frames := 0, cells := 0, slots := 0, locals := 0 }) (mc := 0) (ms := 0) (rest := []) (Qc := fun A => kp_Qi D cy A T38 _) X h (c_X12_emit l D cy ad T38 a0 45 y2 0 _ h.2.2.2 f_a0 hw) f_a0 cv_12_451 ⟨by dsimp only; omega, by dsimp only; omega, rfl, rfl, by dsimp only; omega, by dsimp only; omega⟩ rfl hl.1 rfl (Nat.le_of_ble_eq_true rfl) dX12_loop_114) (fun y40 T39 hw l_T39 H locs h => ?_)
      have f_a0 := l_T39.is f_a0
      have f_b33 := l_T39.is f_b33
      have f_b35 := l_T39.is f_b35
      have hle := hle.tr l_T39
      refine lv_pop X.1 X.2.1 dX12_loop_117 rfl ?_
      refine lv_goto (tgt := 215) X.1 X.2.1 dX12_loop_118 (by decide) ?_
      exact j215 y2 y3 y5 y6 T39 _ _ ls (lv_sub hl [4, 5, 6, 3, 2, 1, 0] rfl) h hle f_a0 hw
  · have hw := hw.2 c46
    refine lv_aload_n X.1 X.2.1 dX12_loop_36 rfl (lv_at hl 4 rfl) ?_
    refine lv_bipush (v := 43) X.1 X.2.1 dX12_loop_37 (by decide) ?_
    refine lv_iload X.1 X.2.1 dX12_loop_39 (lv_at hl 3 rfl) ?_
    refine lv_iconst (v := 0) X.1 X.2.1 dX12_loop_41 (by decide) ?_
    refine kp_calli X h (kp_runV (rm := { frames := 0, cells := 0, slots := 0, locals := 0 }) (mc := 0) (ms := 0) (rest := []) (Qc := fun A => kp_Qi D cy A T7 _) X h (c_X12_emit l D cy ad T7 a0 43 y2 0 _ h.2.2.2 f_a0 hw) f_a0 cv_12_451 ⟨by dsimp only; omega, by dsimp only; omega, rfl, rfl, by dsimp only; omega, by dsimp only; omega⟩ rfl hl.1 rfl (Nat.le_of_ble_eq_true rfl) dX12_loop_42) (fun y43 T42 hw l_T42 H locs h => ?_)
    have f_a0 := l_T42.is f_a0
    have hle := hle.tr l_T42
    refine lv_pop X.1 X.2.1 dX12_loop_45 rfl ?_
    refine lv_aload_n X.1 X.2.1 dX12_loop_46 rfl (lv_at hl 4 rfl) ?_
    refine lv_bipush (v := 56) X.1 X.2.1 dX12_loop_47 (by decide) ?_
    refine lv_iload X.1 X.2.1 dX12_loop_49 (lv_at hl 3 rfl) ?_
    refine lv_iconst (v := 0) X.1 X.2.1 dX12_loop_51 (by decide) ?_
    refine kp_calli X h (kp_runV (rm := { frames := 0, cells := 0, slots := 0, locals := 0 }) (mc := 0) (ms := 0) (rest := []) (Qc := fun A => kp_Qi D cy A T42 _) X h (c_X12_emit l D cy ad T42 a0 56 y2 0 _ h.2.2.2 f_a0 hw) f_a0 cv_12_451 ⟨by dsimp only; omega, by dsimp only; omega, rfl, rfl, by dsimp only; omega, by dsimp only; omega⟩ rfl hl.1 rfl (Nat.le_of_ble_eq_true rfl) dX12_loop_52) (fun y45 T44 hw l_T44 H locs h => ?_)
    have f_a0 := l_T44.is f_a0
    have hle := hle.tr l_T44
    refine lv_istore (lv' := [(7, .int y45), (6, .int y5), (5, .int y3), (4, .int y2), (0, .ref a0), (1, .int x1), (2, .long w2)]) X.1 X.2.1 dX12_loop_55 hl (by decide) rfl (fun ls hl => ?_)
    refine lv_goto (tgt := 215) X.1 X.2.1 dX12_loop_57 (by decide) ?_
    exact j215 y2 y3 y5 y45 T44 _ _ ls (lv_sub hl [4, 5, 6, 3, 2, 1, 0] rfl) h hle f_a0 hw
theorem dX12_choice_0 : decode cX12_choice 0 = .ok (.aload_n 0, 1) := by decide +kernel
theorem dX12_choice_1 : decode cX12_choice 1 = .ok (.dup, 1) := by decide +kernel
theorem dX12_choice_2 : decode cX12_choice 2 = .ok (.getfield 376, 3) := by decide +kernel
theorem dX12_choice_5 : decode cX12_choice 5 = .ok (.iconst 1, 1) := by decide +kernel
theorem dX12_choice_6 : decode cX12_choice 6 = .ok (.iadd, 1) := by decide +kernel
theorem dX12_choice_7 : decode cX12_choice 7 = .ok (.putfield 376, 3) := by decide +kernel
theorem dX12_choice_10 : decode cX12_choice 10 = .ok (.aload_n 0, 1) := by decide +kernel
theorem dX12_choice_11 : decode cX12_choice 11 = .ok (.invokevirtual 520, 3) := by decide +kernel
theorem dX12_choice_14 : decode cX12_choice 14 = .ok (.aload_n 0, 1) := by decide +kernel
theorem dX12_choice_15 : decode cX12_choice 15 = .ok (.lconst 0, 1) := by decide +kernel
theorem dX12_choice_16 : decode cX12_choice 16 = .ok (.invokevirtual 483, 3) := by decide +kernel
theorem dX12_choice_19 : decode cX12_choice 19 = .ok (.lstore_n 1, 1) := by decide +kernel
theorem dX12_choice_20 : decode cX12_choice 20 = .ok (.aload_n 0, 1) := by decide +kernel
theorem dX12_choice_21 : decode cX12_choice 21 = .ok (.bipush 42, 2) := by decide +kernel
theorem dX12_choice_23 : decode cX12_choice 23 = .ok (.iconst 0, 1) := by decide +kernel
theorem dX12_choice_24 : decode cX12_choice 24 = .ok (.iconst 0, 1) := by decide +kernel
theorem dX12_choice_25 : decode cX12_choice 25 = .ok (.invokevirtual 451, 3) := by decide +kernel
theorem dX12_choice_28 : decode cX12_choice 28 = .ok (.istore_n 3, 1) := by decide +kernel
theorem dX12_choice_29 : decode cX12_choice 29 = .ok (.lload_n 1, 1) := by decide +kernel
theorem dX12_choice_30 : decode cX12_choice 30 = .ok (.aload_n 0, 1) := by decide +kernel
theorem dX12_choice_31 : decode cX12_choice 31 = .ok (.invokevirtual 447, 3) := by decide +kernel
theorem dX12_choice_34 : decode cX12_choice 34 = .ok (.lor, 1) := by decide +kernel
theorem dX12_choice_35 : decode cX12_choice 35 = .ok (.lstore_n 1, 1) := by decide +kernel
theorem dX12_choice_36 : decode cX12_choice 36 = .ok (.aload_n 0, 1) := by decide +kernel
theorem dX12_choice_37 : decode cX12_choice 37 = .ok (.bipush 14, 2) := by decide +kernel
theorem dX12_choice_39 : decode cX12_choice 39 = .ok (.invokevirtual 440, 3) := by decide +kernel
theorem dX12_choice_42 : decode cX12_choice 42 = .ok (.ifCond .eq 44, 3) := by decide +kernel
theorem dX12_choice_45 : decode cX12_choice 45 = .ok (.aload_n 0, 1) := by decide +kernel
theorem dX12_choice_46 : decode cX12_choice 46 = .ok (.bipush 41, 2) := by decide +kernel
theorem dX12_choice_48 : decode cX12_choice 48 = .ok (.iconst 0, 1) := by decide +kernel
theorem dX12_choice_49 : decode cX12_choice 49 = .ok (.iconst 0, 1) := by decide +kernel
theorem dX12_choice_50 : decode cX12_choice 50 = .ok (.invokevirtual 451, 3) := by decide +kernel
theorem dX12_choice_53 : decode cX12_choice 53 = .ok (.istore 4, 2) := by decide +kernel
theorem dX12_choice_55 : decode cX12_choice 55 = .ok (.aload_n 0, 1) := by decide +kernel
theorem dX12_choice_56 : decode cX12_choice 56 = .ok (.getfield 46, 3) := by decide +kernel
theorem dX12_choice_59 : decode cX12_choice 59 = .ok (.iload_n 3, 1) := by decide +kernel
theorem dX12_choice_60 : decode cX12_choice 60 = .ok (.aload_n 0, 1) := by decide +kernel
theorem dX12_choice_61 : decode cX12_choice 61 = .ok (.getfield 370, 3) := by decide +kernel
theorem dX12_choice_64 : decode cX12_choice 64 = .ok (.iastore, 1) := by decide +kernel
theorem dX12_choice_65 : decode cX12_choice 65 = .ok (.lload_n 1, 1) := by decide +kernel
theorem dX12_choice_66 : decode cX12_choice 66 = .ok (.aload_n 0, 1) := by decide +kernel
theorem dX12_choice_67 : decode cX12_choice 67 = .ok (.invokevirtual 447, 3) := by decide +kernel
theorem dX12_choice_70 : decode cX12_choice 70 = .ok (.lor, 1) := by decide +kernel
theorem dX12_choice_71 : decode cX12_choice 71 = .ok (.lstore_n 1, 1) := by decide +kernel
theorem dX12_choice_72 : decode cX12_choice 72 = .ok (.aload_n 0, 1) := by decide +kernel
theorem dX12_choice_73 : decode cX12_choice 73 = .ok (.getfield 46, 3) := by decide +kernel
theorem dX12_choice_76 : decode cX12_choice 76 = .ok (.iload 4, 2) := by decide +kernel
theorem dX12_choice_78 : decode cX12_choice 78 = .ok (.aload_n 0, 1) := by decide +kernel
theorem dX12_choice_79 : decode cX12_choice 79 = .ok (.getfield 370, 3) := by decide +kernel
theorem dX12_choice_82 : decode cX12_choice 82 = .ok (.iastore, 1) := by decide +kernel
theorem dX12_choice_83 : decode cX12_choice 83 = .ok (.goto 17, 3) := by decide +kernel
theorem dX12_choice_86 : decode cX12_choice 86 = .ok (.lload_n 1, 1) := by decide +kernel
theorem dX12_choice_87 : decode cX12_choice 87 = .ok (.lconst 1, 1) := by decide +kernel
theorem dX12_choice_88 : decode cX12_choice 88 = .ok (.lor, 1) := by decide +kernel
theorem dX12_choice_89 : decode cX12_choice 89 = .ok (.lstore_n 1, 1) := by decide +kernel
theorem dX12_choice_90 : decode cX12_choice 90 = .ok (.aload_n 0, 1) := by decide +kernel
theorem dX12_choice_91 : decode cX12_choice 91 = .ok (.getfield 46, 3) := by decide +kernel
theorem dX12_choice_94 : decode cX12_choice 94 = .ok (.iload_n 3, 1) := by decide +kernel
theorem dX12_choice_95 : decode cX12_choice 95 = .ok (.aload_n 0, 1) := by decide +kernel
theorem dX12_choice_96 : decode cX12_choice 96 = .ok (.getfield 370, 3) := by decide +kernel
theorem dX12_choice_99 : decode cX12_choice 99 = .ok (.iastore, 1) := by decide +kernel
theorem dX12_choice_100 : decode cX12_choice 100 = .ok (.lload_n 1, 1) := by decide +kernel
theorem dX12_choice_101 : decode cX12_choice 101 = .ok (.lreturn, 1) := by decide +kernel
def wX12_choice_b100 (B : Nat → kp_S → (Int64 → kp_S → Prop) → Prop) (a0 : Nat) (wn1 : Int64)  (Sn : kp_S) (post : Int64 → kp_S → Prop) : Prop :=
  post wn1 Sn
def wX12_choice (B : Nat → kp_S → (Int64 → kp_S → Prop) → Prop) (a0 : Nat) (S : kp_S) (post : Int64 → kp_S → Prop) : Prop :=
  ∀ T1 : kp_S, T1 = kp_sI S 2410 a0 ((kp_I S 2410 a0) + 1) →
  wX12_expression_t a0 T1 (fun T2 =>
  wX12_risky a0 0 T2 (fun z4 T3 =>
  wX12_emit a0 42 0 0 T3 (fun y6 T5 =>
  B a0 T5 (fun z8 T7 =>
  ∀ z9 : Int64, z9 = (z4 ||| z8) →
  wX12_skip a0 14 T7 (fun y11 T10 =>
  ((y11 = 0 →
  ∀ z12 : Int64, z12 = (z9 ||| 1) →
  ∃ b13 : Nat, kp_R T10 2415 a0 = some b13 ∧
  vp_in y6 (kp_N T10 b13) ∧ ∀ T14 : kp_S, T14 = kp_sA T10 b13 (upd (kp_A T10 b13) (y6.toNatClampNeg) (kp_I T10 2417 a0)) →
  wX12_choice_b100 B a0 z12  T14 post) ∧ (¬ y11 = 0 →
  wX12_emit a0 41 0 0 T10 (fun y16 T15 =>
  ∃ b17 : Nat, kp_R T15 2415 a0 = some b17 ∧
  vp_in y6 (kp_N T15 b17) ∧ ∀ T18 : kp_S, T18 = kp_sA T15 b17 (upd (kp_A T15 b17) (y6.toNatClampNeg) (kp_I T15 2417 a0)) →
  B a0 T18 (fun z20 T19 =>
  ∀ z21 : Int64, z21 = (z9 ||| z20) →
  ∃ b22 : Nat, kp_R T19 2415 a0 = some b22 ∧
  vp_in y16 (kp_N T19 b22) ∧ ∀ T23 : kp_S, T23 = kp_sA T19 b22 (upd (kp_A T19 b22) (y16.toNatClampNeg) (kp_I T19 2417 a0)) →
  wX12_choice_b100 B a0 z21  T23 post)))))))))
set_option maxHeartbeats 4000000 in
set_option maxRecDepth 100000 in
theorem c_X12_choice (l : Launch) (D : va_G) (cy : Nat → ClassId) (ad : (Nat → Nat) × (Nat → Nat)) (F L : Nat) (B : Nat → kp_S → (Int64 → kp_S → Prop) → Prop) (hB : ∀ (S : kp_S) (a0 : Nat) (post : Int64 → kp_S → Prop), kp_ok S → kp_is S a0 12 → B a0 S post → kp_M l yX12_block cX12_block 6 (some .long) { frames := F, cells := 0, slots := 0, locals := L } D cy ad S [.ref a0] 0 0 (fun A => kp_Ql D cy A S post)) (hF : 151 ≤ F) (hL : 3211 ≤ L) (S : kp_S) (a0 : Nat) (post : Int64 → kp_S → Prop) (hS : kp_ok S) (f_a0 : kp_is S a0 12) (hw : wX12_choice B a0 S post) : kp_M l yX12_choice cX12_choice 5 (some .long) { frames := F + 1, cells := 0, slots := 0, locals := L + 25 } D cy ad S [.ref a0] 0 0 (fun A => kp_Ql D cy A S post) := by
  refine kp_start (own := RX12) (by decide) rfl (Nat.le_of_ble_eq_true rfl) hS ?_
  intro p e s m below meth c A ls X hr hlocks hname h hl
  have hle : kp_le S S := kp_le.rf
  have hl : lv_has ls 5 [(0, .ref a0)] := hl
  have j100 : ∀ (wn1 : Int64) (Sn : kp_S) (H : Heap) (locs : List Loc) (ls : Array Slot), lv_has ls 5 [(1, .long wn1)] → kp_H D cy A Sn s.heap H locs → kp_le S Sn → kp_is Sn a0 12 → wX12_choice_b100 B a0 wn1  Sn post → W p l e { frames := F + 1, cells := 0, slots := 0, locals := L + 25 } s m ([.ref a0] : List Value).toArray below meth c H locs 0 0 (MQ below (kp_Ql D cy A S post) ([.ref a0] : List Value).toArray s 0 0 A) (F0 m 100 ls []) := by
    intro wn1 Sn H locs ls hl h hle f_a0 hw
    unfold wX12_choice_b100 at hw
    refine lv_lload_n X.1 X.2.1 dX12_choice_100 rfl (lv_at hl 0 rfl) ?_
    exact kp_retl X hr hlocks h hle hw dX12_choice_101
  unfold wX12_choice at hw
  have h : kp_H D cy A S s.heap s.heap [] := h
  revert h
  intro h
  refine lv_aload_n X.1 X.2.1 dX12_choice_0 rfl (lv_at hl 0 rfl) ?_
  refine lv_dup X.1 X.2.1 dX12_choice_1 rfl ?_
  refine kp_get X h f_a0 fp_12_376.l (v := .int (kp_I S 2410 a0)) rfl dX12_choice_2 ?_
  refine lv_iconst (v := 1) X.1 X.2.1 dX12_choice_5 (by decide) ?_
  refine lv_iadd X.1 X.2.1 dX12_choice_6 ?_
  refine kp_putI X h f_a0 fp_12_376 rfl ⟨rfl, rfl⟩ dX12_choice_7 (fun T1 e_T1 l_T1 H locs h => ?_)
  have hw := hw T1 e_T1
  have f_a0 := l_T1.is f_a0
  have hle := hle.tr l_T1
  refine lv_aload_n X.1 X.2.1 dX12_choice_10 rfl (lv_at hl 0 rfl) ?_
  refine kp_callv X h (kp_runV (rm := { frames := 149, cells := 0, slots := 0, locals := 3164 }) (mc := 0) (ms := 0) (rest := []) (Qc := fun A => kp_Qv D cy A T1 _) X h (c_X12_expression_t l D cy ad T1 a0 _ h.2.2.2 f_a0 hw) f_a0 cv_12_520 ⟨by dsimp only; omega, by dsimp only; omega, rfl, rfl, by dsimp only; omega, by dsimp only; omega⟩ rfl hl.1 rfl (Nat.le_of_ble_eq_true rfl) dX12_choice_11) (fun T2 hw l_T2 H locs h => ?_)
  have f_a0 := l_T2.is f_a0
  have hle := hle.tr l_T2
  refine lv_aload_n X.1 X.2.1 dX12_choice_14 rfl (lv_at hl 0 rfl) ?_
  refine lv_lconst (v := 0) X.1 X.2.1 dX12_choice_15 (by decide) ?_
  refine kp_calll X h (kp_runV (rm := { frames := 0, cells := 0, slots := 0, locals := 0 }) (mc := 0) (ms := 0) (rest := []) (Qc := fun A => kp_Ql D cy A T2 _) X h (c_X12_risky l D cy ad T2 a0 0 _ h.2.2.2 f_a0 hw) f_a0 cv_12_483 ⟨by dsimp only; omega, by dsimp only; omega, rfl, rfl, by dsimp only; omega, by dsimp only; omega⟩ rfl hl.1 rfl (Nat.le_of_ble_eq_true rfl) dX12_choice_16) (fun z4 T3 hw l_T3 H locs h => ?_)
  have f_a0 := l_T3.is f_a0
  have hle := hle.tr l_T3
  refine lv_lstore_n (lv' := [(1, .long z4), (0, .ref a0)]) X.1 X.2.1 dX12_choice_19 rfl hl (by decide) rfl (fun ls hl => ?_)
  refine lv_aload_n X.1 X.2.1 dX12_choice_20 rfl (lv_at hl 1 rfl) ?_
  refine lv_bipush (v := 42) X.1 X.2.1 dX12_choice_21 (by decide) ?_
  refine lv_iconst (v := 0) X.1 X.2.1 dX12_choice_23 (by decide) ?_
  refine lv_iconst (v := 0) X.1 X.2.1 dX12_choice_24 (by decide) ?_
  refine kp_calli X h (kp_runV (rm := { frames := 0, cells := 0, slots := 0, locals := 0 }) (mc := 0) (ms := 0) (rest := []) (Qc := fun A => kp_Qi D cy A T3 _) X h (c_X12_emit l D cy ad T3 a0 42 0 0 _ h.2.2.2 f_a0 hw) f_a0 cv_12_451 ⟨by dsimp only; omega, by dsimp only; omega, rfl, rfl, by dsimp only; omega, by dsimp only; omega⟩ rfl hl.1 rfl (Nat.le_of_ble_eq_true rfl) dX12_choice_25) (fun y6 T5 hw l_T5 H locs h => ?_)
  have f_a0 := l_T5.is f_a0
  have hle := hle.tr l_T5
  refine lv_istore_n (lv' := [(3, .int y6), (1, .long z4), (0, .ref a0)]) X.1 X.2.1 dX12_choice_28 rfl hl (by decide) rfl (fun ls hl => ?_)
  refine lv_lload_n X.1 X.2.1 dX12_choice_29 rfl (lv_at hl 1 rfl) ?_
  refine lv_aload_n X.1 X.2.1 dX12_choice_30 rfl (lv_at hl 2 rfl) ?_
  refine kp_calll X h (kp_runV (rm := { frames := F, cells := 0, slots := 0, locals := L }) (mc := 0) (ms := 0) (rest := [.long z4]) (Qc := fun A => kp_Ql D cy A T5 _) X h (hB T5 a0 _ h.2.2.2 f_a0 hw) f_a0 cv_12_447 ⟨by dsimp only; omega, by dsimp only; omega, rfl, rfl, by dsimp only; omega, by dsimp only; omega⟩ rfl hl.1 rfl (Nat.le_of_ble_eq_true rfl) dX12_choice_31) (fun z8 T7 hw l_T7 H locs h => ?_)
  have f_a0 := l_T7.is f_a0
  have hle := hle.tr l_T7
  refine lv_lor X.1 X.2.1 dX12_choice_34 ?_
  refine lv_topl (fun z9 e_z9 => ?_)
  have hw := hw z9 e_z9
  refine lv_lstore_n (lv' := [(1, .long z9), (3, .int y6), (0, .ref a0)]) X.1 X.2.1 dX12_choice_35 rfl hl (by decide) rfl (fun ls hl => ?_)
  refine lv_aload_n X.1 X.2.1 dX12_choice_36 rfl (lv_at hl 2 rfl) ?_
  refine lv_bipush (v := 14) X.1 X.2.1 dX12_choice_37 (by decide) ?_
  refine kp_calli X h (kp_runV (rm := { frames := 1, cells := 0, slots := 0, locals := 21 }) (mc := 0) (ms := 0) (rest := []) (Qc := fun A => kp_Qi D cy A T7 _) X h (c_X12_skip l D cy ad T7 a0 14 _ h.2.2.2 f_a0 hw) f_a0 cv_12_440 ⟨by dsimp only; omega, by dsimp only; omega, rfl, rfl, by dsimp only; omega, by dsimp only; omega⟩ rfl hl.1 rfl (Nat.le_of_ble_eq_true rfl) dX12_choice_39) (fun y11 T10 hw l_T10 H locs h => ?_)
  have f_a0 := l_T10.is f_a0
  have hle := hle.tr l_T10
  refine lv_if_eq (tgt := 86) X.1 X.2.1 dX12_choice_42 (by decide) (fun c24 => ?_) (fun c24 => ?_)
  · have hw := hw.1 c24
    refine lv_lload_n X.1 X.2.1 dX12_choice_86 rfl (lv_at hl 0 rfl) ?_
    refine lv_lconst (v := 1) X.1 X.2.1 dX12_choice_87 (by decide) ?_
    refine lv_lor X.1 X.2.1 dX12_choice_88 ?_
    refine lv_topl (fun z12 e_z12 => ?_)
    have hw := hw z12 e_z12
    refine lv_lstore_n (lv' := [(1, .long z12), (3, .int y6), (0, .ref a0)]) X.1 X.2.1 dX12_choice_89 rfl hl (by decide) rfl (fun ls hl => ?_)
    refine lv_aload_n X.1 X.2.1 dX12_choice_90 rfl (lv_at hl 2 rfl) ?_
    obtain ⟨b13, e_b13, hw⟩ := hw
    have f_b13 := h.2.2.2.rf (c := 12) (k := 15) f_a0 (by decide) (by decide) e_b13 (t := 14) rfl
    refine kp_get X h f_a0 ff_12_46.l (v := .ref b13) (congrArg va_rf e_b13) dX12_choice_91 ?_
    refine lv_iload_n X.1 X.2.1 dX12_choice_94 rfl (lv_at hl 1 rfl) ?_
    refine lv_aload_n X.1 X.2.1 dX12_choice_95 rfl (lv_at hl 2 rfl) ?_
    refine kp_get X h f_a0 fp_12_370.l (v := .int (kp_I T10 2417 a0)) rfl dX12_choice_96 ?_
    obtain ⟨hi, hw⟩ := hw
    refine kp_iast X h f_b13 hi dX12_choice_99 (fun T14 e_T14 l_T14 H locs h => ?_)
    have hw := hw T14 e_T14
    have f_a0 := l_T14.is f_a0
    have f_b13 := l_T14.is f_b13
    have hle := hle.tr l_T14
    have e_b13 : kp_R T14 2415 a0 = some b13 := by rw [e_T14]; exact e_b13
    exact j100 z12 T14 _ _ ls (lv_sub hl [0] rfl) h hle f_a0 hw
  · have hw := hw.2 c24
    refine lv_aload_n X.1 X.2.1 dX12_choice_45 rfl (lv_at hl 2 rfl) ?_
    refine lv_bipush (v := 41) X.1 X.2.1 dX12_choice_46 (by decide) ?_
    refine lv_iconst (v := 0) X.1 X.2.1 dX12_choice_48 (by decide) ?_
    refine lv_iconst (v := 0) X.1 X.2.1 dX12_choice_49 (by decide) ?_
    refine kp_calli X h (kp_runV (rm := { frames := 0, cells := 0, slots := 0, locals := 0 }) (mc := 0) (ms := 0) (rest := []) (Qc := fun A => kp_Qi D cy A T10 _) X h (c_X12_emit l D cy ad T10 a0 41 0 0 _ h.2.2.2 f_a0 hw) f_a0 cv_12_451 ⟨by dsimp only; omega, by dsimp only; omega, rfl, rfl, by dsimp only; omega, by dsimp only; omega⟩ rfl hl.1 rfl (Nat.le_of_ble_eq_true rfl) dX12_choice_50) (fun y16 T15 hw l_T15 H locs h => ?_)
    have f_a0 := l_T15.is f_a0
    have hle := hle.tr l_T15
    refine lv_istore (lv' := [(4, .int y16), (1, .long z9), (3, .int y6), (0, .ref a0)]) X.1 X.2.1 dX12_choice_53 hl (by decide) rfl (fun ls hl => ?_)
    refine lv_aload_n X.1 X.2.1 dX12_choice_55 rfl (lv_at hl 3 rfl) ?_
    obtain ⟨b17, e_b17, hw⟩ := hw
    have f_b17 := h.2.2.2.rf (c := 12) (k := 15) f_a0 (by decide) (by decide) e_b17 (t := 14) rfl
    refine kp_get X h f_a0 ff_12_46.l (v := .ref b17) (congrArg va_rf e_b17) dX12_choice_56 ?_
    refine lv_iload_n X.1 X.2.1 dX12_choice_59 rfl (lv_at hl 2 rfl) ?_
    refine lv_aload_n X.1 X.2.1 dX12_choice_60 rfl (lv_at hl 3 rfl) ?_
    refine kp_get X h f_a0 fp_12_370.l (v := .int (kp_I T15 2417 a0)) rfl dX12_choice_61 ?_
    obtain ⟨hi, hw⟩ := hw
    refine kp_iast X h f_b17 hi dX12_choice_64 (fun T18 e_T18 l_T18 H locs h => ?_)
    have hw := hw T18 e_T18
    have f_a0 := l_T18.is f_a0
    have f_b17 := l_T18.is f_b17
    have hle := hle.tr l_T18
    have e_b17 : kp_R T18 2415 a0 = some b17 := by rw [e_T18]; exact e_b17
    refine lv_lload_n X.1 X.2.1 dX12_choice_65 rfl (lv_at hl 1 rfl) ?_
    refine lv_aload_n X.1 X.2.1 dX12_choice_66 rfl (lv_at hl 3 rfl) ?_
    refine kp_calll X h (kp_runV (rm := { frames := F, cells := 0, slots := 0, locals := L }) (mc := 0) (ms := 0) (rest := [.long z9]) (Qc := fun A => kp_Ql D cy A T18 _) X h (hB T18 a0 _ h.2.2.2 f_a0 hw) f_a0 cv_12_447 ⟨by dsimp only; omega, by dsimp only; omega, rfl, rfl, by dsimp only; omega, by dsimp only; omega⟩ rfl hl.1 rfl (Nat.le_of_ble_eq_true rfl) dX12_choice_67) (fun z20 T19 hw l_T19 H locs h => ?_)
    have f_a0 := l_T19.is f_a0
    have f_b17 := l_T19.is f_b17
    have hle := hle.tr l_T19
    refine lv_lor X.1 X.2.1 dX12_choice_70 ?_
    refine lv_topl (fun z21 e_z21 => ?_)
    have hw := hw z21 e_z21
    refine lv_lstore_n (lv' := [(1, .long z21), (4, .int y16), (3, .int y6), (0, .ref a0)]) X.1 X.2.1 dX12_choice_71 rfl hl (by decide) rfl (fun ls hl => ?_)
    refine lv_aload_n X.1 X.2.1 dX12_choice_72 rfl (lv_at hl 3 rfl) ?_
    obtain ⟨b22, e_b22, hw⟩ := hw
    have f_b22 := h.2.2.2.rf (c := 12) (k := 15) f_a0 (by decide) (by decide) e_b22 (t := 14) rfl
    refine kp_get X h f_a0 ff_12_46.l (v := .ref b22) (congrArg va_rf e_b22) dX12_choice_73 ?_
    refine lv_iload X.1 X.2.1 dX12_choice_76 (lv_at hl 1 rfl) ?_
    refine lv_aload_n X.1 X.2.1 dX12_choice_78 rfl (lv_at hl 3 rfl) ?_
    refine kp_get X h f_a0 fp_12_370.l (v := .int (kp_I T19 2417 a0)) rfl dX12_choice_79 ?_
    obtain ⟨hi, hw⟩ := hw
    refine kp_iast X h f_b22 hi dX12_choice_82 (fun T23 e_T23 l_T23 H locs h => ?_)
    have hw := hw T23 e_T23
    have f_a0 := l_T23.is f_a0
    have f_b17 := l_T23.is f_b17
    have f_b22 := l_T23.is f_b22
    have hle := hle.tr l_T23
    have e_b22 : kp_R T23 2415 a0 = some b22 := by rw [e_T23]; exact e_b22
    refine lv_goto (tgt := 100) X.1 X.2.1 dX12_choice_83 (by decide) ?_
    exact j100 z21 T23 _ _ ls (lv_sub hl [0] rfl) h hle f_a0 hw
theorem dX12_choose_0 : decode cX12_choose 0 = .ok (.aload_n 0, 1) := by decide +kernel
theorem dX12_choose_1 : decode cX12_choose 1 = .ok (.dup, 1) := by decide +kernel
theorem dX12_choose_2 : decode cX12_choose 2 = .ok (.getfield 376, 3) := by decide +kernel
theorem dX12_choose_5 : decode cX12_choose 5 = .ok (.iconst 1, 1) := by decide +kernel
theorem dX12_choose_6 : decode cX12_choose 6 = .ok (.iadd, 1) := by decide +kernel
theorem dX12_choose_7 : decode cX12_choose 7 = .ok (.putfield 376, 3) := by decide +kernel
theorem dX12_choose_10 : decode cX12_choose 10 = .ok (.aload_n 0, 1) := by decide +kernel
theorem dX12_choose_11 : decode cX12_choose 11 = .ok (.invokevirtual 520, 3) := by decide +kernel
theorem dX12_choose_14 : decode cX12_choose 14 = .ok (.aload_n 0, 1) := by decide +kernel
theorem dX12_choose_15 : decode cX12_choose 15 = .ok (.lconst 0, 1) := by decide +kernel
theorem dX12_choose_16 : decode cX12_choose 16 = .ok (.invokevirtual 483, 3) := by decide +kernel
theorem dX12_choose_19 : decode cX12_choose 19 = .ok (.lstore_n 1, 1) := by decide +kernel
theorem dX12_choose_20 : decode cX12_choose 20 = .ok (.aload_n 0, 1) := by decide +kernel
theorem dX12_choose_21 : decode cX12_choose 21 = .ok (.bipush 123, 2) := by decide +kernel
theorem dX12_choose_23 : decode cX12_choose 23 = .ok (.invokevirtual 433, 3) := by decide +kernel
theorem dX12_choose_26 : decode cX12_choose 26 = .ok (.ifCond .ne 9, 3) := by decide +kernel
theorem dX12_choose_29 : decode cX12_choose 29 = .ok (.aload_n 0, 1) := by decide +kernel
theorem dX12_choose_30 : decode cX12_choose 30 = .ok (.invokevirtual 382, 3) := by decide +kernel
theorem dX12_choose_33 : decode cX12_choose 33 = .ok (.lconst 0, 1) := by decide +kernel
theorem dX12_choose_34 : decode cX12_choose 34 = .ok (.lreturn, 1) := by decide +kernel
theorem dX12_choose_35 : decode cX12_choose 35 = .ok (.aload_n 0, 1) := by decide +kernel
theorem dX12_choose_36 : decode cX12_choose 36 = .ok (.invokevirtual 463, 3) := by decide +kernel
theorem dX12_choose_39 : decode cX12_choose 39 = .ok (.aload_n 0, 1) := by decide +kernel
theorem dX12_choose_40 : decode cX12_choose 40 = .ok (.getfield 370, 3) := by decide +kernel
theorem dX12_choose_43 : decode cX12_choose 43 = .ok (.istore_n 3, 1) := by decide +kernel
theorem dX12_choose_44 : decode cX12_choose 44 = .ok (.iconst 0, 1) := by decide +kernel
theorem dX12_choose_45 : decode cX12_choose 45 = .ok (.istore 4, 2) := by decide +kernel
theorem dX12_choose_47 : decode cX12_choose 47 = .ok (.aload_n 0, 1) := by decide +kernel
theorem dX12_choose_48 : decode cX12_choose 48 = .ok (.bipush 48, 2) := by decide +kernel
theorem dX12_choose_50 : decode cX12_choose 50 = .ok (.invokevirtual 440, 3) := by decide +kernel
theorem dX12_choose_53 : decode cX12_choose 53 = .ok (.ifCond .eq 101, 3) := by decide +kernel
theorem dX12_choose_56 : decode cX12_choose 56 = .ok (.aload_n 0, 1) := by decide +kernel
theorem dX12_choose_57 : decode cX12_choose 57 = .ok (.bipush 26, 2) := by decide +kernel
theorem dX12_choose_59 : decode cX12_choose 59 = .ok (.invokevirtual 379, 3) := by decide +kernel
theorem dX12_choose_62 : decode cX12_choose 62 = .ok (.istore 5, 2) := by decide +kernel
theorem dX12_choose_64 : decode cX12_choose 64 = .ok (.aload_n 0, 1) := by decide +kernel
theorem dX12_choose_65 : decode cX12_choose 65 = .ok (.iconst 0, 1) := by decide +kernel
theorem dX12_choose_66 : decode cX12_choose 66 = .ok (.putfield 471, 3) := by decide +kernel
theorem dX12_choose_69 : decode cX12_choose 69 = .ok (.aload_n 0, 1) := by decide +kernel
theorem dX12_choose_70 : decode cX12_choose 70 = .ok (.bipush 59, 2) := by decide +kernel
theorem dX12_choose_72 : decode cX12_choose 72 = .ok (.bipush 58, 2) := by decide +kernel
theorem dX12_choose_74 : decode cX12_choose 74 = .ok (.invokevirtual 526, 3) := by decide +kernel
theorem dX12_choose_77 : decode cX12_choose 77 = .ok (.istore 6, 2) := by decide +kernel
theorem dX12_choose_79 : decode cX12_choose 79 = .ok (.iload 4, 2) := by decide +kernel
theorem dX12_choose_81 : decode cX12_choose 81 = .ok (.ifCond .eq 7, 3) := by decide +kernel
theorem dX12_choose_84 : decode cX12_choose 84 = .ok (.lload_n 1, 1) := by decide +kernel
theorem dX12_choose_85 : decode cX12_choose 85 = .ok (.goto 8, 3) := by decide +kernel
theorem dX12_choose_88 : decode cX12_choose 88 = .ok (.aload_n 0, 1) := by decide +kernel
theorem dX12_choose_89 : decode cX12_choose 89 = .ok (.lload_n 1, 1) := by decide +kernel
theorem dX12_choose_90 : decode cX12_choose 90 = .ok (.invokevirtual 483, 3) := by decide +kernel
theorem dX12_choose_93 : decode cX12_choose 93 = .ok (.lstore_n 1, 1) := by decide +kernel
theorem dX12_choose_94 : decode cX12_choose 94 = .ok (.aload_n 0, 1) := by decide +kernel
theorem dX12_choose_95 : decode cX12_choose 95 = .ok (.invokevirtual 447, 3) := by decide +kernel
theorem dX12_choose_98 : decode cX12_choose 98 = .ok (.lstore 7, 2) := by decide +kernel
theorem dX12_choose_100 : decode cX12_choose 100 = .ok (.iload 4, 2) := by decide +kernel
theorem dX12_choose_102 : decode cX12_choose 102 = .ok (.ifCond .eq 7, 3) := by decide +kernel
theorem dX12_choose_105 : decode cX12_choose 105 = .ok (.lload_n 1, 1) := by decide +kernel
theorem dX12_choose_106 : decode cX12_choose 106 = .ok (.goto 7, 3) := by decide +kernel
theorem dX12_choose_109 : decode cX12_choose 109 = .ok (.lload_n 1, 1) := by decide +kernel
theorem dX12_choose_110 : decode cX12_choose 110 = .ok (.lload 7, 2) := by decide +kernel
theorem dX12_choose_112 : decode cX12_choose 112 = .ok (.lor, 1) := by decide +kernel
theorem dX12_choose_113 : decode cX12_choose 113 = .ok (.lstore_n 1, 1) := by decide +kernel
theorem dX12_choose_114 : decode cX12_choose 114 = .ok (.iload 4, 2) := by decide +kernel
theorem dX12_choose_116 : decode cX12_choose 116 = .ok (.ifCond .ne 8, 3) := by decide +kernel
theorem dX12_choose_119 : decode cX12_choose 119 = .ok (.iload 5, 2) := by decide +kernel
theorem dX12_choose_121 : decode cX12_choose 121 = .ok (.ifCond .eq 7, 3) := by decide +kernel
theorem dX12_choose_124 : decode cX12_choose 124 = .ok (.iconst 1, 1) := by decide +kernel
theorem dX12_choose_125 : decode cX12_choose 125 = .ok (.goto 4, 3) := by decide +kernel
theorem dX12_choose_128 : decode cX12_choose 128 = .ok (.iconst 0, 1) := by decide +kernel
theorem dX12_choose_129 : decode cX12_choose 129 = .ok (.istore 4, 2) := by decide +kernel
theorem dX12_choose_131 : decode cX12_choose 131 = .ok (.aload_n 0, 1) := by decide +kernel
theorem dX12_choose_132 : decode cX12_choose 132 = .ok (.bipush 41, 2) := by decide +kernel
theorem dX12_choose_134 : decode cX12_choose 134 = .ok (.iconst (-1), 1) := by decide +kernel
theorem dX12_choose_135 : decode cX12_choose 135 = .ok (.iload_n 3, 1) := by decide +kernel
theorem dX12_choose_136 : decode cX12_choose 136 = .ok (.invokevirtual 451, 3) := by decide +kernel
theorem dX12_choose_139 : decode cX12_choose 139 = .ok (.pop, 1) := by decide +kernel
theorem dX12_choose_140 : decode cX12_choose 140 = .ok (.aload_n 0, 1) := by decide +kernel
theorem dX12_choose_141 : decode cX12_choose 141 = .ok (.getfield 46, 3) := by decide +kernel
theorem dX12_choose_144 : decode cX12_choose 144 = .ok (.iload 6, 2) := by decide +kernel
theorem dX12_choose_146 : decode cX12_choose 146 = .ok (.aload_n 0, 1) := by decide +kernel
theorem dX12_choose_147 : decode cX12_choose 147 = .ok (.getfield 370, 3) := by decide +kernel
theorem dX12_choose_150 : decode cX12_choose 150 = .ok (.iastore, 1) := by decide +kernel
theorem dX12_choose_151 : decode cX12_choose 151 = .ok (.goto (-104), 3) := by decide +kernel
theorem dX12_choose_154 : decode cX12_choose 154 = .ok (.aload_n 0, 1) := by decide +kernel
theorem dX12_choose_155 : decode cX12_choose 155 = .ok (.iconst 4, 1) := by decide +kernel
theorem dX12_choose_156 : decode cX12_choose 156 = .ok (.iconst 0, 1) := by decide +kernel
theorem dX12_choose_157 : decode cX12_choose 157 = .ok (.iconst 0, 1) := by decide +kernel
theorem dX12_choose_158 : decode cX12_choose 158 = .ok (.invokevirtual 451, 3) := by decide +kernel
theorem dX12_choose_161 : decode cX12_choose 161 = .ok (.pop, 1) := by decide +kernel
theorem dX12_choose_162 : decode cX12_choose 162 = .ok (.aload_n 0, 1) := by decide +kernel
theorem dX12_choose_163 : decode cX12_choose 163 = .ok (.bipush 49, 2) := by decide +kernel
theorem dX12_choose_165 : decode cX12_choose 165 = .ok (.invokevirtual 440, 3) := by decide +kernel
theorem dX12_choose_168 : decode cX12_choose 168 = .ok (.ifCond .eq 26, 3) := by decide +kernel
theorem dX12_choose_171 : decode cX12_choose 171 = .ok (.aload_n 0, 1) := by decide +kernel
theorem dX12_choose_172 : decode cX12_choose 172 = .ok (.invokevirtual 447, 3) := by decide +kernel
theorem dX12_choose_175 : decode cX12_choose 175 = .ok (.lstore 5, 2) := by decide +kernel
theorem dX12_choose_177 : decode cX12_choose 177 = .ok (.iload 4, 2) := by decide +kernel
theorem dX12_choose_179 : decode cX12_choose 179 = .ok (.ifCond .eq 7, 3) := by decide +kernel
theorem dX12_choose_182 : decode cX12_choose 182 = .ok (.lload_n 1, 1) := by decide +kernel
theorem dX12_choose_183 : decode cX12_choose 183 = .ok (.goto 7, 3) := by decide +kernel
theorem dX12_choose_186 : decode cX12_choose 186 = .ok (.lload_n 1, 1) := by decide +kernel
theorem dX12_choose_187 : decode cX12_choose 187 = .ok (.lload 5, 2) := by decide +kernel
theorem dX12_choose_189 : decode cX12_choose 189 = .ok (.lor, 1) := by decide +kernel
theorem dX12_choose_190 : decode cX12_choose 190 = .ok (.lstore_n 1, 1) := by decide +kernel
theorem dX12_choose_191 : decode cX12_choose 191 = .ok (.goto 12, 3) := by decide +kernel
theorem dX12_choose_194 : decode cX12_choose 194 = .ok (.iload 4, 2) := by decide +kernel
theorem dX12_choose_196 : decode cX12_choose 196 = .ok (.ifCond .ne 7, 3) := by decide +kernel
theorem dX12_choose_199 : decode cX12_choose 199 = .ok (.lload_n 1, 1) := by decide +kernel
theorem dX12_choose_200 : decode cX12_choose 200 = .ok (.lconst 1, 1) := by decide +kernel
theorem dX12_choose_201 : decode cX12_choose 201 = .ok (.lor, 1) := by decide +kernel
theorem dX12_choose_202 : decode cX12_choose 202 = .ok (.lstore_n 1, 1) := by decide +kernel
theorem dX12_choose_203 : decode cX12_choose 203 = .ok (.aload_n 0, 1) := by decide +kernel
theorem dX12_choose_204 : decode cX12_choose 204 = .ok (.bipush 125, 2) := by decide +kernel
theorem dX12_choose_206 : decode cX12_choose 206 = .ok (.invokevirtual 429, 3) := by decide +kernel
theorem dX12_choose_209 : decode cX12_choose 209 = .ok (.aload_n 0, 1) := by decide +kernel
theorem dX12_choose_210 : decode cX12_choose 210 = .ok (.dup, 1) := by decide +kernel
theorem dX12_choose_211 : decode cX12_choose 211 = .ok (.getfield 388, 3) := by decide +kernel
theorem dX12_choose_214 : decode cX12_choose 214 = .ok (.iconst 1, 1) := by decide +kernel
theorem dX12_choose_215 : decode cX12_choose 215 = .ok (.isub, 1) := by decide +kernel
theorem dX12_choose_216 : decode cX12_choose 216 = .ok (.putfield 388, 3) := by decide +kernel
theorem dX12_choose_219 : decode cX12_choose 219 = .ok (.iload_n 3, 1) := by decide +kernel
theorem dX12_choose_220 : decode cX12_choose 220 = .ok (.istore 5, 2) := by decide +kernel
theorem dX12_choose_222 : decode cX12_choose 222 = .ok (.iload 5, 2) := by decide +kernel
theorem dX12_choose_224 : decode cX12_choose 224 = .ok (.aload_n 0, 1) := by decide +kernel
theorem dX12_choose_225 : decode cX12_choose 225 = .ok (.getfield 370, 3) := by decide +kernel
theorem dX12_choose_228 : decode cX12_choose 228 = .ok (.if_icmp .ge 54, 3) := by decide +kernel
theorem dX12_choose_231 : decode cX12_choose 231 = .ok (.aload_n 0, 1) := by decide +kernel
theorem dX12_choose_232 : decode cX12_choose 232 = .ok (.getfield 43, 3) := by decide +kernel
theorem dX12_choose_235 : decode cX12_choose 235 = .ok (.iload 5, 2) := by decide +kernel
theorem dX12_choose_237 : decode cX12_choose 237 = .ok (.iaload, 1) := by decide +kernel
theorem dX12_choose_238 : decode cX12_choose 238 = .ok (.bipush 41, 2) := by decide +kernel
theorem dX12_choose_240 : decode cX12_choose 240 = .ok (.if_icmp .ne 36, 3) := by decide +kernel
theorem dX12_choose_243 : decode cX12_choose 243 = .ok (.aload_n 0, 1) := by decide +kernel
theorem dX12_choose_244 : decode cX12_choose 244 = .ok (.getfield 46, 3) := by decide +kernel
theorem dX12_choose_247 : decode cX12_choose 247 = .ok (.iload 5, 2) := by decide +kernel
theorem dX12_choose_249 : decode cX12_choose 249 = .ok (.iaload, 1) := by decide +kernel
theorem dX12_choose_250 : decode cX12_choose 250 = .ok (.iconst (-1), 1) := by decide +kernel
theorem dX12_choose_251 : decode cX12_choose 251 = .ok (.if_icmp .ne 25, 3) := by decide +kernel
theorem dX12_choose_254 : decode cX12_choose 254 = .ok (.aload_n 0, 1) := by decide +kernel
theorem dX12_choose_255 : decode cX12_choose 255 = .ok (.getfield 49, 3) := by decide +kernel
theorem dX12_choose_258 : decode cX12_choose 258 = .ok (.iload 5, 2) := by decide +kernel
theorem dX12_choose_260 : decode cX12_choose 260 = .ok (.iaload, 1) := by decide +kernel
theorem dX12_choose_261 : decode cX12_choose 261 = .ok (.iload_n 3, 1) := by decide +kernel
theorem dX12_choose_262 : decode cX12_choose 262 = .ok (.if_icmp .ne 14, 3) := by decide +kernel
theorem dX12_choose_265 : decode cX12_choose 265 = .ok (.aload_n 0, 1) := by decide +kernel
theorem dX12_choose_266 : decode cX12_choose 266 = .ok (.getfield 46, 3) := by decide +kernel
theorem dX12_choose_269 : decode cX12_choose 269 = .ok (.iload 5, 2) := by decide +kernel
theorem dX12_choose_271 : decode cX12_choose 271 = .ok (.aload_n 0, 1) := by decide +kernel
theorem dX12_choose_272 : decode cX12_choose 272 = .ok (.getfield 370, 3) := by decide +kernel
theorem dX12_choose_275 : decode cX12_choose 275 = .ok (.iastore, 1) := by decide +kernel
theorem dX12_choose_276 : decode cX12_choose 276 = .ok (.iinc 5 1, 3) := by decide +kernel
theorem dX12_choose_279 : decode cX12_choose 279 = .ok (.goto (-57), 3) := by decide +kernel
theorem dX12_choose_282 : decode cX12_choose 282 = .ok (.lload_n 1, 1) := by decide +kernel
theorem dX12_choose_283 : decode cX12_choose 283 = .ok (.lreturn, 1) := by decide +kernel
def wX12_choose_b276 (B : Nat → kp_S → (Int64 → kp_S → Prop) → Prop) (a0 : Nat) (wn1 : Int64) (xn3 : Int32) (xn5 : Int32) (K222 : Int64 → Int32 → Int32 → kp_S → Prop) (Sn : kp_S) (post : Int64 → kp_S → Prop) : Prop :=
  ∀ y1001 : Int32, y1001 = xn5 + 1 →
  K222 wn1 xn3 y1001 Sn
def wX12_choose_L222 (B : Nat → kp_S → (Int64 → kp_S → Prop) → Prop) (a0 : Nat)  (post : Int64 → kp_S → Prop) : Nat → Int64 → Int32 → Int32 → kp_S → Prop
  | 0, _, _, _, _ => False
  | n + 1, wn1, xn3, xn5, Sn =>
  (((kp_I Sn 2417 a0) ≤ xn5 →
  post wn1 Sn) ∧ (¬ (kp_I Sn 2417 a0) ≤ xn5 →
  ∃ b2001 : Nat, kp_R Sn 2414 a0 = some b2001 ∧
  vp_in xn5 (kp_N Sn b2001) ∧
  ((¬ (kp_A Sn b2001 xn5.toNatClampNeg) = 41 →
  wX12_choose_b276 B a0 wn1 xn3 xn5 (fun wn1_ xn3_ xn5_ S_ => wX12_choose_L222 B a0  post n wn1_ xn3_ xn5_ S_) Sn post) ∧ ((kp_A Sn b2001 xn5.toNatClampNeg) = 41 →
  ∃ b2002 : Nat, kp_R Sn 2415 a0 = some b2002 ∧
  vp_in xn5 (kp_N Sn b2002) ∧
  ((¬ (kp_A Sn b2002 xn5.toNatClampNeg) = (-1) →
  wX12_choose_b276 B a0 wn1 xn3 xn5 (fun wn1_ xn3_ xn5_ S_ => wX12_choose_L222 B a0  post n wn1_ xn3_ xn5_ S_) Sn post) ∧ ((kp_A Sn b2002 xn5.toNatClampNeg) = (-1) →
  ∃ b2003 : Nat, kp_R Sn 2416 a0 = some b2003 ∧
  vp_in xn5 (kp_N Sn b2003) ∧
  ((¬ (kp_A Sn b2003 xn5.toNatClampNeg) = xn3 →
  wX12_choose_b276 B a0 wn1 xn3 xn5 (fun wn1_ xn3_ xn5_ S_ => wX12_choose_L222 B a0  post n wn1_ xn3_ xn5_ S_) Sn post) ∧ ((kp_A Sn b2003 xn5.toNatClampNeg) = xn3 →
  vp_in xn5 (kp_N Sn b2002) ∧ ∀ T2004 : kp_S, T2004 = kp_sA Sn b2002 (upd (kp_A Sn b2002) (xn5.toNatClampNeg) (kp_I Sn 2417 a0)) →
  wX12_choose_b276 B a0 wn1 xn3 xn5 (fun wn1_ xn3_ xn5_ S_ => wX12_choose_L222 B a0  post n wn1_ xn3_ xn5_ S_) T2004 post))))))))
def wX12_choose_b203 (B : Nat → kp_S → (Int64 → kp_S → Prop) → Prop) (a0 : Nat) (wn1 : Int64) (xn3 : Int32)  (Sn : kp_S) (post : Int64 → kp_S → Prop) : Prop :=
  wX12_takeSign a0 125 Sn (fun T3001 =>
  ∀ T3002 : kp_S, T3002 = kp_sI T3001 2411 a0 ((kp_I T3001 2411 a0) - 1) →
  ∃ n0 : Nat, wX12_choose_L222 B a0  post n0 wn1 xn3 xn3 T3002)
def wX12_choose_b190 (B : Nat → kp_S → (Int64 → kp_S → Prop) → Prop) (a0 : Nat) (xn3 : Int32) (wt0 : Int64)  (Sn : kp_S) (post : Int64 → kp_S → Prop) : Prop :=
  wX12_choose_b203 B a0 wt0 xn3  Sn post
def wX12_choose_b129 (B : Nat → kp_S → (Int64 → kp_S → Prop) → Prop) (a0 : Nat) (wn1 : Int64) (xn3 : Int32) (xn6 : Int32) (xt0 : Int32) (K47 : Int64 → Int32 → Int32 → kp_S → Prop) (Sn : kp_S) (post : Int64 → kp_S → Prop) : Prop :=
  wX12_emit a0 41 (-1) xn3 Sn (fun y5002 T5001 =>
  ∃ b5003 : Nat, kp_R T5001 2415 a0 = some b5003 ∧
  vp_in xn6 (kp_N T5001 b5003) ∧ ∀ T5004 : kp_S, T5004 = kp_sA T5001 b5003 (upd (kp_A T5001 b5003) (xn6.toNatClampNeg) (kp_I T5001 2417 a0)) →
  K47 wn1 xn3 xt0 T5004)
def wX12_choose_b124 (B : Nat → kp_S → (Int64 → kp_S → Prop) → Prop) (a0 : Nat) (wn1 : Int64) (xn3 : Int32) (xn6 : Int32) (K47 : Int64 → Int32 → Int32 → kp_S → Prop) (Sn : kp_S) (post : Int64 → kp_S → Prop) : Prop :=
  wX12_choose_b129 B a0 wn1 xn3 xn6 1 K47 Sn post
def wX12_choose_b113 (B : Nat → kp_S → (Int64 → kp_S → Prop) → Prop) (a0 : Nat) (xn3 : Int32) (xn4 : Int32) (xn5 : Int32) (xn6 : Int32) (wt0 : Int64) (K47 : Int64 → Int32 → Int32 → kp_S → Prop) (Sn : kp_S) (post : Int64 → kp_S → Prop) : Prop :=
  ((¬ xn4 = 0 →
  wX12_choose_b124 B a0 wt0 xn3 xn6 K47 Sn post) ∧ (xn4 = 0 →
  ((xn5 = 0 →
  wX12_choose_b129 B a0 wt0 xn3 xn6 0 K47 Sn post) ∧ (¬ xn5 = 0 →
  wX12_choose_b124 B a0 wt0 xn3 xn6 K47 Sn post))))
def wX12_choose_b93 (B : Nat → kp_S → (Int64 → kp_S → Prop) → Prop) (a0 : Nat) (xn3 : Int32) (xn4 : Int32) (xn5 : Int32) (xn6 : Int32) (wt0 : Int64) (K47 : Int64 → Int32 → Int32 → kp_S → Prop) (Sn : kp_S) (post : Int64 → kp_S → Prop) : Prop :=
  B a0 Sn (fun z8002 T8001 =>
  ((xn4 = 0 →
  wX12_choose_b113 B a0 xn3 xn4 xn5 xn6 (wt0 ||| z8002) K47 T8001 post) ∧ (¬ xn4 = 0 →
  wX12_choose_b113 B a0 xn3 xn4 xn5 xn6 wt0 K47 T8001 post)))
def wX12_choose_L47 (B : Nat → kp_S → (Int64 → kp_S → Prop) → Prop) (a0 : Nat)  (post : Int64 → kp_S → Prop) : Nat → Int64 → Int32 → Int32 → kp_S → Prop
  | 0, _, _, _, _ => False
  | n + 1, wn1, xn3, xn4, Sn =>
  wX12_skip a0 48 Sn (fun y9002 T9001 =>
  ((y9002 = 0 →
  wX12_emit a0 4 0 0 T9001 (fun y9004 T9003 =>
  wX12_skip a0 49 T9003 (fun y9006 T9005 =>
  ((y9006 = 0 →
  ((¬ xn4 = 0 →
  wX12_choose_b203 B a0 wn1 xn3  T9005 post) ∧ (xn4 = 0 →
  ∀ z9007 : Int64, z9007 = (wn1 ||| 1) →
  wX12_choose_b203 B a0 z9007 xn3  T9005 post))) ∧ (¬ y9006 = 0 →
  B a0 T9005 (fun z9010 T9009 =>
  ((xn4 = 0 →
  wX12_choose_b190 B a0 xn3 (wn1 ||| z9010)  T9009 post) ∧ (¬ xn4 = 0 →
  wX12_choose_b190 B a0 xn3 wn1  T9009 post)))))))) ∧ (¬ y9002 = 0 →
  wX12_is a0 26 T9001 (fun y9014 T9013 =>
  ∀ T9015 : kp_S, T9015 = kp_sI T9013 2425 a0 0 →
  wX12_list a0 59 58 T9015 (fun y9017 T9016 =>
  ((xn4 = 0 →
  wX12_risky a0 wn1 T9016 (fun z9019 T9018 =>
  wX12_choose_b93 B a0 xn3 xn4 y9014 y9017 z9019 (fun wn1_ xn3_ xn4_ S_ => wX12_choose_L47 B a0  post n wn1_ xn3_ xn4_ S_) T9018 post)) ∧ (¬ xn4 = 0 →
  wX12_choose_b93 B a0 xn3 xn4 y9014 y9017 wn1 (fun wn1_ xn3_ xn4_ S_ => wX12_choose_L47 B a0  post n wn1_ xn3_ xn4_ S_) T9016 post)))))))
def wX12_choose (B : Nat → kp_S → (Int64 → kp_S → Prop) → Prop) (a0 : Nat) (S : kp_S) (post : Int64 → kp_S → Prop) : Prop :=
  ∀ T1 : kp_S, T1 = kp_sI S 2410 a0 ((kp_I S 2410 a0) + 1) →
  wX12_expression_t a0 T1 (fun T2 =>
  wX12_risky a0 0 T2 (fun z4 T3 =>
  wX12_isSign a0 123 T3 (fun y6 T5 =>
  ((¬ y6 = 0 →
  wX12_nest a0 T5 (fun T7 =>
  ∀ y8 : Int32, y8 = (kp_I T7 2417 a0) →
  ∃ n0 : Nat, wX12_choose_L47 B a0  post n0 z4 y8 0 T7)) ∧ (y6 = 0 →
  wX12_wrong a0 T5 (fun T9 =>
  post 0 T9))))))
