theorem cv_12_447 : kp_CV RX12 447 yX12_block cX12_block 6 (some .long) 0 12 := ⟨⟨kp_mem 2185 (by decide +kernel) (by decide +kernel), kp_mem 221 (by decide +kernel) (by decide +kernel), by decide +kernel⟩, kp_mem 2182 (by decide +kernel) (by decide +kernel), kp_mem 2184 (by decide +kernel) (by decide +kernel), kp_mem 127 (by decide +kernel) (by decide +kernel), by decide, TX12, 125, rfl⟩
theorem kl_12_469 : Cond.constantLong RX12 469 (-2) ∈ kp_tb := kp_mem 2280 (by decide +kernel) (by decide +kernel)
theorem cv_12_545 : kp_CV RX12 545 yX12_until cX12_until 7 (some .long) 5 12 := ⟨⟨kp_mem 2287 (by decide +kernel) (by decide +kernel), kp_mem 221 (by decide +kernel) (by decide +kernel), by decide +kernel⟩, kp_mem 2284 (by decide +kernel) (by decide +kernel), kp_mem 2286 (by decide +kernel) (by decide +kernel), kp_mem 151 (by decide +kernel) (by decide +kernel), by decide, TX12, 125, rfl⟩
theorem cv_12_541 : kp_CV RX12 541 yX12_always cX12_always 6 (some .long) 2 12 := ⟨⟨kp_mem 2279 (by decide +kernel) (by decide +kernel), kp_mem 221 (by decide +kernel) (by decide +kernel), by decide +kernel⟩, kp_mem 2276 (by decide +kernel) (by decide +kernel), kp_mem 2278 (by decide +kernel) (by decide +kernel), kp_mem 150 (by decide +kernel) (by decide +kernel), by decide, TX12, 125, rfl⟩
theorem kl_12_498 : Cond.constantLong RX12 498 8 ∈ kp_tb := kp_mem 2281 (by decide +kernel) (by decide +kernel)
theorem kl_12_503 : Cond.constantLong RX12 503 1048576 ∈ kp_tb := kp_mem 2282 (by decide +kernel) (by decide +kernel)
theorem kl_12_543 : Cond.constantLong RX12 543 (-1) ∈ kp_tb := kp_mem 2283 (by decide +kernel) (by decide +kernel)
theorem cv_12_538 : kp_CV RX12 538 yX12_describe cX12_describe 3 (some .int) 1 12 := ⟨⟨kp_mem 2275 (by decide +kernel) (by decide +kernel), kp_mem 221 (by decide +kernel) (by decide +kernel), by decide +kernel⟩, kp_mem 2272 (by decide +kernel) (by decide +kernel), kp_mem 2274 (by decide +kernel) (by decide +kernel), kp_mem 149 (by decide +kernel) (by decide +kernel), by decide, TX12, 125, rfl⟩
theorem cv_12_526 : kp_CV RX12 526 yX12_list cX12_list 6 (some .int) 2 12 := ⟨⟨kp_mem 2267 (by decide +kernel) (by decide +kernel), kp_mem 221 (by decide +kernel) (by decide +kernel), by decide +kernel⟩, kp_mem 2264 (by decide +kernel) (by decide +kernel), kp_mem 2266 (by decide +kernel) (by decide +kernel), kp_mem 147 (by decide +kernel) (by decide +kernel), by decide, TX12, 125, rfl⟩
theorem cv_12_494 : kp_CV RX12 494 yX12_loop cX12_loop 16 (some .long) 2 12 := ⟨⟨kp_mem 2271 (by decide +kernel) (by decide +kernel), kp_mem 221 (by decide +kernel) (by decide +kernel), by decide +kernel⟩, kp_mem 2268 (by decide +kernel) (by decide +kernel), kp_mem 2270 (by decide +kernel) (by decide +kernel), kp_mem 148 (by decide +kernel) (by decide +kernel), by decide, TX12, 125, rfl⟩
theorem kl_12_487 : Cond.constantLong RX12 487 5 ∈ kp_tb := kp_mem 2255 (by decide +kernel) (by decide +kernel)
theorem kl_12_548 : Cond.constantLong RX12 548 (-5) ∈ kp_tb := kp_mem 2309 (by decide +kernel) (by decide +kernel)
theorem fp_12_443 : kp_FP RX12 443 12 26 := ⟨RX12, TX12, 125, cl_12, by decide, kp_mem 1723 (by decide +kernel) (by decide +kernel), rfl⟩
theorem cv_12_517 : kp_CV RX12 517 yX12_named cX12_named 3 (some .long) 1 12 := ⟨⟨kp_mem 2317 (by decide +kernel) (by decide +kernel), kp_mem 221 (by decide +kernel) (by decide +kernel), by decide +kernel⟩, kp_mem 2314 (by decide +kernel) (by decide +kernel), kp_mem 2316 (by decide +kernel) (by decide +kernel), kp_mem 158 (by decide +kernel) (by decide +kernel), by decide, TX12, 125, rfl⟩
theorem cv_12_477 : kp_CV RX12 477 yX12_variable cX12_variable 2 (some .long) 0 12 := ⟨⟨kp_mem 2201 (by decide +kernel) (by decide +kernel), kp_mem 221 (by decide +kernel) (by decide +kernel), by decide +kernel⟩, kp_mem 2198 (by decide +kernel) (by decide +kernel), kp_mem 2200 (by decide +kernel) (by decide +kernel), kp_mem 131 (by decide +kernel) (by decide +kernel), by decide, TX12, 125, rfl⟩
theorem cv_12_479 : kp_CV RX12 479 yX12_order cX12_order 6 (some .long) 3 12 := ⟨⟨kp_mem 2254 (by decide +kernel) (by decide +kernel), kp_mem 221 (by decide +kernel) (by decide +kernel), by decide +kernel⟩, kp_mem 2251 (by decide +kernel) (by decide +kernel), kp_mem 2253 (by decide +kernel) (by decide +kernel), kp_mem 144 (by decide +kernel) (by decide +kernel), by decide, TX12, 125, rfl⟩
theorem cv_12_489 : kp_CV RX12 489 yX12_choice cX12_choice 5 (some .long) 0 12 := ⟨⟨kp_mem 2259 (by decide +kernel) (by decide +kernel), kp_mem 221 (by decide +kernel) (by decide +kernel), by decide +kernel⟩, kp_mem 2256 (by decide +kernel) (by decide +kernel), kp_mem 2258 (by decide +kernel) (by decide +kernel), kp_mem 145 (by decide +kernel) (by decide +kernel), by decide, TX12, 125, rfl⟩
theorem cv_12_500 : kp_CV RX12 500 yX12_away cX12_away 8 (some .long) 2 12 := ⟨⟨kp_mem 2291 (by decide +kernel) (by decide +kernel), kp_mem 221 (by decide +kernel) (by decide +kernel), by decide +kernel⟩, kp_mem 2288 (by decide +kernel) (by decide +kernel), kp_mem 2290 (by decide +kernel) (by decide +kernel), kp_mem 152 (by decide +kernel) (by decide +kernel), by decide, TX12, 125, rfl⟩
theorem cv_12_505 : kp_CV RX12 505 yX12_answer cX12_answer 1 (some .long) 0 12 := ⟨⟨kp_mem 2295 (by decide +kernel) (by decide +kernel), kp_mem 221 (by decide +kernel) (by decide +kernel), by decide +kernel⟩, kp_mem 2292 (by decide +kernel) (by decide +kernel), kp_mem 2294 (by decide +kernel) (by decide +kernel), kp_mem 153 (by decide +kernel) (by decide +kernel), by decide, TX12, 125, rfl⟩
theorem cv_12_507 : kp_CV RX12 507 yX12_hold cX12_hold 4 (some .long) 0 12 := ⟨⟨kp_mem 2300 (by decide +kernel) (by decide +kernel), kp_mem 221 (by decide +kernel) (by decide +kernel), by decide +kernel⟩, kp_mem 2297 (by decide +kernel) (by decide +kernel), kp_mem 2299 (by decide +kernel) (by decide +kernel), kp_mem 154 (by decide +kernel) (by decide +kernel), by decide, TX12, 125, rfl⟩
theorem cv_12_512 : kp_CV RX12 512 yX12_trial cX12_trial 13 (some .long) 1 12 := ⟨⟨kp_mem 2308 (by decide +kernel) (by decide +kernel), kp_mem 221 (by decide +kernel) (by decide +kernel), by decide +kernel⟩, kp_mem 2305 (by decide +kernel) (by decide +kernel), kp_mem 2307 (by decide +kernel) (by decide +kernel), kp_mem 156 (by decide +kernel) (by decide +kernel), by decide, TX12, 125, rfl⟩
theorem cv_12_515 : kp_CV RX12 515 yX12_later cX12_later 7 (some .long) 1 12 := ⟨⟨kp_mem 2313 (by decide +kernel) (by decide +kernel), kp_mem 221 (by decide +kernel) (by decide +kernel), by decide +kernel⟩, kp_mem 2310 (by decide +kernel) (by decide +kernel), kp_mem 2312 (by decide +kernel) (by decide +kernel), kp_mem 157 (by decide +kernel) (by decide +kernel), by decide, TX12, 125, rfl⟩
theorem cv_12_509 : kp_CV RX12 509 yX12_ensure cX12_ensure 6 (some .long) 1 12 := ⟨⟨kp_mem 2304 (by decide +kernel) (by decide +kernel), kp_mem 221 (by decide +kernel) (by decide +kernel), by decide +kernel⟩, kp_mem 2301 (by decide +kernel) (by decide +kernel), kp_mem 2303 (by decide +kernel) (by decide +kernel), kp_mem 155 (by decide +kernel) (by decide +kernel), by decide, TX12, 125, rfl⟩
theorem cv_12_492 : kp_CV RX12 492 yX12_choose cX12_choose 9 (some .long) 0 12 := ⟨⟨kp_mem 2263 (by decide +kernel) (by decide +kernel), kp_mem 221 (by decide +kernel) (by decide +kernel), by decide +kernel⟩, kp_mem 2260 (by decide +kernel) (by decide +kernel), kp_mem 2262 (by decide +kernel) (by decide +kernel), kp_mem 146 (by decide +kernel) (by decide +kernel), by decide, TX12, 125, rfl⟩
theorem cv_12_466 : kp_CV RX12 466 yX12_statement cX12_statement 2 (some .long) 0 12 := ⟨⟨kp_mem 2193 (by decide +kernel) (by decide +kernel), kp_mem 221 (by decide +kernel) (by decide +kernel), by decide +kernel⟩, kp_mem 2190 (by decide +kernel) (by decide +kernel), kp_mem 2192 (by decide +kernel) (by decide +kernel), kp_mem 129 (by decide +kernel) (by decide +kernel), by decide, TX12, 125, rfl⟩
theorem dX12_always_0 : decode cX12_always 0 = .ok (.aload_n 0, 1) := by decide +kernel
theorem dX12_always_1 : decode cX12_always 1 = .ok (.bipush 27, 2) := by decide +kernel
theorem dX12_always_3 : decode cX12_always 3 = .ok (.invokevirtual 440, 3) := by decide +kernel
theorem dX12_always_6 : decode cX12_always 6 = .ok (.ifCond .ne 5, 3) := by decide +kernel
theorem dX12_always_9 : decode cX12_always 9 = .ok (.lload_n 2, 1) := by decide +kernel
theorem dX12_always_10 : decode cX12_always 10 = .ok (.lreturn, 1) := by decide +kernel
theorem dX12_always_11 : decode cX12_always 11 = .ok (.aload_n 0, 1) := by decide +kernel
theorem dX12_always_12 : decode cX12_always 12 = .ok (.getfield 55, 3) := by decide +kernel
theorem dX12_always_15 : decode cX12_always 15 = .ok (.iload_n 1, 1) := by decide +kernel
theorem dX12_always_16 : decode cX12_always 16 = .ok (.aload_n 0, 1) := by decide +kernel
theorem dX12_always_17 : decode cX12_always 17 = .ok (.getfield 370, 3) := by decide +kernel
theorem dX12_always_20 : decode cX12_always 20 = .ok (.iastore, 1) := by decide +kernel
theorem dX12_always_21 : decode cX12_always 21 = .ok (.aload_n 0, 1) := by decide +kernel
theorem dX12_always_22 : decode cX12_always 22 = .ok (.invokevirtual 447, 3) := by decide +kernel
theorem dX12_always_25 : decode cX12_always 25 = .ok (.lstore 4, 2) := by decide +kernel
theorem dX12_always_27 : decode cX12_always 27 = .ok (.aload_n 0, 1) := by decide +kernel
theorem dX12_always_28 : decode cX12_always 28 = .ok (.bipush 48, 2) := by decide +kernel
theorem dX12_always_30 : decode cX12_always 30 = .ok (.iconst 0, 1) := by decide +kernel
theorem dX12_always_31 : decode cX12_always 31 = .ok (.iconst 0, 1) := by decide +kernel
theorem dX12_always_32 : decode cX12_always 32 = .ok (.invokevirtual 451, 3) := by decide +kernel
theorem dX12_always_35 : decode cX12_always 35 = .ok (.pop, 1) := by decide +kernel
theorem dX12_always_36 : decode cX12_always 36 = .ok (.lload_n 2, 1) := by decide +kernel
theorem dX12_always_37 : decode cX12_always 37 = .ok (.lconst 0, 1) := by decide +kernel
theorem dX12_always_38 : decode cX12_always 38 = .ok (.lcmp, 1) := by decide +kernel
theorem dX12_always_39 : decode cX12_always 39 = .ok (.ifCond .ne 5, 3) := by decide +kernel
theorem dX12_always_42 : decode cX12_always 42 = .ok (.lconst 0, 1) := by decide +kernel
theorem dX12_always_43 : decode cX12_always 43 = .ok (.lreturn, 1) := by decide +kernel
theorem dX12_always_44 : decode cX12_always 44 = .ok (.lload 4, 2) := by decide +kernel
theorem dX12_always_46 : decode cX12_always 46 = .ok (.ldc2_w 469, 3) := by decide +kernel
theorem dX12_always_49 : decode cX12_always 49 = .ok (.land, 1) := by decide +kernel
theorem dX12_always_50 : decode cX12_always 50 = .ok (.lload 4, 2) := by decide +kernel
theorem dX12_always_52 : decode cX12_always 52 = .ok (.lconst 1, 1) := by decide +kernel
theorem dX12_always_53 : decode cX12_always 53 = .ok (.land, 1) := by decide +kernel
theorem dX12_always_54 : decode cX12_always 54 = .ok (.lconst 0, 1) := by decide +kernel
theorem dX12_always_55 : decode cX12_always 55 = .ok (.lcmp, 1) := by decide +kernel
theorem dX12_always_56 : decode cX12_always 56 = .ok (.ifCond .eq 7, 3) := by decide +kernel
theorem dX12_always_59 : decode cX12_always 59 = .ok (.lload_n 2, 1) := by decide +kernel
theorem dX12_always_60 : decode cX12_always 60 = .ok (.goto 4, 3) := by decide +kernel
theorem dX12_always_63 : decode cX12_always 63 = .ok (.lconst 0, 1) := by decide +kernel
theorem dX12_always_64 : decode cX12_always 64 = .ok (.lor, 1) := by decide +kernel
theorem dX12_always_65 : decode cX12_always 65 = .ok (.lreturn, 1) := by decide +kernel
def wX12_always_b64 (B : Nat → kp_S → (Int64 → kp_S → Prop) → Prop) (a0 : Nat) (x1 : Int32) (w2 : Int64) (wt0 : Int64) (wt1 : Int64)  (Sn : kp_S) (post : Int64 → kp_S → Prop) : Prop :=
  post (wt1 ||| wt0) Sn
def wX12_always (B : Nat → kp_S → (Int64 → kp_S → Prop) → Prop) (a0 : Nat) (x1 : Int32) (w2 : Int64) (S : kp_S) (post : Int64 → kp_S → Prop) : Prop :=
  wX12_skip a0 27 S (fun y2 T1 =>
  ((¬ y2 = 0 →
  ∃ b3 : Nat, kp_R T1 2419 a0 = some b3 ∧
  vp_in x1 (kp_N T1 b3) ∧ ∀ T4 : kp_S, T4 = kp_sA T1 b3 (upd (kp_A T1 b3) (x1.toNatClampNeg) (kp_I T1 2417 a0)) →
  B a0 T4 (fun z6 T5 =>
  wX12_emit a0 48 0 0 T5 (fun y8 T7 =>
  ((¬ (lg_cmp w2 0) = 0 →
  (((lg_cmp (z6 &&& 1) 0) = 0 →
  wX12_always_b64 B a0 x1 w2 0 (z6 &&& (-2))  T7 post) ∧ (¬ (lg_cmp (z6 &&& 1) 0) = 0 →
  wX12_always_b64 B a0 x1 w2 w2 (z6 &&& (-2))  T7 post))) ∧ ((lg_cmp w2 0) = 0 →
  post 0 T7))))) ∧ (y2 = 0 →
  post w2 T1)))
set_option maxHeartbeats 4000000 in
set_option maxRecDepth 100000 in
theorem c_X12_always (l : Launch) (D : va_G) (cy : Nat → ClassId) (ad : (Nat → Nat) × (Nat → Nat)) (F L : Nat) (B : Nat → kp_S → (Int64 → kp_S → Prop) → Prop) (hB : ∀ (S : kp_S) (a0 : Nat) (post : Int64 → kp_S → Prop), kp_ok S → kp_is S a0 12 → B a0 S post → kp_M l yX12_block cX12_block 6 (some .long) { frames := F, cells := 0, slots := 0, locals := L } D cy ad S [.ref a0] 0 0 (fun A => kp_Ql D cy A S post)) (hF : 151 ≤ F) (hL : 3211 ≤ L) (S : kp_S) (a0 : Nat) (x1 : Int32) (w2 : Int64) (post : Int64 → kp_S → Prop) (hS : kp_ok S) (f_a0 : kp_is S a0 12) (hw : wX12_always B a0 x1 w2 S post) : kp_M l yX12_always cX12_always 6 (some .long) { frames := F + 1, cells := 0, slots := 0, locals := L + 25 } D cy ad S [.ref a0, .int x1, .long w2] 0 0 (fun A => kp_Ql D cy A S post) := by
  refine kp_start (own := RX12) (by decide) rfl (Nat.le_of_ble_eq_true rfl) hS ?_
  intro p e s m below meth c A ls X hr hlocks hname h hl
  have hle : kp_le S S := kp_le.rf
  have hl : lv_has ls 6 [(0, .ref a0), (1, .int x1), (2, .long w2)] := hl
  have j64 : ∀ (wt0 : Int64) (wt1 : Int64) (Sn : kp_S) (H : Heap) (locs : List Loc) (ls : Array Slot), lv_has ls 6 [] → kp_H D cy A Sn s.heap H locs → kp_le S Sn → kp_is Sn a0 12 → wX12_always_b64 B a0 x1 w2 wt0 wt1  Sn post → W p l e { frames := F + 1, cells := 0, slots := 0, locals := L + 25 } s m ([.ref a0, .int x1, .long w2] : List Value).toArray below meth c H locs 0 0 (MQ below (kp_Ql D cy A S post) ([.ref a0, .int x1, .long w2] : List Value).toArray s 0 0 A) (F0 m 64 ls [.long wt0, .long wt1]) := by
    intro wt0 wt1 Sn H locs ls hl h hle f_a0 hw
    unfold wX12_always_b64 at hw
    refine lv_lor X.1 X.2.1 dX12_always_64 ?_
    exact kp_retl X hr hlocks h hle hw dX12_always_65
  unfold wX12_always at hw
  have h : kp_H D cy A S s.heap s.heap [] := h
  revert h
  intro h
  refine lv_aload_n X.1 X.2.1 dX12_always_0 rfl (lv_at hl 0 rfl) ?_
  refine lv_bipush (v := 27) X.1 X.2.1 dX12_always_1 (by decide) ?_
  refine kp_calli X h (kp_runV (rm := { frames := 1, cells := 0, slots := 0, locals := 21 }) (mc := 0) (ms := 0) (rest := []) (Qc := fun A => kp_Qi D cy A S _) X h (c_X12_skip l D cy ad S a0 27 _ h.2.2.2 f_a0 hw) f_a0 cv_12_440 ⟨by dsimp only; omega, by dsimp only; omega, rfl, rfl, by dsimp only; omega, by dsimp only; omega⟩ rfl hl.1 rfl (Nat.le_of_ble_eq_true rfl) dX12_always_3) (fun y2 T1 hw l_T1 H locs h => ?_)
  have f_a0 := l_T1.is f_a0
  have hle := hle.tr l_T1
  refine lv_if_ne (tgt := 11) X.1 X.2.1 dX12_always_6 (by decide) (fun c11 => ?_) (fun c11 => ?_)
  · have hw := hw.1 c11
    refine lv_aload_n X.1 X.2.1 dX12_always_11 rfl (lv_at hl 0 rfl) ?_
    obtain ⟨b3, e_b3, hw⟩ := hw
    have f_b3 := h.2.2.2.rf (c := 12) (k := 19) f_a0 (by decide) (by decide) e_b3 (t := 14) rfl
    refine kp_get X h f_a0 ff_12_55.l (v := .ref b3) (congrArg va_rf e_b3) dX12_always_12 ?_
    refine lv_iload_n X.1 X.2.1 dX12_always_15 rfl (lv_at hl 1 rfl) ?_
    refine lv_aload_n X.1 X.2.1 dX12_always_16 rfl (lv_at hl 0 rfl) ?_
    refine kp_get X h f_a0 fp_12_370.l (v := .int (kp_I T1 2417 a0)) rfl dX12_always_17 ?_
    obtain ⟨hi, hw⟩ := hw
    refine kp_iast X h f_b3 hi dX12_always_20 (fun T4 e_T4 l_T4 H locs h => ?_)
    have hw := hw T4 e_T4
    have f_a0 := l_T4.is f_a0
    have f_b3 := l_T4.is f_b3
    have hle := hle.tr l_T4
    have e_b3 : kp_R T4 2419 a0 = some b3 := by rw [e_T4]; exact e_b3
    refine lv_aload_n X.1 X.2.1 dX12_always_21 rfl (lv_at hl 0 rfl) ?_
    refine kp_calll X h (kp_runV (rm := { frames := F, cells := 0, slots := 0, locals := L }) (mc := 0) (ms := 0) (rest := []) (Qc := fun A => kp_Ql D cy A T4 _) X h (hB T4 a0 _ h.2.2.2 f_a0 hw) f_a0 cv_12_447 ⟨by dsimp only; omega, by dsimp only; omega, rfl, rfl, by dsimp only; omega, by dsimp only; omega⟩ rfl hl.1 rfl (Nat.le_of_ble_eq_true rfl) dX12_always_22) (fun z6 T5 hw l_T5 H locs h => ?_)
    have f_a0 := l_T5.is f_a0
    have f_b3 := l_T5.is f_b3
    have hle := hle.tr l_T5
    refine lv_lstore (lv' := [(4, .long z6), (0, .ref a0), (1, .int x1), (2, .long w2)]) X.1 X.2.1 dX12_always_25 hl (by decide) rfl (fun ls hl => ?_)
    refine lv_aload_n X.1 X.2.1 dX12_always_27 rfl (lv_at hl 1 rfl) ?_
    refine lv_bipush (v := 48) X.1 X.2.1 dX12_always_28 (by decide) ?_
    refine lv_iconst (v := 0) X.1 X.2.1 dX12_always_30 (by decide) ?_
    refine lv_iconst (v := 0) X.1 X.2.1 dX12_always_31 (by decide) ?_
    refine kp_calli X h (kp_runV (rm := { frames := 0, cells := 0, slots := 0, locals := 0 }) (mc := 0) (ms := 0) (rest := []) (Qc := fun A => kp_Qi D cy A T5 _) X h (c_X12_emit l D cy ad T5 a0 48 0 0 _ h.2.2.2 f_a0 hw) f_a0 cv_12_451 ⟨by dsimp only; omega, by dsimp only; omega, rfl, rfl, by dsimp only; omega, by dsimp only; omega⟩ rfl hl.1 rfl (Nat.le_of_ble_eq_true rfl) dX12_always_32) (fun y8 T7 hw l_T7 H locs h => ?_)
    have f_a0 := l_T7.is f_a0
    have f_b3 := l_T7.is f_b3
    have hle := hle.tr l_T7
    refine lv_pop X.1 X.2.1 dX12_always_35 rfl ?_
    refine lv_lload_n X.1 X.2.1 dX12_always_36 rfl (lv_at hl 3 rfl) ?_
    refine lv_lconst (v := 0) X.1 X.2.1 dX12_always_37 (by decide) ?_
    refine W.lcmp X.1 X.2.1 dX12_always_38 ?_
    refine lv_if_ne (tgt := 44) X.1 X.2.1 dX12_always_39 (by decide) (fun c10 => ?_) (fun c10 => ?_)
    · have hw := hw.1 c10
      refine lv_lload X.1 X.2.1 dX12_always_44 (lv_at hl 0 rfl) ?_
      refine lv_ldc2 (v := (-2)) X.1 X.2.1 X.2.2.2.1 (X.2.2.2.2.1 _ kl_12_469) dX12_always_46 ?_
      refine lv_land X.1 X.2.1 dX12_always_49 ?_
      refine lv_lload X.1 X.2.1 dX12_always_50 (lv_at hl 0 rfl) ?_
      refine lv_lconst (v := 1) X.1 X.2.1 dX12_always_52 (by decide) ?_
      refine lv_land X.1 X.2.1 dX12_always_53 ?_
      refine lv_lconst (v := 0) X.1 X.2.1 dX12_always_54 (by decide) ?_
      refine W.lcmp X.1 X.2.1 dX12_always_55 ?_
      refine lv_if_eq (tgt := 63) X.1 X.2.1 dX12_always_56 (by decide) (fun c9 => ?_) (fun c9 => ?_)
      · have hw := hw.1 c9
        refine lv_lconst (v := 0) X.1 X.2.1 dX12_always_63 (by decide) ?_
        exact j64 0 (z6 &&& (-2)) T7 _ _ ls (lv_sub hl [] rfl) h hle f_a0 hw
      · have hw := hw.2 c9
        refine lv_lload_n X.1 X.2.1 dX12_always_59 rfl (lv_at hl 3 rfl) ?_
        refine lv_goto (tgt := 64) X.1 X.2.1 dX12_always_60 (by decide) ?_
        exact j64 w2 (z6 &&& (-2)) T7 _ _ ls (lv_sub hl [] rfl) h hle f_a0 hw
    · have hw := hw.2 c10
      refine lv_lconst (v := 0) X.1 X.2.1 dX12_always_42 (by decide) ?_
      exact kp_retl X hr hlocks h hle hw dX12_always_43
  · have hw := hw.2 c11
    refine lv_lload_n X.1 X.2.1 dX12_always_9 rfl (lv_at hl 2 rfl) ?_
    exact kp_retl X hr hlocks h hle hw dX12_always_10
theorem dX12_loop_0 : decode cX12_loop 0 = .ok (.aload_n 0, 1) := by decide +kernel
theorem dX12_loop_1 : decode cX12_loop 1 = .ok (.iload_n 1, 1) := by decide +kernel
theorem dX12_loop_2 : decode cX12_loop 2 = .ok (.invokevirtual 538, 3) := by decide +kernel
theorem dX12_loop_5 : decode cX12_loop 5 = .ok (.istore 4, 2) := by decide +kernel
theorem dX12_loop_7 : decode cX12_loop 7 = .ok (.aload_n 0, 1) := by decide +kernel
theorem dX12_loop_8 : decode cX12_loop 8 = .ok (.getfield 397, 3) := by decide +kernel
theorem dX12_loop_11 : decode cX12_loop 11 = .ok (.istore 5, 2) := by decide +kernel
theorem dX12_loop_13 : decode cX12_loop 13 = .ok (.aload_n 0, 1) := by decide +kernel
theorem dX12_loop_14 : decode cX12_loop 14 = .ok (.bipush 45, 2) := by decide +kernel
theorem dX12_loop_16 : decode cX12_loop 16 = .ok (.invokevirtual 379, 3) := by decide +kernel
theorem dX12_loop_19 : decode cX12_loop 19 = .ok (.istore 6, 2) := by decide +kernel
theorem dX12_loop_21 : decode cX12_loop 21 = .ok (.aload_n 0, 1) := by decide +kernel
theorem dX12_loop_22 : decode cX12_loop 22 = .ok (.getfield 370, 3) := by decide +kernel
theorem dX12_loop_25 : decode cX12_loop 25 = .ok (.istore 7, 2) := by decide +kernel
theorem dX12_loop_27 : decode cX12_loop 27 = .ok (.aload_n 0, 1) := by decide +kernel
theorem dX12_loop_28 : decode cX12_loop 28 = .ok (.bipush 45, 2) := by decide +kernel
theorem dX12_loop_30 : decode cX12_loop 30 = .ok (.invokevirtual 440, 3) := by decide +kernel
theorem dX12_loop_33 : decode cX12_loop 33 = .ok (.ifCond .eq 27, 3) := by decide +kernel
theorem dX12_loop_36 : decode cX12_loop 36 = .ok (.aload_n 0, 1) := by decide +kernel
theorem dX12_loop_37 : decode cX12_loop 37 = .ok (.bipush 43, 2) := by decide +kernel
theorem dX12_loop_39 : decode cX12_loop 39 = .ok (.iload 4, 2) := by decide +kernel
theorem dX12_loop_41 : decode cX12_loop 41 = .ok (.iconst 0, 1) := by decide +kernel
theorem dX12_loop_42 : decode cX12_loop 42 = .ok (.invokevirtual 451, 3) := by decide +kernel
theorem dX12_loop_45 : decode cX12_loop 45 = .ok (.pop, 1) := by decide +kernel
theorem dX12_loop_46 : decode cX12_loop 46 = .ok (.aload_n 0, 1) := by decide +kernel
theorem dX12_loop_47 : decode cX12_loop 47 = .ok (.bipush 56, 2) := by decide +kernel
theorem dX12_loop_49 : decode cX12_loop 49 = .ok (.iload 4, 2) := by decide +kernel
theorem dX12_loop_51 : decode cX12_loop 51 = .ok (.iconst 0, 1) := by decide +kernel
theorem dX12_loop_52 : decode cX12_loop 52 = .ok (.invokevirtual 451, 3) := by decide +kernel
theorem dX12_loop_55 : decode cX12_loop 55 = .ok (.istore 7, 2) := by decide +kernel
theorem dX12_loop_57 : decode cX12_loop 57 = .ok (.goto 158, 3) := by decide +kernel
theorem dX12_loop_60 : decode cX12_loop 60 = .ok (.aload_n 0, 1) := by decide +kernel
theorem dX12_loop_61 : decode cX12_loop 61 = .ok (.bipush 15, 2) := by decide +kernel
theorem dX12_loop_63 : decode cX12_loop 63 = .ok (.invokevirtual 440, 3) := by decide +kernel
theorem dX12_loop_66 : decode cX12_loop 66 = .ok (.ifCond .eq 55, 3) := by decide +kernel
theorem dX12_loop_69 : decode cX12_loop 69 = .ok (.aload_n 0, 1) := by decide +kernel
theorem dX12_loop_70 : decode cX12_loop 70 = .ok (.bipush 43, 2) := by decide +kernel
theorem dX12_loop_72 : decode cX12_loop 72 = .ok (.iload 4, 2) := by decide +kernel
theorem dX12_loop_74 : decode cX12_loop 74 = .ok (.iconst 0, 1) := by decide +kernel
theorem dX12_loop_75 : decode cX12_loop 75 = .ok (.invokevirtual 451, 3) := by decide +kernel
theorem dX12_loop_78 : decode cX12_loop 78 = .ok (.pop, 1) := by decide +kernel
theorem dX12_loop_79 : decode cX12_loop 79 = .ok (.aload_n 0, 1) := by decide +kernel
theorem dX12_loop_80 : decode cX12_loop 80 = .ok (.getfield 52, 3) := by decide +kernel
theorem dX12_loop_83 : decode cX12_loop 83 = .ok (.iload 4, 2) := by decide +kernel
theorem dX12_loop_85 : decode cX12_loop 85 = .ok (.aload_n 0, 1) := by decide +kernel
theorem dX12_loop_86 : decode cX12_loop 86 = .ok (.getfield 370, 3) := by decide +kernel
theorem dX12_loop_89 : decode cX12_loop 89 = .ok (.iastore, 1) := by decide +kernel
theorem dX12_loop_90 : decode cX12_loop 90 = .ok (.aload_n 0, 1) := by decide +kernel
theorem dX12_loop_91 : decode cX12_loop 91 = .ok (.bipush 44, 2) := by decide +kernel
theorem dX12_loop_93 : decode cX12_loop 93 = .ok (.aload_n 0, 1) := by decide +kernel
theorem dX12_loop_94 : decode cX12_loop 94 = .ok (.getfield 34, 3) := by decide +kernel
theorem dX12_loop_97 : decode cX12_loop 97 = .ok (.iload_n 1, 1) := by decide +kernel
theorem dX12_loop_98 : decode cX12_loop 98 = .ok (.iaload, 1) := by decide +kernel
theorem dX12_loop_99 : decode cX12_loop 99 = .ok (.iconst 0, 1) := by decide +kernel
theorem dX12_loop_100 : decode cX12_loop 100 = .ok (.invokevirtual 451, 3) := by decide +kernel
theorem dX12_loop_103 : decode cX12_loop 103 = .ok (.pop, 1) := by decide +kernel
theorem dX12_loop_104 : decode cX12_loop 104 = .ok (.aload_n 0, 1) := by decide +kernel
theorem dX12_loop_105 : decode cX12_loop 105 = .ok (.invokevirtual 520, 3) := by decide +kernel
theorem dX12_loop_108 : decode cX12_loop 108 = .ok (.aload_n 0, 1) := by decide +kernel
theorem dX12_loop_109 : decode cX12_loop 109 = .ok (.bipush 45, 2) := by decide +kernel
theorem dX12_loop_111 : decode cX12_loop 111 = .ok (.iload 4, 2) := by decide +kernel
theorem dX12_loop_113 : decode cX12_loop 113 = .ok (.iconst 0, 1) := by decide +kernel
theorem dX12_loop_114 : decode cX12_loop 114 = .ok (.invokevirtual 451, 3) := by decide +kernel
theorem dX12_loop_117 : decode cX12_loop 117 = .ok (.pop, 1) := by decide +kernel
theorem dX12_loop_118 : decode cX12_loop 118 = .ok (.goto 97, 3) := by decide +kernel
theorem dX12_loop_121 : decode cX12_loop 121 = .ok (.aload_n 0, 1) := by decide +kernel
theorem dX12_loop_122 : decode cX12_loop 122 = .ok (.dup, 1) := by decide +kernel
theorem dX12_loop_123 : decode cX12_loop 123 = .ok (.getfield 376, 3) := by decide +kernel
theorem dX12_loop_126 : decode cX12_loop 126 = .ok (.iconst 1, 1) := by decide +kernel
theorem dX12_loop_127 : decode cX12_loop 127 = .ok (.iadd, 1) := by decide +kernel
theorem dX12_loop_128 : decode cX12_loop 128 = .ok (.putfield 376, 3) := by decide +kernel
theorem dX12_loop_131 : decode cX12_loop 131 = .ok (.aload_n 0, 1) := by decide +kernel
theorem dX12_loop_132 : decode cX12_loop 132 = .ok (.getfield 376, 3) := by decide +kernel
theorem dX12_loop_135 : decode cX12_loop 135 = .ok (.istore 8, 2) := by decide +kernel
theorem dX12_loop_137 : decode cX12_loop 137 = .ok (.aload_n 0, 1) := by decide +kernel
theorem dX12_loop_138 : decode cX12_loop 138 = .ok (.iconst 2, 1) := by decide +kernel
theorem dX12_loop_139 : decode cX12_loop 139 = .ok (.invokevirtual 385, 3) := by decide +kernel
theorem dX12_loop_142 : decode cX12_loop 142 = .ok (.aload_n 0, 1) := by decide +kernel
theorem dX12_loop_143 : decode cX12_loop 143 = .ok (.bipush 17, 2) := by decide +kernel
theorem dX12_loop_145 : decode cX12_loop 145 = .ok (.invokevirtual 385, 3) := by decide +kernel
theorem dX12_loop_148 : decode cX12_loop 148 = .ok (.aload_n 0, 1) := by decide +kernel
theorem dX12_loop_149 : decode cX12_loop 149 = .ok (.invokevirtual 520, 3) := by decide +kernel
theorem dX12_loop_152 : decode cX12_loop 152 = .ok (.aload_n 0, 1) := by decide +kernel
theorem dX12_loop_153 : decode cX12_loop 153 = .ok (.bipush 18, 2) := by decide +kernel
theorem dX12_loop_155 : decode cX12_loop 155 = .ok (.invokevirtual 385, 3) := by decide +kernel
theorem dX12_loop_158 : decode cX12_loop 158 = .ok (.aload_n 0, 1) := by decide +kernel
theorem dX12_loop_159 : decode cX12_loop 159 = .ok (.invokevirtual 520, 3) := by decide +kernel
theorem dX12_loop_162 : decode cX12_loop 162 = .ok (.aload_n 0, 1) := by decide +kernel
theorem dX12_loop_163 : decode cX12_loop 163 = .ok (.invokevirtual 408, 3) := by decide +kernel
theorem dX12_loop_166 : decode cX12_loop 166 = .ok (.ifCond .ne 5, 3) := by decide +kernel
theorem dX12_loop_169 : decode cX12_loop 169 = .ok (.lconst 0, 1) := by decide +kernel
theorem dX12_loop_170 : decode cX12_loop 170 = .ok (.lreturn, 1) := by decide +kernel
theorem dX12_loop_171 : decode cX12_loop 171 = .ok (.aload_n 0, 1) := by decide +kernel
theorem dX12_loop_172 : decode cX12_loop 172 = .ok (.getfield 64, 3) := by decide +kernel
theorem dX12_loop_175 : decode cX12_loop 175 = .ok (.iload 4, 2) := by decide +kernel
theorem dX12_loop_177 : decode cX12_loop 177 = .ok (.aload_n 0, 1) := by decide +kernel
theorem dX12_loop_178 : decode cX12_loop 178 = .ok (.iload 8, 2) := by decide +kernel
theorem dX12_loop_180 : decode cX12_loop 180 = .ok (.invokevirtual 523, 3) := by decide +kernel
theorem dX12_loop_183 : decode cX12_loop 183 = .ok (.iastore, 1) := by decide +kernel
theorem dX12_loop_184 : decode cX12_loop 184 = .ok (.aload_n 0, 1) := by decide +kernel
theorem dX12_loop_185 : decode cX12_loop 185 = .ok (.bipush 46, 2) := by decide +kernel
theorem dX12_loop_187 : decode cX12_loop 187 = .ok (.iload 4, 2) := by decide +kernel
theorem dX12_loop_189 : decode cX12_loop 189 = .ok (.iconst 0, 1) := by decide +kernel
theorem dX12_loop_190 : decode cX12_loop 190 = .ok (.invokevirtual 451, 3) := by decide +kernel
theorem dX12_loop_193 : decode cX12_loop 193 = .ok (.pop, 1) := by decide +kernel
theorem dX12_loop_194 : decode cX12_loop 194 = .ok (.aload_n 0, 1) := by decide +kernel
theorem dX12_loop_195 : decode cX12_loop 195 = .ok (.getfield 52, 3) := by decide +kernel
theorem dX12_loop_198 : decode cX12_loop 198 = .ok (.iload 4, 2) := by decide +kernel
theorem dX12_loop_200 : decode cX12_loop 200 = .ok (.aload_n 0, 1) := by decide +kernel
theorem dX12_loop_201 : decode cX12_loop 201 = .ok (.getfield 370, 3) := by decide +kernel
theorem dX12_loop_204 : decode cX12_loop 204 = .ok (.iastore, 1) := by decide +kernel
theorem dX12_loop_205 : decode cX12_loop 205 = .ok (.aload_n 0, 1) := by decide +kernel
theorem dX12_loop_206 : decode cX12_loop 206 = .ok (.bipush 47, 2) := by decide +kernel
theorem dX12_loop_208 : decode cX12_loop 208 = .ok (.iload 4, 2) := by decide +kernel
theorem dX12_loop_210 : decode cX12_loop 210 = .ok (.iconst 0, 1) := by decide +kernel
theorem dX12_loop_211 : decode cX12_loop 211 = .ok (.invokevirtual 451, 3) := by decide +kernel
theorem dX12_loop_214 : decode cX12_loop 214 = .ok (.pop, 1) := by decide +kernel
theorem dX12_loop_215 : decode cX12_loop 215 = .ok (.iload 6, 2) := by decide +kernel
theorem dX12_loop_217 : decode cX12_loop 217 = .ok (.ifCond .eq 7, 3) := by decide +kernel
theorem dX12_loop_220 : decode cX12_loop 220 = .ok (.lconst 0, 1) := by decide +kernel
theorem dX12_loop_221 : decode cX12_loop 221 = .ok (.goto 8, 3) := by decide +kernel
theorem dX12_loop_224 : decode cX12_loop 224 = .ok (.aload_n 0, 1) := by decide +kernel
theorem dX12_loop_225 : decode cX12_loop 225 = .ok (.lconst 0, 1) := by decide +kernel
theorem dX12_loop_226 : decode cX12_loop 226 = .ok (.invokevirtual 483, 3) := by decide +kernel
theorem dX12_loop_229 : decode cX12_loop 229 = .ok (.lstore 8, 2) := by decide +kernel
theorem dX12_loop_231 : decode cX12_loop 231 = .ok (.aload_n 0, 1) := by decide +kernel
theorem dX12_loop_232 : decode cX12_loop 232 = .ok (.invokevirtual 408, 3) := by decide +kernel
theorem dX12_loop_235 : decode cX12_loop 235 = .ok (.ifCond .ne 5, 3) := by decide +kernel
theorem dX12_loop_238 : decode cX12_loop 238 = .ok (.lconst 0, 1) := by decide +kernel
theorem dX12_loop_239 : decode cX12_loop 239 = .ok (.lreturn, 1) := by decide +kernel
theorem dX12_loop_240 : decode cX12_loop 240 = .ok (.aload_n 0, 1) := by decide +kernel
theorem dX12_loop_241 : decode cX12_loop 241 = .ok (.getfield 106, 3) := by decide +kernel
theorem dX12_loop_244 : decode cX12_loop 244 = .ok (.aload_n 0, 1) := by decide +kernel
theorem dX12_loop_245 : decode cX12_loop 245 = .ok (.getfield 423, 3) := by decide +kernel
theorem dX12_loop_248 : decode cX12_loop 248 = .ok (.lload_n 2, 1) := by decide +kernel
theorem dX12_loop_249 : decode cX12_loop 249 = .ok (.lastore, 1) := by decide +kernel
theorem dX12_loop_250 : decode cX12_loop 250 = .ok (.aload_n 0, 1) := by decide +kernel
theorem dX12_loop_251 : decode cX12_loop 251 = .ok (.getfield 109, 3) := by decide +kernel
theorem dX12_loop_254 : decode cX12_loop 254 = .ok (.aload_n 0, 1) := by decide +kernel
theorem dX12_loop_255 : decode cX12_loop 255 = .ok (.getfield 423, 3) := by decide +kernel
theorem dX12_loop_258 : decode cX12_loop 258 = .ok (.iload 4, 2) := by decide +kernel
theorem dX12_loop_260 : decode cX12_loop 260 = .ok (.iastore, 1) := by decide +kernel
theorem dX12_loop_261 : decode cX12_loop 261 = .ok (.aload_n 0, 1) := by decide +kernel
theorem dX12_loop_262 : decode cX12_loop 262 = .ok (.dup, 1) := by decide +kernel
theorem dX12_loop_263 : decode cX12_loop 263 = .ok (.getfield 423, 3) := by decide +kernel
theorem dX12_loop_266 : decode cX12_loop 266 = .ok (.iconst 1, 1) := by decide +kernel
theorem dX12_loop_267 : decode cX12_loop 267 = .ok (.iadd, 1) := by decide +kernel
theorem dX12_loop_268 : decode cX12_loop 268 = .ok (.putfield 423, 3) := by decide +kernel
theorem dX12_loop_271 : decode cX12_loop 271 = .ok (.aload_n 0, 1) := by decide +kernel
theorem dX12_loop_272 : decode cX12_loop 272 = .ok (.invokevirtual 447, 3) := by decide +kernel
theorem dX12_loop_275 : decode cX12_loop 275 = .ok (.lstore 10, 2) := by decide +kernel
theorem dX12_loop_277 : decode cX12_loop 277 = .ok (.aload_n 0, 1) := by decide +kernel
theorem dX12_loop_278 : decode cX12_loop 278 = .ok (.bipush 48, 2) := by decide +kernel
theorem dX12_loop_280 : decode cX12_loop 280 = .ok (.iconst 0, 1) := by decide +kernel
theorem dX12_loop_281 : decode cX12_loop 281 = .ok (.iconst 0, 1) := by decide +kernel
theorem dX12_loop_282 : decode cX12_loop 282 = .ok (.invokevirtual 451, 3) := by decide +kernel
theorem dX12_loop_285 : decode cX12_loop 285 = .ok (.pop, 1) := by decide +kernel
theorem dX12_loop_286 : decode cX12_loop 286 = .ok (.aload_n 0, 1) := by decide +kernel
theorem dX12_loop_287 : decode cX12_loop 287 = .ok (.iload 4, 2) := by decide +kernel
theorem dX12_loop_289 : decode cX12_loop 289 = .ok (.lload 10, 2) := by decide +kernel
theorem dX12_loop_291 : decode cX12_loop 291 = .ok (.invokevirtual 541, 3) := by decide +kernel
theorem dX12_loop_294 : decode cX12_loop 294 = .ok (.lstore 10, 2) := by decide +kernel
theorem dX12_loop_296 : decode cX12_loop 296 = .ok (.aload_n 0, 1) := by decide +kernel
theorem dX12_loop_297 : decode cX12_loop 297 = .ok (.dup, 1) := by decide +kernel
theorem dX12_loop_298 : decode cX12_loop 298 = .ok (.getfield 423, 3) := by decide +kernel
theorem dX12_loop_301 : decode cX12_loop 301 = .ok (.iconst 1, 1) := by decide +kernel
theorem dX12_loop_302 : decode cX12_loop 302 = .ok (.isub, 1) := by decide +kernel
theorem dX12_loop_303 : decode cX12_loop 303 = .ok (.putfield 423, 3) := by decide +kernel
theorem dX12_loop_306 : decode cX12_loop 306 = .ok (.aload_n 0, 1) := by decide +kernel
theorem dX12_loop_307 : decode cX12_loop 307 = .ok (.iload 5, 2) := by decide +kernel
theorem dX12_loop_309 : decode cX12_loop 309 = .ok (.putfield 397, 3) := by decide +kernel
theorem dX12_loop_312 : decode cX12_loop 312 = .ok (.ldc2_w 498, 3) := by decide +kernel
theorem dX12_loop_315 : decode cX12_loop 315 = .ok (.aload_n 0, 1) := by decide +kernel
theorem dX12_loop_316 : decode cX12_loop 316 = .ok (.getfield 423, 3) := by decide +kernel
theorem dX12_loop_319 : decode cX12_loop 319 = .ok (.lshl, 1) := by decide +kernel
theorem dX12_loop_320 : decode cX12_loop 320 = .ok (.lstore 12, 2) := by decide +kernel
theorem dX12_loop_322 : decode cX12_loop 322 = .ok (.ldc2_w 503, 3) := by decide +kernel
theorem dX12_loop_325 : decode cX12_loop 325 = .ok (.aload_n 0, 1) := by decide +kernel
theorem dX12_loop_326 : decode cX12_loop 326 = .ok (.getfield 423, 3) := by decide +kernel
theorem dX12_loop_329 : decode cX12_loop 329 = .ok (.lshl, 1) := by decide +kernel
theorem dX12_loop_330 : decode cX12_loop 330 = .ok (.lstore 14, 2) := by decide +kernel
theorem dX12_loop_332 : decode cX12_loop 332 = .ok (.lload 8, 2) := by decide +kernel
theorem dX12_loop_334 : decode cX12_loop 334 = .ok (.lload 10, 2) := by decide +kernel
theorem dX12_loop_336 : decode cX12_loop 336 = .ok (.lconst 1, 1) := by decide +kernel
theorem dX12_loop_337 : decode cX12_loop 337 = .ok (.lload 12, 2) := by decide +kernel
theorem dX12_loop_339 : decode cX12_loop 339 = .ok (.lor, 1) := by decide +kernel
theorem dX12_loop_340 : decode cX12_loop 340 = .ok (.lload 14, 2) := by decide +kernel
theorem dX12_loop_342 : decode cX12_loop 342 = .ok (.lor, 1) := by decide +kernel
theorem dX12_loop_343 : decode cX12_loop 343 = .ok (.ldc2_w 543, 3) := by decide +kernel
theorem dX12_loop_346 : decode cX12_loop 346 = .ok (.lxor, 1) := by decide +kernel
theorem dX12_loop_347 : decode cX12_loop 347 = .ok (.land, 1) := by decide +kernel
theorem dX12_loop_348 : decode cX12_loop 348 = .ok (.lor, 1) := by decide +kernel
theorem dX12_loop_349 : decode cX12_loop 349 = .ok (.lstore 8, 2) := by decide +kernel
theorem dX12_loop_351 : decode cX12_loop 351 = .ok (.lload 8, 2) := by decide +kernel
theorem dX12_loop_353 : decode cX12_loop 353 = .ok (.iload 6, 2) := by decide +kernel
theorem dX12_loop_355 : decode cX12_loop 355 = .ok (.ifCond .eq 18, 3) := by decide +kernel
theorem dX12_loop_358 : decode cX12_loop 358 = .ok (.lload 10, 2) := by decide +kernel
theorem dX12_loop_360 : decode cX12_loop 360 = .ok (.lconst 1, 1) := by decide +kernel
theorem dX12_loop_361 : decode cX12_loop 361 = .ok (.lload 12, 2) := by decide +kernel
theorem dX12_loop_363 : decode cX12_loop 363 = .ok (.lor, 1) := by decide +kernel
theorem dX12_loop_364 : decode cX12_loop 364 = .ok (.lload 14, 2) := by decide +kernel
theorem dX12_loop_366 : decode cX12_loop 366 = .ok (.lor, 1) := by decide +kernel
theorem dX12_loop_367 : decode cX12_loop 367 = .ok (.land, 1) := by decide +kernel
theorem dX12_loop_368 : decode cX12_loop 368 = .ok (.lconst 0, 1) := by decide +kernel
theorem dX12_loop_369 : decode cX12_loop 369 = .ok (.lcmp, 1) := by decide +kernel
theorem dX12_loop_370 : decode cX12_loop 370 = .ok (.ifCond .eq 7, 3) := by decide +kernel
theorem dX12_loop_373 : decode cX12_loop 373 = .ok (.lconst 1, 1) := by decide +kernel
theorem dX12_loop_374 : decode cX12_loop 374 = .ok (.goto 4, 3) := by decide +kernel
theorem dX12_loop_377 : decode cX12_loop 377 = .ok (.lconst 0, 1) := by decide +kernel
theorem dX12_loop_378 : decode cX12_loop 378 = .ok (.lor, 1) := by decide +kernel
theorem dX12_loop_379 : decode cX12_loop 379 = .ok (.lstore 8, 2) := by decide +kernel
theorem dX12_loop_381 : decode cX12_loop 381 = .ok (.iload 6, 2) := by decide +kernel
theorem dX12_loop_383 : decode cX12_loop 383 = .ok (.ifCond .eq 33, 3) := by decide +kernel
theorem dX12_loop_386 : decode cX12_loop 386 = .ok (.aload_n 0, 1) := by decide +kernel
theorem dX12_loop_387 : decode cX12_loop 387 = .ok (.iload 4, 2) := by decide +kernel
theorem dX12_loop_389 : decode cX12_loop 389 = .ok (.iload_n 1, 1) := by decide +kernel
theorem dX12_loop_390 : decode cX12_loop 390 = .ok (.iload 7, 2) := by decide +kernel
theorem dX12_loop_392 : decode cX12_loop 392 = .ok (.lload 10, 2) := by decide +kernel
theorem dX12_loop_394 : decode cX12_loop 394 = .ok (.lconst 1, 1) := by decide +kernel
theorem dX12_loop_395 : decode cX12_loop 395 = .ok (.lload 14, 2) := by decide +kernel
theorem dX12_loop_397 : decode cX12_loop 397 = .ok (.lor, 1) := by decide +kernel
theorem dX12_loop_398 : decode cX12_loop 398 = .ok (.land, 1) := by decide +kernel
theorem dX12_loop_399 : decode cX12_loop 399 = .ok (.lconst 0, 1) := by decide +kernel
theorem dX12_loop_400 : decode cX12_loop 400 = .ok (.lcmp, 1) := by decide +kernel
theorem dX12_loop_401 : decode cX12_loop 401 = .ok (.ifCond .eq 7, 3) := by decide +kernel
theorem dX12_loop_404 : decode cX12_loop 404 = .ok (.iconst 1, 1) := by decide +kernel
theorem dX12_loop_405 : decode cX12_loop 405 = .ok (.goto 4, 3) := by decide +kernel
theorem dX12_loop_408 : decode cX12_loop 408 = .ok (.iconst 0, 1) := by decide +kernel
theorem dX12_loop_409 : decode cX12_loop 409 = .ok (.lload 8, 2) := by decide +kernel
theorem dX12_loop_411 : decode cX12_loop 411 = .ok (.invokevirtual 545, 3) := by decide +kernel
theorem dX12_loop_414 : decode cX12_loop 414 = .ok (.lstore 8, 2) := by decide +kernel
theorem dX12_loop_416 : decode cX12_loop 416 = .ok (.aload_n 0, 1) := by decide +kernel
theorem dX12_loop_417 : decode cX12_loop 417 = .ok (.getfield 58, 3) := by decide +kernel
theorem dX12_loop_420 : decode cX12_loop 420 = .ok (.iload 4, 2) := by decide +kernel
theorem dX12_loop_422 : decode cX12_loop 422 = .ok (.aload_n 0, 1) := by decide +kernel
theorem dX12_loop_423 : decode cX12_loop 423 = .ok (.getfield 370, 3) := by decide +kernel
theorem dX12_loop_426 : decode cX12_loop 426 = .ok (.iastore, 1) := by decide +kernel
theorem dX12_loop_427 : decode cX12_loop 427 = .ok (.lload 8, 2) := by decide +kernel
theorem dX12_loop_429 : decode cX12_loop 429 = .ok (.lreturn, 1) := by decide +kernel
def wX12_loop_b416 (B : Nat → kp_S → (Int64 → kp_S → Prop) → Prop) (a0 : Nat) (x1 : Int32) (w2 : Int64) (xn4 : Int32) (wn8 : Int64)  (Sn : kp_S) (post : Int64 → kp_S → Prop) : Prop :=
  ∃ b1001 : Nat, kp_R Sn 2420 a0 = some b1001 ∧
  vp_in xn4 (kp_N Sn b1001) ∧ ∀ T1002 : kp_S, T1002 = kp_sA Sn b1001 (upd (kp_A Sn b1001) (xn4.toNatClampNeg) (kp_I Sn 2417 a0)) →
  post wn8 T1002
def wX12_loop_b409 (B : Nat → kp_S → (Int64 → kp_S → Prop) → Prop) (a0 : Nat) (x1 : Int32) (w2 : Int64) (xn4 : Int32) (wn8 : Int64) (xt0 : Int32) (xt1 : Int32) (xt2 : Int32) (xt3 : Int32) (at4 : Nat)  (Sn : kp_S) (post : Int64 → kp_S → Prop) : Prop :=
  wX12_until at4 xt3 xt2 xt1 xt0 wn8 Sn (fun z2002 T2001 =>
  wX12_loop_b416 B a0 x1 w2 xn4 z2002  T2001 post)
def wX12_loop_b378 (B : Nat → kp_S → (Int64 → kp_S → Prop) → Prop) (a0 : Nat) (x1 : Int32) (w2 : Int64) (xn4 : Int32) (xn6 : Int32) (xn7 : Int32) (wn10 : Int64) (wn14 : Int64) (wt0 : Int64) (wt1 : Int64)  (Sn : kp_S) (post : Int64 → kp_S → Prop) : Prop :=
  ∀ z3001 : Int64, z3001 = (wt1 ||| wt0) →
  ((xn6 = 0 →
  wX12_loop_b416 B a0 x1 w2 xn4 z3001  Sn post) ∧ (¬ xn6 = 0 →
  (((lg_cmp (wn10 &&& (1 ||| wn14)) 0) = 0 →
  wX12_loop_b409 B a0 x1 w2 xn4 z3001 0 xn7 x1 xn4 a0  Sn post) ∧ (¬ (lg_cmp (wn10 &&& (1 ||| wn14)) 0) = 0 →
  wX12_loop_b409 B a0 x1 w2 xn4 z3001 1 xn7 x1 xn4 a0  Sn post))))
def wX12_loop_b373 (B : Nat → kp_S → (Int64 → kp_S → Prop) → Prop) (a0 : Nat) (x1 : Int32) (w2 : Int64) (xn4 : Int32) (xn6 : Int32) (xn7 : Int32) (wn10 : Int64) (wn14 : Int64) (wt0 : Int64)  (Sn : kp_S) (post : Int64 → kp_S → Prop) : Prop :=
  wX12_loop_b378 B a0 x1 w2 xn4 xn6 xn7 wn10 wn14 1 wt0  Sn post
def wX12_loop_b229 (B : Nat → kp_S → (Int64 → kp_S → Prop) → Prop) (a0 : Nat) (x1 : Int32) (w2 : Int64) (xn4 : Int32) (xn5 : Int32) (xn6 : Int32) (xn7 : Int32) (wt0 : Int64)  (Sn : kp_S) (post : Int64 → kp_S → Prop) : Prop :=
  wX12_fine a0 Sn (fun y5002 T5001 =>
  ((¬ y5002 = 0 →
  ∃ b5003 : Nat, kp_R T5001 2443 a0 = some b5003 ∧
  vp_in (kp_I T5001 2445 a0) (kp_N T5001 b5003) ∧ ∀ T5004 : kp_S, T5004 = kp_sB T5001 b5003 (vp_updL (kp_B T5001 b5003) ((kp_I T5001 2445 a0).toNatClampNeg) w2) →
  ∃ b5005 : Nat, kp_R T5004 2444 a0 = some b5005 ∧
  vp_in (kp_I T5004 2445 a0) (kp_N T5004 b5005) ∧ ∀ T5006 : kp_S, T5006 = kp_sA T5004 b5005 (upd (kp_A T5004 b5005) ((kp_I T5004 2445 a0).toNatClampNeg) xn4) →
  ∀ T5007 : kp_S, T5007 = kp_sI T5006 2445 a0 ((kp_I T5006 2445 a0) + 1) →
  B a0 T5007 (fun z5009 T5008 =>
  wX12_emit a0 48 0 0 T5008 (fun y5011 T5010 =>
  wX12_always B a0 xn4 z5009 T5010 (fun z5013 T5012 =>
  ∀ T5014 : kp_S, T5014 = kp_sI T5012 2445 a0 ((kp_I T5012 2445 a0) - 1) →
  ∀ T5015 : kp_S, T5015 = kp_sI T5014 2441 a0 xn5 →
  ∀ z5016 : Int64, z5016 = ((8 : Int64) <<< ((kp_I T5015 2445 a0 : Int32).toInt64 &&& 63)) →
  ∀ z5017 : Int64, z5017 = ((1048576 : Int64) <<< ((kp_I T5015 2445 a0 : Int32).toInt64 &&& 63)) →
  ∀ z5018 : Int64, z5018 = (wt0 ||| (z5013 &&& (((1 ||| z5016) ||| z5017) ^^^ (-1)))) →
  ((xn6 = 0 →
  wX12_loop_b373 B a0 x1 w2 xn4 xn6 xn7 z5013 z5017 z5018  T5015 post) ∧ (¬ xn6 = 0 →
  (((lg_cmp (z5013 &&& ((1 ||| z5016) ||| z5017)) 0) = 0 →
  wX12_loop_b378 B a0 x1 w2 xn4 xn6 xn7 z5013 z5017 0 z5018  T5015 post) ∧ (¬ (lg_cmp (z5013 &&& ((1 ||| z5016) ||| z5017)) 0) = 0 →
  wX12_loop_b373 B a0 x1 w2 xn4 xn6 xn7 z5013 z5017 z5018  T5015 post)))))))) ∧ (y5002 = 0 →
  post 0 T5001)))
def wX12_loop_b215 (B : Nat → kp_S → (Int64 → kp_S → Prop) → Prop) (a0 : Nat) (x1 : Int32) (w2 : Int64) (xn4 : Int32) (xn5 : Int32) (xn6 : Int32) (xn7 : Int32)  (Sn : kp_S) (post : Int64 → kp_S → Prop) : Prop :=
  ((xn6 = 0 →
  wX12_risky a0 0 Sn (fun z6002 T6001 =>
  wX12_loop_b229 B a0 x1 w2 xn4 xn5 xn6 xn7 z6002  T6001 post)) ∧ (¬ xn6 = 0 →
  wX12_loop_b229 B a0 x1 w2 xn4 xn5 xn6 xn7 0  Sn post))
def wX12_loop (B : Nat → kp_S → (Int64 → kp_S → Prop) → Prop) (a0 : Nat) (x1 : Int32) (w2 : Int64) (S : kp_S) (post : Int64 → kp_S → Prop) : Prop :=
  wX12_describe a0 x1 S (fun y2 T1 =>
  ∀ y3 : Int32, y3 = (kp_I T1 2441 a0) →
  wX12_is a0 45 T1 (fun y5 T4 =>
  ∀ y6 : Int32, y6 = (kp_I T4 2417 a0) →
  wX12_skip a0 45 T4 (fun y8 T7 =>
  ((y8 = 0 →
  wX12_skip a0 15 T7 (fun y10 T9 =>
  ((y10 = 0 →
  ∀ T11 : kp_S, T11 = kp_sI T9 2410 a0 ((kp_I T9 2410 a0) + 1) →
  ∀ y12 : Int32, y12 = (kp_I T11 2410 a0) →
  wX12_take a0 2 T11 (fun T13 =>
  wX12_take a0 17 T13 (fun T14 =>
  wX12_expression_t a0 T14 (fun T15 =>
  wX12_take a0 18 T15 (fun T16 =>
  wX12_expression_t a0 T16 (fun T17 =>
  wX12_fine a0 T17 (fun y19 T18 =>
  ((¬ y19 = 0 →
  ∃ b20 : Nat, kp_R T18 2422 a0 = some b20 ∧
  wX12_tell a0 y12 T18 (fun y22 T21 =>
  vp_in y2 (kp_N T21 b20) ∧ ∀ T23 : kp_S, T23 = kp_sA T21 b20 (upd (kp_A T21 b20) (y2.toNatClampNeg) y22) →
  wX12_emit a0 46 y2 0 T23 (fun y25 T24 =>
  ∃ b26 : Nat, kp_R T24 2418 a0 = some b26 ∧
  vp_in y2 (kp_N T24 b26) ∧ ∀ T27 : kp_S, T27 = kp_sA T24 b26 (upd (kp_A T24 b26) (y2.toNatClampNeg) (kp_I T24 2417 a0)) →
  wX12_emit a0 47 y2 0 T27 (fun y29 T28 =>
  wX12_loop_b215 B a0 x1 w2 y2 y3 y5 y6  T28 post)))) ∧ (y19 = 0 →
  post 0 T18))))))))) ∧ (¬ y10 = 0 →
  wX12_emit a0 43 y2 0 T9 (fun y32 T31 =>
  ∃ b33 : Nat, kp_R T31 2418 a0 = some b33 ∧
  vp_in y2 (kp_N T31 b33) ∧ ∀ T34 : kp_S, T34 = kp_sA T31 b33 (upd (kp_A T31 b33) (y2.toNatClampNeg) (kp_I T31 2417 a0)) →
  ∃ b35 : Nat, kp_R T34 2405 a0 = some b35 ∧
  vp_in x1 (kp_N T34 b35) ∧
  wX12_emit a0 44 (kp_A T34 b35 x1.toNatClampNeg) 0 T34 (fun y37 T36 =>
  wX12_expression_t a0 T36 (fun T38 =>
  wX12_emit a0 45 y2 0 T38 (fun y40 T39 =>
  wX12_loop_b215 B a0 x1 w2 y2 y3 y5 y6  T39 post)))))))) ∧ (¬ y8 = 0 →
  wX12_emit a0 43 y2 0 T7 (fun y43 T42 =>
  wX12_emit a0 56 y2 0 T42 (fun y45 T44 =>
  wX12_loop_b215 B a0 x1 w2 y2 y3 y5 y45  T44 post)))))))
set_option maxHeartbeats 4000000 in
set_option maxRecDepth 100000 in
theorem c_X12_loop (l : Launch) (D : va_G) (cy : Nat → ClassId) (ad : (Nat → Nat) × (Nat → Nat)) (F L : Nat) (B : Nat → kp_S → (Int64 → kp_S → Prop) → Prop) (hB : ∀ (S : kp_S) (a0 : Nat) (post : Int64 → kp_S → Prop), kp_ok S → kp_is S a0 12 → B a0 S post → kp_M l yX12_block cX12_block 6 (some .long) { frames := F, cells := 0, slots := 0, locals := L } D cy ad S [.ref a0] 0 0 (fun A => kp_Ql D cy A S post)) (hF : 151 ≤ F) (hL : 3211 ≤ L) (S : kp_S) (a0 : Nat) (x1 : Int32) (w2 : Int64) (post : Int64 → kp_S → Prop) (hS : kp_ok S) (f_a0 : kp_is S a0 12) (hw : wX12_loop B a0 x1 w2 S post) : kp_M l yX12_loop cX12_loop 16 (some .long) { frames := F + 2, cells := 0, slots := 0, locals := L + 50 } D cy ad S [.ref a0, .int x1, .long w2] 0 0 (fun A => kp_Ql D cy A S post) := by
  refine kp_start (own := RX12) (by decide) rfl (Nat.le_of_ble_eq_true rfl) hS ?_
  intro p e s m below meth c A ls X hr hlocks hname h hl
  have hle : kp_le S S := kp_le.rf
  have hl : lv_has ls 16 [(0, .ref a0), (1, .int x1), (2, .long w2)] := hl
  have j416 : ∀ (xn4 : Int32) (wn8 : Int64) (Sn : kp_S) (H : Heap) (locs : List Loc) (ls : Array Slot), lv_has ls 16 [(0, .ref a0), (4, .int xn4), (8, .long wn8)] → kp_H D cy A Sn s.heap H locs → kp_le S Sn → kp_is Sn a0 12 → wX12_loop_b416 B a0 x1 w2 xn4 wn8  Sn post → W p l e { frames := F + 2, cells := 0, slots := 0, locals := L + 50 } s m ([.ref a0, .int x1, .long w2] : List Value).toArray below meth c H locs 0 0 (MQ below (kp_Ql D cy A S post) ([.ref a0, .int x1, .long w2] : List Value).toArray s 0 0 A) (F0 m 416 ls []) := by
    intro xn4 wn8 Sn H locs ls hl h hle f_a0 hw
    unfold wX12_loop_b416 at hw
    refine lv_aload_n X.1 X.2.1 dX12_loop_416 rfl (lv_at hl 0 rfl) ?_
    obtain ⟨b1001, e_b1001, hw⟩ := hw
    have f_b1001 := h.2.2.2.rf (c := 12) (k := 20) f_a0 (by decide) (by decide) e_b1001 (t := 14) rfl
    refine kp_get X h f_a0 ff_12_58.l (v := .ref b1001) (congrArg va_rf e_b1001) dX12_loop_417 ?_
    refine lv_iload X.1 X.2.1 dX12_loop_420 (lv_at hl 1 rfl) ?_
    refine lv_aload_n X.1 X.2.1 dX12_loop_422 rfl (lv_at hl 0 rfl) ?_
    refine kp_get X h f_a0 fp_12_370.l (v := .int (kp_I Sn 2417 a0)) rfl dX12_loop_423 ?_
    obtain ⟨hi, hw⟩ := hw
    refine kp_iast X h f_b1001 hi dX12_loop_426 (fun T1002 e_T1002 l_T1002 H locs h => ?_)
    have hw := hw T1002 e_T1002
    have f_a0 := l_T1002.is f_a0
    have f_b1001 := l_T1002.is f_b1001
    have hle := hle.tr l_T1002
    have e_b1001 : kp_R T1002 2420 a0 = some b1001 := by rw [e_T1002]; exact e_b1001
    refine lv_lload X.1 X.2.1 dX12_loop_427 (lv_at hl 2 rfl) ?_
    exact kp_retl X hr hlocks h hle hw dX12_loop_429
  have j409 : ∀ (xn4 : Int32) (wn8 : Int64) (xt0 : Int32) (xt1 : Int32) (xt2 : Int32) (xt3 : Int32) (at4 : Nat) (Sn : kp_S) (H : Heap) (locs : List Loc) (ls : Array Slot), lv_has ls 16 [(0, .ref a0), (4, .int xn4), (8, .long wn8)] → kp_H D cy A Sn s.heap H locs → kp_le S Sn → kp_is Sn a0 12 → kp_is Sn at4 12 → wX12_loop_b409 B a0 x1 w2 xn4 wn8 xt0 xt1 xt2 xt3 at4  Sn post → W p l e { frames := F + 2, cells := 0, slots := 0, locals := L + 50 } s m ([.ref a0, .int x1, .long w2] : List Value).toArray below meth c H locs 0 0 (MQ below (kp_Ql D cy A S post) ([.ref a0, .int x1, .long w2] : List Value).toArray s 0 0 A) (F0 m 409 ls [.int xt0, .int xt1, .int xt2, .int xt3, .ref at4]) := by
    intro xn4 wn8 xt0 xt1 xt2 xt3 at4 Sn H locs ls hl h hle f_a0 f_at4 hw
    unfold wX12_loop_b409 at hw
    refine lv_lload X.1 X.2.1 dX12_loop_409 (lv_at hl 2 rfl) ?_
    refine kp_calll X h (kp_runV (rm := { frames := 150, cells := 0, slots := 0, locals := 3185 }) (mc := 0) (ms := 0) (rest := []) (Qc := fun A => kp_Ql D cy A Sn _) X h (c_X12_until l D cy ad Sn at4 xt3 xt2 xt1 xt0 wn8 _ h.2.2.2 f_at4 hw) f_at4 cv_12_545 ⟨by dsimp only; omega, by dsimp only; omega, rfl, rfl, by dsimp only; omega, by dsimp only; omega⟩ rfl hl.1 rfl (Nat.le_of_ble_eq_true rfl) dX12_loop_411) (fun z2002 T2001 hw l_T2001 H locs h => ?_)
    have f_a0 := l_T2001.is f_a0
    have f_at4 := l_T2001.is f_at4
    have hle := hle.tr l_T2001
    refine lv_lstore (lv' := [(8, .long z2002), (0, .ref a0), (4, .int xn4)]) X.1 X.2.1 dX12_loop_414 hl (by decide) rfl (fun ls hl => ?_)
    exact j416 xn4 z2002 T2001 H locs ls (lv_sub hl [1, 2, 0] rfl) h hle f_a0 hw
  have j378 : ∀ (xn4 : Int32) (xn6 : Int32) (xn7 : Int32) (wn10 : Int64) (wn14 : Int64) (wt0 : Int64) (wt1 : Int64) (Sn : kp_S) (H : Heap) (locs : List Loc) (ls : Array Slot), lv_has ls 16 [(0, .ref a0), (1, .int x1), (4, .int xn4), (6, .int xn6), (7, .int xn7), (10, .long wn10), (14, .long wn14)] → kp_H D cy A Sn s.heap H locs → kp_le S Sn → kp_is Sn a0 12 → wX12_loop_b378 B a0 x1 w2 xn4 xn6 xn7 wn10 wn14 wt0 wt1  Sn post → W p l e { frames := F + 2, cells := 0, slots := 0, locals := L + 50 } s m ([.ref a0, .int x1, .long w2] : List Value).toArray below meth c H locs 0 0 (MQ below (kp_Ql D cy A S post) ([.ref a0, .int x1, .long w2] : List Value).toArray s 0 0 A) (F0 m 378 ls [.long wt0, .long wt1]) := by
    intro xn4 xn6 xn7 wn10 wn14 wt0 wt1 Sn H locs ls hl h hle f_a0 hw
    unfold wX12_loop_b378 at hw
    refine lv_lor X.1 X.2.1 dX12_loop_378 ?_
    refine lv_topl (fun z3001 e_z3001 => ?_)
    have hw := hw z3001 e_z3001
    refine lv_lstore (lv' := [(8, .long z3001), (0, .ref a0), (1, .int x1), (4, .int xn4), (6, .int xn6), (7, .int xn7), (10, .long wn10), (14, .long wn14)]) X.1 X.2.1 dX12_loop_379 hl (by decide) rfl (fun ls hl => ?_)
    refine lv_iload X.1 X.2.1 dX12_loop_381 (lv_at hl 4 rfl) ?_
    refine lv_if_eq (tgt := 416) X.1 X.2.1 dX12_loop_383 (by decide) (fun c3003 => ?_) (fun c3003 => ?_)
    · have hw := hw.1 c3003
      exact j416 xn4 z3001 Sn H locs ls (lv_sub hl [1, 3, 0] rfl) h hle f_a0 hw
    · have hw := hw.2 c3003
      refine lv_aload_n X.1 X.2.1 dX12_loop_386 rfl (lv_at hl 1 rfl) ?_
      refine lv_iload X.1 X.2.1 dX12_loop_387 (lv_at hl 3 rfl) ?_
      refine lv_iload_n X.1 X.2.1 dX12_loop_389 rfl (lv_at hl 2 rfl) ?_
      refine lv_iload X.1 X.2.1 dX12_loop_390 (lv_at hl 5 rfl) ?_
      refine lv_lload X.1 X.2.1 dX12_loop_392 (lv_at hl 6 rfl) ?_
      refine lv_lconst (v := 1) X.1 X.2.1 dX12_loop_394 (by decide) ?_
      refine lv_lload X.1 X.2.1 dX12_loop_395 (lv_at hl 7 rfl) ?_
      refine lv_lor X.1 X.2.1 dX12_loop_397 ?_
      refine lv_land X.1 X.2.1 dX12_loop_398 ?_
      refine lv_lconst (v := 0) X.1 X.2.1 dX12_loop_399 (by decide) ?_
      refine W.lcmp X.1 X.2.1 dX12_loop_400 ?_
      refine lv_if_eq (tgt := 408) X.1 X.2.1 dX12_loop_401 (by decide) (fun c3002 => ?_) (fun c3002 => ?_)
      · have hw := hw.1 c3002
        refine lv_iconst (v := 0) X.1 X.2.1 dX12_loop_408 (by decide) ?_
        exact j409 xn4 z3001 0 xn7 x1 xn4 a0 Sn H locs ls (lv_sub hl [1, 3, 0] rfl) h hle f_a0 f_a0 hw
      · have hw := hw.2 c3002
        refine lv_iconst (v := 1) X.1 X.2.1 dX12_loop_404 (by decide) ?_
        refine lv_goto (tgt := 409) X.1 X.2.1 dX12_loop_405 (by decide) ?_
        exact j409 xn4 z3001 1 xn7 x1 xn4 a0 Sn H locs ls (lv_sub hl [1, 3, 0] rfl) h hle f_a0 f_a0 hw
  have j373 : ∀ (xn4 : Int32) (xn6 : Int32) (xn7 : Int32) (wn10 : Int64) (wn14 : Int64) (wt0 : Int64) (Sn : kp_S) (H : Heap) (locs : List Loc) (ls : Array Slot), lv_has ls 16 [(0, .ref a0), (1, .int x1), (4, .int xn4), (6, .int xn6), (7, .int xn7), (10, .long wn10), (14, .long wn14)] → kp_H D cy A Sn s.heap H locs → kp_le S Sn → kp_is Sn a0 12 → wX12_loop_b373 B a0 x1 w2 xn4 xn6 xn7 wn10 wn14 wt0  Sn post → W p l e { frames := F + 2, cells := 0, slots := 0, locals := L + 50 } s m ([.ref a0, .int x1, .long w2] : List Value).toArray below meth c H locs 0 0 (MQ below (kp_Ql D cy A S post) ([.ref a0, .int x1, .long w2] : List Value).toArray s 0 0 A) (F0 m 373 ls [.long wt0]) := by
    intro xn4 xn6 xn7 wn10 wn14 wt0 Sn H locs ls hl h hle f_a0 hw
    unfold wX12_loop_b373 at hw
    refine lv_lconst (v := 1) X.1 X.2.1 dX12_loop_373 (by decide) ?_
    refine lv_goto (tgt := 378) X.1 X.2.1 dX12_loop_374 (by decide) ?_
    exact j378 xn4 xn6 xn7 wn10 wn14 1 wt0 Sn H locs ls (lv_sub hl [0, 1, 2, 3, 4, 5, 6] rfl) h hle f_a0 hw
  have j229 : ∀ (xn4 : Int32) (xn5 : Int32) (xn6 : Int32) (xn7 : Int32) (wt0 : Int64) (Sn : kp_S) (H : Heap) (locs : List Loc) (ls : Array Slot), lv_has ls 16 [(0, .ref a0), (1, .int x1), (2, .long w2), (4, .int xn4), (5, .int xn5), (6, .int xn6), (7, .int xn7)] → kp_H D cy A Sn s.heap H locs → kp_le S Sn → kp_is Sn a0 12 → wX12_loop_b229 B a0 x1 w2 xn4 xn5 xn6 xn7 wt0  Sn post → W p l e { frames := F + 2, cells := 0, slots := 0, locals := L + 50 } s m ([.ref a0, .int x1, .long w2] : List Value).toArray below meth c H locs 0 0 (MQ below (kp_Ql D cy A S post) ([.ref a0, .int x1, .long w2] : List Value).toArray s 0 0 A) (F0 m 229 ls [.long wt0]) := by
    intro xn4 xn5 xn6 xn7 wt0 Sn H locs ls hl h hle f_a0 hw
    unfold wX12_loop_b229 at hw
    refine lv_lstore (lv' := [(8, .long wt0), (0, .ref a0), (1, .int x1), (2, .long w2), (4, .int xn4), (5, .int xn5), (6, .int xn6), (7, .int xn7)]) X.1 X.2.1 dX12_loop_229 hl (by decide) rfl (fun ls hl => ?_)
    refine lv_aload_n X.1 X.2.1 dX12_loop_231 rfl (lv_at hl 1 rfl) ?_
    refine kp_calli X h (kp_runV (rm := { frames := 0, cells := 0, slots := 0, locals := 0 }) (mc := 0) (ms := 0) (rest := []) (Qc := fun A => kp_Qi D cy A Sn _) X h (c_X12_fine l D cy ad Sn a0 _ h.2.2.2 f_a0 hw) f_a0 cv_12_408 ⟨by dsimp only; omega, by dsimp only; omega, rfl, rfl, by dsimp only; omega, by dsimp only; omega⟩ rfl hl.1 rfl (Nat.le_of_ble_eq_true rfl) dX12_loop_232) (fun y5002 T5001 hw l_T5001 H locs h => ?_)
    have f_a0 := l_T5001.is f_a0
    have hle := hle.tr l_T5001
    refine lv_if_ne (tgt := 240) X.1 X.2.1 dX12_loop_235 (by decide) (fun c5021 => ?_) (fun c5021 => ?_)
    · have hw := hw.1 c5021
      refine lv_aload_n X.1 X.2.1 dX12_loop_240 rfl (lv_at hl 1 rfl) ?_
      obtain ⟨b5003, e_b5003, hw⟩ := hw
      have f_b5003 := h.2.2.2.rf (c := 12) (k := 43) f_a0 (by decide) (by decide) e_b5003 (t := 15) rfl
      refine kp_get X h f_a0 ff_12_106.l (v := .ref b5003) (congrArg va_rf e_b5003) dX12_loop_241 ?_
      refine lv_aload_n X.1 X.2.1 dX12_loop_244 rfl (lv_at hl 1 rfl) ?_
      refine kp_get X h f_a0 fp_12_423.l (v := .int (kp_I T5001 2445 a0)) rfl dX12_loop_245 ?_
      refine lv_lload_n X.1 X.2.1 dX12_loop_248 rfl (lv_at hl 3 rfl) ?_
      obtain ⟨hi, hw⟩ := hw
      refine kp_last X h f_b5003 hi dX12_loop_249 (fun T5004 e_T5004 l_T5004 H locs h => ?_)
      have hw := hw T5004 e_T5004
      have f_a0 := l_T5004.is f_a0
      have f_b5003 := l_T5004.is f_b5003
      have hle := hle.tr l_T5004
      have e_b5003 : kp_R T5004 2443 a0 = some b5003 := by rw [e_T5004]; exact e_b5003
      refine lv_aload_n X.1 X.2.1 dX12_loop_250 rfl (lv_at hl 1 rfl) ?_
      obtain ⟨b5005, e_b5005, hw⟩ := hw
      have f_b5005 := h.2.2.2.rf (c := 12) (k := 44) f_a0 (by decide) (by decide) e_b5005 (t := 14) rfl
      refine kp_get X h f_a0 ff_12_109.l (v := .ref b5005) (congrArg va_rf e_b5005) dX12_loop_251 ?_
      refine lv_aload_n X.1 X.2.1 dX12_loop_254 rfl (lv_at hl 1 rfl) ?_
      refine kp_get X h f_a0 fp_12_423.l (v := .int (kp_I T5004 2445 a0)) rfl dX12_loop_255 ?_
      refine lv_iload X.1 X.2.1 dX12_loop_258 (lv_at hl 4 rfl) ?_
      obtain ⟨hi, hw⟩ := hw
      refine kp_iast X h f_b5005 hi dX12_loop_260 (fun T5006 e_T5006 l_T5006 H locs h => ?_)
      have hw := hw T5006 e_T5006
      have f_a0 := l_T5006.is f_a0
      have f_b5003 := l_T5006.is f_b5003
      have f_b5005 := l_T5006.is f_b5005
      have hle := hle.tr l_T5006
      have e_b5003 : kp_R T5006 2443 a0 = some b5003 := by rw [e_T5006]; exact e_b5003
      have e_b5005 : kp_R T5006 2444 a0 = some b5005 := by rw [e_T5006]; exact e_b5005
      refine lv_aload_n X.1 X.2.1 dX12_loop_261 rfl (lv_at hl 1 rfl) ?_
      refine lv_dup X.1 X.2.1 dX12_loop_262 rfl ?_
      refine kp_get X h f_a0 fp_12_423.l (v := .int (kp_I T5006 2445 a0)) rfl dX12_loop_263 ?_
      refine lv_iconst (v := 1) X.1 X.2.1 dX12_loop_266 (by decide) ?_
      refine lv_iadd X.1 X.2.1 dX12_loop_267 ?_
      refine kp_putI X h f_a0 fp_12_423 rfl ⟨rfl, rfl⟩ dX12_loop_268 (fun T5007 e_T5007 l_T5007 H locs h => ?_)
      have hw := hw T5007 e_T5007
      have f_a0 := l_T5007.is f_a0
      have f_b5003 := l_T5007.is f_b5003
      have f_b5005 := l_T5007.is f_b5005
      have hle := hle.tr l_T5007
      have e_b5003 : kp_R T5007 2443 a0 = some b5003 := by rw [e_T5007]; exact e_b5003
      have e_b5005 : kp_R T5007 2444 a0 = some b5005 := by rw [e_T5007]; exact e_b5005
      refine lv_aload_n X.1 X.2.1 dX12_loop_271 rfl (lv_at hl 1 rfl) ?_
      refine kp_calll X h (kp_runV (rm := { frames := F, cells := 0, slots := 0, locals := L }) (mc := 0) (ms := 0) (rest := []) (Qc := fun A => kp_Ql D cy A T5007 _) X h (hB T5007 a0 _ h.2.2.2 f_a0 hw) f_a0 cv_12_447 ⟨by dsimp only; omega, by dsimp only; omega, rfl, rfl, by dsimp only; omega, by dsimp only; omega⟩ rfl hl.1 rfl (Nat.le_of_ble_eq_true rfl) dX12_loop_272) (fun z5009 T5008 hw l_T5008 H locs h => ?_)
      have f_a0 := l_T5008.is f_a0
      have f_b5003 := l_T5008.is f_b5003
      have f_b5005 := l_T5008.is f_b5005
      have hle := hle.tr l_T5008
      refine lv_lstore (lv' := [(10, .long z5009), (8, .long wt0), (0, .ref a0), (1, .int x1), (2, .long w2), (4, .int xn4), (5, .int xn5), (6, .int xn6), (7, .int xn7)]) X.1 X.2.1 dX12_loop_275 hl (by decide) rfl (fun ls hl => ?_)
      refine lv_aload_n X.1 X.2.1 dX12_loop_277 rfl (lv_at hl 2 rfl) ?_
      refine lv_bipush (v := 48) X.1 X.2.1 dX12_loop_278 (by decide) ?_
      refine lv_iconst (v := 0) X.1 X.2.1 dX12_loop_280 (by decide) ?_
      refine lv_iconst (v := 0) X.1 X.2.1 dX12_loop_281 (by decide) ?_
      refine kp_calli X h (kp_runV (rm := { frames := 0, cells := 0, slots := 0, locals := 0 }) (mc := 0) (ms := 0) (rest := []) (Qc := fun A => kp_Qi D cy A T5008 _) X h (c_X12_emit l D cy ad T5008 a0 48 0 0 _ h.2.2.2 f_a0 hw) f_a0 cv_12_451 ⟨by dsimp only; omega, by dsimp only; omega, rfl, rfl, by dsimp only; omega, by dsimp only; omega⟩ rfl hl.1 rfl (Nat.le_of_ble_eq_true rfl) dX12_loop_282) (fun y5011 T5010 hw l_T5010 H locs h => ?_)
      have f_a0 := l_T5010.is f_a0
      have f_b5003 := l_T5010.is f_b5003
      have f_b5005 := l_T5010.is f_b5005
      have hle := hle.tr l_T5010
      refine lv_pop X.1 X.2.1 dX12_loop_285 rfl ?_
      refine lv_aload_n X.1 X.2.1 dX12_loop_286 rfl (lv_at hl 2 rfl) ?_
      refine lv_iload X.1 X.2.1 dX12_loop_287 (lv_at hl 5 rfl) ?_
      refine lv_lload X.1 X.2.1 dX12_loop_289 (lv_at hl 0 rfl) ?_
      refine kp_calll X h (kp_runV (rm := { frames := F + 1, cells := 0, slots := 0, locals := L + 25 }) (mc := 0) (ms := 0) (rest := []) (Qc := fun A => kp_Ql D cy A T5010 _) X h (c_X12_always l D cy ad F L B hB hF hL T5010 a0 xn4 z5009 _ h.2.2.2 f_a0 hw) f_a0 cv_12_541 ⟨by dsimp only; omega, by dsimp only; omega, rfl, rfl, by dsimp only; omega, by dsimp only; omega⟩ rfl hl.1 rfl (Nat.le_of_ble_eq_true rfl) dX12_loop_291) (fun z5013 T5012 hw l_T5012 H locs h => ?_)
      have f_a0 := l_T5012.is f_a0
      have f_b5003 := l_T5012.is f_b5003
      have f_b5005 := l_T5012.is f_b5005
      have hle := hle.tr l_T5012
      refine lv_lstore (lv' := [(10, .long z5013), (8, .long wt0), (0, .ref a0), (1, .int x1), (2, .long w2), (4, .int xn4), (5, .int xn5), (6, .int xn6), (7, .int xn7)]) X.1 X.2.1 dX12_loop_294 hl (by decide) rfl (fun ls hl => ?_)
      refine lv_aload_n X.1 X.2.1 dX12_loop_296 rfl (lv_at hl 2 rfl) ?_
      refine lv_dup X.1 X.2.1 dX12_loop_297 rfl ?_
      refine kp_get X h f_a0 fp_12_423.l (v := .int (kp_I T5012 2445 a0)) rfl dX12_loop_298 ?_
      refine lv_iconst (v := 1) X.1 X.2.1 dX12_loop_301 (by decide) ?_
      refine lv_isub X.1 X.2.1 dX12_loop_302 ?_
      refine kp_putI X h f_a0 fp_12_423 rfl ⟨rfl, rfl⟩ dX12_loop_303 (fun T5014 e_T5014 l_T5014 H locs h => ?_)
      have hw := hw T5014 e_T5014
      have f_a0 := l_T5014.is f_a0
      have f_b5003 := l_T5014.is f_b5003
      have f_b5005 := l_T5014.is f_b5005
      have hle := hle.tr l_T5014
      refine lv_aload_n X.1 X.2.1 dX12_loop_306 rfl (lv_at hl 2 rfl) ?_
      refine lv_iload X.1 X.2.1 dX12_loop_307 (lv_at hl 6 rfl) ?_
      refine kp_putI X h f_a0 fp_12_397 rfl ⟨rfl, rfl⟩ dX12_loop_309 (fun T5015 e_T5015 l_T5015 H locs h => ?_)
      have hw := hw T5015 e_T5015
      have f_a0 := l_T5015.is f_a0
      have f_b5003 := l_T5015.is f_b5003
      have f_b5005 := l_T5015.is f_b5005
      have hle := hle.tr l_T5015
      refine lv_ldc2 (v := 8) X.1 X.2.1 X.2.2.2.1 (X.2.2.2.2.1 _ kl_12_498) dX12_loop_312 ?_
      refine lv_aload_n X.1 X.2.1 dX12_loop_315 rfl (lv_at hl 2 rfl) ?_
      refine kp_get X h f_a0 fp_12_423.l (v := .int (kp_I T5015 2445 a0)) rfl dX12_loop_316 ?_
      refine lv_lshl X.1 X.2.1 dX12_loop_319 rfl ?_
      refine lv_topl (fun z5016 e_z5016 => ?_)
      have hw := hw z5016 e_z5016
      refine lv_lstore (lv' := [(12, .long z5016), (10, .long z5013), (8, .long wt0), (0, .ref a0), (1, .int x1), (2, .long w2), (4, .int xn4), (5, .int xn5), (6, .int xn6), (7, .int xn7)]) X.1 X.2.1 dX12_loop_320 hl (by decide) rfl (fun ls hl => ?_)
      refine lv_ldc2 (v := 1048576) X.1 X.2.1 X.2.2.2.1 (X.2.2.2.2.1 _ kl_12_503) dX12_loop_322 ?_
      refine lv_aload_n X.1 X.2.1 dX12_loop_325 rfl (lv_at hl 3 rfl) ?_
      refine kp_get X h f_a0 fp_12_423.l (v := .int (kp_I T5015 2445 a0)) rfl dX12_loop_326 ?_
      refine lv_lshl X.1 X.2.1 dX12_loop_329 rfl ?_
      refine lv_topl (fun z5017 e_z5017 => ?_)
      have hw := hw z5017 e_z5017
      refine lv_lstore (lv' := [(14, .long z5017), (12, .long z5016), (10, .long z5013), (8, .long wt0), (0, .ref a0), (1, .int x1), (2, .long w2), (4, .int xn4), (5, .int xn5), (6, .int xn6), (7, .int xn7)]) X.1 X.2.1 dX12_loop_330 hl (by decide) rfl (fun ls hl => ?_)
      refine lv_lload X.1 X.2.1 dX12_loop_332 (lv_at hl 3 rfl) ?_
      refine lv_lload X.1 X.2.1 dX12_loop_334 (lv_at hl 2 rfl) ?_
      refine lv_lconst (v := 1) X.1 X.2.1 dX12_loop_336 (by decide) ?_
      refine lv_lload X.1 X.2.1 dX12_loop_337 (lv_at hl 1 rfl) ?_
      refine lv_lor X.1 X.2.1 dX12_loop_339 ?_
      refine lv_lload X.1 X.2.1 dX12_loop_340 (lv_at hl 0 rfl) ?_
      refine lv_lor X.1 X.2.1 dX12_loop_342 ?_
      refine lv_ldc2 (v := (-1)) X.1 X.2.1 X.2.2.2.1 (X.2.2.2.2.1 _ kl_12_543) dX12_loop_343 ?_
      refine lv_lxor X.1 X.2.1 dX12_loop_346 ?_
      refine lv_land X.1 X.2.1 dX12_loop_347 ?_
      refine lv_lor X.1 X.2.1 dX12_loop_348 ?_
      refine lv_topl (fun z5018 e_z5018 => ?_)
      have hw := hw z5018 e_z5018
      refine lv_lstore (lv' := [(8, .long z5018), (14, .long z5017), (12, .long z5016), (10, .long z5013), (0, .ref a0), (1, .int x1), (2, .long w2), (4, .int xn4), (5, .int xn5), (6, .int xn6), (7, .int xn7)]) X.1 X.2.1 dX12_loop_349 hl (by decide) rfl (fun ls hl => ?_)
      refine lv_lload X.1 X.2.1 dX12_loop_351 (lv_at hl 0 rfl) ?_
      refine lv_iload X.1 X.2.1 dX12_loop_353 (lv_at hl 9 rfl) ?_
      refine lv_if_eq (tgt := 373) X.1 X.2.1 dX12_loop_355 (by decide) (fun c5020 => ?_) (fun c5020 => ?_)
      · have hw := hw.1 c5020
        exact j373 xn4 xn6 xn7 z5013 z5017 z5018 T5015 H locs ls (lv_sub hl [4, 5, 7, 9, 10, 3, 1] rfl) h hle f_a0 hw
      · have hw := hw.2 c5020
        refine lv_lload X.1 X.2.1 dX12_loop_358 (lv_at hl 3 rfl) ?_
        refine lv_lconst (v := 1) X.1 X.2.1 dX12_loop_360 (by decide) ?_
        refine lv_lload X.1 X.2.1 dX12_loop_361 (lv_at hl 2 rfl) ?_
        refine lv_lor X.1 X.2.1 dX12_loop_363 ?_
        refine lv_lload X.1 X.2.1 dX12_loop_364 (lv_at hl 1 rfl) ?_
        refine lv_lor X.1 X.2.1 dX12_loop_366 ?_
        refine lv_land X.1 X.2.1 dX12_loop_367 ?_
        refine lv_lconst (v := 0) X.1 X.2.1 dX12_loop_368 (by decide) ?_
        refine W.lcmp X.1 X.2.1 dX12_loop_369 ?_
        refine lv_if_eq (tgt := 377) X.1 X.2.1 dX12_loop_370 (by decide) (fun c5019 => ?_) (fun c5019 => ?_)
        · have hw := hw.1 c5019
          refine lv_lconst (v := 0) X.1 X.2.1 dX12_loop_377 (by decide) ?_
          exact j378 xn4 xn6 xn7 z5013 z5017 0 z5018 T5015 H locs ls (lv_sub hl [4, 5, 7, 9, 10, 3, 1] rfl) h hle f_a0 hw
        · have hw := hw.2 c5019
          exact j373 xn4 xn6 xn7 z5013 z5017 z5018 T5015 H locs ls (lv_sub hl [4, 5, 7, 9, 10, 3, 1] rfl) h hle f_a0 hw
    · have hw := hw.2 c5021
      refine lv_lconst (v := 0) X.1 X.2.1 dX12_loop_238 (by decide) ?_
      exact kp_retl X hr hlocks h hle hw dX12_loop_239
  have j215 : ∀ (xn4 : Int32) (xn5 : Int32) (xn6 : Int32) (xn7 : Int32) (Sn : kp_S) (H : Heap) (locs : List Loc) (ls : Array Slot), lv_has ls 16 [(0, .ref a0), (1, .int x1), (2, .long w2), (4, .int xn4), (5, .int xn5), (6, .int xn6), (7, .int xn7)] → kp_H D cy A Sn s.heap H locs → kp_le S Sn → kp_is Sn a0 12 → wX12_loop_b215 B a0 x1 w2 xn4 xn5 xn6 xn7  Sn post → W p l e { frames := F + 2, cells := 0, slots := 0, locals := L + 50 } s m ([.ref a0, .int x1, .long w2] : List Value).toArray below meth c H locs 0 0 (MQ below (kp_Ql D cy A S post) ([.ref a0, .int x1, .long w2] : List Value).toArray s 0 0 A) (F0 m 215 ls []) := by
    intro xn4 xn5 xn6 xn7 Sn H locs ls hl h hle f_a0 hw
    unfold wX12_loop_b215 at hw
    refine lv_iload X.1 X.2.1 dX12_loop_215 (lv_at hl 5 rfl) ?_
    refine lv_if_eq (tgt := 224) X.1 X.2.1 dX12_loop_217 (by decide) (fun c6003 => ?_) (fun c6003 => ?_)
    · have hw := hw.1 c6003
      refine lv_aload_n X.1 X.2.1 dX12_loop_224 rfl (lv_at hl 0 rfl) ?_
      refine lv_lconst (v := 0) X.1 X.2.1 dX12_loop_225 (by decide) ?_
      refine kp_calll X h (kp_runV (rm := { frames := 0, cells := 0, slots := 0, locals := 0 }) (mc := 0) (ms := 0) (rest := []) (Qc := fun A => kp_Ql D cy A Sn _) X h (c_X12_risky l D cy ad Sn a0 0 _ h.2.2.2 f_a0 hw) f_a0 cv_12_483 ⟨by dsimp only; omega, by dsimp only; omega, rfl, rfl, by dsimp only; omega, by dsimp only; omega⟩ rfl hl.1 rfl (Nat.le_of_ble_eq_true rfl) dX12_loop_226) (fun z6002 T6001 hw l_T6001 H locs h => ?_)
      have f_a0 := l_T6001.is f_a0
      have hle := hle.tr l_T6001
      exact j229 xn4 xn5 xn6 xn7 z6002 T6001 H locs ls (lv_sub hl [0, 1, 2, 3, 4, 5, 6] rfl) h hle f_a0 hw
    · have hw := hw.2 c6003
      refine lv_lconst (v := 0) X.1 X.2.1 dX12_loop_220 (by decide) ?_
      refine lv_goto (tgt := 229) X.1 X.2.1 dX12_loop_221 (by decide) ?_
      exact j229 xn4 xn5 xn6 xn7 0 Sn H locs ls (lv_sub hl [0, 1, 2, 3, 4, 5, 6] rfl) h hle f_a0 hw
  unfold wX12_loop at hw
  have h : kp_H D cy A S s.heap s.heap [] := h
  revert h
  intro h
  refine lv_aload_n X.1 X.2.1 dX12_loop_0 rfl (lv_at hl 0 rfl) ?_
  refine lv_iload_n X.1 X.2.1 dX12_loop_1 rfl (lv_at hl 1 rfl) ?_
  refine kp_calli X h (kp_runV (rm := { frames := 0, cells := 0, slots := 0, locals := 0 }) (mc := 0) (ms := 0) (rest := []) (Qc := fun A => kp_Qi D cy A S _) X h (c_X12_describe l D cy ad S a0 x1 _ h.2.2.2 f_a0 hw) f_a0 cv_12_538 ⟨by dsimp only; omega, by dsimp only; omega, rfl, rfl, by dsimp only; omega, by dsimp only; omega⟩ rfl hl.1 rfl (Nat.le_of_ble_eq_true rfl) dX12_loop_2) (fun y2 T1 hw l_T1 H locs h => ?_)
  have f_a0 := l_T1.is f_a0
  have hle := hle.tr l_T1
  refine lv_istore (lv' := [(4, .int y2), (0, .ref a0), (1, .int x1), (2, .long w2)]) X.1 X.2.1 dX12_loop_5 hl (by decide) rfl (fun ls hl => ?_)
  refine lv_aload_n X.1 X.2.1 dX12_loop_7 rfl (lv_at hl 1 rfl) ?_
  refine kp_get X h f_a0 fp_12_397.l (v := .int (kp_I T1 2441 a0)) rfl dX12_loop_8 ?_
  refine lv_topi (fun y3 e_y3 => ?_)
  have hw := hw y3 e_y3
  refine lv_istore (lv' := [(5, .int y3), (4, .int y2), (0, .ref a0), (1, .int x1), (2, .long w2)]) X.1 X.2.1 dX12_loop_11 hl (by decide) rfl (fun ls hl => ?_)
  refine lv_aload_n X.1 X.2.1 dX12_loop_13 rfl (lv_at hl 2 rfl) ?_
  refine lv_bipush (v := 45) X.1 X.2.1 dX12_loop_14 (by decide) ?_
  refine kp_calli X h (kp_runV (rm := { frames := 0, cells := 0, slots := 0, locals := 0 }) (mc := 0) (ms := 0) (rest := []) (Qc := fun A => kp_Qi D cy A T1 _) X h (c_X12_is l D cy ad T1 a0 45 _ h.2.2.2 f_a0 hw) f_a0 cv_12_379 ⟨by dsimp only; omega, by dsimp only; omega, rfl, rfl, by dsimp only; omega, by dsimp only; omega⟩ rfl hl.1 rfl (Nat.le_of_ble_eq_true rfl) dX12_loop_16) (fun y5 T4 hw l_T4 H locs h => ?_)
  have f_a0 := l_T4.is f_a0
  have hle := hle.tr l_T4
  refine lv_istore (lv' := [(6, .int y5), (5, .int y3), (4, .int y2), (0, .ref a0), (1, .int x1), (2, .long w2)]) X.1 X.2.1 dX12_loop_19 hl (by decide) rfl (fun ls hl => ?_)
  refine lv_aload_n X.1 X.2.1 dX12_loop_21 rfl (lv_at hl 3 rfl) ?_
  refine kp_get X h f_a0 fp_12_370.l (v := .int (kp_I T4 2417 a0)) rfl dX12_loop_22 ?_
  refine lv_topi (fun y6 e_y6 => ?_)
  have hw := hw y6 e_y6
  refine lv_istore (lv' := [(7, .int y6), (6, .int y5), (5, .int y3), (4, .int y2), (0, .ref a0), (1, .int x1), (2, .long w2)]) X.1 X.2.1 dX12_loop_25 hl (by decide) rfl (fun ls hl => ?_)
  refine lv_aload_n X.1 X.2.1 dX12_loop_27 rfl (lv_at hl 4 rfl) ?_
  refine lv_bipush (v := 45) X.1 X.2.1 dX12_loop_28 (by decide) ?_
  refine kp_calli X h (kp_runV (rm := { frames := 1, cells := 0, slots := 0, locals := 21 }) (mc := 0) (ms := 0) (rest := []) (Qc := fun A => kp_Qi D cy A T4 _) X h (c_X12_skip l D cy ad T4 a0 45 _ h.2.2.2 f_a0 hw) f_a0 cv_12_440 ⟨by dsimp only; omega, by dsimp only; omega, rfl, rfl, by dsimp only; omega, by dsimp only; omega⟩ rfl hl.1 rfl (Nat.le_of_ble_eq_true rfl) dX12_loop_30) (fun y8 T7 hw l_T7 H locs h => ?_)
  have f_a0 := l_T7.is f_a0
  have hle := hle.tr l_T7
  refine lv_if_eq (tgt := 60) X.1 X.2.1 dX12_loop_33 (by decide) (fun c46 => ?_) (fun c46 => ?_)
  · have hw := hw.1 c46
    refine lv_aload_n X.1 X.2.1 dX12_loop_60 rfl (lv_at hl 4 rfl) ?_
    refine lv_bipush (v := 15) X.1 X.2.1 dX12_loop_61 (by decide) ?_
    refine kp_calli X h (kp_runV (rm := { frames := 1, cells := 0, slots := 0, locals := 21 }) (mc := 0) (ms := 0) (rest := []) (Qc := fun A => kp_Qi D cy A T7 _) X h (c_X12_skip l D cy ad T7 a0 15 _ h.2.2.2 f_a0 hw) f_a0 cv_12_440 ⟨by dsimp only; omega, by dsimp only; omega, rfl, rfl, by dsimp only; omega, by dsimp only; omega⟩ rfl hl.1 rfl (Nat.le_of_ble_eq_true rfl) dX12_loop_63) (fun y10 T9 hw l_T9 H locs h => ?_)
    have f_a0 := l_T9.is f_a0
    have hle := hle.tr l_T9
    refine lv_if_eq (tgt := 121) X.1 X.2.1 dX12_loop_66 (by decide) (fun c41 => ?_) (fun c41 => ?_)
    · have hw := hw.1 c41
      refine lv_aload_n X.1 X.2.1 dX12_loop_121 rfl (lv_at hl 4 rfl) ?_
      refine lv_dup X.1 X.2.1 dX12_loop_122 rfl ?_
      refine kp_get X h f_a0 fp_12_376.l (v := .int (kp_I T9 2410 a0)) rfl dX12_loop_123 ?_
      refine lv_iconst (v := 1) X.1 X.2.1 dX12_loop_126 (by decide) ?_
      refine lv_iadd X.1 X.2.1 dX12_loop_127 ?_
      refine kp_putI X h f_a0 fp_12_376 rfl ⟨rfl, rfl⟩ dX12_loop_128 (fun T11 e_T11 l_T11 H locs h => ?_)
      have hw := hw T11 e_T11
      have f_a0 := l_T11.is f_a0
      have hle := hle.tr l_T11
      refine lv_aload_n X.1 X.2.1 dX12_loop_131 rfl (lv_at hl 4 rfl) ?_
      refine kp_get X h f_a0 fp_12_376.l (v := .int (kp_I T11 2410 a0)) rfl dX12_loop_132 ?_
      refine lv_topi (fun y12 e_y12 => ?_)
      have hw := hw y12 e_y12
      refine lv_istore (lv' := [(8, .int y12), (7, .int y6), (6, .int y5), (5, .int y3), (4, .int y2), (0, .ref a0), (1, .int x1), (2, .long w2)]) X.1 X.2.1 dX12_loop_135 hl (by decide) rfl (fun ls hl => ?_)
      refine lv_aload_n X.1 X.2.1 dX12_loop_137 rfl (lv_at hl 5 rfl) ?_
      refine lv_iconst (v := 2) X.1 X.2.1 dX12_loop_138 (by decide) ?_
      refine kp_callv X h (kp_runV (rm := { frames := 1, cells := 0, slots := 0, locals := 21 }) (mc := 0) (ms := 0) (rest := []) (Qc := fun A => kp_Qv D cy A T11 _) X h (c_X12_take l D cy ad T11 a0 2 _ h.2.2.2 f_a0 hw) f_a0 cv_12_385 ⟨by dsimp only; omega, by dsimp only; omega, rfl, rfl, by dsimp only; omega, by dsimp only; omega⟩ rfl hl.1 rfl (Nat.le_of_ble_eq_true rfl) dX12_loop_139) (fun T13 hw l_T13 H locs h => ?_)
      have f_a0 := l_T13.is f_a0
      have hle := hle.tr l_T13
      refine lv_aload_n X.1 X.2.1 dX12_loop_142 rfl (lv_at hl 5 rfl) ?_
      refine lv_bipush (v := 17) X.1 X.2.1 dX12_loop_143 (by decide) ?_
      refine kp_callv X h (kp_runV (rm := { frames := 1, cells := 0, slots := 0, locals := 21 }) (mc := 0) (ms := 0) (rest := []) (Qc := fun A => kp_Qv D cy A T13 _) X h (c_X12_take l D cy ad T13 a0 17 _ h.2.2.2 f_a0 hw) f_a0 cv_12_385 ⟨by dsimp only; omega, by dsimp only; omega, rfl, rfl, by dsimp only; omega, by dsimp only; omega⟩ rfl hl.1 rfl (Nat.le_of_ble_eq_true rfl) dX12_loop_145) (fun T14 hw l_T14 H locs h => ?_)
      have f_a0 := l_T14.is f_a0
      have hle := hle.tr l_T14
      refine lv_aload_n X.1 X.2.1 dX12_loop_148 rfl (lv_at hl 5 rfl) ?_
      refine kp_callv X h (kp_runV (rm := { frames := 149, cells := 0, slots := 0, locals := 3164 }) (mc := 0) (ms := 0) (rest := []) (Qc := fun A => kp_Qv D cy A T14 _) X h (c_X12_expression_t l D cy ad T14 a0 _ h.2.2.2 f_a0 hw) f_a0 cv_12_520 ⟨by dsimp only; omega, by dsimp only; omega, rfl, rfl, by dsimp only; omega, by dsimp only; omega⟩ rfl hl.1 rfl (Nat.le_of_ble_eq_true rfl) dX12_loop_149) (fun T15 hw l_T15 H locs h => ?_)
      have f_a0 := l_T15.is f_a0
      have hle := hle.tr l_T15
      refine lv_aload_n X.1 X.2.1 dX12_loop_152 rfl (lv_at hl 5 rfl) ?_
      refine lv_bipush (v := 18) X.1 X.2.1 dX12_loop_153 (by decide) ?_
      refine kp_callv X h (kp_runV (rm := { frames := 1, cells := 0, slots := 0, locals := 21 }) (mc := 0) (ms := 0) (rest := []) (Qc := fun A => kp_Qv D cy A T15 _) X h (c_X12_take l D cy ad T15 a0 18 _ h.2.2.2 f_a0 hw) f_a0 cv_12_385 ⟨by dsimp only; omega, by dsimp only; omega, rfl, rfl, by dsimp only; omega, by dsimp only; omega⟩ rfl hl.1 rfl (Nat.le_of_ble_eq_true rfl) dX12_loop_155) (fun T16 hw l_T16 H locs h => ?_)
      have f_a0 := l_T16.is f_a0
      have hle := hle.tr l_T16
      refine lv_aload_n X.1 X.2.1 dX12_loop_158 rfl (lv_at hl 5 rfl) ?_
      refine kp_callv X h (kp_runV (rm := { frames := 149, cells := 0, slots := 0, locals := 3164 }) (mc := 0) (ms := 0) (rest := []) (Qc := fun A => kp_Qv D cy A T16 _) X h (c_X12_expression_t l D cy ad T16 a0 _ h.2.2.2 f_a0 hw) f_a0 cv_12_520 ⟨by dsimp only; omega, by dsimp only; omega, rfl, rfl, by dsimp only; omega, by dsimp only; omega⟩ rfl hl.1 rfl (Nat.le_of_ble_eq_true rfl) dX12_loop_159) (fun T17 hw l_T17 H locs h => ?_)
      have f_a0 := l_T17.is f_a0
      have hle := hle.tr l_T17
      refine lv_aload_n X.1 X.2.1 dX12_loop_162 rfl (lv_at hl 5 rfl) ?_
      refine kp_calli X h (kp_runV (rm := { frames := 0, cells := 0, slots := 0, locals := 0 }) (mc := 0) (ms := 0) (rest := []) (Qc := fun A => kp_Qi D cy A T17 _) X h (c_X12_fine l D cy ad T17 a0 _ h.2.2.2 f_a0 hw) f_a0 cv_12_408 ⟨by dsimp only; omega, by dsimp only; omega, rfl, rfl, by dsimp only; omega, by dsimp only; omega⟩ rfl hl.1 rfl (Nat.le_of_ble_eq_true rfl) dX12_loop_163) (fun y19 T18 hw l_T18 H locs h => ?_)
      have f_a0 := l_T18.is f_a0
      have hle := hle.tr l_T18
      refine lv_if_ne (tgt := 171) X.1 X.2.1 dX12_loop_166 (by decide) (fun c30 => ?_) (fun c30 => ?_)
      · have hw := hw.1 c30
        refine lv_aload_n X.1 X.2.1 dX12_loop_171 rfl (lv_at hl 5 rfl) ?_
        obtain ⟨b20, e_b20, hw⟩ := hw
        have f_b20 := h.2.2.2.rf (c := 12) (k := 22) f_a0 (by decide) (by decide) e_b20 (t := 14) rfl
        refine kp_get X h f_a0 ff_12_64.l (v := .ref b20) (congrArg va_rf e_b20) dX12_loop_172 ?_
        refine lv_iload X.1 X.2.1 dX12_loop_175 (lv_at hl 4 rfl) ?_
        refine lv_aload_n X.1 X.2.1 dX12_loop_177 rfl (lv_at hl 5 rfl) ?_
        refine lv_iload X.1 X.2.1 dX12_loop_178 (lv_at hl 0 rfl) ?_
        refine kp_calli X h (kp_runV (rm := { frames := 1, cells := 0, slots := 0, locals := 23 }) (mc := 0) (ms := 0) (rest := [.int y2, .ref b20]) (Qc := fun A => kp_Qi D cy A T18 _) X h (c_X12_tell l D cy ad T18 a0 y12 _ h.2.2.2 f_a0 hw) f_a0 cv_12_523 ⟨by dsimp only; omega, by dsimp only; omega, rfl, rfl, by dsimp only; omega, by dsimp only; omega⟩ rfl hl.1 rfl (Nat.le_of_ble_eq_true rfl) dX12_loop_180) (fun y22 T21 hw l_T21 H locs h => ?_)
        have f_a0 := l_T21.is f_a0
        have f_b20 := l_T21.is f_b20
        have hle := hle.tr l_T21
        obtain ⟨hi, hw⟩ := hw
        refine kp_iast X h f_b20 hi dX12_loop_183 (fun T23 e_T23 l_T23 H locs h => ?_)
        have hw := hw T23 e_T23
        have f_a0 := l_T23.is f_a0
        have f_b20 := l_T23.is f_b20
        have hle := hle.tr l_T23
        refine lv_aload_n X.1 X.2.1 dX12_loop_184 rfl (lv_at hl 5 rfl) ?_
        refine lv_bipush (v := 46) X.1 X.2.1 dX12_loop_185 (by decide) ?_
        refine lv_iload X.1 X.2.1 dX12_loop_187 (lv_at hl 4 rfl) ?_
        refine lv_iconst (v := 0) X.1 X.2.1 dX12_loop_189 (by decide) ?_
        refine kp_calli X h (kp_runV (rm := { frames := 0, cells := 0, slots := 0, locals := 0 }) (mc := 0) (ms := 0) (rest := []) (Qc := fun A => kp_Qi D cy A T23 _) X h (c_X12_emit l D cy ad T23 a0 46 y2 0 _ h.2.2.2 f_a0 hw) f_a0 cv_12_451 ⟨by dsimp only; omega, by dsimp only; omega, rfl, rfl, by dsimp only; omega, by dsimp only; omega⟩ rfl hl.1 rfl (Nat.le_of_ble_eq_true rfl) dX12_loop_190) (fun y25 T24 hw l_T24 H locs h => ?_)
        have f_a0 := l_T24.is f_a0
        have f_b20 := l_T24.is f_b20
        have hle := hle.tr l_T24
        refine lv_pop X.1 X.2.1 dX12_loop_193 rfl ?_
        refine lv_aload_n X.1 X.2.1 dX12_loop_194 rfl (lv_at hl 5 rfl) ?_
        obtain ⟨b26, e_b26, hw⟩ := hw
        have f_b26 := h.2.2.2.rf (c := 12) (k := 18) f_a0 (by decide) (by decide) e_b26 (t := 14) rfl
        refine kp_get X h f_a0 ff_12_52.l (v := .ref b26) (congrArg va_rf e_b26) dX12_loop_195 ?_
        refine lv_iload X.1 X.2.1 dX12_loop_198 (lv_at hl 4 rfl) ?_
        refine lv_aload_n X.1 X.2.1 dX12_loop_200 rfl (lv_at hl 5 rfl) ?_
        refine kp_get X h f_a0 fp_12_370.l (v := .int (kp_I T24 2417 a0)) rfl dX12_loop_201 ?_
        obtain ⟨hi, hw⟩ := hw
        refine kp_iast X h f_b26 hi dX12_loop_204 (fun T27 e_T27 l_T27 H locs h => ?_)
        have hw := hw T27 e_T27
        have f_a0 := l_T27.is f_a0
        have f_b20 := l_T27.is f_b20
        have f_b26 := l_T27.is f_b26
        have hle := hle.tr l_T27
        have e_b26 : kp_R T27 2418 a0 = some b26 := by rw [e_T27]; exact e_b26
        refine lv_aload_n X.1 X.2.1 dX12_loop_205 rfl (lv_at hl 5 rfl) ?_
        refine lv_bipush (v := 47) X.1 X.2.1 dX12_loop_206 (by decide) ?_
        refine lv_iload X.1 X.2.1 dX12_loop_208 (lv_at hl 4 rfl) ?_
        refine lv_iconst (v := 0) X.1 X.2.1 dX12_loop_210 (by decide) ?_
        refine kp_calli X h (kp_runV (rm := { frames := 0, cells := 0, slots := 0, locals := 0 }) (mc := 0) (ms := 0) (rest := []) (Qc := fun A => kp_Qi D cy A T27 _) X h (c_X12_emit l D cy ad T27 a0 47 y2 0 _ h.2.2.2 f_a0 hw) f_a0 cv_12_451 ⟨by dsimp only; omega, by dsimp only; omega, rfl, rfl, by dsimp only; omega, by dsimp only; omega⟩ rfl hl.1 rfl (Nat.le_of_ble_eq_true rfl) dX12_loop_211) (fun y29 T28 hw l_T28 H locs h => ?_)
        have f_a0 := l_T28.is f_a0
        have f_b20 := l_T28.is f_b20
        have f_b26 := l_T28.is f_b26
        have hle := hle.tr l_T28
        refine lv_pop X.1 X.2.1 dX12_loop_214 rfl ?_
        exact j215 y2 y3 y5 y6 T28 _ _ ls (lv_sub hl [5, 6, 7, 4, 3, 2, 1] rfl) h hle f_a0 hw
      · have hw := hw.2 c30
        refine lv_lconst (v := 0) X.1 X.2.1 dX12_loop_169 (by decide) ?_
        exact kp_retl X hr hlocks h hle hw dX12_loop_170
    · have hw := hw.2 c41
      refine lv_aload_n X.1 X.2.1 dX12_loop_69 rfl (lv_at hl 4 rfl) ?_
      refine lv_bipush (v := 43) X.1 X.2.1 dX12_loop_70 (by decide) ?_
      refine lv_iload X.1 X.2.1 dX12_loop_72 (lv_at hl 3 rfl) ?_
      refine lv_iconst (v := 0) X.1 X.2.1 dX12_loop_74 (by decide) ?_
      refine kp_calli X h (kp_runV (rm := { frames := 0, cells := 0, slots := 0, locals := 0 }) (mc := 0) (ms := 0) (rest := []) (Qc := fun A => kp_Qi D cy A T9 _) X h (c_X12_emit l D cy ad T9 a0 43 y2 0 _ h.2.2.2 f_a0 hw) f_a0 cv_12_451 ⟨by dsimp only; omega, by dsimp only; omega, rfl, rfl, by dsimp only; omega, by dsimp only; omega⟩ rfl hl.1 rfl (Nat.le_of_ble_eq_true rfl) dX12_loop_75) (fun y32 T31 hw l_T31 H locs h => ?_)
      have f_a0 := l_T31.is f_a0
      have hle := hle.tr l_T31
      refine lv_pop X.1 X.2.1 dX12_loop_78 rfl ?_
      refine lv_aload_n X.1 X.2.1 dX12_loop_79 rfl (lv_at hl 4 rfl) ?_
      obtain ⟨b33, e_b33, hw⟩ := hw
      have f_b33 := h.2.2.2.rf (c := 12) (k := 18) f_a0 (by decide) (by decide) e_b33 (t := 14) rfl
      refine kp_get X h f_a0 ff_12_52.l (v := .ref b33) (congrArg va_rf e_b33) dX12_loop_80 ?_
      refine lv_iload X.1 X.2.1 dX12_loop_83 (lv_at hl 3 rfl) ?_
      refine lv_aload_n X.1 X.2.1 dX12_loop_85 rfl (lv_at hl 4 rfl) ?_
      refine kp_get X h f_a0 fp_12_370.l (v := .int (kp_I T31 2417 a0)) rfl dX12_loop_86 ?_
      obtain ⟨hi, hw⟩ := hw
      refine kp_iast X h f_b33 hi dX12_loop_89 (fun T34 e_T34 l_T34 H locs h => ?_)
      have hw := hw T34 e_T34
      have f_a0 := l_T34.is f_a0
      have f_b33 := l_T34.is f_b33
      have hle := hle.tr l_T34
      have e_b33 : kp_R T34 2418 a0 = some b33 := by rw [e_T34]; exact e_b33
      refine lv_aload_n X.1 X.2.1 dX12_loop_90 rfl (lv_at hl 4 rfl) ?_
      refine lv_bipush (v := 44) X.1 X.2.1 dX12_loop_91 (by decide) ?_
      refine lv_aload_n X.1 X.2.1 dX12_loop_93 rfl (lv_at hl 4 rfl) ?_
      obtain ⟨b35, e_b35, hw⟩ := hw
      have f_b35 := h.2.2.2.rf (c := 12) (k := 5) f_a0 (by decide) (by decide) e_b35 (t := 14) rfl
      refine kp_get X h f_a0 ff_12_34.l (v := .ref b35) (congrArg va_rf e_b35) dX12_loop_94 ?_
      refine lv_iload_n X.1 X.2.1 dX12_loop_97 rfl (lv_at hl 5 rfl) ?_
      obtain ⟨hi, hw⟩ := hw
      refine kp_iald X h f_b35 hi dX12_loop_98 ?_
      refine lv_iconst (v := 0) X.1 X.2.1 dX12_loop_99 (by decide) ?_
      refine kp_calli X h (kp_runV (rm := { frames := 0, cells := 0, slots := 0, locals := 0 }) (mc := 0) (ms := 0) (rest := []) (Qc := fun A => kp_Qi D cy A T34 _) X h (c_X12_emit l D cy ad T34 a0 44 (kp_A T34 b35 x1.toNatClampNeg) 0 _ h.2.2.2 f_a0 hw) f_a0 cv_12_451 ⟨by dsimp only; omega, by dsimp only; omega, rfl, rfl, by dsimp only; omega, by dsimp only; omega⟩ rfl hl.1 rfl (Nat.le_of_ble_eq_true rfl) dX12_loop_100) (fun y37 T36 hw l_T36 H locs h => ?_)
      have f_a0 := l_T36.is f_a0
      have f_b33 := l_T36.is f_b33
      have f_b35 := l_T36.is f_b35
      have hle := hle.tr l_T36
      refine lv_pop X.1 X.2.1 dX12_loop_103 rfl ?_
      refine lv_aload_n X.1 X.2.1 dX12_loop_104 rfl (lv_at hl 4 rfl) ?_
      refine kp_callv X h (kp_runV (rm := { frames := 149, cells := 0, slots := 0, locals := 3164 }) (mc := 0) (ms := 0) (rest := []) (Qc := fun A => kp_Qv D cy A T36 _) X h (c_X12_expression_t l D cy ad T36 a0 _ h.2.2.2 f_a0 hw) f_a0 cv_12_520 ⟨by dsimp only; omega, by dsimp only; omega, rfl, rfl, by dsimp only; omega, by dsimp only; omega⟩ rfl hl.1 rfl (Nat.le_of_ble_eq_true rfl) dX12_loop_105) (fun T38 hw l_T38 H locs h => ?_)
      have f_a0 := l_T38.is f_a0
      have f_b33 := l_T38.is f_b33
      have f_b35 := l_T38.is f_b35
      have hle := hle.tr l_T38
      refine lv_aload_n X.1 X.2.1 dX12_loop_108 rfl (lv_at hl 4 rfl) ?_
      refine lv_bipush (v := 45) X.1 X.2.1 dX12_loop_109 (by decide) ?_
      refine lv_iload X.1 X.2.1 dX12_loop_111 (lv_at hl 3 rfl) ?_
      refine lv_iconst (v := 0) X.1 X.2.1 dX12_loop_113 (by decide) ?_
      refine kp_calli X h (kp_runV (rm := { frames := 0, cells := 0, slots := 0, locals := 0 }) (mc := 0) (ms := 0) (rest := []) (Qc := fun A => kp_Qi D cy A T38 _) X h (c_X12_emit l D cy ad T38 a0 45 y2 0 _ h.2.2.2 f_a0 hw) f_a0 cv_12_451 ⟨by dsimp only; omega, by dsimp only; omega, rfl, rfl, by dsimp only; omega, by dsimp only; omega⟩ rfl hl.1 rfl (Nat.le_of_ble_eq_true rfl) dX12_loop_114) (fun y40 T39 hw l_T39 H locs h => ?_)
      have f_a0 := l_T39.is f_a0
      have f_b33 := l_T39.is f_b33
      have f_b35 := l_T39.is f_b35
      have hle := hle.tr l_T39
      refine lv_pop X.1 X.2.1 dX12_loop_117 rfl ?_
      refine lv_goto (tgt := 215) X.1 X.2.1 dX12_loop_118 (by decide) ?_
      exact j215 y2 y3 y5 y6 T39 _ _ ls (lv_sub hl [4, 5, 6, 3, 2, 1, 0] rfl) h hle f_a0 hw
  · have hw := hw.2 c46
    refine lv_aload_n X.1 X.2.1 dX12_loop_36 rfl (lv_at hl 4 rfl) ?_
    refine lv_bipush (v := 43) X.1 X.2.1 dX12_loop_37 (by decide) ?_
    refine lv_iload X.1 X.2.1 dX12_loop_39 (lv_at hl 3 rfl) ?_
    refine lv_iconst (v := 0) X.1 X.2.1 dX12_loop_41 (by decide) ?_
    refine kp_calli X h (kp_runV (rm := { frames := 0, cells := 0, slots := 0, locals := 0 }) (mc := 0) (ms := 0) (rest := []) (Qc := fun A => kp_Qi D cy A T7 _) X h (c_X12_emit l D cy ad T7 a0 43 y2 0 _ h.2.2.2 f_a0 hw) f_a0 cv_12_451 ⟨by dsimp only; omega, by dsimp only; omega, rfl, rfl, by dsimp only; omega, by dsimp only; omega⟩ rfl hl.1 rfl (Nat.le_of_ble_eq_true rfl) dX12_loop_42) (fun y43 T42 hw l_T42 H locs h => ?_)
    have f_a0 := l_T42.is f_a0
    have hle := hle.tr l_T42
    refine lv_pop X.1 X.2.1 dX12_loop_45 rfl ?_
    refine lv_aload_n X.1 X.2.1 dX12_loop_46 rfl (lv_at hl 4 rfl) ?_
    refine lv_bipush (v := 56) X.1 X.2.1 dX12_loop_47 (by decide) ?_
    refine lv_iload X.1 X.2.1 dX12_loop_49 (lv_at hl 3 rfl) ?_
    refine lv_iconst (v := 0) X.1 X.2.1 dX12_loop_51 (by decide) ?_
    refine kp_calli X h (kp_runV (rm := { frames := 0, cells := 0, slots := 0, locals := 0 }) (mc := 0) (ms := 0) (rest := []) (Qc := fun A => kp_Qi D cy A T42 _) X h (c_X12_emit l D cy ad T42 a0 56 y2 0 _ h.2.2.2 f_a0 hw) f_a0 cv_12_451 ⟨by dsimp only; omega, by dsimp only; omega, rfl, rfl, by dsimp only; omega, by dsimp only; omega⟩ rfl hl.1 rfl (Nat.le_of_ble_eq_true rfl) dX12_loop_52) (fun y45 T44 hw l_T44 H locs h => ?_)
    have f_a0 := l_T44.is f_a0
    have hle := hle.tr l_T44
    refine lv_istore (lv' := [(7, .int y45), (6, .int y5), (5, .int y3), (4, .int y2), (0, .ref a0), (1, .int x1), (2, .long w2)]) X.1 X.2.1 dX12_loop_55 hl (by decide) rfl (fun ls hl => ?_)
    refine lv_goto (tgt := 215) X.1 X.2.1 dX12_loop_57 (by decide) ?_
    exact j215 y2 y3 y5 y45 T44 _ _ ls (lv_sub hl [4, 5, 6, 3, 2, 1, 0] rfl) h hle f_a0 hw
theorem dX12_choice_0 : decode cX12_choice 0 = .ok (.aload_n 0, 1) := by decide +kernel
theorem dX12_choice_1 : decode cX12_choice 1 = .ok (.dup, 1) := by decide +kernel
theorem dX12_choice_2 : decode cX12_choice 2 = .ok (.getfield 376, 3) := by decide +kernel
theorem dX12_choice_5 : decode cX12_choice 5 = .ok (.iconst 1, 1) := by decide +kernel
theorem dX12_choice_6 : decode cX12_choice 6 = .ok (.iadd, 1) := by decide +kernel
theorem dX12_choice_7 : decode cX12_choice 7 = .ok (.putfield 376, 3) := by decide +kernel
theorem dX12_choice_10 : decode cX12_choice 10 = .ok (.aload_n 0, 1) := by decide +kernel
theorem dX12_choice_11 : decode cX12_choice 11 = .ok (.invokevirtual 520, 3) := by decide +kernel
theorem dX12_choice_14 : decode cX12_choice 14 = .ok (.aload_n 0, 1) := by decide +kernel
theorem dX12_choice_15 : decode cX12_choice 15 = .ok (.lconst 0, 1) := by decide +kernel
theorem dX12_choice_16 : decode cX12_choice 16 = .ok (.invokevirtual 483, 3) := by decide +kernel
theorem dX12_choice_19 : decode cX12_choice 19 = .ok (.lstore_n 1, 1) := by decide +kernel
theorem dX12_choice_20 : decode cX12_choice 20 = .ok (.aload_n 0, 1) := by decide +kernel
theorem dX12_choice_21 : decode cX12_choice 21 = .ok (.bipush 42, 2) := by decide +kernel
theorem dX12_choice_23 : decode cX12_choice 23 = .ok (.iconst 0, 1) := by decide +kernel
theorem dX12_choice_24 : decode cX12_choice 24 = .ok (.iconst 0, 1) := by decide +kernel
theorem dX12_choice_25 : decode cX12_choice 25 = .ok (.invokevirtual 451, 3) := by decide +kernel
theorem dX12_choice_28 : decode cX12_choice 28 = .ok (.istore_n 3, 1) := by decide +kernel
theorem dX12_choice_29 : decode cX12_choice 29 = .ok (.lload_n 1, 1) := by decide +kernel
theorem dX12_choice_30 : decode cX12_choice 30 = .ok (.aload_n 0, 1) := by decide +kernel
theorem dX12_choice_31 : decode cX12_choice 31 = .ok (.invokevirtual 447, 3) := by decide +kernel
theorem dX12_choice_34 : decode cX12_choice 34 = .ok (.lor, 1) := by decide +kernel
theorem dX12_choice_35 : decode cX12_choice 35 = .ok (.lstore_n 1, 1) := by decide +kernel
theorem dX12_choice_36 : decode cX12_choice 36 = .ok (.aload_n 0, 1) := by decide +kernel
theorem dX12_choice_37 : decode cX12_choice 37 = .ok (.bipush 14, 2) := by decide +kernel
theorem dX12_choice_39 : decode cX12_choice 39 = .ok (.invokevirtual 440, 3) := by decide +kernel
theorem dX12_choice_42 : decode cX12_choice 42 = .ok (.ifCond .eq 44, 3) := by decide +kernel
theorem dX12_choice_45 : decode cX12_choice 45 = .ok (.aload_n 0, 1) := by decide +kernel
theorem dX12_choice_46 : decode cX12_choice 46 = .ok (.bipush 41, 2) := by decide +kernel
theorem dX12_choice_48 : decode cX12_choice 48 = .ok (.iconst 0, 1) := by decide +kernel
theorem dX12_choice_49 : decode cX12_choice 49 = .ok (.iconst 0, 1) := by decide +kernel
theorem dX12_choice_50 : decode cX12_choice 50 = .ok (.invokevirtual 451, 3) := by decide +kernel
theorem dX12_choice_53 : decode cX12_choice 53 = .ok (.istore 4, 2) := by decide +kernel
theorem dX12_choice_55 : decode cX12_choice 55 = .ok (.aload_n 0, 1) := by decide +kernel
theorem dX12_choice_56 : decode cX12_choice 56 = .ok (.getfield 46, 3) := by decide +kernel
theorem dX12_choice_59 : decode cX12_choice 59 = .ok (.iload_n 3, 1) := by decide +kernel
theorem dX12_choice_60 : decode cX12_choice 60 = .ok (.aload_n 0, 1) := by decide +kernel
theorem dX12_choice_61 : decode cX12_choice 61 = .ok (.getfield 370, 3) := by decide +kernel
theorem dX12_choice_64 : decode cX12_choice 64 = .ok (.iastore, 1) := by decide +kernel
theorem dX12_choice_65 : decode cX12_choice 65 = .ok (.lload_n 1, 1) := by decide +kernel
theorem dX12_choice_66 : decode cX12_choice 66 = .ok (.aload_n 0, 1) := by decide +kernel
theorem dX12_choice_67 : decode cX12_choice 67 = .ok (.invokevirtual 447, 3) := by decide +kernel
theorem dX12_choice_70 : decode cX12_choice 70 = .ok (.lor, 1) := by decide +kernel
theorem dX12_choice_71 : decode cX12_choice 71 = .ok (.lstore_n 1, 1) := by decide +kernel
theorem dX12_choice_72 : decode cX12_choice 72 = .ok (.aload_n 0, 1) := by decide +kernel
theorem dX12_choice_73 : decode cX12_choice 73 = .ok (.getfield 46, 3) := by decide +kernel
theorem dX12_choice_76 : decode cX12_choice 76 = .ok (.iload 4, 2) := by decide +kernel
theorem dX12_choice_78 : decode cX12_choice 78 = .ok (.aload_n 0, 1) := by decide +kernel
theorem dX12_choice_79 : decode cX12_choice 79 = .ok (.getfield 370, 3) := by decide +kernel
theorem dX12_choice_82 : decode cX12_choice 82 = .ok (.iastore, 1) := by decide +kernel
theorem dX12_choice_83 : decode cX12_choice 83 = .ok (.goto 17, 3) := by decide +kernel
theorem dX12_choice_86 : decode cX12_choice 86 = .ok (.lload_n 1, 1) := by decide +kernel
theorem dX12_choice_87 : decode cX12_choice 87 = .ok (.lconst 1, 1) := by decide +kernel
theorem dX12_choice_88 : decode cX12_choice 88 = .ok (.lor, 1) := by decide +kernel
theorem dX12_choice_89 : decode cX12_choice 89 = .ok (.lstore_n 1, 1) := by decide +kernel
theorem dX12_choice_90 : decode cX12_choice 90 = .ok (.aload_n 0, 1) := by decide +kernel
theorem dX12_choice_91 : decode cX12_choice 91 = .ok (.getfield 46, 3) := by decide +kernel
theorem dX12_choice_94 : decode cX12_choice 94 = .ok (.iload_n 3, 1) := by decide +kernel
theorem dX12_choice_95 : decode cX12_choice 95 = .ok (.aload_n 0, 1) := by decide +kernel
theorem dX12_choice_96 : decode cX12_choice 96 = .ok (.getfield 370, 3) := by decide +kernel
theorem dX12_choice_99 : decode cX12_choice 99 = .ok (.iastore, 1) := by decide +kernel
theorem dX12_choice_100 : decode cX12_choice 100 = .ok (.lload_n 1, 1) := by decide +kernel
theorem dX12_choice_101 : decode cX12_choice 101 = .ok (.lreturn, 1) := by decide +kernel
def wX12_choice_b100 (B : Nat → kp_S → (Int64 → kp_S → Prop) → Prop) (a0 : Nat) (wn1 : Int64)  (Sn : kp_S) (post : Int64 → kp_S → Prop) : Prop :=
  post wn1 Sn
def wX12_choice (B : Nat → kp_S → (Int64 → kp_S → Prop) → Prop) (a0 : Nat) (S : kp_S) (post : Int64 → kp_S → Prop) : Prop :=
  ∀ T1 : kp_S, T1 = kp_sI S 2410 a0 ((kp_I S 2410 a0) + 1) →
  wX12_expression_t a0 T1 (fun T2 =>
  wX12_risky a0 0 T2 (fun z4 T3 =>
  wX12_emit a0 42 0 0 T3 (fun y6 T5 =>
  B a0 T5 (fun z8 T7 =>
  ∀ z9 : Int64, z9 = (z4 ||| z8) →
  wX12_skip a0 14 T7 (fun y11 T10 =>
  ((y11 = 0 →
  ∀ z12 : Int64, z12 = (z9 ||| 1) →
  ∃ b13 : Nat, kp_R T10 2415 a0 = some b13 ∧
  vp_in y6 (kp_N T10 b13) ∧ ∀ T14 : kp_S, T14 = kp_sA T10 b13 (upd (kp_A T10 b13) (y6.toNatClampNeg) (kp_I T10 2417 a0)) →
  wX12_choice_b100 B a0 z12  T14 post) ∧ (¬ y11 = 0 →
  wX12_emit a0 41 0 0 T10 (fun y16 T15 =>
  ∃ b17 : Nat, kp_R T15 2415 a0 = some b17 ∧
  vp_in y6 (kp_N T15 b17) ∧ ∀ T18 : kp_S, T18 = kp_sA T15 b17 (upd (kp_A T15 b17) (y6.toNatClampNeg) (kp_I T15 2417 a0)) →
  B a0 T18 (fun z20 T19 =>
  ∀ z21 : Int64, z21 = (z9 ||| z20) →
  ∃ b22 : Nat, kp_R T19 2415 a0 = some b22 ∧
  vp_in y16 (kp_N T19 b22) ∧ ∀ T23 : kp_S, T23 = kp_sA T19 b22 (upd (kp_A T19 b22) (y16.toNatClampNeg) (kp_I T19 2417 a0)) →
  wX12_choice_b100 B a0 z21  T23 post)))))))))
set_option maxHeartbeats 4000000 in
set_option maxRecDepth 100000 in
theorem c_X12_choice (l : Launch) (D : va_G) (cy : Nat → ClassId) (ad : (Nat → Nat) × (Nat → Nat)) (F L : Nat) (B : Nat → kp_S → (Int64 → kp_S → Prop) → Prop) (hB : ∀ (S : kp_S) (a0 : Nat) (post : Int64 → kp_S → Prop), kp_ok S → kp_is S a0 12 → B a0 S post → kp_M l yX12_block cX12_block 6 (some .long) { frames := F, cells := 0, slots := 0, locals := L } D cy ad S [.ref a0] 0 0 (fun A => kp_Ql D cy A S post)) (hF : 151 ≤ F) (hL : 3211 ≤ L) (S : kp_S) (a0 : Nat) (post : Int64 → kp_S → Prop) (hS : kp_ok S) (f_a0 : kp_is S a0 12) (hw : wX12_choice B a0 S post) : kp_M l yX12_choice cX12_choice 5 (some .long) { frames := F + 1, cells := 0, slots := 0, locals := L + 25 } D cy ad S [.ref a0] 0 0 (fun A => kp_Ql D cy A S post) := by
  refine kp_start (own := RX12) (by decide) rfl (Nat.le_of_ble_eq_true rfl) hS ?_
  intro p e s m below meth c A ls X hr hlocks hname h hl
  have hle : kp_le S S := kp_le.rf
  have hl : lv_has ls 5 [(0, .ref a0)] := hl
  have j100 : ∀ (wn1 : Int64) (Sn : kp_S) (H : Heap) (locs : List Loc) (ls : Array Slot), lv_has ls 5 [(1, .long wn1)] → kp_H D cy A Sn s.heap H locs → kp_le S Sn → kp_is Sn a0 12 → wX12_choice_b100 B a0 wn1  Sn post → W p l e { frames := F + 1, cells := 0, slots := 0, locals := L + 25 } s m ([.ref a0] : List Value).toArray below meth c H locs 0 0 (MQ below (kp_Ql D cy A S post) ([.ref a0] : List Value).toArray s 0 0 A) (F0 m 100 ls []) := by
    intro wn1 Sn H locs ls hl h hle f_a0 hw
    unfold wX12_choice_b100 at hw
    refine lv_lload_n X.1 X.2.1 dX12_choice_100 rfl (lv_at hl 0 rfl) ?_
    exact kp_retl X hr hlocks h hle hw dX12_choice_101
  unfold wX12_choice at hw
  have h : kp_H D cy A S s.heap s.heap [] := h
  revert h
  intro h
  refine lv_aload_n X.1 X.2.1 dX12_choice_0 rfl (lv_at hl 0 rfl) ?_
  refine lv_dup X.1 X.2.1 dX12_choice_1 rfl ?_
  refine kp_get X h f_a0 fp_12_376.l (v := .int (kp_I S 2410 a0)) rfl dX12_choice_2 ?_
  refine lv_iconst (v := 1) X.1 X.2.1 dX12_choice_5 (by decide) ?_
  refine lv_iadd X.1 X.2.1 dX12_choice_6 ?_
  refine kp_putI X h f_a0 fp_12_376 rfl ⟨rfl, rfl⟩ dX12_choice_7 (fun T1 e_T1 l_T1 H locs h => ?_)
  have hw := hw T1 e_T1
  have f_a0 := l_T1.is f_a0
  have hle := hle.tr l_T1
  refine lv_aload_n X.1 X.2.1 dX12_choice_10 rfl (lv_at hl 0 rfl) ?_
  refine kp_callv X h (kp_runV (rm := { frames := 149, cells := 0, slots := 0, locals := 3164 }) (mc := 0) (ms := 0) (rest := []) (Qc := fun A => kp_Qv D cy A T1 _) X h (c_X12_expression_t l D cy ad T1 a0 _ h.2.2.2 f_a0 hw) f_a0 cv_12_520 ⟨by dsimp only; omega, by dsimp only; omega, rfl, rfl, by dsimp only; omega, by dsimp only; omega⟩ rfl hl.1 rfl (Nat.le_of_ble_eq_true rfl) dX12_choice_11) (fun T2 hw l_T2 H locs h => ?_)
  have f_a0 := l_T2.is f_a0
  have hle := hle.tr l_T2
  refine lv_aload_n X.1 X.2.1 dX12_choice_14 rfl (lv_at hl 0 rfl) ?_
  refine lv_lconst (v := 0) X.1 X.2.1 dX12_choice_15 (by decide) ?_
  refine kp_calll X h (kp_runV (rm := { frames := 0, cells := 0, slots := 0, locals := 0 }) (mc := 0) (ms := 0) (rest := []) (Qc := fun A => kp_Ql D cy A T2 _) X h (c_X12_risky l D cy ad T2 a0 0 _ h.2.2.2 f_a0 hw) f_a0 cv_12_483 ⟨by dsimp only; omega, by dsimp only; omega, rfl, rfl, by dsimp only; omega, by dsimp only; omega⟩ rfl hl.1 rfl (Nat.le_of_ble_eq_true rfl) dX12_choice_16) (fun z4 T3 hw l_T3 H locs h => ?_)
  have f_a0 := l_T3.is f_a0
  have hle := hle.tr l_T3
  refine lv_lstore_n (lv' := [(1, .long z4), (0, .ref a0)]) X.1 X.2.1 dX12_choice_19 rfl hl (by decide) rfl (fun ls hl => ?_)
  refine lv_aload_n X.1 X.2.1 dX12_choice_20 rfl (lv_at hl 1 rfl) ?_
  refine lv_bipush (v := 42) X.1 X.2.1 dX12_choice_21 (by decide) ?_
  refine lv_iconst (v := 0) X.1 X.2.1 dX12_choice_23 (by decide) ?_
  refine lv_iconst (v := 0) X.1 X.2.1 dX12_choice_24 (by decide) ?_
  refine kp_calli X h (kp_runV (rm := { frames := 0, cells := 0, slots := 0, locals := 0 }) (mc := 0) (ms := 0) (rest := []) (Qc := fun A => kp_Qi D cy A T3 _) X h (c_X12_emit l D cy ad T3 a0 42 0 0 _ h.2.2.2 f_a0 hw) f_a0 cv_12_451 ⟨by dsimp only; omega, by dsimp only; omega, rfl, rfl, by dsimp only; omega, by dsimp only; omega⟩ rfl hl.1 rfl (Nat.le_of_ble_eq_true rfl) dX12_choice_25) (fun y6 T5 hw l_T5 H locs h => ?_)
  have f_a0 := l_T5.is f_a0
  have hle := hle.tr l_T5
  refine lv_istore_n (lv' := [(3, .int y6), (1, .long z4), (0, .ref a0)]) X.1 X.2.1 dX12_choice_28 rfl hl (by decide) rfl (fun ls hl => ?_)
  refine lv_lload_n X.1 X.2.1 dX12_choice_29 rfl (lv_at hl 1 rfl) ?_
  refine lv_aload_n X.1 X.2.1 dX12_choice_30 rfl (lv_at hl 2 rfl) ?_
  refine kp_calll X h (kp_runV (rm := { frames := F, cells := 0, slots := 0, locals := L }) (mc := 0) (ms := 0) (rest := [.long z4]) (Qc := fun A => kp_Ql D cy A T5 _) X h (hB T5 a0 _ h.2.2.2 f_a0 hw) f_a0 cv_12_447 ⟨by dsimp only; omega, by dsimp only; omega, rfl, rfl, by dsimp only; omega, by dsimp only; omega⟩ rfl hl.1 rfl (Nat.le_of_ble_eq_true rfl) dX12_choice_31) (fun z8 T7 hw l_T7 H locs h => ?_)
  have f_a0 := l_T7.is f_a0
  have hle := hle.tr l_T7
  refine lv_lor X.1 X.2.1 dX12_choice_34 ?_
  refine lv_topl (fun z9 e_z9 => ?_)
  have hw := hw z9 e_z9
  refine lv_lstore_n (lv' := [(1, .long z9), (3, .int y6), (0, .ref a0)]) X.1 X.2.1 dX12_choice_35 rfl hl (by decide) rfl (fun ls hl => ?_)
  refine lv_aload_n X.1 X.2.1 dX12_choice_36 rfl (lv_at hl 2 rfl) ?_
  refine lv_bipush (v := 14) X.1 X.2.1 dX12_choice_37 (by decide) ?_
  refine kp_calli X h (kp_runV (rm := { frames := 1, cells := 0, slots := 0, locals := 21 }) (mc := 0) (ms := 0) (rest := []) (Qc := fun A => kp_Qi D cy A T7 _) X h (c_X12_skip l D cy ad T7 a0 14 _ h.2.2.2 f_a0 hw) f_a0 cv_12_440 ⟨by dsimp only; omega, by dsimp only; omega, rfl, rfl, by dsimp only; omega, by dsimp only; omega⟩ rfl hl.1 rfl (Nat.le_of_ble_eq_true rfl) dX12_choice_39) (fun y11 T10 hw l_T10 H locs h => ?_)
  have f_a0 := l_T10.is f_a0
  have hle := hle.tr l_T10
  refine lv_if_eq (tgt := 86) X.1 X.2.1 dX12_choice_42 (by decide) (fun c24 => ?_) (fun c24 => ?_)
  · have hw := hw.1 c24
    refine lv_lload_n X.1 X.2.1 dX12_choice_86 rfl (lv_at hl 0 rfl) ?_
    refine lv_lconst (v := 1) X.1 X.2.1 dX12_choice_87 (by decide) ?_
    refine lv_lor X.1 X.2.1 dX12_choice_88 ?_
    refine lv_topl (fun z12 e_z12 => ?_)
    have hw := hw z12 e_z12
    refine lv_lstore_n (lv' := [(1, .long z12), (3, .int y6), (0, .ref a0)]) X.1 X.2.1 dX12_choice_89 rfl hl (by decide) rfl (fun ls hl => ?_)
    refine lv_aload_n X.1 X.2.1 dX12_choice_90 rfl (lv_at hl 2 rfl) ?_
    obtain ⟨b13, e_b13, hw⟩ := hw
    have f_b13 := h.2.2.2.rf (c := 12) (k := 15) f_a0 (by decide) (by decide) e_b13 (t := 14) rfl
    refine kp_get X h f_a0 ff_12_46.l (v := .ref b13) (congrArg va_rf e_b13) dX12_choice_91 ?_
    refine lv_iload_n X.1 X.2.1 dX12_choice_94 rfl (lv_at hl 1 rfl) ?_
    refine lv_aload_n X.1 X.2.1 dX12_choice_95 rfl (lv_at hl 2 rfl) ?_
    refine kp_get X h f_a0 fp_12_370.l (v := .int (kp_I T10 2417 a0)) rfl dX12_choice_96 ?_
    obtain ⟨hi, hw⟩ := hw
    refine kp_iast X h f_b13 hi dX12_choice_99 (fun T14 e_T14 l_T14 H locs h => ?_)
    have hw := hw T14 e_T14
    have f_a0 := l_T14.is f_a0
    have f_b13 := l_T14.is f_b13
    have hle := hle.tr l_T14
    have e_b13 : kp_R T14 2415 a0 = some b13 := by rw [e_T14]; exact e_b13
    exact j100 z12 T14 _ _ ls (lv_sub hl [0] rfl) h hle f_a0 hw
  · have hw := hw.2 c24
    refine lv_aload_n X.1 X.2.1 dX12_choice_45 rfl (lv_at hl 2 rfl) ?_
    refine lv_bipush (v := 41) X.1 X.2.1 dX12_choice_46 (by decide) ?_
    refine lv_iconst (v := 0) X.1 X.2.1 dX12_choice_48 (by decide) ?_
    refine lv_iconst (v := 0) X.1 X.2.1 dX12_choice_49 (by decide) ?_
    refine kp_calli X h (kp_runV (rm := { frames := 0, cells := 0, slots := 0, locals := 0 }) (mc := 0) (ms := 0) (rest := []) (Qc := fun A => kp_Qi D cy A T10 _) X h (c_X12_emit l D cy ad T10 a0 41 0 0 _ h.2.2.2 f_a0 hw) f_a0 cv_12_451 ⟨by dsimp only; omega, by dsimp only; omega, rfl, rfl, by dsimp only; omega, by dsimp only; omega⟩ rfl hl.1 rfl (Nat.le_of_ble_eq_true rfl) dX12_choice_50) (fun y16 T15 hw l_T15 H locs h => ?_)
    have f_a0 := l_T15.is f_a0
    have hle := hle.tr l_T15
    refine lv_istore (lv' := [(4, .int y16), (1, .long z9), (3, .int y6), (0, .ref a0)]) X.1 X.2.1 dX12_choice_53 hl (by decide) rfl (fun ls hl => ?_)
    refine lv_aload_n X.1 X.2.1 dX12_choice_55 rfl (lv_at hl 3 rfl) ?_
    obtain ⟨b17, e_b17, hw⟩ := hw
    have f_b17 := h.2.2.2.rf (c := 12) (k := 15) f_a0 (by decide) (by decide) e_b17 (t := 14) rfl
    refine kp_get X h f_a0 ff_12_46.l (v := .ref b17) (congrArg va_rf e_b17) dX12_choice_56 ?_
    refine lv_iload_n X.1 X.2.1 dX12_choice_59 rfl (lv_at hl 2 rfl) ?_
    refine lv_aload_n X.1 X.2.1 dX12_choice_60 rfl (lv_at hl 3 rfl) ?_
    refine kp_get X h f_a0 fp_12_370.l (v := .int (kp_I T15 2417 a0)) rfl dX12_choice_61 ?_
    obtain ⟨hi, hw⟩ := hw
    refine kp_iast X h f_b17 hi dX12_choice_64 (fun T18 e_T18 l_T18 H locs h => ?_)
    have hw := hw T18 e_T18
    have f_a0 := l_T18.is f_a0
    have f_b17 := l_T18.is f_b17
    have hle := hle.tr l_T18
    have e_b17 : kp_R T18 2415 a0 = some b17 := by rw [e_T18]; exact e_b17
    refine lv_lload_n X.1 X.2.1 dX12_choice_65 rfl (lv_at hl 1 rfl) ?_
    refine lv_aload_n X.1 X.2.1 dX12_choice_66 rfl (lv_at hl 3 rfl) ?_
    refine kp_calll X h (kp_runV (rm := { frames := F, cells := 0, slots := 0, locals := L }) (mc := 0) (ms := 0) (rest := [.long z9]) (Qc := fun A => kp_Ql D cy A T18 _) X h (hB T18 a0 _ h.2.2.2 f_a0 hw) f_a0 cv_12_447 ⟨by dsimp only; omega, by dsimp only; omega, rfl, rfl, by dsimp only; omega, by dsimp only; omega⟩ rfl hl.1 rfl (Nat.le_of_ble_eq_true rfl) dX12_choice_67) (fun z20 T19 hw l_T19 H locs h => ?_)
    have f_a0 := l_T19.is f_a0
    have f_b17 := l_T19.is f_b17
    have hle := hle.tr l_T19
    refine lv_lor X.1 X.2.1 dX12_choice_70 ?_
    refine lv_topl (fun z21 e_z21 => ?_)
    have hw := hw z21 e_z21
    refine lv_lstore_n (lv' := [(1, .long z21), (4, .int y16), (3, .int y6), (0, .ref a0)]) X.1 X.2.1 dX12_choice_71 rfl hl (by decide) rfl (fun ls hl => ?_)
    refine lv_aload_n X.1 X.2.1 dX12_choice_72 rfl (lv_at hl 3 rfl) ?_
    obtain ⟨b22, e_b22, hw⟩ := hw
    have f_b22 := h.2.2.2.rf (c := 12) (k := 15) f_a0 (by decide) (by decide) e_b22 (t := 14) rfl
    refine kp_get X h f_a0 ff_12_46.l (v := .ref b22) (congrArg va_rf e_b22) dX12_choice_73 ?_
    refine lv_iload X.1 X.2.1 dX12_choice_76 (lv_at hl 1 rfl) ?_
    refine lv_aload_n X.1 X.2.1 dX12_choice_78 rfl (lv_at hl 3 rfl) ?_
    refine kp_get X h f_a0 fp_12_370.l (v := .int (kp_I T19 2417 a0)) rfl dX12_choice_79 ?_
    obtain ⟨hi, hw⟩ := hw
    refine kp_iast X h f_b22 hi dX12_choice_82 (fun T23 e_T23 l_T23 H locs h => ?_)
    have hw := hw T23 e_T23
    have f_a0 := l_T23.is f_a0
    have f_b17 := l_T23.is f_b17
    have f_b22 := l_T23.is f_b22
    have hle := hle.tr l_T23
    have e_b22 : kp_R T23 2415 a0 = some b22 := by rw [e_T23]; exact e_b22
    refine lv_goto (tgt := 100) X.1 X.2.1 dX12_choice_83 (by decide) ?_
    exact j100 z21 T23 _ _ ls (lv_sub hl [0] rfl) h hle f_a0 hw
theorem dX12_choose_0 : decode cX12_choose 0 = .ok (.aload_n 0, 1) := by decide +kernel
theorem dX12_choose_1 : decode cX12_choose 1 = .ok (.dup, 1) := by decide +kernel
theorem dX12_choose_2 : decode cX12_choose 2 = .ok (.getfield 376, 3) := by decide +kernel
theorem dX12_choose_5 : decode cX12_choose 5 = .ok (.iconst 1, 1) := by decide +kernel
theorem dX12_choose_6 : decode cX12_choose 6 = .ok (.iadd, 1) := by decide +kernel
theorem dX12_choose_7 : decode cX12_choose 7 = .ok (.putfield 376, 3) := by decide +kernel
theorem dX12_choose_10 : decode cX12_choose 10 = .ok (.aload_n 0, 1) := by decide +kernel
theorem dX12_choose_11 : decode cX12_choose 11 = .ok (.invokevirtual 520, 3) := by decide +kernel
theorem dX12_choose_14 : decode cX12_choose 14 = .ok (.aload_n 0, 1) := by decide +kernel
theorem dX12_choose_15 : decode cX12_choose 15 = .ok (.lconst 0, 1) := by decide +kernel
theorem dX12_choose_16 : decode cX12_choose 16 = .ok (.invokevirtual 483, 3) := by decide +kernel
theorem dX12_choose_19 : decode cX12_choose 19 = .ok (.lstore_n 1, 1) := by decide +kernel
theorem dX12_choose_20 : decode cX12_choose 20 = .ok (.aload_n 0, 1) := by decide +kernel
theorem dX12_choose_21 : decode cX12_choose 21 = .ok (.bipush 123, 2) := by decide +kernel
theorem dX12_choose_23 : decode cX12_choose 23 = .ok (.invokevirtual 433, 3) := by decide +kernel
theorem dX12_choose_26 : decode cX12_choose 26 = .ok (.ifCond .ne 9, 3) := by decide +kernel
theorem dX12_choose_29 : decode cX12_choose 29 = .ok (.aload_n 0, 1) := by decide +kernel
theorem dX12_choose_30 : decode cX12_choose 30 = .ok (.invokevirtual 382, 3) := by decide +kernel
theorem dX12_choose_33 : decode cX12_choose 33 = .ok (.lconst 0, 1) := by decide +kernel
theorem dX12_choose_34 : decode cX12_choose 34 = .ok (.lreturn, 1) := by decide +kernel
theorem dX12_choose_35 : decode cX12_choose 35 = .ok (.aload_n 0, 1) := by decide +kernel
theorem dX12_choose_36 : decode cX12_choose 36 = .ok (.invokevirtual 463, 3) := by decide +kernel
theorem dX12_choose_39 : decode cX12_choose 39 = .ok (.aload_n 0, 1) := by decide +kernel
theorem dX12_choose_40 : decode cX12_choose 40 = .ok (.getfield 370, 3) := by decide +kernel
theorem dX12_choose_43 : decode cX12_choose 43 = .ok (.istore_n 3, 1) := by decide +kernel
theorem dX12_choose_44 : decode cX12_choose 44 = .ok (.iconst 0, 1) := by decide +kernel
theorem dX12_choose_45 : decode cX12_choose 45 = .ok (.istore 4, 2) := by decide +kernel
theorem dX12_choose_47 : decode cX12_choose 47 = .ok (.aload_n 0, 1) := by decide +kernel
theorem dX12_choose_48 : decode cX12_choose 48 = .ok (.bipush 48, 2) := by decide +kernel
theorem dX12_choose_50 : decode cX12_choose 50 = .ok (.invokevirtual 440, 3) := by decide +kernel
theorem dX12_choose_53 : decode cX12_choose 53 = .ok (.ifCond .eq 101, 3) := by decide +kernel
theorem dX12_choose_56 : decode cX12_choose 56 = .ok (.aload_n 0, 1) := by decide +kernel
theorem dX12_choose_57 : decode cX12_choose 57 = .ok (.bipush 26, 2) := by decide +kernel
theorem dX12_choose_59 : decode cX12_choose 59 = .ok (.invokevirtual 379, 3) := by decide +kernel
theorem dX12_choose_62 : decode cX12_choose 62 = .ok (.istore 5, 2) := by decide +kernel
theorem dX12_choose_64 : decode cX12_choose 64 = .ok (.aload_n 0, 1) := by decide +kernel
theorem dX12_choose_65 : decode cX12_choose 65 = .ok (.iconst 0, 1) := by decide +kernel
theorem dX12_choose_66 : decode cX12_choose 66 = .ok (.putfield 471, 3) := by decide +kernel
theorem dX12_choose_69 : decode cX12_choose 69 = .ok (.aload_n 0, 1) := by decide +kernel
theorem dX12_choose_70 : decode cX12_choose 70 = .ok (.bipush 59, 2) := by decide +kernel
theorem dX12_choose_72 : decode cX12_choose 72 = .ok (.bipush 58, 2) := by decide +kernel
theorem dX12_choose_74 : decode cX12_choose 74 = .ok (.invokevirtual 526, 3) := by decide +kernel
theorem dX12_choose_77 : decode cX12_choose 77 = .ok (.istore 6, 2) := by decide +kernel
theorem dX12_choose_79 : decode cX12_choose 79 = .ok (.iload 4, 2) := by decide +kernel
theorem dX12_choose_81 : decode cX12_choose 81 = .ok (.ifCond .eq 7, 3) := by decide +kernel
theorem dX12_choose_84 : decode cX12_choose 84 = .ok (.lload_n 1, 1) := by decide +kernel
theorem dX12_choose_85 : decode cX12_choose 85 = .ok (.goto 8, 3) := by decide +kernel
theorem dX12_choose_88 : decode cX12_choose 88 = .ok (.aload_n 0, 1) := by decide +kernel
theorem dX12_choose_89 : decode cX12_choose 89 = .ok (.lload_n 1, 1) := by decide +kernel
theorem dX12_choose_90 : decode cX12_choose 90 = .ok (.invokevirtual 483, 3) := by decide +kernel
theorem dX12_choose_93 : decode cX12_choose 93 = .ok (.lstore_n 1, 1) := by decide +kernel
theorem dX12_choose_94 : decode cX12_choose 94 = .ok (.aload_n 0, 1) := by decide +kernel
theorem dX12_choose_95 : decode cX12_choose 95 = .ok (.invokevirtual 447, 3) := by decide +kernel
theorem dX12_choose_98 : decode cX12_choose 98 = .ok (.lstore 7, 2) := by decide +kernel
theorem dX12_choose_100 : decode cX12_choose 100 = .ok (.iload 4, 2) := by decide +kernel
theorem dX12_choose_102 : decode cX12_choose 102 = .ok (.ifCond .eq 7, 3) := by decide +kernel
theorem dX12_choose_105 : decode cX12_choose 105 = .ok (.lload_n 1, 1) := by decide +kernel
theorem dX12_choose_106 : decode cX12_choose 106 = .ok (.goto 7, 3) := by decide +kernel
theorem dX12_choose_109 : decode cX12_choose 109 = .ok (.lload_n 1, 1) := by decide +kernel
theorem dX12_choose_110 : decode cX12_choose 110 = .ok (.lload 7, 2) := by decide +kernel
theorem dX12_choose_112 : decode cX12_choose 112 = .ok (.lor, 1) := by decide +kernel
theorem dX12_choose_113 : decode cX12_choose 113 = .ok (.lstore_n 1, 1) := by decide +kernel
theorem dX12_choose_114 : decode cX12_choose 114 = .ok (.iload 4, 2) := by decide +kernel
theorem dX12_choose_116 : decode cX12_choose 116 = .ok (.ifCond .ne 8, 3) := by decide +kernel
theorem dX12_choose_119 : decode cX12_choose 119 = .ok (.iload 5, 2) := by decide +kernel
theorem dX12_choose_121 : decode cX12_choose 121 = .ok (.ifCond .eq 7, 3) := by decide +kernel
theorem dX12_choose_124 : decode cX12_choose 124 = .ok (.iconst 1, 1) := by decide +kernel
theorem dX12_choose_125 : decode cX12_choose 125 = .ok (.goto 4, 3) := by decide +kernel
theorem dX12_choose_128 : decode cX12_choose 128 = .ok (.iconst 0, 1) := by decide +kernel
theorem dX12_choose_129 : decode cX12_choose 129 = .ok (.istore 4, 2) := by decide +kernel
theorem dX12_choose_131 : decode cX12_choose 131 = .ok (.aload_n 0, 1) := by decide +kernel
theorem dX12_choose_132 : decode cX12_choose 132 = .ok (.bipush 41, 2) := by decide +kernel
theorem dX12_choose_134 : decode cX12_choose 134 = .ok (.iconst (-1), 1) := by decide +kernel
theorem dX12_choose_135 : decode cX12_choose 135 = .ok (.iload_n 3, 1) := by decide +kernel
theorem dX12_choose_136 : decode cX12_choose 136 = .ok (.invokevirtual 451, 3) := by decide +kernel
theorem dX12_choose_139 : decode cX12_choose 139 = .ok (.pop, 1) := by decide +kernel
theorem dX12_choose_140 : decode cX12_choose 140 = .ok (.aload_n 0, 1) := by decide +kernel
theorem dX12_choose_141 : decode cX12_choose 141 = .ok (.getfield 46, 3) := by decide +kernel
theorem dX12_choose_144 : decode cX12_choose 144 = .ok (.iload 6, 2) := by decide +kernel
theorem dX12_choose_146 : decode cX12_choose 146 = .ok (.aload_n 0, 1) := by decide +kernel
theorem dX12_choose_147 : decode cX12_choose 147 = .ok (.getfield 370, 3) := by decide +kernel
theorem dX12_choose_150 : decode cX12_choose 150 = .ok (.iastore, 1) := by decide +kernel
theorem dX12_choose_151 : decode cX12_choose 151 = .ok (.goto (-104), 3) := by decide +kernel
theorem dX12_choose_154 : decode cX12_choose 154 = .ok (.aload_n 0, 1) := by decide +kernel
theorem dX12_choose_155 : decode cX12_choose 155 = .ok (.iconst 4, 1) := by decide +kernel
theorem dX12_choose_156 : decode cX12_choose 156 = .ok (.iconst 0, 1) := by decide +kernel
theorem dX12_choose_157 : decode cX12_choose 157 = .ok (.iconst 0, 1) := by decide +kernel
theorem dX12_choose_158 : decode cX12_choose 158 = .ok (.invokevirtual 451, 3) := by decide +kernel
theorem dX12_choose_161 : decode cX12_choose 161 = .ok (.pop, 1) := by decide +kernel
theorem dX12_choose_162 : decode cX12_choose 162 = .ok (.aload_n 0, 1) := by decide +kernel
theorem dX12_choose_163 : decode cX12_choose 163 = .ok (.bipush 49, 2) := by decide +kernel
theorem dX12_choose_165 : decode cX12_choose 165 = .ok (.invokevirtual 440, 3) := by decide +kernel
theorem dX12_choose_168 : decode cX12_choose 168 = .ok (.ifCond .eq 26, 3) := by decide +kernel
theorem dX12_choose_171 : decode cX12_choose 171 = .ok (.aload_n 0, 1) := by decide +kernel
theorem dX12_choose_172 : decode cX12_choose 172 = .ok (.invokevirtual 447, 3) := by decide +kernel
theorem dX12_choose_175 : decode cX12_choose 175 = .ok (.lstore 5, 2) := by decide +kernel
theorem dX12_choose_177 : decode cX12_choose 177 = .ok (.iload 4, 2) := by decide +kernel
theorem dX12_choose_179 : decode cX12_choose 179 = .ok (.ifCond .eq 7, 3) := by decide +kernel
theorem dX12_choose_182 : decode cX12_choose 182 = .ok (.lload_n 1, 1) := by decide +kernel
theorem dX12_choose_183 : decode cX12_choose 183 = .ok (.goto 7, 3) := by decide +kernel
theorem dX12_choose_186 : decode cX12_choose 186 = .ok (.lload_n 1, 1) := by decide +kernel
theorem dX12_choose_187 : decode cX12_choose 187 = .ok (.lload 5, 2) := by decide +kernel
theorem dX12_choose_189 : decode cX12_choose 189 = .ok (.lor, 1) := by decide +kernel
theorem dX12_choose_190 : decode cX12_choose 190 = .ok (.lstore_n 1, 1) := by decide +kernel
theorem dX12_choose_191 : decode cX12_choose 191 = .ok (.goto 12, 3) := by decide +kernel
theorem dX12_choose_194 : decode cX12_choose 194 = .ok (.iload 4, 2) := by decide +kernel
theorem dX12_choose_196 : decode cX12_choose 196 = .ok (.ifCond .ne 7, 3) := by decide +kernel
theorem dX12_choose_199 : decode cX12_choose 199 = .ok (.lload_n 1, 1) := by decide +kernel
theorem dX12_choose_200 : decode cX12_choose 200 = .ok (.lconst 1, 1) := by decide +kernel
theorem dX12_choose_201 : decode cX12_choose 201 = .ok (.lor, 1) := by decide +kernel
theorem dX12_choose_202 : decode cX12_choose 202 = .ok (.lstore_n 1, 1) := by decide +kernel
theorem dX12_choose_203 : decode cX12_choose 203 = .ok (.aload_n 0, 1) := by decide +kernel
theorem dX12_choose_204 : decode cX12_choose 204 = .ok (.bipush 125, 2) := by decide +kernel
theorem dX12_choose_206 : decode cX12_choose 206 = .ok (.invokevirtual 429, 3) := by decide +kernel
theorem dX12_choose_209 : decode cX12_choose 209 = .ok (.aload_n 0, 1) := by decide +kernel
theorem dX12_choose_210 : decode cX12_choose 210 = .ok (.dup, 1) := by decide +kernel
theorem dX12_choose_211 : decode cX12_choose 211 = .ok (.getfield 388, 3) := by decide +kernel
theorem dX12_choose_214 : decode cX12_choose 214 = .ok (.iconst 1, 1) := by decide +kernel
theorem dX12_choose_215 : decode cX12_choose 215 = .ok (.isub, 1) := by decide +kernel
theorem dX12_choose_216 : decode cX12_choose 216 = .ok (.putfield 388, 3) := by decide +kernel
theorem dX12_choose_219 : decode cX12_choose 219 = .ok (.iload_n 3, 1) := by decide +kernel
theorem dX12_choose_220 : decode cX12_choose 220 = .ok (.istore 5, 2) := by decide +kernel
theorem dX12_choose_222 : decode cX12_choose 222 = .ok (.iload 5, 2) := by decide +kernel
theorem dX12_choose_224 : decode cX12_choose 224 = .ok (.aload_n 0, 1) := by decide +kernel
theorem dX12_choose_225 : decode cX12_choose 225 = .ok (.getfield 370, 3) := by decide +kernel
theorem dX12_choose_228 : decode cX12_choose 228 = .ok (.if_icmp .ge 54, 3) := by decide +kernel
theorem dX12_choose_231 : decode cX12_choose 231 = .ok (.aload_n 0, 1) := by decide +kernel
theorem dX12_choose_232 : decode cX12_choose 232 = .ok (.getfield 43, 3) := by decide +kernel
theorem dX12_choose_235 : decode cX12_choose 235 = .ok (.iload 5, 2) := by decide +kernel
theorem dX12_choose_237 : decode cX12_choose 237 = .ok (.iaload, 1) := by decide +kernel
theorem dX12_choose_238 : decode cX12_choose 238 = .ok (.bipush 41, 2) := by decide +kernel
theorem dX12_choose_240 : decode cX12_choose 240 = .ok (.if_icmp .ne 36, 3) := by decide +kernel
theorem dX12_choose_243 : decode cX12_choose 243 = .ok (.aload_n 0, 1) := by decide +kernel
theorem dX12_choose_244 : decode cX12_choose 244 = .ok (.getfield 46, 3) := by decide +kernel
theorem dX12_choose_247 : decode cX12_choose 247 = .ok (.iload 5, 2) := by decide +kernel
theorem dX12_choose_249 : decode cX12_choose 249 = .ok (.iaload, 1) := by decide +kernel
theorem dX12_choose_250 : decode cX12_choose 250 = .ok (.iconst (-1), 1) := by decide +kernel
theorem dX12_choose_251 : decode cX12_choose 251 = .ok (.if_icmp .ne 25, 3) := by decide +kernel
theorem dX12_choose_254 : decode cX12_choose 254 = .ok (.aload_n 0, 1) := by decide +kernel
theorem dX12_choose_255 : decode cX12_choose 255 = .ok (.getfield 49, 3) := by decide +kernel
theorem dX12_choose_258 : decode cX12_choose 258 = .ok (.iload 5, 2) := by decide +kernel
theorem dX12_choose_260 : decode cX12_choose 260 = .ok (.iaload, 1) := by decide +kernel
theorem dX12_choose_261 : decode cX12_choose 261 = .ok (.iload_n 3, 1) := by decide +kernel
theorem dX12_choose_262 : decode cX12_choose 262 = .ok (.if_icmp .ne 14, 3) := by decide +kernel
theorem dX12_choose_265 : decode cX12_choose 265 = .ok (.aload_n 0, 1) := by decide +kernel
theorem dX12_choose_266 : decode cX12_choose 266 = .ok (.getfield 46, 3) := by decide +kernel
theorem dX12_choose_269 : decode cX12_choose 269 = .ok (.iload 5, 2) := by decide +kernel
theorem dX12_choose_271 : decode cX12_choose 271 = .ok (.aload_n 0, 1) := by decide +kernel
theorem dX12_choose_272 : decode cX12_choose 272 = .ok (.getfield 370, 3) := by decide +kernel
theorem dX12_choose_275 : decode cX12_choose 275 = .ok (.iastore, 1) := by decide +kernel
theorem dX12_choose_276 : decode cX12_choose 276 = .ok (.iinc 5 1, 3) := by decide +kernel
theorem dX12_choose_279 : decode cX12_choose 279 = .ok (.goto (-57), 3) := by decide +kernel
theorem dX12_choose_282 : decode cX12_choose 282 = .ok (.lload_n 1, 1) := by decide +kernel
theorem dX12_choose_283 : decode cX12_choose 283 = .ok (.lreturn, 1) := by decide +kernel
def wX12_choose_b276 (B : Nat → kp_S → (Int64 → kp_S → Prop) → Prop) (a0 : Nat) (wn1 : Int64) (xn3 : Int32) (xn5 : Int32) (K222 : Int64 → Int32 → Int32 → kp_S → Prop) (Sn : kp_S) (post : Int64 → kp_S → Prop) : Prop :=
  ∀ y1001 : Int32, y1001 = xn5 + 1 →
  K222 wn1 xn3 y1001 Sn
def wX12_choose_L222 (B : Nat → kp_S → (Int64 → kp_S → Prop) → Prop) (a0 : Nat)  (post : Int64 → kp_S → Prop) : Nat → Int64 → Int32 → Int32 → kp_S → Prop
  | 0, _, _, _, _ => False
  | n + 1, wn1, xn3, xn5, Sn =>
  (((kp_I Sn 2417 a0) ≤ xn5 →
  post wn1 Sn) ∧ (¬ (kp_I Sn 2417 a0) ≤ xn5 →
  ∃ b2001 : Nat, kp_R Sn 2414 a0 = some b2001 ∧
  vp_in xn5 (kp_N Sn b2001) ∧
  ((¬ (kp_A Sn b2001 xn5.toNatClampNeg) = 41 →
  wX12_choose_b276 B a0 wn1 xn3 xn5 (fun wn1_ xn3_ xn5_ S_ => wX12_choose_L222 B a0  post n wn1_ xn3_ xn5_ S_) Sn post) ∧ ((kp_A Sn b2001 xn5.toNatClampNeg) = 41 →
  ∃ b2002 : Nat, kp_R Sn 2415 a0 = some b2002 ∧
  vp_in xn5 (kp_N Sn b2002) ∧
  ((¬ (kp_A Sn b2002 xn5.toNatClampNeg) = (-1) →
  wX12_choose_b276 B a0 wn1 xn3 xn5 (fun wn1_ xn3_ xn5_ S_ => wX12_choose_L222 B a0  post n wn1_ xn3_ xn5_ S_) Sn post) ∧ ((kp_A Sn b2002 xn5.toNatClampNeg) = (-1) →
  ∃ b2003 : Nat, kp_R Sn 2416 a0 = some b2003 ∧
  vp_in xn5 (kp_N Sn b2003) ∧
  ((¬ (kp_A Sn b2003 xn5.toNatClampNeg) = xn3 →
  wX12_choose_b276 B a0 wn1 xn3 xn5 (fun wn1_ xn3_ xn5_ S_ => wX12_choose_L222 B a0  post n wn1_ xn3_ xn5_ S_) Sn post) ∧ ((kp_A Sn b2003 xn5.toNatClampNeg) = xn3 →
  vp_in xn5 (kp_N Sn b2002) ∧ ∀ T2004 : kp_S, T2004 = kp_sA Sn b2002 (upd (kp_A Sn b2002) (xn5.toNatClampNeg) (kp_I Sn 2417 a0)) →
  wX12_choose_b276 B a0 wn1 xn3 xn5 (fun wn1_ xn3_ xn5_ S_ => wX12_choose_L222 B a0  post n wn1_ xn3_ xn5_ S_) T2004 post))))))))
def wX12_choose_b203 (B : Nat → kp_S → (Int64 → kp_S → Prop) → Prop) (a0 : Nat) (wn1 : Int64) (xn3 : Int32)  (Sn : kp_S) (post : Int64 → kp_S → Prop) : Prop :=
  wX12_takeSign a0 125 Sn (fun T3001 =>
  ∀ T3002 : kp_S, T3002 = kp_sI T3001 2411 a0 ((kp_I T3001 2411 a0) - 1) →
  ∃ n0 : Nat, wX12_choose_L222 B a0  post n0 wn1 xn3 xn3 T3002)
def wX12_choose_b190 (B : Nat → kp_S → (Int64 → kp_S → Prop) → Prop) (a0 : Nat) (xn3 : Int32) (wt0 : Int64)  (Sn : kp_S) (post : Int64 → kp_S → Prop) : Prop :=
  wX12_choose_b203 B a0 wt0 xn3  Sn post
def wX12_choose_b129 (B : Nat → kp_S → (Int64 → kp_S → Prop) → Prop) (a0 : Nat) (wn1 : Int64) (xn3 : Int32) (xn6 : Int32) (xt0 : Int32) (K47 : Int64 → Int32 → Int32 → kp_S → Prop) (Sn : kp_S) (post : Int64 → kp_S → Prop) : Prop :=
  wX12_emit a0 41 (-1) xn3 Sn (fun y5002 T5001 =>
  ∃ b5003 : Nat, kp_R T5001 2415 a0 = some b5003 ∧
  vp_in xn6 (kp_N T5001 b5003) ∧ ∀ T5004 : kp_S, T5004 = kp_sA T5001 b5003 (upd (kp_A T5001 b5003) (xn6.toNatClampNeg) (kp_I T5001 2417 a0)) →
  K47 wn1 xn3 xt0 T5004)
def wX12_choose_b124 (B : Nat → kp_S → (Int64 → kp_S → Prop) → Prop) (a0 : Nat) (wn1 : Int64) (xn3 : Int32) (xn6 : Int32) (K47 : Int64 → Int32 → Int32 → kp_S → Prop) (Sn : kp_S) (post : Int64 → kp_S → Prop) : Prop :=
  wX12_choose_b129 B a0 wn1 xn3 xn6 1 K47 Sn post
def wX12_choose_b113 (B : Nat → kp_S → (Int64 → kp_S → Prop) → Prop) (a0 : Nat) (xn3 : Int32) (xn4 : Int32) (xn5 : Int32) (xn6 : Int32) (wt0 : Int64) (K47 : Int64 → Int32 → Int32 → kp_S → Prop) (Sn : kp_S) (post : Int64 → kp_S → Prop) : Prop :=
  ((¬ xn4 = 0 →
  wX12_choose_b124 B a0 wt0 xn3 xn6 K47 Sn post) ∧ (xn4 = 0 →
  ((xn5 = 0 →
  wX12_choose_b129 B a0 wt0 xn3 xn6 0 K47 Sn post) ∧ (¬ xn5 = 0 →
  wX12_choose_b124 B a0 wt0 xn3 xn6 K47 Sn post))))
def wX12_choose_b93 (B : Nat → kp_S → (Int64 → kp_S → Prop) → Prop) (a0 : Nat) (xn3 : Int32) (xn4 : Int32) (xn5 : Int32) (xn6 : Int32) (wt0 : Int64) (K47 : Int64 → Int32 → Int32 → kp_S → Prop) (Sn : kp_S) (post : Int64 → kp_S → Prop) : Prop :=
  B a0 Sn (fun z8002 T8001 =>
  ((xn4 = 0 →
  wX12_choose_b113 B a0 xn3 xn4 xn5 xn6 (wt0 ||| z8002) K47 T8001 post) ∧ (¬ xn4 = 0 →
  wX12_choose_b113 B a0 xn3 xn4 xn5 xn6 wt0 K47 T8001 post)))
def wX12_choose_L47 (B : Nat → kp_S → (Int64 → kp_S → Prop) → Prop) (a0 : Nat)  (post : Int64 → kp_S → Prop) : Nat → Int64 → Int32 → Int32 → kp_S → Prop
  | 0, _, _, _, _ => False
  | n + 1, wn1, xn3, xn4, Sn =>
  wX12_skip a0 48 Sn (fun y9002 T9001 =>
  ((y9002 = 0 →
  wX12_emit a0 4 0 0 T9001 (fun y9004 T9003 =>
  wX12_skip a0 49 T9003 (fun y9006 T9005 =>
  ((y9006 = 0 →
  ((¬ xn4 = 0 →
  wX12_choose_b203 B a0 wn1 xn3  T9005 post) ∧ (xn4 = 0 →
  ∀ z9007 : Int64, z9007 = (wn1 ||| 1) →
  wX12_choose_b203 B a0 z9007 xn3  T9005 post))) ∧ (¬ y9006 = 0 →
  B a0 T9005 (fun z9010 T9009 =>
  ((xn4 = 0 →
  wX12_choose_b190 B a0 xn3 (wn1 ||| z9010)  T9009 post) ∧ (¬ xn4 = 0 →
  wX12_choose_b190 B a0 xn3 wn1  T9009 post)))))))) ∧ (¬ y9002 = 0 →
  wX12_is a0 26 T9001 (fun y9014 T9013 =>
  ∀ T9015 : kp_S, T9015 = kp_sI T9013 2425 a0 0 →
  wX12_list a0 59 58 T9015 (fun y9017 T9016 =>
  ((xn4 = 0 →
  wX12_risky a0 wn1 T9016 (fun z9019 T9018 =>
  wX12_choose_b93 B a0 xn3 xn4 y9014 y9017 z9019 (fun wn1_ xn3_ xn4_ S_ => wX12_choose_L47 B a0  post n wn1_ xn3_ xn4_ S_) T9018 post)) ∧ (¬ xn4 = 0 →
  wX12_choose_b93 B a0 xn3 xn4 y9014 y9017 wn1 (fun wn1_ xn3_ xn4_ S_ => wX12_choose_L47 B a0  post n wn1_ xn3_ xn4_ S_) T9016 post)))))))
def wX12_choose (B : Nat → kp_S → (Int64 → kp_S → Prop) → Prop) (a0 : Nat) (S : kp_S) (post : Int64 → kp_S → Prop) : Prop :=
  ∀ T1 : kp_S, T1 = kp_sI S 2410 a0 ((kp_I S 2410 a0) + 1) →
  wX12_expression_t a0 T1 (fun T2 =>
  wX12_risky a0 0 T2 (fun z4 T3 =>
  wX12_isSign a0 123 T3 (fun y6 T5 =>
  ((¬ y6 = 0 →
  wX12_nest a0 T5 (fun T7 =>
  ∀ y8 : Int32, y8 = (kp_I T7 2417 a0) →
  ∃ n0 : Nat, wX12_choose_L47 B a0  post n0 z4 y8 0 T7)) ∧ (y6 = 0 →
  wX12_wrong a0 T5 (fun T9 =>
  post 0 T9))))))
set_option maxHeartbeats 4000000 in
set_option maxRecDepth 100000 in
theorem c_X12_choose (l : Launch) (D : va_G) (cy : Nat → ClassId) (ad : (Nat → Nat) × (Nat → Nat)) (F L : Nat) (B : Nat → kp_S → (Int64 → kp_S → Prop) → Prop) (hB : ∀ (S : kp_S) (a0 : Nat) (post : Int64 → kp_S → Prop), kp_ok S → kp_is S a0 12 → B a0 S post → kp_M l yX12_block cX12_block 6 (some .long) { frames := F, cells := 0, slots := 0, locals := L } D cy ad S [.ref a0] 0 0 (fun A => kp_Ql D cy A S post)) (hF : 151 ≤ F) (hL : 3211 ≤ L) (S : kp_S) (a0 : Nat) (post : Int64 → kp_S → Prop) (hS : kp_ok S) (f_a0 : kp_is S a0 12) (hw : wX12_choose B a0 S post) : kp_M l yX12_choose cX12_choose 9 (some .long) { frames := F + 1, cells := 0, slots := 0, locals := L + 25 } D cy ad S [.ref a0] 0 0 (fun A => kp_Ql D cy A S post) := by
  refine kp_start (own := RX12) (by decide) rfl (Nat.le_of_ble_eq_true rfl) hS ?_
  intro p e s m below meth c A ls X hr hlocks hname h hl
  have hle : kp_le S S := kp_le.rf
  have hl : lv_has ls 9 [(0, .ref a0)] := hl
  have L222 : ∀ n222 : Nat, ∀ (wn1 : Int64) (xn3 : Int32) (xn5 : Int32) (Sn : kp_S) (H : Heap) (locs : List Loc) (ls : Array Slot), lv_has ls 9 [(0, .ref a0), (1, .long wn1), (3, .int xn3), (5, .int xn5)] → kp_H D cy A Sn s.heap H locs → kp_le S Sn → kp_is Sn a0 12 → wX12_choose_L222 B a0  post n222 wn1 xn3 xn5 Sn → W p l e { frames := F + 1, cells := 0, slots := 0, locals := L + 25 } s m ([.ref a0] : List Value).toArray below meth c H locs 0 0 (MQ below (kp_Ql D cy A S post) ([.ref a0] : List Value).toArray s 0 0 A) (F0 m 222 ls []) := by
    intro n222
    induction n222 with
    | zero => intro wn1 xn3 xn5 Sn H locs ls hl h hle f_a0 hw; exact hw.elim
    | succ n222 ih222 =>
      have j276 : ∀ (wn1 : Int64) (xn3 : Int32) (xn5 : Int32) (Sn : kp_S) (H : Heap) (locs : List Loc) (ls : Array Slot), lv_has ls 9 [(0, .ref a0), (1, .long wn1), (3, .int xn3), (5, .int xn5)] → kp_H D cy A Sn s.heap H locs → kp_le S Sn → kp_is Sn a0 12 → wX12_choose_b276 B a0 wn1 xn3 xn5 (fun wn1_ xn3_ xn5_ S_ => wX12_choose_L222 B a0  post n222 wn1_ xn3_ xn5_ S_) Sn post → W p l e { frames := F + 1, cells := 0, slots := 0, locals := L + 25 } s m ([.ref a0] : List Value).toArray below meth c H locs 0 0 (MQ below (kp_Ql D cy A S post) ([.ref a0] : List Value).toArray s 0 0 A) (F0 m 276 ls []) := by
        intro wn1 xn3 xn5 Sn H locs ls hl h hle f_a0 hw
        unfold wX12_choose_b276 at hw
        obtain ⟨y1001, e_y1001⟩ : ∃ y : Int32, y = xn5 + 1 := ⟨_, rfl⟩
        have hw := hw y1001 e_y1001
        refine lv_iinc (v := y1001) (lv' := [(5, .int y1001), (0, .ref a0), (1, .long wn1), (3, .int xn3)]) X.1 X.2.1 dX12_choose_276 hl (k := 3) rfl (by rw [e_y1001]; rfl) (by decide) rfl (fun ls hl => ?_)
        refine lv_goto (tgt := 222) X.1 X.2.1 dX12_choose_279 (by decide) ?_
        exact ih222 wn1 xn3 y1001 Sn H locs ls (lv_sub hl [1, 2, 3, 0] rfl) h hle f_a0 hw
      intro wn1 xn3 xn5 Sn H locs ls hl h hle f_a0 hw
      unfold wX12_choose_L222 at hw
      refine lv_iload X.1 X.2.1 dX12_choose_222 (lv_at hl 3 rfl) ?_
      refine lv_aload_n X.1 X.2.1 dX12_choose_224 rfl (lv_at hl 0 rfl) ?_
      refine kp_get X h f_a0 fp_12_370.l (v := .int (kp_I Sn 2417 a0)) rfl dX12_choose_225 ?_
      refine lv_icmp_ge (tgt := 282) X.1 X.2.1 dX12_choose_228 (by decide) (fun c2008 => ?_) (fun c2008 => ?_)
      · have hw := hw.1 c2008
        refine lv_lload_n X.1 X.2.1 dX12_choose_282 rfl (lv_at hl 1 rfl) ?_
        exact kp_retl X hr hlocks h hle hw dX12_choose_283
      · have hw := hw.2 c2008
        refine lv_aload_n X.1 X.2.1 dX12_choose_231 rfl (lv_at hl 0 rfl) ?_
        obtain ⟨b2001, e_b2001, hw⟩ := hw
        have f_b2001 := h.2.2.2.rf (c := 12) (k := 14) f_a0 (by decide) (by decide) e_b2001 (t := 14) rfl
        refine kp_get X h f_a0 ff_12_43.l (v := .ref b2001) (congrArg va_rf e_b2001) dX12_choose_232 ?_
        refine lv_iload X.1 X.2.1 dX12_choose_235 (lv_at hl 3 rfl) ?_
        obtain ⟨hi, hw⟩ := hw
        refine kp_iald X h f_b2001 hi dX12_choose_237 ?_
        refine lv_bipush (v := 41) X.1 X.2.1 dX12_choose_238 (by decide) ?_
        refine lv_icmp_ne (tgt := 276) X.1 X.2.1 dX12_choose_240 (by decide) (fun c2007 => ?_) (fun c2007 => ?_)
        · have hw := hw.1 c2007
          exact j276 wn1 xn3 xn5 Sn H locs ls (lv_sub hl [0, 1, 2, 3] rfl) h hle f_a0 hw
        · have hw := hw.2 c2007
          refine lv_aload_n X.1 X.2.1 dX12_choose_243 rfl (lv_at hl 0 rfl) ?_
          obtain ⟨b2002, e_b2002, hw⟩ := hw
          have f_b2002 := h.2.2.2.rf (c := 12) (k := 15) f_a0 (by decide) (by decide) e_b2002 (t := 14) rfl
          refine kp_get X h f_a0 ff_12_46.l (v := .ref b2002) (congrArg va_rf e_b2002) dX12_choose_244 ?_
          refine lv_iload X.1 X.2.1 dX12_choose_247 (lv_at hl 3 rfl) ?_
          obtain ⟨hi, hw⟩ := hw
          refine kp_iald X h f_b2002 hi dX12_choose_249 ?_
          refine lv_iconst (v := (-1)) X.1 X.2.1 dX12_choose_250 (by decide) ?_
          refine lv_icmp_ne (tgt := 276) X.1 X.2.1 dX12_choose_251 (by decide) (fun c2006 => ?_) (fun c2006 => ?_)
          · have hw := hw.1 c2006
            exact j276 wn1 xn3 xn5 Sn H locs ls (lv_sub hl [0, 1, 2, 3] rfl) h hle f_a0 hw
          · have hw := hw.2 c2006
            refine lv_aload_n X.1 X.2.1 dX12_choose_254 rfl (lv_at hl 0 rfl) ?_
            obtain ⟨b2003, e_b2003, hw⟩ := hw
            have f_b2003 := h.2.2.2.rf (c := 12) (k := 16) f_a0 (by decide) (by decide) e_b2003 (t := 14) rfl
            refine kp_get X h f_a0 ff_12_49.l (v := .ref b2003) (congrArg va_rf e_b2003) dX12_choose_255 ?_
            refine lv_iload X.1 X.2.1 dX12_choose_258 (lv_at hl 3 rfl) ?_
            obtain ⟨hi, hw⟩ := hw
            refine kp_iald X h f_b2003 hi dX12_choose_260 ?_
            refine lv_iload_n X.1 X.2.1 dX12_choose_261 rfl (lv_at hl 2 rfl) ?_
            refine lv_icmp_ne (tgt := 276) X.1 X.2.1 dX12_choose_262 (by decide) (fun c2005 => ?_) (fun c2005 => ?_)
            · have hw := hw.1 c2005
              exact j276 wn1 xn3 xn5 Sn H locs ls (lv_sub hl [0, 1, 2, 3] rfl) h hle f_a0 hw
            · have hw := hw.2 c2005
              refine lv_aload_n X.1 X.2.1 dX12_choose_265 rfl (lv_at hl 0 rfl) ?_
              refine kp_get X h f_a0 ff_12_46.l (v := .ref b2002) (congrArg va_rf e_b2002) dX12_choose_266 ?_
              refine lv_iload X.1 X.2.1 dX12_choose_269 (lv_at hl 3 rfl) ?_
              refine lv_aload_n X.1 X.2.1 dX12_choose_271 rfl (lv_at hl 0 rfl) ?_
              refine kp_get X h f_a0 fp_12_370.l (v := .int (kp_I Sn 2417 a0)) rfl dX12_choose_272 ?_
              obtain ⟨hi, hw⟩ := hw
              refine kp_iast X h f_b2002 hi dX12_choose_275 (fun T2004 e_T2004 l_T2004 H locs h => ?_)
              have hw := hw T2004 e_T2004
              have f_a0 := l_T2004.is f_a0
              have f_b2001 := l_T2004.is f_b2001
              have f_b2002 := l_T2004.is f_b2002
              have f_b2003 := l_T2004.is f_b2003
              have hle := hle.tr l_T2004
              have e_b2001 : kp_R T2004 2414 a0 = some b2001 := by rw [e_T2004]; exact e_b2001
              have e_b2002 : kp_R T2004 2415 a0 = some b2002 := by rw [e_T2004]; exact e_b2002
              have e_b2003 : kp_R T2004 2416 a0 = some b2003 := by rw [e_T2004]; exact e_b2003
              exact j276 wn1 xn3 xn5 T2004 H locs ls (lv_sub hl [0, 1, 2, 3] rfl) h hle f_a0 hw
  have j203 : ∀ (wn1 : Int64) (xn3 : Int32) (Sn : kp_S) (H : Heap) (locs : List Loc) (ls : Array Slot), lv_has ls 9 [(0, .ref a0), (1, .long wn1), (3, .int xn3)] → kp_H D cy A Sn s.heap H locs → kp_le S Sn → kp_is Sn a0 12 → wX12_choose_b203 B a0 wn1 xn3  Sn post → W p l e { frames := F + 1, cells := 0, slots := 0, locals := L + 25 } s m ([.ref a0] : List Value).toArray below meth c H locs 0 0 (MQ below (kp_Ql D cy A S post) ([.ref a0] : List Value).toArray s 0 0 A) (F0 m 203 ls []) := by
    intro wn1 xn3 Sn H locs ls hl h hle f_a0 hw
    unfold wX12_choose_b203 at hw
    refine lv_aload_n X.1 X.2.1 dX12_choose_203 rfl (lv_at hl 0 rfl) ?_
    refine lv_bipush (v := 125) X.1 X.2.1 dX12_choose_204 (by decide) ?_
    refine kp_callv X h (kp_runV (rm := { frames := 2, cells := 0, slots := 0, locals := 42 }) (mc := 0) (ms := 0) (rest := []) (Qc := fun A => kp_Qv D cy A Sn _) X h (c_X12_takeSign l D cy ad Sn a0 125 _ h.2.2.2 f_a0 hw) f_a0 cv_12_429 ⟨by dsimp only; omega, by dsimp only; omega, rfl, rfl, by dsimp only; omega, by dsimp only; omega⟩ rfl hl.1 rfl (Nat.le_of_ble_eq_true rfl) dX12_choose_206) (fun T3001 hw l_T3001 H locs h => ?_)
    have f_a0 := l_T3001.is f_a0
    have hle := hle.tr l_T3001
    refine lv_aload_n X.1 X.2.1 dX12_choose_209 rfl (lv_at hl 0 rfl) ?_
    refine lv_dup X.1 X.2.1 dX12_choose_210 rfl ?_
    refine kp_get X h f_a0 fp_12_388.l (v := .int (kp_I T3001 2411 a0)) rfl dX12_choose_211 ?_
    refine lv_iconst (v := 1) X.1 X.2.1 dX12_choose_214 (by decide) ?_
    refine lv_isub X.1 X.2.1 dX12_choose_215 ?_
    refine kp_putI X h f_a0 fp_12_388 rfl ⟨rfl, rfl⟩ dX12_choose_216 (fun T3002 e_T3002 l_T3002 H locs h => ?_)
    have hw := hw T3002 e_T3002
    have f_a0 := l_T3002.is f_a0
    have hle := hle.tr l_T3002
    refine lv_iload_n X.1 X.2.1 dX12_choose_219 rfl (lv_at hl 2 rfl) ?_
    refine lv_istore (lv' := [(5, .int xn3), (0, .ref a0), (1, .long wn1), (3, .int xn3)]) X.1 X.2.1 dX12_choose_220 hl (by decide) rfl (fun ls hl => ?_)
    obtain ⟨n0, hw⟩ := hw
    exact L222 n0 wn1 xn3 xn3 T3002 H locs ls (lv_sub hl [1, 2, 3, 0] rfl) h hle f_a0 hw
  have j190 : ∀ (xn3 : Int32) (wt0 : Int64) (Sn : kp_S) (H : Heap) (locs : List Loc) (ls : Array Slot), lv_has ls 9 [(0, .ref a0), (3, .int xn3)] → kp_H D cy A Sn s.heap H locs → kp_le S Sn → kp_is Sn a0 12 → wX12_choose_b190 B a0 xn3 wt0  Sn post → W p l e { frames := F + 1, cells := 0, slots := 0, locals := L + 25 } s m ([.ref a0] : List Value).toArray below meth c H locs 0 0 (MQ below (kp_Ql D cy A S post) ([.ref a0] : List Value).toArray s 0 0 A) (F0 m 190 ls [.long wt0]) := by
    intro xn3 wt0 Sn H locs ls hl h hle f_a0 hw
    unfold wX12_choose_b190 at hw
    refine lv_lstore_n (lv' := [(1, .long wt0), (0, .ref a0), (3, .int xn3)]) X.1 X.2.1 dX12_choose_190 rfl hl (by decide) rfl (fun ls hl => ?_)
    refine lv_goto (tgt := 203) X.1 X.2.1 dX12_choose_191 (by decide) ?_
    exact j203 wt0 xn3 Sn H locs ls (lv_sub hl [1, 0, 2] rfl) h hle f_a0 hw
  have L47 : ∀ n47 : Nat, ∀ (wn1 : Int64) (xn3 : Int32) (xn4 : Int32) (Sn : kp_S) (H : Heap) (locs : List Loc) (ls : Array Slot), lv_has ls 9 [(0, .ref a0), (1, .long wn1), (3, .int xn3), (4, .int xn4)] → kp_H D cy A Sn s.heap H locs → kp_le S Sn → kp_is Sn a0 12 → wX12_choose_L47 B a0  post n47 wn1 xn3 xn4 Sn → W p l e { frames := F + 1, cells := 0, slots := 0, locals := L + 25 } s m ([.ref a0] : List Value).toArray below meth c H locs 0 0 (MQ below (kp_Ql D cy A S post) ([.ref a0] : List Value).toArray s 0 0 A) (F0 m 47 ls []) := by
    intro n47
    induction n47 with
    | zero => intro wn1 xn3 xn4 Sn H locs ls hl h hle f_a0 hw; exact hw.elim
    | succ n47 ih47 =>
      have j129 : ∀ (wn1 : Int64) (xn3 : Int32) (xn6 : Int32) (xt0 : Int32) (Sn : kp_S) (H : Heap) (locs : List Loc) (ls : Array Slot), lv_has ls 9 [(0, .ref a0), (1, .long wn1), (3, .int xn3), (6, .int xn6)] → kp_H D cy A Sn s.heap H locs → kp_le S Sn → kp_is Sn a0 12 → wX12_choose_b129 B a0 wn1 xn3 xn6 xt0 (fun wn1_ xn3_ xn4_ S_ => wX12_choose_L47 B a0  post n47 wn1_ xn3_ xn4_ S_) Sn post → W p l e { frames := F + 1, cells := 0, slots := 0, locals := L + 25 } s m ([.ref a0] : List Value).toArray below meth c H locs 0 0 (MQ below (kp_Ql D cy A S post) ([.ref a0] : List Value).toArray s 0 0 A) (F0 m 129 ls [.int xt0]) := by
        intro wn1 xn3 xn6 xt0 Sn H locs ls hl h hle f_a0 hw
        unfold wX12_choose_b129 at hw
        refine lv_istore (lv' := [(4, .int xt0), (0, .ref a0), (1, .long wn1), (3, .int xn3), (6, .int xn6)]) X.1 X.2.1 dX12_choose_129 hl (by decide) rfl (fun ls hl => ?_)
        refine lv_aload_n X.1 X.2.1 dX12_choose_131 rfl (lv_at hl 1 rfl) ?_
        refine lv_bipush (v := 41) X.1 X.2.1 dX12_choose_132 (by decide) ?_
        refine lv_iconst (v := (-1)) X.1 X.2.1 dX12_choose_134 (by decide) ?_
        refine lv_iload_n X.1 X.2.1 dX12_choose_135 rfl (lv_at hl 3 rfl) ?_
        refine kp_calli X h (kp_runV (rm := { frames := 0, cells := 0, slots := 0, locals := 0 }) (mc := 0) (ms := 0) (rest := []) (Qc := fun A => kp_Qi D cy A Sn _) X h (c_X12_emit l D cy ad Sn a0 41 (-1) xn3 _ h.2.2.2 f_a0 hw) f_a0 cv_12_451 ⟨by dsimp only; omega, by dsimp only; omega, rfl, rfl, by dsimp only; omega, by dsimp only; omega⟩ rfl hl.1 rfl (Nat.le_of_ble_eq_true rfl) dX12_choose_136) (fun y5002 T5001 hw l_T5001 H locs h => ?_)
        have f_a0 := l_T5001.is f_a0
        have hle := hle.tr l_T5001
        refine lv_pop X.1 X.2.1 dX12_choose_139 rfl ?_
        refine lv_aload_n X.1 X.2.1 dX12_choose_140 rfl (lv_at hl 1 rfl) ?_
        obtain ⟨b5003, e_b5003, hw⟩ := hw
        have f_b5003 := h.2.2.2.rf (c := 12) (k := 15) f_a0 (by decide) (by decide) e_b5003 (t := 14) rfl
        refine kp_get X h f_a0 ff_12_46.l (v := .ref b5003) (congrArg va_rf e_b5003) dX12_choose_141 ?_
        refine lv_iload X.1 X.2.1 dX12_choose_144 (lv_at hl 4 rfl) ?_
        refine lv_aload_n X.1 X.2.1 dX12_choose_146 rfl (lv_at hl 1 rfl) ?_
        refine kp_get X h f_a0 fp_12_370.l (v := .int (kp_I T5001 2417 a0)) rfl dX12_choose_147 ?_
        obtain ⟨hi, hw⟩ := hw
        refine kp_iast X h f_b5003 hi dX12_choose_150 (fun T5004 e_T5004 l_T5004 H locs h => ?_)
        have hw := hw T5004 e_T5004
        have f_a0 := l_T5004.is f_a0
        have f_b5003 := l_T5004.is f_b5003
        have hle := hle.tr l_T5004
        have e_b5003 : kp_R T5004 2415 a0 = some b5003 := by rw [e_T5004]; exact e_b5003
        refine lv_goto (tgt := 47) X.1 X.2.1 dX12_choose_151 (by decide) ?_
        exact ih47 wn1 xn3 xt0 T5004 H locs ls (lv_sub hl [1, 2, 3, 0] rfl) h hle f_a0 hw
      have j124 : ∀ (wn1 : Int64) (xn3 : Int32) (xn6 : Int32) (Sn : kp_S) (H : Heap) (locs : List Loc) (ls : Array Slot), lv_has ls 9 [(0, .ref a0), (1, .long wn1), (3, .int xn3), (6, .int xn6)] → kp_H D cy A Sn s.heap H locs → kp_le S Sn → kp_is Sn a0 12 → wX12_choose_b124 B a0 wn1 xn3 xn6 (fun wn1_ xn3_ xn4_ S_ => wX12_choose_L47 B a0  post n47 wn1_ xn3_ xn4_ S_) Sn post → W p l e { frames := F + 1, cells := 0, slots := 0, locals := L + 25 } s m ([.ref a0] : List Value).toArray below meth c H locs 0 0 (MQ below (kp_Ql D cy A S post) ([.ref a0] : List Value).toArray s 0 0 A) (F0 m 124 ls []) := by
        intro wn1 xn3 xn6 Sn H locs ls hl h hle f_a0 hw
        unfold wX12_choose_b124 at hw
        refine lv_iconst (v := 1) X.1 X.2.1 dX12_choose_124 (by decide) ?_
        refine lv_goto (tgt := 129) X.1 X.2.1 dX12_choose_125 (by decide) ?_
        exact j129 wn1 xn3 xn6 1 Sn H locs ls (lv_sub hl [0, 1, 2, 3] rfl) h hle f_a0 hw
      have j113 : ∀ (xn3 : Int32) (xn4 : Int32) (xn5 : Int32) (xn6 : Int32) (wt0 : Int64) (Sn : kp_S) (H : Heap) (locs : List Loc) (ls : Array Slot), lv_has ls 9 [(0, .ref a0), (3, .int xn3), (4, .int xn4), (5, .int xn5), (6, .int xn6)] → kp_H D cy A Sn s.heap H locs → kp_le S Sn → kp_is Sn a0 12 → wX12_choose_b113 B a0 xn3 xn4 xn5 xn6 wt0 (fun wn1_ xn3_ xn4_ S_ => wX12_choose_L47 B a0  post n47 wn1_ xn3_ xn4_ S_) Sn post → W p l e { frames := F + 1, cells := 0, slots := 0, locals := L + 25 } s m ([.ref a0] : List Value).toArray below meth c H locs 0 0 (MQ below (kp_Ql D cy A S post) ([.ref a0] : List Value).toArray s 0 0 A) (F0 m 113 ls [.long wt0]) := by
        intro xn3 xn4 xn5 xn6 wt0 Sn H locs ls hl h hle f_a0 hw
        unfold wX12_choose_b113 at hw
        refine lv_lstore_n (lv' := [(1, .long wt0), (0, .ref a0), (3, .int xn3), (4, .int xn4), (5, .int xn5), (6, .int xn6)]) X.1 X.2.1 dX12_choose_113 rfl hl (by decide) rfl (fun ls hl => ?_)
        refine lv_iload X.1 X.2.1 dX12_choose_114 (lv_at hl 3 rfl) ?_
        refine lv_if_ne (tgt := 124) X.1 X.2.1 dX12_choose_116 (by decide) (fun c7002 => ?_) (fun c7002 => ?_)
        · have hw := hw.1 c7002
          exact j124 wt0 xn3 xn6 Sn H locs ls (lv_sub hl [1, 0, 2, 5] rfl) h hle f_a0 hw
        · have hw := hw.2 c7002
          refine lv_iload X.1 X.2.1 dX12_choose_119 (lv_at hl 4 rfl) ?_
          refine lv_if_eq (tgt := 128) X.1 X.2.1 dX12_choose_121 (by decide) (fun c7001 => ?_) (fun c7001 => ?_)
          · have hw := hw.1 c7001
            refine lv_iconst (v := 0) X.1 X.2.1 dX12_choose_128 (by decide) ?_
            exact j129 wt0 xn3 xn6 0 Sn H locs ls (lv_sub hl [1, 0, 2, 5] rfl) h hle f_a0 hw
          · have hw := hw.2 c7001
            exact j124 wt0 xn3 xn6 Sn H locs ls (lv_sub hl [1, 0, 2, 5] rfl) h hle f_a0 hw
      have j93 : ∀ (xn3 : Int32) (xn4 : Int32) (xn5 : Int32) (xn6 : Int32) (wt0 : Int64) (Sn : kp_S) (H : Heap) (locs : List Loc) (ls : Array Slot), lv_has ls 9 [(0, .ref a0), (3, .int xn3), (4, .int xn4), (5, .int xn5), (6, .int xn6)] → kp_H D cy A Sn s.heap H locs → kp_le S Sn → kp_is Sn a0 12 → wX12_choose_b93 B a0 xn3 xn4 xn5 xn6 wt0 (fun wn1_ xn3_ xn4_ S_ => wX12_choose_L47 B a0  post n47 wn1_ xn3_ xn4_ S_) Sn post → W p l e { frames := F + 1, cells := 0, slots := 0, locals := L + 25 } s m ([.ref a0] : List Value).toArray below meth c H locs 0 0 (MQ below (kp_Ql D cy A S post) ([.ref a0] : List Value).toArray s 0 0 A) (F0 m 93 ls [.long wt0]) := by
        intro xn3 xn4 xn5 xn6 wt0 Sn H locs ls hl h hle f_a0 hw
        unfold wX12_choose_b93 at hw
        refine lv_lstore_n (lv' := [(1, .long wt0), (0, .ref a0), (3, .int xn3), (4, .int xn4), (5, .int xn5), (6, .int xn6)]) X.1 X.2.1 dX12_choose_93 rfl hl (by decide) rfl (fun ls hl => ?_)
        refine lv_aload_n X.1 X.2.1 dX12_choose_94 rfl (lv_at hl 1 rfl) ?_
        refine kp_calll X h (kp_runV (rm := { frames := F, cells := 0, slots := 0, locals := L }) (mc := 0) (ms := 0) (rest := []) (Qc := fun A => kp_Ql D cy A Sn _) X h (hB Sn a0 _ h.2.2.2 f_a0 hw) f_a0 cv_12_447 ⟨by dsimp only; omega, by dsimp only; omega, rfl, rfl, by dsimp only; omega, by dsimp only; omega⟩ rfl hl.1 rfl (Nat.le_of_ble_eq_true rfl) dX12_choose_95) (fun z8002 T8001 hw l_T8001 H locs h => ?_)
        have f_a0 := l_T8001.is f_a0
        have hle := hle.tr l_T8001
        refine lv_lstore (lv' := [(7, .long z8002), (1, .long wt0), (0, .ref a0), (3, .int xn3), (4, .int xn4), (5, .int xn5), (6, .int xn6)]) X.1 X.2.1 dX12_choose_98 hl (by decide) rfl (fun ls hl => ?_)
        refine lv_iload X.1 X.2.1 dX12_choose_100 (lv_at hl 4 rfl) ?_
        refine lv_if_eq (tgt := 109) X.1 X.2.1 dX12_choose_102 (by decide) (fun c8003 => ?_) (fun c8003 => ?_)
        · have hw := hw.1 c8003
          refine lv_lload_n X.1 X.2.1 dX12_choose_109 rfl (lv_at hl 1 rfl) ?_
          refine lv_lload X.1 X.2.1 dX12_choose_110 (lv_at hl 0 rfl) ?_
          refine lv_lor X.1 X.2.1 dX12_choose_112 ?_
          exact j113 xn3 xn4 xn5 xn6 (wt0 ||| z8002) T8001 H locs ls (lv_sub hl [2, 3, 4, 5, 6] rfl) h hle f_a0 hw
        · have hw := hw.2 c8003
          refine lv_lload_n X.1 X.2.1 dX12_choose_105 rfl (lv_at hl 1 rfl) ?_
          refine lv_goto (tgt := 113) X.1 X.2.1 dX12_choose_106 (by decide) ?_
          exact j113 xn3 xn4 xn5 xn6 wt0 T8001 H locs ls (lv_sub hl [2, 3, 4, 5, 6] rfl) h hle f_a0 hw
      intro wn1 xn3 xn4 Sn H locs ls hl h hle f_a0 hw
      unfold wX12_choose_L47 at hw
      refine lv_aload_n X.1 X.2.1 dX12_choose_47 rfl (lv_at hl 0 rfl) ?_
      refine lv_bipush (v := 48) X.1 X.2.1 dX12_choose_48 (by decide) ?_
      refine kp_calli X h (kp_runV (rm := { frames := 1, cells := 0, slots := 0, locals := 21 }) (mc := 0) (ms := 0) (rest := []) (Qc := fun A => kp_Qi D cy A Sn _) X h (c_X12_skip l D cy ad Sn a0 48 _ h.2.2.2 f_a0 hw) f_a0 cv_12_440 ⟨by dsimp only; omega, by dsimp only; omega, rfl, rfl, by dsimp only; omega, by dsimp only; omega⟩ rfl hl.1 rfl (Nat.le_of_ble_eq_true rfl) dX12_choose_50) (fun y9002 T9001 hw l_T9001 H locs h => ?_)
      have f_a0 := l_T9001.is f_a0
      have hle := hle.tr l_T9001
      refine lv_if_eq (tgt := 154) X.1 X.2.1 dX12_choose_53 (by decide) (fun c9021 => ?_) (fun c9021 => ?_)
      · have hw := hw.1 c9021
        refine lv_aload_n X.1 X.2.1 dX12_choose_154 rfl (lv_at hl 0 rfl) ?_
        refine lv_iconst (v := 4) X.1 X.2.1 dX12_choose_155 (by decide) ?_
        refine lv_iconst (v := 0) X.1 X.2.1 dX12_choose_156 (by decide) ?_
        refine lv_iconst (v := 0) X.1 X.2.1 dX12_choose_157 (by decide) ?_
        refine kp_calli X h (kp_runV (rm := { frames := 0, cells := 0, slots := 0, locals := 0 }) (mc := 0) (ms := 0) (rest := []) (Qc := fun A => kp_Qi D cy A T9001 _) X h (c_X12_emit l D cy ad T9001 a0 4 0 0 _ h.2.2.2 f_a0 hw) f_a0 cv_12_451 ⟨by dsimp only; omega, by dsimp only; omega, rfl, rfl, by dsimp only; omega, by dsimp only; omega⟩ rfl hl.1 rfl (Nat.le_of_ble_eq_true rfl) dX12_choose_158) (fun y9004 T9003 hw l_T9003 H locs h => ?_)
        have f_a0 := l_T9003.is f_a0
        have hle := hle.tr l_T9003
        refine lv_pop X.1 X.2.1 dX12_choose_161 rfl ?_
        refine lv_aload_n X.1 X.2.1 dX12_choose_162 rfl (lv_at hl 0 rfl) ?_
        refine lv_bipush (v := 49) X.1 X.2.1 dX12_choose_163 (by decide) ?_
        refine kp_calli X h (kp_runV (rm := { frames := 1, cells := 0, slots := 0, locals := 21 }) (mc := 0) (ms := 0) (rest := []) (Qc := fun A => kp_Qi D cy A T9003 _) X h (c_X12_skip l D cy ad T9003 a0 49 _ h.2.2.2 f_a0 hw) f_a0 cv_12_440 ⟨by dsimp only; omega, by dsimp only; omega, rfl, rfl, by dsimp only; omega, by dsimp only; omega⟩ rfl hl.1 rfl (Nat.le_of_ble_eq_true rfl) dX12_choose_165) (fun y9006 T9005 hw l_T9005 H locs h => ?_)
        have f_a0 := l_T9005.is f_a0
        have hle := hle.tr l_T9005
        refine lv_if_eq (tgt := 194) X.1 X.2.1 dX12_choose_168 (by decide) (fun c9012 => ?_) (fun c9012 => ?_)
        · have hw := hw.1 c9012
          refine lv_iload X.1 X.2.1 dX12_choose_194 (lv_at hl 3 rfl) ?_
          refine lv_if_ne (tgt := 203) X.1 X.2.1 dX12_choose_196 (by decide) (fun c9008 => ?_) (fun c9008 => ?_)
          · have hw := hw.1 c9008
            exact j203 wn1 xn3 T9005 H locs ls (lv_sub hl [0, 1, 2] rfl) h hle f_a0 hw
          · have hw := hw.2 c9008
            refine lv_lload_n X.1 X.2.1 dX12_choose_199 rfl (lv_at hl 1 rfl) ?_
            refine lv_lconst (v := 1) X.1 X.2.1 dX12_choose_200 (by decide) ?_
            refine lv_lor X.1 X.2.1 dX12_choose_201 ?_
            refine lv_topl (fun z9007 e_z9007 => ?_)
            have hw := hw z9007 e_z9007
            refine lv_lstore_n (lv' := [(1, .long z9007), (0, .ref a0), (3, .int xn3), (4, .int xn4)]) X.1 X.2.1 dX12_choose_202 rfl hl (by decide) rfl (fun ls hl => ?_)
            exact j203 z9007 xn3 T9005 H locs ls (lv_sub hl [1, 0, 2] rfl) h hle f_a0 hw
        · have hw := hw.2 c9012
          refine lv_aload_n X.1 X.2.1 dX12_choose_171 rfl (lv_at hl 0 rfl) ?_
          refine kp_calll X h (kp_runV (rm := { frames := F, cells := 0, slots := 0, locals := L }) (mc := 0) (ms := 0) (rest := []) (Qc := fun A => kp_Ql D cy A T9005 _) X h (hB T9005 a0 _ h.2.2.2 f_a0 hw) f_a0 cv_12_447 ⟨by dsimp only; omega, by dsimp only; omega, rfl, rfl, by dsimp only; omega, by dsimp only; omega⟩ rfl hl.1 rfl (Nat.le_of_ble_eq_true rfl) dX12_choose_172) (fun z9010 T9009 hw l_T9009 H locs h => ?_)
          have f_a0 := l_T9009.is f_a0
          have hle := hle.tr l_T9009
          refine lv_lstore (lv' := [(5, .long z9010), (0, .ref a0), (1, .long wn1), (3, .int xn3), (4, .int xn4)]) X.1 X.2.1 dX12_choose_175 hl (by decide) rfl (fun ls hl => ?_)
          refine lv_iload X.1 X.2.1 dX12_choose_177 (lv_at hl 4 rfl) ?_
          refine lv_if_eq (tgt := 186) X.1 X.2.1 dX12_choose_179 (by decide) (fun c9011 => ?_) (fun c9011 => ?_)
          · have hw := hw.1 c9011
            refine lv_lload_n X.1 X.2.1 dX12_choose_186 rfl (lv_at hl 2 rfl) ?_
            refine lv_lload X.1 X.2.1 dX12_choose_187 (lv_at hl 0 rfl) ?_
            refine lv_lor X.1 X.2.1 dX12_choose_189 ?_
            exact j190 xn3 (wn1 ||| z9010) T9009 H locs ls (lv_sub hl [1, 3] rfl) h hle f_a0 hw
          · have hw := hw.2 c9011
            refine lv_lload_n X.1 X.2.1 dX12_choose_182 rfl (lv_at hl 2 rfl) ?_
            refine lv_goto (tgt := 190) X.1 X.2.1 dX12_choose_183 (by decide) ?_
            exact j190 xn3 wn1 T9009 H locs ls (lv_sub hl [1, 3] rfl) h hle f_a0 hw
      · have hw := hw.2 c9021
        refine lv_aload_n X.1 X.2.1 dX12_choose_56 rfl (lv_at hl 0 rfl) ?_
        refine lv_bipush (v := 26) X.1 X.2.1 dX12_choose_57 (by decide) ?_
        refine kp_calli X h (kp_runV (rm := { frames := 0, cells := 0, slots := 0, locals := 0 }) (mc := 0) (ms := 0) (rest := []) (Qc := fun A => kp_Qi D cy A T9001 _) X h (c_X12_is l D cy ad T9001 a0 26 _ h.2.2.2 f_a0 hw) f_a0 cv_12_379 ⟨by dsimp only; omega, by dsimp only; omega, rfl, rfl, by dsimp only; omega, by dsimp only; omega⟩ rfl hl.1 rfl (Nat.le_of_ble_eq_true rfl) dX12_choose_59) (fun y9014 T9013 hw l_T9013 H locs h => ?_)
        have f_a0 := l_T9013.is f_a0
        have hle := hle.tr l_T9013
        refine lv_istore (lv' := [(5, .int y9014), (0, .ref a0), (1, .long wn1), (3, .int xn3), (4, .int xn4)]) X.1 X.2.1 dX12_choose_62 hl (by decide) rfl (fun ls hl => ?_)
        refine lv_aload_n X.1 X.2.1 dX12_choose_64 rfl (lv_at hl 1 rfl) ?_
        refine lv_iconst (v := 0) X.1 X.2.1 dX12_choose_65 (by decide) ?_
        refine kp_putI X h f_a0 fp_12_471 rfl ⟨by decide, by decide⟩ dX12_choose_66 (fun T9015 e_T9015 l_T9015 H locs h => ?_)
        have hw := hw T9015 e_T9015
        have f_a0 := l_T9015.is f_a0
        have hle := hle.tr l_T9015
        refine lv_aload_n X.1 X.2.1 dX12_choose_69 rfl (lv_at hl 1 rfl) ?_
        refine lv_bipush (v := 59) X.1 X.2.1 dX12_choose_70 (by decide) ?_
        refine lv_bipush (v := 58) X.1 X.2.1 dX12_choose_72 (by decide) ?_
        refine kp_calli X h (kp_runV (rm := { frames := 150, cells := 0, slots := 0, locals := 3185 }) (mc := 0) (ms := 0) (rest := []) (Qc := fun A => kp_Qi D cy A T9015 _) X h (c_X12_list l D cy ad T9015 a0 59 58 _ h.2.2.2 f_a0 hw) f_a0 cv_12_526 ⟨by dsimp only; omega, by dsimp only; omega, rfl, rfl, by dsimp only; omega, by dsimp only; omega⟩ rfl hl.1 rfl (Nat.le_of_ble_eq_true rfl) dX12_choose_74) (fun y9017 T9016 hw l_T9016 H locs h => ?_)
        have f_a0 := l_T9016.is f_a0
        have hle := hle.tr l_T9016
        refine lv_istore (lv' := [(6, .int y9017), (5, .int y9014), (0, .ref a0), (1, .long wn1), (3, .int xn3), (4, .int xn4)]) X.1 X.2.1 dX12_choose_77 hl (by decide) rfl (fun ls hl => ?_)
        refine lv_iload X.1 X.2.1 dX12_choose_79 (lv_at hl 5 rfl) ?_
        refine lv_if_eq (tgt := 88) X.1 X.2.1 dX12_choose_81 (by decide) (fun c9020 => ?_) (fun c9020 => ?_)
        · have hw := hw.1 c9020
          refine lv_aload_n X.1 X.2.1 dX12_choose_88 rfl (lv_at hl 2 rfl) ?_
          refine lv_lload_n X.1 X.2.1 dX12_choose_89 rfl (lv_at hl 3 rfl) ?_
          refine kp_calll X h (kp_runV (rm := { frames := 0, cells := 0, slots := 0, locals := 0 }) (mc := 0) (ms := 0) (rest := []) (Qc := fun A => kp_Ql D cy A T9016 _) X h (c_X12_risky l D cy ad T9016 a0 wn1 _ h.2.2.2 f_a0 hw) f_a0 cv_12_483 ⟨by dsimp only; omega, by dsimp only; omega, rfl, rfl, by dsimp only; omega, by dsimp only; omega⟩ rfl hl.1 rfl (Nat.le_of_ble_eq_true rfl) dX12_choose_90) (fun z9019 T9018 hw l_T9018 H locs h => ?_)
          have f_a0 := l_T9018.is f_a0
          have hle := hle.tr l_T9018
          exact j93 xn3 xn4 y9014 y9017 z9019 T9018 H locs ls (lv_sub hl [2, 4, 5, 1, 0] rfl) h hle f_a0 hw
        · have hw := hw.2 c9020
          refine lv_lload_n X.1 X.2.1 dX12_choose_84 rfl (lv_at hl 3 rfl) ?_
          refine lv_goto (tgt := 93) X.1 X.2.1 dX12_choose_85 (by decide) ?_
          exact j93 xn3 xn4 y9014 y9017 wn1 T9016 H locs ls (lv_sub hl [2, 4, 5, 1, 0] rfl) h hle f_a0 hw
  unfold wX12_choose at hw
  have h : kp_H D cy A S s.heap s.heap [] := h
  revert h
  intro h
  refine lv_aload_n X.1 X.2.1 dX12_choose_0 rfl (lv_at hl 0 rfl) ?_
  refine lv_dup X.1 X.2.1 dX12_choose_1 rfl ?_
  refine kp_get X h f_a0 fp_12_376.l (v := .int (kp_I S 2410 a0)) rfl dX12_choose_2 ?_
  refine lv_iconst (v := 1) X.1 X.2.1 dX12_choose_5 (by decide) ?_
  refine lv_iadd X.1 X.2.1 dX12_choose_6 ?_
  refine kp_putI X h f_a0 fp_12_376 rfl ⟨rfl, rfl⟩ dX12_choose_7 (fun T1 e_T1 l_T1 H locs h => ?_)
  have hw := hw T1 e_T1
  have f_a0 := l_T1.is f_a0
  have hle := hle.tr l_T1
  refine lv_aload_n X.1 X.2.1 dX12_choose_10 rfl (lv_at hl 0 rfl) ?_
  refine kp_callv X h (kp_runV (rm := { frames := 149, cells := 0, slots := 0, locals := 3164 }) (mc := 0) (ms := 0) (rest := []) (Qc := fun A => kp_Qv D cy A T1 _) X h (c_X12_expression_t l D cy ad T1 a0 _ h.2.2.2 f_a0 hw) f_a0 cv_12_520 ⟨by dsimp only; omega, by dsimp only; omega, rfl, rfl, by dsimp only; omega, by dsimp only; omega⟩ rfl hl.1 rfl (Nat.le_of_ble_eq_true rfl) dX12_choose_11) (fun T2 hw l_T2 H locs h => ?_)
  have f_a0 := l_T2.is f_a0
  have hle := hle.tr l_T2
  refine lv_aload_n X.1 X.2.1 dX12_choose_14 rfl (lv_at hl 0 rfl) ?_
  refine lv_lconst (v := 0) X.1 X.2.1 dX12_choose_15 (by decide) ?_
  refine kp_calll X h (kp_runV (rm := { frames := 0, cells := 0, slots := 0, locals := 0 }) (mc := 0) (ms := 0) (rest := []) (Qc := fun A => kp_Ql D cy A T2 _) X h (c_X12_risky l D cy ad T2 a0 0 _ h.2.2.2 f_a0 hw) f_a0 cv_12_483 ⟨by dsimp only; omega, by dsimp only; omega, rfl, rfl, by dsimp only; omega, by dsimp only; omega⟩ rfl hl.1 rfl (Nat.le_of_ble_eq_true rfl) dX12_choose_16) (fun z4 T3 hw l_T3 H locs h => ?_)
  have f_a0 := l_T3.is f_a0
  have hle := hle.tr l_T3
  refine lv_lstore_n (lv' := [(1, .long z4), (0, .ref a0)]) X.1 X.2.1 dX12_choose_19 rfl hl (by decide) rfl (fun ls hl => ?_)
  refine lv_aload_n X.1 X.2.1 dX12_choose_20 rfl (lv_at hl 1 rfl) ?_
  refine lv_bipush (v := 123) X.1 X.2.1 dX12_choose_21 (by decide) ?_
  refine kp_calli X h (kp_runV (rm := { frames := 1, cells := 0, slots := 0, locals := 21 }) (mc := 0) (ms := 0) (rest := []) (Qc := fun A => kp_Qi D cy A T3 _) X h (c_X12_isSign l D cy ad T3 a0 123 _ h.2.2.2 f_a0 hw) f_a0 cv_12_433 ⟨by dsimp only; omega, by dsimp only; omega, rfl, rfl, by dsimp only; omega, by dsimp only; omega⟩ rfl hl.1 rfl (Nat.le_of_ble_eq_true rfl) dX12_choose_23) (fun y6 T5 hw l_T5 H locs h => ?_)
  have f_a0 := l_T5.is f_a0
  have hle := hle.tr l_T5
  refine lv_if_ne (tgt := 35) X.1 X.2.1 dX12_choose_26 (by decide) (fun c10 => ?_) (fun c10 => ?_)
  · have hw := hw.1 c10
    refine lv_aload_n X.1 X.2.1 dX12_choose_35 rfl (lv_at hl 1 rfl) ?_
    refine kp_callv X h (kp_runV (rm := { frames := 0, cells := 0, slots := 0, locals := 0 }) (mc := 0) (ms := 0) (rest := []) (Qc := fun A => kp_Qv D cy A T5 _) X h (c_X12_nest l D cy ad T5 a0 _ h.2.2.2 f_a0 hw) f_a0 cv_12_463 ⟨by dsimp only; omega, by dsimp only; omega, rfl, rfl, by dsimp only; omega, by dsimp only; omega⟩ rfl hl.1 rfl (Nat.le_of_ble_eq_true rfl) dX12_choose_36) (fun T7 hw l_T7 H locs h => ?_)
    have f_a0 := l_T7.is f_a0
    have hle := hle.tr l_T7
    refine lv_aload_n X.1 X.2.1 dX12_choose_39 rfl (lv_at hl 1 rfl) ?_
    refine kp_get X h f_a0 fp_12_370.l (v := .int (kp_I T7 2417 a0)) rfl dX12_choose_40 ?_
    refine lv_topi (fun y8 e_y8 => ?_)
    have hw := hw y8 e_y8
    refine lv_istore_n (lv' := [(3, .int y8), (1, .long z4), (0, .ref a0)]) X.1 X.2.1 dX12_choose_43 rfl hl (by decide) rfl (fun ls hl => ?_)
    refine lv_iconst (v := 0) X.1 X.2.1 dX12_choose_44 (by decide) ?_
    refine lv_istore (lv' := [(4, .int 0), (3, .int y8), (1, .long z4), (0, .ref a0)]) X.1 X.2.1 dX12_choose_45 hl (by decide) rfl (fun ls hl => ?_)
    obtain ⟨n0, hw⟩ := hw
    exact L47 n0 z4 y8 0 T7 _ _ ls (lv_sub hl [3, 2, 1, 0] rfl) h hle f_a0 hw
  · have hw := hw.2 c10
    refine lv_aload_n X.1 X.2.1 dX12_choose_29 rfl (lv_at hl 1 rfl) ?_
    refine kp_callv X h (kp_runV (rm := { frames := 0, cells := 0, slots := 0, locals := 0 }) (mc := 0) (ms := 0) (rest := []) (Qc := fun A => kp_Qv D cy A T5 _) X h (c_X12_wrong l D cy ad T5 a0 _ h.2.2.2 f_a0 hw) f_a0 cv_12_382 ⟨by dsimp only; omega, by dsimp only; omega, rfl, rfl, by dsimp only; omega, by dsimp only; omega⟩ rfl hl.1 rfl (Nat.le_of_ble_eq_true rfl) dX12_choose_30) (fun T9 hw l_T9 H locs h => ?_)
    have f_a0 := l_T9.is f_a0
    have hle := hle.tr l_T9
    refine lv_lconst (v := 0) X.1 X.2.1 dX12_choose_33 (by decide) ?_
    exact kp_retl X hr hlocks h hle hw dX12_choose_34
theorem dX12_named_0 : decode cX12_named 0 = .ok (.aload_n 0, 1) := by decide +kernel
theorem dX12_named_1 : decode cX12_named 1 = .ok (.dup, 1) := by decide +kernel
theorem dX12_named_2 : decode cX12_named 2 = .ok (.getfield 376, 3) := by decide +kernel
theorem dX12_named_5 : decode cX12_named 5 = .ok (.iconst 1, 1) := by decide +kernel
theorem dX12_named_6 : decode cX12_named 6 = .ok (.iadd, 1) := by decide +kernel
theorem dX12_named_7 : decode cX12_named 7 = .ok (.putfield 376, 3) := by decide +kernel
theorem dX12_named_10 : decode cX12_named 10 = .ok (.aload_n 0, 1) := by decide +kernel
theorem dX12_named_11 : decode cX12_named 11 = .ok (.bipush 40, 2) := by decide +kernel
theorem dX12_named_13 : decode cX12_named 13 = .ok (.invokevirtual 433, 3) := by decide +kernel
theorem dX12_named_16 : decode cX12_named 16 = .ok (.ifCond .eq 26, 3) := by decide +kernel
theorem dX12_named_19 : decode cX12_named 19 = .ok (.aload_n 0, 1) := by decide +kernel
theorem dX12_named_20 : decode cX12_named 20 = .ok (.iload_n 1, 1) := by decide +kernel
theorem dX12_named_21 : decode cX12_named 21 = .ok (.invokevirtual 532, 3) := by decide +kernel
theorem dX12_named_24 : decode cX12_named 24 = .ok (.aload_n 0, 1) := by decide +kernel
theorem dX12_named_25 : decode cX12_named 25 = .ok (.bipush 59, 2) := by decide +kernel
theorem dX12_named_27 : decode cX12_named 27 = .ok (.invokevirtual 429, 3) := by decide +kernel
theorem dX12_named_30 : decode cX12_named 30 = .ok (.aload_n 0, 1) := by decide +kernel
theorem dX12_named_31 : decode cX12_named 31 = .ok (.iconst 4, 1) := by decide +kernel
theorem dX12_named_32 : decode cX12_named 32 = .ok (.iconst 0, 1) := by decide +kernel
theorem dX12_named_33 : decode cX12_named 33 = .ok (.iconst 0, 1) := by decide +kernel
theorem dX12_named_34 : decode cX12_named 34 = .ok (.invokevirtual 451, 3) := by decide +kernel
theorem dX12_named_37 : decode cX12_named 37 = .ok (.pop, 1) := by decide +kernel
theorem dX12_named_38 : decode cX12_named 38 = .ok (.ldc2_w 487, 3) := by decide +kernel
theorem dX12_named_41 : decode cX12_named 41 = .ok (.lreturn, 1) := by decide +kernel
theorem dX12_named_42 : decode cX12_named 42 = .ok (.aload_n 0, 1) := by decide +kernel
theorem dX12_named_43 : decode cX12_named 43 = .ok (.sipush 158, 3) := by decide +kernel
theorem dX12_named_46 : decode cX12_named 46 = .ok (.invokevirtual 440, 3) := by decide +kernel
theorem dX12_named_49 : decode cX12_named 49 = .ok (.ifCond .eq 89, 3) := by decide +kernel
theorem dX12_named_52 : decode cX12_named 52 = .ok (.aload_n 0, 1) := by decide +kernel
theorem dX12_named_53 : decode cX12_named 53 = .ok (.getfield 426, 3) := by decide +kernel
theorem dX12_named_56 : decode cX12_named 56 = .ok (.istore_n 2, 1) := by decide +kernel
theorem dX12_named_57 : decode cX12_named 57 = .ok (.iload_n 2, 1) := by decide +kernel
theorem dX12_named_58 : decode cX12_named 58 = .ok (.aload_n 0, 1) := by decide +kernel
theorem dX12_named_59 : decode cX12_named 59 = .ok (.getfield 423, 3) := by decide +kernel
theorem dX12_named_62 : decode cX12_named 62 = .ok (.if_icmp .ge 31, 3) := by decide +kernel
theorem dX12_named_65 : decode cX12_named 65 = .ok (.aload_n 0, 1) := by decide +kernel
theorem dX12_named_66 : decode cX12_named 66 = .ok (.getfield 106, 3) := by decide +kernel
theorem dX12_named_69 : decode cX12_named 69 = .ok (.iload_n 2, 1) := by decide +kernel
theorem dX12_named_70 : decode cX12_named 70 = .ok (.laload, 1) := by decide +kernel
theorem dX12_named_71 : decode cX12_named 71 = .ok (.aload_n 0, 1) := by decide +kernel
theorem dX12_named_72 : decode cX12_named 72 = .ok (.getfield 37, 3) := by decide +kernel
theorem dX12_named_75 : decode cX12_named 75 = .ok (.iload_n 1, 1) := by decide +kernel
theorem dX12_named_76 : decode cX12_named 76 = .ok (.laload, 1) := by decide +kernel
theorem dX12_named_77 : decode cX12_named 77 = .ok (.lcmp, 1) := by decide +kernel
theorem dX12_named_78 : decode cX12_named 78 = .ok (.ifCond .ne 9, 3) := by decide +kernel
theorem dX12_named_81 : decode cX12_named 81 = .ok (.aload_n 0, 1) := by decide +kernel
theorem dX12_named_82 : decode cX12_named 82 = .ok (.iconst 4, 1) := by decide +kernel
theorem dX12_named_83 : decode cX12_named 83 = .ok (.iload_n 1, 1) := by decide +kernel
theorem dX12_named_84 : decode cX12_named 84 = .ok (.invokevirtual 419, 3) := by decide +kernel
theorem dX12_named_87 : decode cX12_named 87 = .ok (.iinc 2 1, 3) := by decide +kernel
theorem dX12_named_90 : decode cX12_named 90 = .ok (.goto (-33), 3) := by decide +kernel
theorem dX12_named_93 : decode cX12_named 93 = .ok (.aload_n 0, 1) := by decide +kernel
theorem dX12_named_94 : decode cX12_named 94 = .ok (.bipush 15, 2) := by decide +kernel
theorem dX12_named_96 : decode cX12_named 96 = .ok (.invokevirtual 379, 3) := by decide +kernel
theorem dX12_named_99 : decode cX12_named 99 = .ok (.ifCond .ne 21, 3) := by decide +kernel
theorem dX12_named_102 : decode cX12_named 102 = .ok (.aload_n 0, 1) := by decide +kernel
theorem dX12_named_103 : decode cX12_named 103 = .ok (.bipush 16, 2) := by decide +kernel
theorem dX12_named_105 : decode cX12_named 105 = .ok (.invokevirtual 379, 3) := by decide +kernel
theorem dX12_named_108 : decode cX12_named 108 = .ok (.ifCond .ne 12, 3) := by decide +kernel
theorem dX12_named_111 : decode cX12_named 111 = .ok (.aload_n 0, 1) := by decide +kernel
theorem dX12_named_112 : decode cX12_named 112 = .ok (.bipush 45, 2) := by decide +kernel
theorem dX12_named_114 : decode cX12_named 114 = .ok (.invokevirtual 379, 3) := by decide +kernel
theorem dX12_named_117 : decode cX12_named 117 = .ok (.ifCond .eq 15, 3) := by decide +kernel
theorem dX12_named_120 : decode cX12_named 120 = .ok (.aload_n 0, 1) := by decide +kernel
theorem dX12_named_121 : decode cX12_named 121 = .ok (.iload_n 1, 1) := by decide +kernel
theorem dX12_named_122 : decode cX12_named 122 = .ok (.aload_n 0, 1) := by decide +kernel
theorem dX12_named_123 : decode cX12_named 123 = .ok (.getfield 37, 3) := by decide +kernel
theorem dX12_named_126 : decode cX12_named 126 = .ok (.iload_n 1, 1) := by decide +kernel
theorem dX12_named_127 : decode cX12_named 127 = .ok (.laload, 1) := by decide +kernel
theorem dX12_named_128 : decode cX12_named 128 = .ok (.invokevirtual 494, 3) := by decide +kernel
theorem dX12_named_131 : decode cX12_named 131 = .ok (.lreturn, 1) := by decide +kernel
theorem dX12_named_132 : decode cX12_named 132 = .ok (.aload_n 0, 1) := by decide +kernel
theorem dX12_named_133 : decode cX12_named 133 = .ok (.invokevirtual 382, 3) := by decide +kernel
theorem dX12_named_136 : decode cX12_named 136 = .ok (.lconst 0, 1) := by decide +kernel
theorem dX12_named_137 : decode cX12_named 137 = .ok (.lreturn, 1) := by decide +kernel
theorem dX12_named_138 : decode cX12_named 138 = .ok (.aload_n 0, 1) := by decide +kernel
theorem dX12_named_139 : decode cX12_named 139 = .ok (.bipush 61, 2) := by decide +kernel
theorem dX12_named_141 : decode cX12_named 141 = .ok (.invokevirtual 429, 3) := by decide +kernel
theorem dX12_named_144 : decode cX12_named 144 = .ok (.aload_n 0, 1) := by decide +kernel
theorem dX12_named_145 : decode cX12_named 145 = .ok (.invokevirtual 408, 3) := by decide +kernel
theorem dX12_named_148 : decode cX12_named 148 = .ok (.ifCond .eq 23, 3) := by decide +kernel
theorem dX12_named_151 : decode cX12_named 151 = .ok (.aload_n 0, 1) := by decide +kernel
theorem dX12_named_152 : decode cX12_named 152 = .ok (.aload_n 0, 1) := by decide +kernel
theorem dX12_named_153 : decode cX12_named 153 = .ok (.getfield 37, 3) := by decide +kernel
theorem dX12_named_156 : decode cX12_named 156 = .ok (.iload_n 1, 1) := by decide +kernel
theorem dX12_named_157 : decode cX12_named 157 = .ok (.laload, 1) := by decide +kernel
theorem dX12_named_158 : decode cX12_named 158 = .ok (.invokevirtual 457, 3) := by decide +kernel
theorem dX12_named_161 : decode cX12_named 161 = .ok (.iconst (-1), 1) := by decide +kernel
theorem dX12_named_162 : decode cX12_named 162 = .ok (.if_icmp .ne 9, 3) := by decide +kernel
theorem dX12_named_165 : decode cX12_named 165 = .ok (.aload_n 0, 1) := by decide +kernel
theorem dX12_named_166 : decode cX12_named 166 = .ok (.iconst 5, 1) := by decide +kernel
theorem dX12_named_167 : decode cX12_named 167 = .ok (.iload_n 1, 1) := by decide +kernel
theorem dX12_named_168 : decode cX12_named 168 = .ok (.invokevirtual 419, 3) := by decide +kernel
theorem dX12_named_171 : decode cX12_named 171 = .ok (.aload_n 0, 1) := by decide +kernel
theorem dX12_named_172 : decode cX12_named 172 = .ok (.invokevirtual 520, 3) := by decide +kernel
theorem dX12_named_175 : decode cX12_named 175 = .ok (.aload_n 0, 1) := by decide +kernel
theorem dX12_named_176 : decode cX12_named 176 = .ok (.bipush 59, 2) := by decide +kernel
theorem dX12_named_178 : decode cX12_named 178 = .ok (.invokevirtual 429, 3) := by decide +kernel
theorem dX12_named_181 : decode cX12_named 181 = .ok (.aload_n 0, 1) := by decide +kernel
theorem dX12_named_182 : decode cX12_named 182 = .ok (.iconst 3, 1) := by decide +kernel
theorem dX12_named_183 : decode cX12_named 183 = .ok (.aload_n 0, 1) := by decide +kernel
theorem dX12_named_184 : decode cX12_named 184 = .ok (.aload_n 0, 1) := by decide +kernel
theorem dX12_named_185 : decode cX12_named 185 = .ok (.getfield 37, 3) := by decide +kernel
theorem dX12_named_188 : decode cX12_named 188 = .ok (.iload_n 1, 1) := by decide +kernel
theorem dX12_named_189 : decode cX12_named 189 = .ok (.laload, 1) := by decide +kernel
theorem dX12_named_190 : decode cX12_named 190 = .ok (.invokevirtual 457, 3) := by decide +kernel
theorem dX12_named_193 : decode cX12_named 193 = .ok (.iconst 0, 1) := by decide +kernel
theorem dX12_named_194 : decode cX12_named 194 = .ok (.invokevirtual 451, 3) := by decide +kernel
theorem dX12_named_197 : decode cX12_named 197 = .ok (.pop, 1) := by decide +kernel
theorem dX12_named_198 : decode cX12_named 198 = .ok (.aload_n 0, 1) := by decide +kernel
theorem dX12_named_199 : decode cX12_named 199 = .ok (.lconst 1, 1) := by decide +kernel
theorem dX12_named_200 : decode cX12_named 200 = .ok (.invokevirtual 483, 3) := by decide +kernel
theorem dX12_named_203 : decode cX12_named 203 = .ok (.lreturn, 1) := by decide +kernel
def wX12_named_b171 (B : Nat → kp_S → (Int64 → kp_S → Prop) → Prop) (a0 : Nat) (x1 : Int32)  (Sn : kp_S) (post : Int64 → kp_S → Prop) : Prop :=
  wX12_expression_t a0 Sn (fun T1001 =>
  wX12_takeSign a0 59 T1001 (fun T1002 =>
  ∃ b1003 : Nat, kp_R T1002 2406 a0 = some b1003 ∧
  vp_in x1 (kp_N T1002 b1003) ∧
  wX12_known a0 (kp_B T1002 b1003 x1.toNatClampNeg) T1002 (fun y1005 T1004 =>
  wX12_emit a0 3 y1005 0 T1004 (fun y1007 T1006 =>
  wX12_risky a0 1 T1006 (fun z1009 T1008 =>
  post z1009 T1008)))))
def wX12_named_b120 (B : Nat → kp_S → (Int64 → kp_S → Prop) → Prop) (a0 : Nat) (x1 : Int32)  (Sn : kp_S) (post : Int64 → kp_S → Prop) : Prop :=
  ∃ b2001 : Nat, kp_R Sn 2406 a0 = some b2001 ∧
  vp_in x1 (kp_N Sn b2001) ∧
  wX12_loop B a0 x1 (kp_B Sn b2001 x1.toNatClampNeg) Sn (fun z2003 T2002 =>
  post z2003 T2002)
def wX12_named_b87 (B : Nat → kp_S → (Int64 → kp_S → Prop) → Prop) (a0 : Nat) (x1 : Int32) (xn2 : Int32) (K57 : Int32 → kp_S → Prop) (Sn : kp_S) (post : Int64 → kp_S → Prop) : Prop :=
  ∀ y3001 : Int32, y3001 = xn2 + 1 →
  K57 y3001 Sn
def wX12_named_L57 (B : Nat → kp_S → (Int64 → kp_S → Prop) → Prop) (a0 : Nat) (x1 : Int32)  (post : Int64 → kp_S → Prop) : Nat → Int32 → kp_S → Prop
  | 0, _, _ => False
  | n + 1, xn2, Sn =>
  (((kp_I Sn 2445 a0) ≤ xn2 →
  wX12_is a0 15 Sn (fun y4002 T4001 =>
  ((¬ y4002 = 0 →
  wX12_named_b120 B a0 x1   T4001 post) ∧ (y4002 = 0 →
  wX12_is a0 16 T4001 (fun y4004 T4003 =>
  ((¬ y4004 = 0 →
  wX12_named_b120 B a0 x1   T4003 post) ∧ (y4004 = 0 →
  wX12_is a0 45 T4003 (fun y4006 T4005 =>
  ((y4006 = 0 →
  wX12_wrong a0 T4005 (fun T4007 =>
  post 0 T4007)) ∧ (¬ y4006 = 0 →
  wX12_named_b120 B a0 x1   T4005 post)))))))))) ∧ (¬ (kp_I Sn 2445 a0) ≤ xn2 →
  ∃ b4011 : Nat, kp_R Sn 2443 a0 = some b4011 ∧
  vp_in xn2 (kp_N Sn b4011) ∧
  ∃ b4012 : Nat, kp_R Sn 2406 a0 = some b4012 ∧
  vp_in x1 (kp_N Sn b4012) ∧
  ((¬ (lg_cmp (kp_B Sn b4011 xn2.toNatClampNeg) (kp_B Sn b4012 x1.toNatClampNeg)) = 0 →
  wX12_named_b87 B a0 x1 xn2 (fun xn2_ S_ => wX12_named_L57 B a0 x1  post n xn2_ S_) Sn post) ∧ ((lg_cmp (kp_B Sn b4011 xn2.toNatClampNeg) (kp_B Sn b4012 x1.toNatClampNeg)) = 0 →
  wX12_bad a0 4 x1 Sn (fun T4013 =>
  wX12_named_b87 B a0 x1 xn2 (fun xn2_ S_ => wX12_named_L57 B a0 x1  post n xn2_ S_) T4013 post)))))
def wX12_named (B : Nat → kp_S → (Int64 → kp_S → Prop) → Prop) (a0 : Nat) (x1 : Int32) (S : kp_S) (post : Int64 → kp_S → Prop) : Prop :=
  ∀ T1 : kp_S, T1 = kp_sI S 2410 a0 ((kp_I S 2410 a0) + 1) →
  wX12_isSign a0 40 T1 (fun y3 T2 =>
  ((y3 = 0 →
  wX12_skip a0 158 T2 (fun y5 T4 =>
  ((y5 = 0 →
  wX12_takeSign a0 61 T4 (fun T6 =>
  wX12_fine a0 T6 (fun y8 T7 =>
  ((y8 = 0 →
  wX12_named_b171 B a0 x1   T7 post) ∧ (¬ y8 = 0 →
  ∃ b9 : Nat, kp_R T7 2406 a0 = some b9 ∧
  vp_in x1 (kp_N T7 b9) ∧
  wX12_known a0 (kp_B T7 b9 x1.toNatClampNeg) T7 (fun y11 T10 =>
  ((¬ y11 = (-1) →
  wX12_named_b171 B a0 x1   T10 post) ∧ (y11 = (-1) →
  wX12_bad a0 5 x1 T10 (fun T12 =>
  wX12_named_b171 B a0 x1   T12 post))))))))) ∧ (¬ y5 = 0 →
  ∀ y15 : Int32, y15 = (kp_I T4 2446 a0) →
  ∃ n0 : Nat, wX12_named_L57 B a0 x1  post n0 y15 T4)))) ∧ (¬ y3 = 0 →
  wX12_call_t a0 x1 T2 (fun T17 =>
  wX12_takeSign a0 59 T17 (fun T18 =>
  wX12_emit a0 4 0 0 T18 (fun y20 T19 =>
  post 5 T19))))))
set_option maxHeartbeats 4000000 in
set_option maxRecDepth 100000 in
theorem c_X12_named (l : Launch) (D : va_G) (cy : Nat → ClassId) (ad : (Nat → Nat) × (Nat → Nat)) (F L : Nat) (B : Nat → kp_S → (Int64 → kp_S → Prop) → Prop) (hB : ∀ (S : kp_S) (a0 : Nat) (post : Int64 → kp_S → Prop), kp_ok S → kp_is S a0 12 → B a0 S post → kp_M l yX12_block cX12_block 6 (some .long) { frames := F, cells := 0, slots := 0, locals := L } D cy ad S [.ref a0] 0 0 (fun A => kp_Ql D cy A S post)) (hF : 151 ≤ F) (hL : 3211 ≤ L) (S : kp_S) (a0 : Nat) (x1 : Int32) (post : Int64 → kp_S → Prop) (hS : kp_ok S) (f_a0 : kp_is S a0 12) (hw : wX12_named B a0 x1 S post) : kp_M l yX12_named cX12_named 3 (some .long) { frames := F + 3, cells := 0, slots := 0, locals := L + 85 } D cy ad S [.ref a0, .int x1] 0 0 (fun A => kp_Ql D cy A S post) := by
  refine kp_start (own := RX12) (by decide) rfl (Nat.le_of_ble_eq_true rfl) hS ?_
  intro p e s m below meth c A ls X hr hlocks hname h hl
  have hle : kp_le S S := kp_le.rf
  have hl : lv_has ls 3 [(0, .ref a0), (1, .int x1)] := hl
  have j171 : ∀  (Sn : kp_S) (H : Heap) (locs : List Loc) (ls : Array Slot), lv_has ls 3 [(0, .ref a0), (1, .int x1)] → kp_H D cy A Sn s.heap H locs → kp_le S Sn → kp_is Sn a0 12 → wX12_named_b171 B a0 x1   Sn post → W p l e { frames := F + 3, cells := 0, slots := 0, locals := L + 85 } s m ([.ref a0, .int x1] : List Value).toArray below meth c H locs 0 0 (MQ below (kp_Ql D cy A S post) ([.ref a0, .int x1] : List Value).toArray s 0 0 A) (F0 m 171 ls []) := by
    intro  Sn H locs ls hl h hle f_a0 hw
    unfold wX12_named_b171 at hw
    refine lv_aload_n X.1 X.2.1 dX12_named_171 rfl (lv_at hl 0 rfl) ?_
    refine kp_callv X h (kp_runV (rm := { frames := 149, cells := 0, slots := 0, locals := 3164 }) (mc := 0) (ms := 0) (rest := []) (Qc := fun A => kp_Qv D cy A Sn _) X h (c_X12_expression_t l D cy ad Sn a0 _ h.2.2.2 f_a0 hw) f_a0 cv_12_520 ⟨by dsimp only; omega, by dsimp only; omega, rfl, rfl, by dsimp only; omega, by dsimp only; omega⟩ rfl hl.1 rfl (Nat.le_of_ble_eq_true rfl) dX12_named_172) (fun T1001 hw l_T1001 H locs h => ?_)
    have f_a0 := l_T1001.is f_a0
    have hle := hle.tr l_T1001
    refine lv_aload_n X.1 X.2.1 dX12_named_175 rfl (lv_at hl 0 rfl) ?_
    refine lv_bipush (v := 59) X.1 X.2.1 dX12_named_176 (by decide) ?_
    refine kp_callv X h (kp_runV (rm := { frames := 2, cells := 0, slots := 0, locals := 42 }) (mc := 0) (ms := 0) (rest := []) (Qc := fun A => kp_Qv D cy A T1001 _) X h (c_X12_takeSign l D cy ad T1001 a0 59 _ h.2.2.2 f_a0 hw) f_a0 cv_12_429 ⟨by dsimp only; omega, by dsimp only; omega, rfl, rfl, by dsimp only; omega, by dsimp only; omega⟩ rfl hl.1 rfl (Nat.le_of_ble_eq_true rfl) dX12_named_178) (fun T1002 hw l_T1002 H locs h => ?_)
    have f_a0 := l_T1002.is f_a0
    have hle := hle.tr l_T1002
    refine lv_aload_n X.1 X.2.1 dX12_named_181 rfl (lv_at hl 0 rfl) ?_
    refine lv_iconst (v := 3) X.1 X.2.1 dX12_named_182 (by decide) ?_
    refine lv_aload_n X.1 X.2.1 dX12_named_183 rfl (lv_at hl 0 rfl) ?_
    refine lv_aload_n X.1 X.2.1 dX12_named_184 rfl (lv_at hl 0 rfl) ?_
    obtain ⟨b1003, e_b1003, hw⟩ := hw
    have f_b1003 := h.2.2.2.rf (c := 12) (k := 6) f_a0 (by decide) (by decide) e_b1003 (t := 15) rfl
    refine kp_get X h f_a0 ff_12_37.l (v := .ref b1003) (congrArg va_rf e_b1003) dX12_named_185 ?_
    refine lv_iload_n X.1 X.2.1 dX12_named_188 rfl (lv_at hl 1 rfl) ?_
    obtain ⟨hi, hw⟩ := hw
    refine kp_lald X h f_b1003 hi dX12_named_189 ?_
    refine kp_calli X h (kp_runV (rm := { frames := 0, cells := 0, slots := 0, locals := 0 }) (mc := 0) (ms := 0) (rest := [.int 3, .ref a0]) (Qc := fun A => kp_Qi D cy A T1002 _) X h (c_X12_known l D cy ad T1002 a0 (kp_B T1002 b1003 x1.toNatClampNeg) _ h.2.2.2 f_a0 hw) f_a0 cv_12_457 ⟨by dsimp only; omega, by dsimp only; omega, rfl, rfl, by dsimp only; omega, by dsimp only; omega⟩ rfl hl.1 rfl (Nat.le_of_ble_eq_true rfl) dX12_named_190) (fun y1005 T1004 hw l_T1004 H locs h => ?_)
    have f_a0 := l_T1004.is f_a0
    have f_b1003 := l_T1004.is f_b1003
    have hle := hle.tr l_T1004
    refine lv_iconst (v := 0) X.1 X.2.1 dX12_named_193 (by decide) ?_
    refine kp_calli X h (kp_runV (rm := { frames := 0, cells := 0, slots := 0, locals := 0 }) (mc := 0) (ms := 0) (rest := []) (Qc := fun A => kp_Qi D cy A T1004 _) X h (c_X12_emit l D cy ad T1004 a0 3 y1005 0 _ h.2.2.2 f_a0 hw) f_a0 cv_12_451 ⟨by dsimp only; omega, by dsimp only; omega, rfl, rfl, by dsimp only; omega, by dsimp only; omega⟩ rfl hl.1 rfl (Nat.le_of_ble_eq_true rfl) dX12_named_194) (fun y1007 T1006 hw l_T1006 H locs h => ?_)
    have f_a0 := l_T1006.is f_a0
    have f_b1003 := l_T1006.is f_b1003
    have hle := hle.tr l_T1006
    refine lv_pop X.1 X.2.1 dX12_named_197 rfl ?_
    refine lv_aload_n X.1 X.2.1 dX12_named_198 rfl (lv_at hl 0 rfl) ?_
    refine lv_lconst (v := 1) X.1 X.2.1 dX12_named_199 (by decide) ?_
    refine kp_calll X h (kp_runV (rm := { frames := 0, cells := 0, slots := 0, locals := 0 }) (mc := 0) (ms := 0) (rest := []) (Qc := fun A => kp_Ql D cy A T1006 _) X h (c_X12_risky l D cy ad T1006 a0 1 _ h.2.2.2 f_a0 hw) f_a0 cv_12_483 ⟨by dsimp only; omega, by dsimp only; omega, rfl, rfl, by dsimp only; omega, by dsimp only; omega⟩ rfl hl.1 rfl (Nat.le_of_ble_eq_true rfl) dX12_named_200) (fun z1009 T1008 hw l_T1008 H locs h => ?_)
    have f_a0 := l_T1008.is f_a0
    have f_b1003 := l_T1008.is f_b1003
    have hle := hle.tr l_T1008
    exact kp_retl X hr hlocks h hle hw dX12_named_203
  have j120 : ∀  (Sn : kp_S) (H : Heap) (locs : List Loc) (ls : Array Slot), lv_has ls 3 [(0, .ref a0), (1, .int x1)] → kp_H D cy A Sn s.heap H locs → kp_le S Sn → kp_is Sn a0 12 → wX12_named_b120 B a0 x1   Sn post → W p l e { frames := F + 3, cells := 0, slots := 0, locals := L + 85 } s m ([.ref a0, .int x1] : List Value).toArray below meth c H locs 0 0 (MQ below (kp_Ql D cy A S post) ([.ref a0, .int x1] : List Value).toArray s 0 0 A) (F0 m 120 ls []) := by
    intro  Sn H locs ls hl h hle f_a0 hw
    unfold wX12_named_b120 at hw
    refine lv_aload_n X.1 X.2.1 dX12_named_120 rfl (lv_at hl 0 rfl) ?_
    refine lv_iload_n X.1 X.2.1 dX12_named_121 rfl (lv_at hl 1 rfl) ?_
    refine lv_aload_n X.1 X.2.1 dX12_named_122 rfl (lv_at hl 0 rfl) ?_
    obtain ⟨b2001, e_b2001, hw⟩ := hw
    have f_b2001 := h.2.2.2.rf (c := 12) (k := 6) f_a0 (by decide) (by decide) e_b2001 (t := 15) rfl
    refine kp_get X h f_a0 ff_12_37.l (v := .ref b2001) (congrArg va_rf e_b2001) dX12_named_123 ?_
    refine lv_iload_n X.1 X.2.1 dX12_named_126 rfl (lv_at hl 1 rfl) ?_
    obtain ⟨hi, hw⟩ := hw
    refine kp_lald X h f_b2001 hi dX12_named_127 ?_
    refine kp_calll X h (kp_runV (rm := { frames := F + 2, cells := 0, slots := 0, locals := L + 50 }) (mc := 0) (ms := 0) (rest := []) (Qc := fun A => kp_Ql D cy A Sn _) X h (c_X12_loop l D cy ad F L B hB hF hL Sn a0 x1 (kp_B Sn b2001 x1.toNatClampNeg) _ h.2.2.2 f_a0 hw) f_a0 cv_12_494 ⟨by dsimp only; omega, by dsimp only; omega, rfl, rfl, by dsimp only; omega, by dsimp only; omega⟩ rfl hl.1 rfl (Nat.le_of_ble_eq_true rfl) dX12_named_128) (fun z2003 T2002 hw l_T2002 H locs h => ?_)
    have f_a0 := l_T2002.is f_a0
    have f_b2001 := l_T2002.is f_b2001
    have hle := hle.tr l_T2002
    exact kp_retl X hr hlocks h hle hw dX12_named_131
  have L57 : ∀ n57 : Nat, ∀ (xn2 : Int32) (Sn : kp_S) (H : Heap) (locs : List Loc) (ls : Array Slot), lv_has ls 3 [(0, .ref a0), (1, .int x1), (2, .int xn2)] → kp_H D cy A Sn s.heap H locs → kp_le S Sn → kp_is Sn a0 12 → wX12_named_L57 B a0 x1  post n57 xn2 Sn → W p l e { frames := F + 3, cells := 0, slots := 0, locals := L + 85 } s m ([.ref a0, .int x1] : List Value).toArray below meth c H locs 0 0 (MQ below (kp_Ql D cy A S post) ([.ref a0, .int x1] : List Value).toArray s 0 0 A) (F0 m 57 ls []) := by
    intro n57
    induction n57 with
    | zero => intro xn2 Sn H locs ls hl h hle f_a0 hw; exact hw.elim
    | succ n57 ih57 =>
      have j87 : ∀ (xn2 : Int32) (Sn : kp_S) (H : Heap) (locs : List Loc) (ls : Array Slot), lv_has ls 3 [(0, .ref a0), (1, .int x1), (2, .int xn2)] → kp_H D cy A Sn s.heap H locs → kp_le S Sn → kp_is Sn a0 12 → wX12_named_b87 B a0 x1 xn2 (fun xn2_ S_ => wX12_named_L57 B a0 x1  post n57 xn2_ S_) Sn post → W p l e { frames := F + 3, cells := 0, slots := 0, locals := L + 85 } s m ([.ref a0, .int x1] : List Value).toArray below meth c H locs 0 0 (MQ below (kp_Ql D cy A S post) ([.ref a0, .int x1] : List Value).toArray s 0 0 A) (F0 m 87 ls []) := by
        intro xn2 Sn H locs ls hl h hle f_a0 hw
        unfold wX12_named_b87 at hw
        obtain ⟨y3001, e_y3001⟩ : ∃ y : Int32, y = xn2 + 1 := ⟨_, rfl⟩
        have hw := hw y3001 e_y3001
        refine lv_iinc (v := y3001) (lv' := [(2, .int y3001), (0, .ref a0), (1, .int x1)]) X.1 X.2.1 dX12_named_87 hl (k := 2) rfl (by rw [e_y3001]; rfl) (by decide) rfl (fun ls hl => ?_)
        refine lv_goto (tgt := 57) X.1 X.2.1 dX12_named_90 (by decide) ?_
        exact ih57 y3001 Sn H locs ls (lv_sub hl [1, 2, 0] rfl) h hle f_a0 hw
      intro xn2 Sn H locs ls hl h hle f_a0 hw
      unfold wX12_named_L57 at hw
      refine lv_iload_n X.1 X.2.1 dX12_named_57 rfl (lv_at hl 2 rfl) ?_
      refine lv_aload_n X.1 X.2.1 dX12_named_58 rfl (lv_at hl 0 rfl) ?_
      refine kp_get X h f_a0 fp_12_423.l (v := .int (kp_I Sn 2445 a0)) rfl dX12_named_59 ?_
      refine lv_icmp_ge (tgt := 93) X.1 X.2.1 dX12_named_62 (by decide) (fun c4015 => ?_) (fun c4015 => ?_)
      · have hw := hw.1 c4015
        refine lv_aload_n X.1 X.2.1 dX12_named_93 rfl (lv_at hl 0 rfl) ?_
        refine lv_bipush (v := 15) X.1 X.2.1 dX12_named_94 (by decide) ?_
        refine kp_calli X h (kp_runV (rm := { frames := 0, cells := 0, slots := 0, locals := 0 }) (mc := 0) (ms := 0) (rest := []) (Qc := fun A => kp_Qi D cy A Sn _) X h (c_X12_is l D cy ad Sn a0 15 _ h.2.2.2 f_a0 hw) f_a0 cv_12_379 ⟨by dsimp only; omega, by dsimp only; omega, rfl, rfl, by dsimp only; omega, by dsimp only; omega⟩ rfl hl.1 rfl (Nat.le_of_ble_eq_true rfl) dX12_named_96) (fun y4002 T4001 hw l_T4001 H locs h => ?_)
        have f_a0 := l_T4001.is f_a0
        have hle := hle.tr l_T4001
        refine lv_if_ne (tgt := 120) X.1 X.2.1 dX12_named_99 (by decide) (fun c4010 => ?_) (fun c4010 => ?_)
        · have hw := hw.1 c4010
          exact j120  T4001 H locs ls (lv_sub hl [0, 1] rfl) h hle f_a0 hw
        · have hw := hw.2 c4010
          refine lv_aload_n X.1 X.2.1 dX12_named_102 rfl (lv_at hl 0 rfl) ?_
          refine lv_bipush (v := 16) X.1 X.2.1 dX12_named_103 (by decide) ?_
          refine kp_calli X h (kp_runV (rm := { frames := 0, cells := 0, slots := 0, locals := 0 }) (mc := 0) (ms := 0) (rest := []) (Qc := fun A => kp_Qi D cy A T4001 _) X h (c_X12_is l D cy ad T4001 a0 16 _ h.2.2.2 f_a0 hw) f_a0 cv_12_379 ⟨by dsimp only; omega, by dsimp only; omega, rfl, rfl, by dsimp only; omega, by dsimp only; omega⟩ rfl hl.1 rfl (Nat.le_of_ble_eq_true rfl) dX12_named_105) (fun y4004 T4003 hw l_T4003 H locs h => ?_)
          have f_a0 := l_T4003.is f_a0
          have hle := hle.tr l_T4003
          refine lv_if_ne (tgt := 120) X.1 X.2.1 dX12_named_108 (by decide) (fun c4009 => ?_) (fun c4009 => ?_)
          · have hw := hw.1 c4009
            exact j120  T4003 H locs ls (lv_sub hl [0, 1] rfl) h hle f_a0 hw
          · have hw := hw.2 c4009
            refine lv_aload_n X.1 X.2.1 dX12_named_111 rfl (lv_at hl 0 rfl) ?_
            refine lv_bipush (v := 45) X.1 X.2.1 dX12_named_112 (by decide) ?_
            refine kp_calli X h (kp_runV (rm := { frames := 0, cells := 0, slots := 0, locals := 0 }) (mc := 0) (ms := 0) (rest := []) (Qc := fun A => kp_Qi D cy A T4003 _) X h (c_X12_is l D cy ad T4003 a0 45 _ h.2.2.2 f_a0 hw) f_a0 cv_12_379 ⟨by dsimp only; omega, by dsimp only; omega, rfl, rfl, by dsimp only; omega, by dsimp only; omega⟩ rfl hl.1 rfl (Nat.le_of_ble_eq_true rfl) dX12_named_114) (fun y4006 T4005 hw l_T4005 H locs h => ?_)
            have f_a0 := l_T4005.is f_a0
            have hle := hle.tr l_T4005
            refine lv_if_eq (tgt := 132) X.1 X.2.1 dX12_named_117 (by decide) (fun c4008 => ?_) (fun c4008 => ?_)
            · have hw := hw.1 c4008
              refine lv_aload_n X.1 X.2.1 dX12_named_132 rfl (lv_at hl 0 rfl) ?_
              refine kp_callv X h (kp_runV (rm := { frames := 0, cells := 0, slots := 0, locals := 0 }) (mc := 0) (ms := 0) (rest := []) (Qc := fun A => kp_Qv D cy A T4005 _) X h (c_X12_wrong l D cy ad T4005 a0 _ h.2.2.2 f_a0 hw) f_a0 cv_12_382 ⟨by dsimp only; omega, by dsimp only; omega, rfl, rfl, by dsimp only; omega, by dsimp only; omega⟩ rfl hl.1 rfl (Nat.le_of_ble_eq_true rfl) dX12_named_133) (fun T4007 hw l_T4007 H locs h => ?_)
              have f_a0 := l_T4007.is f_a0
              have hle := hle.tr l_T4007
              refine lv_lconst (v := 0) X.1 X.2.1 dX12_named_136 (by decide) ?_
              exact kp_retl X hr hlocks h hle hw dX12_named_137
            · have hw := hw.2 c4008
              exact j120  T4005 H locs ls (lv_sub hl [0, 1] rfl) h hle f_a0 hw
      · have hw := hw.2 c4015
        refine lv_aload_n X.1 X.2.1 dX12_named_65 rfl (lv_at hl 0 rfl) ?_
        obtain ⟨b4011, e_b4011, hw⟩ := hw
        have f_b4011 := h.2.2.2.rf (c := 12) (k := 43) f_a0 (by decide) (by decide) e_b4011 (t := 15) rfl
        refine kp_get X h f_a0 ff_12_106.l (v := .ref b4011) (congrArg va_rf e_b4011) dX12_named_66 ?_
        refine lv_iload_n X.1 X.2.1 dX12_named_69 rfl (lv_at hl 2 rfl) ?_
        obtain ⟨hi, hw⟩ := hw
        refine kp_lald X h f_b4011 hi dX12_named_70 ?_
        refine lv_aload_n X.1 X.2.1 dX12_named_71 rfl (lv_at hl 0 rfl) ?_
        obtain ⟨b4012, e_b4012, hw⟩ := hw
        have f_b4012 := h.2.2.2.rf (c := 12) (k := 6) f_a0 (by decide) (by decide) e_b4012 (t := 15) rfl
        refine kp_get X h f_a0 ff_12_37.l (v := .ref b4012) (congrArg va_rf e_b4012) dX12_named_72 ?_
        refine lv_iload_n X.1 X.2.1 dX12_named_75 rfl (lv_at hl 1 rfl) ?_
        obtain ⟨hi, hw⟩ := hw
        refine kp_lald X h f_b4012 hi dX12_named_76 ?_
        refine W.lcmp X.1 X.2.1 dX12_named_77 ?_
        refine lv_if_ne (tgt := 87) X.1 X.2.1 dX12_named_78 (by decide) (fun c4014 => ?_) (fun c4014 => ?_)
        · have hw := hw.1 c4014
          exact j87 xn2 Sn H locs ls (lv_sub hl [0, 1, 2] rfl) h hle f_a0 hw
        · have hw := hw.2 c4014
          refine lv_aload_n X.1 X.2.1 dX12_named_81 rfl (lv_at hl 0 rfl) ?_
          refine lv_iconst (v := 4) X.1 X.2.1 dX12_named_82 (by decide) ?_
          refine lv_iload_n X.1 X.2.1 dX12_named_83 rfl (lv_at hl 1 rfl) ?_
          refine kp_callv X h (kp_runV (rm := { frames := 0, cells := 0, slots := 0, locals := 0 }) (mc := 0) (ms := 0) (rest := []) (Qc := fun A => kp_Qv D cy A Sn _) X h (c_X12_bad l D cy ad Sn a0 4 x1 _ h.2.2.2 f_a0 hw) f_a0 cv_12_419 ⟨by dsimp only; omega, by dsimp only; omega, rfl, rfl, by dsimp only; omega, by dsimp only; omega⟩ rfl hl.1 rfl (Nat.le_of_ble_eq_true rfl) dX12_named_84) (fun T4013 hw l_T4013 H locs h => ?_)
          have f_a0 := l_T4013.is f_a0
          have f_b4011 := l_T4013.is f_b4011
          have f_b4012 := l_T4013.is f_b4012
          have hle := hle.tr l_T4013
          exact j87 xn2 T4013 H locs ls (lv_sub hl [0, 1, 2] rfl) h hle f_a0 hw
  unfold wX12_named at hw
  have h : kp_H D cy A S s.heap s.heap [] := h
  revert h
  intro h
  refine lv_aload_n X.1 X.2.1 dX12_named_0 rfl (lv_at hl 0 rfl) ?_
  refine lv_dup X.1 X.2.1 dX12_named_1 rfl ?_
  refine kp_get X h f_a0 fp_12_376.l (v := .int (kp_I S 2410 a0)) rfl dX12_named_2 ?_
  refine lv_iconst (v := 1) X.1 X.2.1 dX12_named_5 (by decide) ?_
  refine lv_iadd X.1 X.2.1 dX12_named_6 ?_
  refine kp_putI X h f_a0 fp_12_376 rfl ⟨rfl, rfl⟩ dX12_named_7 (fun T1 e_T1 l_T1 H locs h => ?_)
  have hw := hw T1 e_T1
  have f_a0 := l_T1.is f_a0
  have hle := hle.tr l_T1
  refine lv_aload_n X.1 X.2.1 dX12_named_10 rfl (lv_at hl 0 rfl) ?_
  refine lv_bipush (v := 40) X.1 X.2.1 dX12_named_11 (by decide) ?_
  refine kp_calli X h (kp_runV (rm := { frames := 1, cells := 0, slots := 0, locals := 21 }) (mc := 0) (ms := 0) (rest := []) (Qc := fun A => kp_Qi D cy A T1 _) X h (c_X12_isSign l D cy ad T1 a0 40 _ h.2.2.2 f_a0 hw) f_a0 cv_12_433 ⟨by dsimp only; omega, by dsimp only; omega, rfl, rfl, by dsimp only; omega, by dsimp only; omega⟩ rfl hl.1 rfl (Nat.le_of_ble_eq_true rfl) dX12_named_13) (fun y3 T2 hw l_T2 H locs h => ?_)
  have f_a0 := l_T2.is f_a0
  have hle := hle.tr l_T2
  refine lv_if_eq (tgt := 42) X.1 X.2.1 dX12_named_16 (by decide) (fun c21 => ?_) (fun c21 => ?_)
  · have hw := hw.1 c21
    refine lv_aload_n X.1 X.2.1 dX12_named_42 rfl (lv_at hl 0 rfl) ?_
    refine lv_sipush (v := 158) X.1 X.2.1 dX12_named_43 (by decide) ?_
    refine kp_calli X h (kp_runV (rm := { frames := 1, cells := 0, slots := 0, locals := 21 }) (mc := 0) (ms := 0) (rest := []) (Qc := fun A => kp_Qi D cy A T2 _) X h (c_X12_skip l D cy ad T2 a0 158 _ h.2.2.2 f_a0 hw) f_a0 cv_12_440 ⟨by dsimp only; omega, by dsimp only; omega, rfl, rfl, by dsimp only; omega, by dsimp only; omega⟩ rfl hl.1 rfl (Nat.le_of_ble_eq_true rfl) dX12_named_46) (fun y5 T4 hw l_T4 H locs h => ?_)
    have f_a0 := l_T4.is f_a0
    have hle := hle.tr l_T4
    refine lv_if_eq (tgt := 138) X.1 X.2.1 dX12_named_49 (by decide) (fun c16 => ?_) (fun c16 => ?_)
    · have hw := hw.1 c16
      refine lv_aload_n X.1 X.2.1 dX12_named_138 rfl (lv_at hl 0 rfl) ?_
      refine lv_bipush (v := 61) X.1 X.2.1 dX12_named_139 (by decide) ?_
      refine kp_callv X h (kp_runV (rm := { frames := 2, cells := 0, slots := 0, locals := 42 }) (mc := 0) (ms := 0) (rest := []) (Qc := fun A => kp_Qv D cy A T4 _) X h (c_X12_takeSign l D cy ad T4 a0 61 _ h.2.2.2 f_a0 hw) f_a0 cv_12_429 ⟨by dsimp only; omega, by dsimp only; omega, rfl, rfl, by dsimp only; omega, by dsimp only; omega⟩ rfl hl.1 rfl (Nat.le_of_ble_eq_true rfl) dX12_named_141) (fun T6 hw l_T6 H locs h => ?_)
      have f_a0 := l_T6.is f_a0
      have hle := hle.tr l_T6
      refine lv_aload_n X.1 X.2.1 dX12_named_144 rfl (lv_at hl 0 rfl) ?_
      refine kp_calli X h (kp_runV (rm := { frames := 0, cells := 0, slots := 0, locals := 0 }) (mc := 0) (ms := 0) (rest := []) (Qc := fun A => kp_Qi D cy A T6 _) X h (c_X12_fine l D cy ad T6 a0 _ h.2.2.2 f_a0 hw) f_a0 cv_12_408 ⟨by dsimp only; omega, by dsimp only; omega, rfl, rfl, by dsimp only; omega, by dsimp only; omega⟩ rfl hl.1 rfl (Nat.le_of_ble_eq_true rfl) dX12_named_145) (fun y8 T7 hw l_T7 H locs h => ?_)
      have f_a0 := l_T7.is f_a0
      have hle := hle.tr l_T7
      refine lv_if_eq (tgt := 171) X.1 X.2.1 dX12_named_148 (by decide) (fun c14 => ?_) (fun c14 => ?_)
      · have hw := hw.1 c14
        exact j171  T7 _ _ ls (lv_sub hl [0, 1] rfl) h hle f_a0 hw
      · have hw := hw.2 c14
        refine lv_aload_n X.1 X.2.1 dX12_named_151 rfl (lv_at hl 0 rfl) ?_
        refine lv_aload_n X.1 X.2.1 dX12_named_152 rfl (lv_at hl 0 rfl) ?_
        obtain ⟨b9, e_b9, hw⟩ := hw
        have f_b9 := h.2.2.2.rf (c := 12) (k := 6) f_a0 (by decide) (by decide) e_b9 (t := 15) rfl
        refine kp_get X h f_a0 ff_12_37.l (v := .ref b9) (congrArg va_rf e_b9) dX12_named_153 ?_
        refine lv_iload_n X.1 X.2.1 dX12_named_156 rfl (lv_at hl 1 rfl) ?_
        obtain ⟨hi, hw⟩ := hw
        refine kp_lald X h f_b9 hi dX12_named_157 ?_
        refine kp_calli X h (kp_runV (rm := { frames := 0, cells := 0, slots := 0, locals := 0 }) (mc := 0) (ms := 0) (rest := []) (Qc := fun A => kp_Qi D cy A T7 _) X h (c_X12_known l D cy ad T7 a0 (kp_B T7 b9 x1.toNatClampNeg) _ h.2.2.2 f_a0 hw) f_a0 cv_12_457 ⟨by dsimp only; omega, by dsimp only; omega, rfl, rfl, by dsimp only; omega, by dsimp only; omega⟩ rfl hl.1 rfl (Nat.le_of_ble_eq_true rfl) dX12_named_158) (fun y11 T10 hw l_T10 H locs h => ?_)
        have f_a0 := l_T10.is f_a0
        have f_b9 := l_T10.is f_b9
        have hle := hle.tr l_T10
        refine lv_iconst (v := (-1)) X.1 X.2.1 dX12_named_161 (by decide) ?_
        refine lv_icmp_ne (tgt := 171) X.1 X.2.1 dX12_named_162 (by decide) (fun c13 => ?_) (fun c13 => ?_)
        · have hw := hw.1 c13
          exact j171  T10 _ _ ls (lv_sub hl [0, 1] rfl) h hle f_a0 hw
        · have hw := hw.2 c13
          refine lv_aload_n X.1 X.2.1 dX12_named_165 rfl (lv_at hl 0 rfl) ?_
          refine lv_iconst (v := 5) X.1 X.2.1 dX12_named_166 (by decide) ?_
          refine lv_iload_n X.1 X.2.1 dX12_named_167 rfl (lv_at hl 1 rfl) ?_
          refine kp_callv X h (kp_runV (rm := { frames := 0, cells := 0, slots := 0, locals := 0 }) (mc := 0) (ms := 0) (rest := []) (Qc := fun A => kp_Qv D cy A T10 _) X h (c_X12_bad l D cy ad T10 a0 5 x1 _ h.2.2.2 f_a0 hw) f_a0 cv_12_419 ⟨by dsimp only; omega, by dsimp only; omega, rfl, rfl, by dsimp only; omega, by dsimp only; omega⟩ rfl hl.1 rfl (Nat.le_of_ble_eq_true rfl) dX12_named_168) (fun T12 hw l_T12 H locs h => ?_)
          have f_a0 := l_T12.is f_a0
          have f_b9 := l_T12.is f_b9
          have hle := hle.tr l_T12
          exact j171  T12 _ _ ls (lv_sub hl [0, 1] rfl) h hle f_a0 hw
    · have hw := hw.2 c16
      refine lv_aload_n X.1 X.2.1 dX12_named_52 rfl (lv_at hl 0 rfl) ?_
      refine kp_get X h f_a0 fp_12_426.l (v := .int (kp_I T4 2446 a0)) rfl dX12_named_53 ?_
      refine lv_topi (fun y15 e_y15 => ?_)
      have hw := hw y15 e_y15
      refine lv_istore_n (lv' := [(2, .int y15), (0, .ref a0), (1, .int x1)]) X.1 X.2.1 dX12_named_56 rfl hl (by decide) rfl (fun ls hl => ?_)
      obtain ⟨n0, hw⟩ := hw
      exact L57 n0 y15 T4 _ _ ls (lv_sub hl [1, 2, 0] rfl) h hle f_a0 hw
  · have hw := hw.2 c21
    refine lv_aload_n X.1 X.2.1 dX12_named_19 rfl (lv_at hl 0 rfl) ?_
    refine lv_iload_n X.1 X.2.1 dX12_named_20 rfl (lv_at hl 1 rfl) ?_
    refine kp_callv X h (kp_runV (rm := { frames := 150, cells := 0, slots := 0, locals := 3185 }) (mc := 0) (ms := 0) (rest := []) (Qc := fun A => kp_Qv D cy A T2 _) X h (c_X12_call_t l D cy ad T2 a0 x1 _ h.2.2.2 f_a0 hw) f_a0 cv_12_532 ⟨by dsimp only; omega, by dsimp only; omega, rfl, rfl, by dsimp only; omega, by dsimp only; omega⟩ rfl hl.1 rfl (Nat.le_of_ble_eq_true rfl) dX12_named_21) (fun T17 hw l_T17 H locs h => ?_)
    have f_a0 := l_T17.is f_a0
    have hle := hle.tr l_T17
    refine lv_aload_n X.1 X.2.1 dX12_named_24 rfl (lv_at hl 0 rfl) ?_
    refine lv_bipush (v := 59) X.1 X.2.1 dX12_named_25 (by decide) ?_
    refine kp_callv X h (kp_runV (rm := { frames := 2, cells := 0, slots := 0, locals := 42 }) (mc := 0) (ms := 0) (rest := []) (Qc := fun A => kp_Qv D cy A T17 _) X h (c_X12_takeSign l D cy ad T17 a0 59 _ h.2.2.2 f_a0 hw) f_a0 cv_12_429 ⟨by dsimp only; omega, by dsimp only; omega, rfl, rfl, by dsimp only; omega, by dsimp only; omega⟩ rfl hl.1 rfl (Nat.le_of_ble_eq_true rfl) dX12_named_27) (fun T18 hw l_T18 H locs h => ?_)
    have f_a0 := l_T18.is f_a0
    have hle := hle.tr l_T18
    refine lv_aload_n X.1 X.2.1 dX12_named_30 rfl (lv_at hl 0 rfl) ?_
    refine lv_iconst (v := 4) X.1 X.2.1 dX12_named_31 (by decide) ?_
    refine lv_iconst (v := 0) X.1 X.2.1 dX12_named_32 (by decide) ?_
    refine lv_iconst (v := 0) X.1 X.2.1 dX12_named_33 (by decide) ?_
    refine kp_calli X h (kp_runV (rm := { frames := 0, cells := 0, slots := 0, locals := 0 }) (mc := 0) (ms := 0) (rest := []) (Qc := fun A => kp_Qi D cy A T18 _) X h (c_X12_emit l D cy ad T18 a0 4 0 0 _ h.2.2.2 f_a0 hw) f_a0 cv_12_451 ⟨by dsimp only; omega, by dsimp only; omega, rfl, rfl, by dsimp only; omega, by dsimp only; omega⟩ rfl hl.1 rfl (Nat.le_of_ble_eq_true rfl) dX12_named_34) (fun y20 T19 hw l_T19 H locs h => ?_)
    have f_a0 := l_T19.is f_a0
    have hle := hle.tr l_T19
    refine lv_pop X.1 X.2.1 dX12_named_37 rfl ?_
    refine lv_ldc2 (v := 5) X.1 X.2.1 X.2.2.2.1 (X.2.2.2.2.1 _ kl_12_487) dX12_named_38 ?_
    exact kp_retl X hr hlocks h hle hw dX12_named_41
theorem dX12_trial_0 : decode cX12_trial 0 = .ok (.aload_n 0, 1) := by decide +kernel
theorem dX12_trial_1 : decode cX12_trial 1 = .ok (.iload_n 1, 1) := by decide +kernel
theorem dX12_trial_2 : decode cX12_trial 2 = .ok (.invokevirtual 538, 3) := by decide +kernel
theorem dX12_trial_5 : decode cX12_trial 5 = .ok (.istore_n 2, 1) := by decide +kernel
theorem dX12_trial_6 : decode cX12_trial 6 = .ok (.aload_n 0, 1) := by decide +kernel
theorem dX12_trial_7 : decode cX12_trial 7 = .ok (.dup, 1) := by decide +kernel
theorem dX12_trial_8 : decode cX12_trial 8 = .ok (.getfield 376, 3) := by decide +kernel
theorem dX12_trial_11 : decode cX12_trial 11 = .ok (.iconst 1, 1) := by decide +kernel
theorem dX12_trial_12 : decode cX12_trial 12 = .ok (.iadd, 1) := by decide +kernel
theorem dX12_trial_13 : decode cX12_trial 13 = .ok (.putfield 376, 3) := by decide +kernel
theorem dX12_trial_16 : decode cX12_trial 16 = .ok (.aload_n 0, 1) := by decide +kernel
theorem dX12_trial_17 : decode cX12_trial 17 = .ok (.bipush 50, 2) := by decide +kernel
theorem dX12_trial_19 : decode cX12_trial 19 = .ok (.iload_n 2, 1) := by decide +kernel
theorem dX12_trial_20 : decode cX12_trial 20 = .ok (.iconst 0, 1) := by decide +kernel
theorem dX12_trial_21 : decode cX12_trial 21 = .ok (.invokevirtual 451, 3) := by decide +kernel
theorem dX12_trial_24 : decode cX12_trial 24 = .ok (.pop, 1) := by decide +kernel
theorem dX12_trial_25 : decode cX12_trial 25 = .ok (.aload_n 0, 1) := by decide +kernel
theorem dX12_trial_26 : decode cX12_trial 26 = .ok (.invokevirtual 447, 3) := by decide +kernel
theorem dX12_trial_29 : decode cX12_trial 29 = .ok (.lstore_n 3, 1) := by decide +kernel
theorem dX12_trial_30 : decode cX12_trial 30 = .ok (.aload_n 0, 1) := by decide +kernel
theorem dX12_trial_31 : decode cX12_trial 31 = .ok (.bipush 48, 2) := by decide +kernel
theorem dX12_trial_33 : decode cX12_trial 33 = .ok (.iconst 0, 1) := by decide +kernel
theorem dX12_trial_34 : decode cX12_trial 34 = .ok (.iconst 0, 1) := by decide +kernel
theorem dX12_trial_35 : decode cX12_trial 35 = .ok (.invokevirtual 451, 3) := by decide +kernel
theorem dX12_trial_38 : decode cX12_trial 38 = .ok (.pop, 1) := by decide +kernel
theorem dX12_trial_39 : decode cX12_trial 39 = .ok (.aload_n 0, 1) := by decide +kernel
theorem dX12_trial_40 : decode cX12_trial 40 = .ok (.bipush 25, 2) := by decide +kernel
theorem dX12_trial_42 : decode cX12_trial 42 = .ok (.invokevirtual 379, 3) := by decide +kernel
theorem dX12_trial_45 : decode cX12_trial 45 = .ok (.ifCond .ne 18, 3) := by decide +kernel
theorem dX12_trial_48 : decode cX12_trial 48 = .ok (.aload_n 0, 1) := by decide +kernel
theorem dX12_trial_49 : decode cX12_trial 49 = .ok (.bipush 27, 2) := by decide +kernel
theorem dX12_trial_51 : decode cX12_trial 51 = .ok (.invokevirtual 379, 3) := by decide +kernel
theorem dX12_trial_54 : decode cX12_trial 54 = .ok (.ifCond .ne 9, 3) := by decide +kernel
theorem dX12_trial_57 : decode cX12_trial 57 = .ok (.aload_n 0, 1) := by decide +kernel
theorem dX12_trial_58 : decode cX12_trial 58 = .ok (.invokevirtual 382, 3) := by decide +kernel
theorem dX12_trial_61 : decode cX12_trial 61 = .ok (.lconst 0, 1) := by decide +kernel
theorem dX12_trial_62 : decode cX12_trial 62 = .ok (.lreturn, 1) := by decide +kernel
theorem dX12_trial_63 : decode cX12_trial 63 = .ok (.aload_n 0, 1) := by decide +kernel
theorem dX12_trial_64 : decode cX12_trial 64 = .ok (.bipush 25, 2) := by decide +kernel
theorem dX12_trial_66 : decode cX12_trial 66 = .ok (.invokevirtual 379, 3) := by decide +kernel
theorem dX12_trial_69 : decode cX12_trial 69 = .ok (.ifCond .eq 13, 3) := by decide +kernel
theorem dX12_trial_72 : decode cX12_trial 72 = .ok (.aload_n 0, 1) := by decide +kernel
theorem dX12_trial_73 : decode cX12_trial 73 = .ok (.getfield 67, 3) := by decide +kernel
theorem dX12_trial_76 : decode cX12_trial 76 = .ok (.iload_n 2, 1) := by decide +kernel
theorem dX12_trial_77 : decode cX12_trial 77 = .ok (.aload_n 0, 1) := by decide +kernel
theorem dX12_trial_78 : decode cX12_trial 78 = .ok (.getfield 370, 3) := by decide +kernel
theorem dX12_trial_81 : decode cX12_trial 81 = .ok (.iastore, 1) := by decide +kernel
theorem dX12_trial_82 : decode cX12_trial 82 = .ok (.iconst 0, 1) := by decide +kernel
theorem dX12_trial_83 : decode cX12_trial 83 = .ok (.istore 5, 2) := by decide +kernel
theorem dX12_trial_85 : decode cX12_trial 85 = .ok (.iconst 0, 1) := by decide +kernel
theorem dX12_trial_86 : decode cX12_trial 86 = .ok (.istore 6, 2) := by decide +kernel
theorem dX12_trial_88 : decode cX12_trial 88 = .ok (.lconst 0, 1) := by decide +kernel
theorem dX12_trial_89 : decode cX12_trial 89 = .ok (.lstore 7, 2) := by decide +kernel
theorem dX12_trial_91 : decode cX12_trial 91 = .ok (.aload_n 0, 1) := by decide +kernel
theorem dX12_trial_92 : decode cX12_trial 92 = .ok (.bipush 25, 2) := by decide +kernel
theorem dX12_trial_94 : decode cX12_trial 94 = .ok (.invokevirtual 440, 3) := by decide +kernel
theorem dX12_trial_97 : decode cX12_trial 97 = .ok (.ifCond .eq 113, 3) := by decide +kernel
theorem dX12_trial_100 : decode cX12_trial 100 = .ok (.aload_n 0, 1) := by decide +kernel
theorem dX12_trial_101 : decode cX12_trial 101 = .ok (.bipush 26, 2) := by decide +kernel
theorem dX12_trial_103 : decode cX12_trial 103 = .ok (.invokevirtual 379, 3) := by decide +kernel
theorem dX12_trial_106 : decode cX12_trial 106 = .ok (.istore 9, 2) := by decide +kernel
theorem dX12_trial_108 : decode cX12_trial 108 = .ok (.aload_n 0, 1) := by decide +kernel
theorem dX12_trial_109 : decode cX12_trial 109 = .ok (.iconst 0, 1) := by decide +kernel
theorem dX12_trial_110 : decode cX12_trial 110 = .ok (.putfield 471, 3) := by decide +kernel
theorem dX12_trial_113 : decode cX12_trial 113 = .ok (.aload_n 0, 1) := by decide +kernel
theorem dX12_trial_114 : decode cX12_trial 114 = .ok (.bipush 52, 2) := by decide +kernel
theorem dX12_trial_116 : decode cX12_trial 116 = .ok (.bipush 51, 2) := by decide +kernel
theorem dX12_trial_118 : decode cX12_trial 118 = .ok (.invokevirtual 526, 3) := by decide +kernel
theorem dX12_trial_121 : decode cX12_trial 121 = .ok (.istore 10, 2) := by decide +kernel
theorem dX12_trial_123 : decode cX12_trial 123 = .ok (.iload 6, 2) := by decide +kernel
theorem dX12_trial_125 : decode cX12_trial 125 = .ok (.ifCond .ne 15, 3) := by decide +kernel
theorem dX12_trial_128 : decode cX12_trial 128 = .ok (.iload 5, 2) := by decide +kernel
theorem dX12_trial_130 : decode cX12_trial 130 = .ok (.ifCond .ne 14, 3) := by decide +kernel
theorem dX12_trial_133 : decode cX12_trial 133 = .ok (.aload_n 0, 1) := by decide +kernel
theorem dX12_trial_134 : decode cX12_trial 134 = .ok (.getfield 471, 3) := by decide +kernel
theorem dX12_trial_137 : decode cX12_trial 137 = .ok (.ifCond .eq 7, 3) := by decide +kernel
theorem dX12_trial_140 : decode cX12_trial 140 = .ok (.iconst 1, 1) := by decide +kernel
theorem dX12_trial_141 : decode cX12_trial 141 = .ok (.goto 4, 3) := by decide +kernel
theorem dX12_trial_144 : decode cX12_trial 144 = .ok (.iconst 0, 1) := by decide +kernel
theorem dX12_trial_145 : decode cX12_trial 145 = .ok (.istore 6, 2) := by decide +kernel
theorem dX12_trial_147 : decode cX12_trial 147 = .ok (.aload_n 0, 1) := by decide +kernel
theorem dX12_trial_148 : decode cX12_trial 148 = .ok (.invokevirtual 447, 3) := by decide +kernel
theorem dX12_trial_151 : decode cX12_trial 151 = .ok (.lstore 11, 2) := by decide +kernel
theorem dX12_trial_153 : decode cX12_trial 153 = .ok (.aload_n 0, 1) := by decide +kernel
theorem dX12_trial_154 : decode cX12_trial 154 = .ok (.bipush 48, 2) := by decide +kernel
theorem dX12_trial_156 : decode cX12_trial 156 = .ok (.iconst 0, 1) := by decide +kernel
theorem dX12_trial_157 : decode cX12_trial 157 = .ok (.iconst 0, 1) := by decide +kernel
theorem dX12_trial_158 : decode cX12_trial 158 = .ok (.invokevirtual 451, 3) := by decide +kernel
theorem dX12_trial_161 : decode cX12_trial 161 = .ok (.pop, 1) := by decide +kernel
theorem dX12_trial_162 : decode cX12_trial 162 = .ok (.aload_n 0, 1) := by decide +kernel
theorem dX12_trial_163 : decode cX12_trial 163 = .ok (.getfield 46, 3) := by decide +kernel
theorem dX12_trial_166 : decode cX12_trial 166 = .ok (.iload 10, 2) := by decide +kernel
theorem dX12_trial_168 : decode cX12_trial 168 = .ok (.aload_n 0, 1) := by decide +kernel
theorem dX12_trial_169 : decode cX12_trial 169 = .ok (.getfield 370, 3) := by decide +kernel
theorem dX12_trial_172 : decode cX12_trial 172 = .ok (.iastore, 1) := by decide +kernel
theorem dX12_trial_173 : decode cX12_trial 173 = .ok (.iload 5, 2) := by decide +kernel
theorem dX12_trial_175 : decode cX12_trial 175 = .ok (.ifCond .eq 8, 3) := by decide +kernel
theorem dX12_trial_178 : decode cX12_trial 178 = .ok (.lload 7, 2) := by decide +kernel
theorem dX12_trial_180 : decode cX12_trial 180 = .ok (.goto 8, 3) := by decide +kernel
theorem dX12_trial_183 : decode cX12_trial 183 = .ok (.lload 7, 2) := by decide +kernel
theorem dX12_trial_185 : decode cX12_trial 185 = .ok (.lload 11, 2) := by decide +kernel
theorem dX12_trial_187 : decode cX12_trial 187 = .ok (.lor, 1) := by decide +kernel
theorem dX12_trial_188 : decode cX12_trial 188 = .ok (.lstore 7, 2) := by decide +kernel
theorem dX12_trial_190 : decode cX12_trial 190 = .ok (.iload 5, 2) := by decide +kernel
theorem dX12_trial_192 : decode cX12_trial 192 = .ok (.ifCond .ne 8, 3) := by decide +kernel
theorem dX12_trial_195 : decode cX12_trial 195 = .ok (.iload 9, 2) := by decide +kernel
theorem dX12_trial_197 : decode cX12_trial 197 = .ok (.ifCond .eq 7, 3) := by decide +kernel
theorem dX12_trial_200 : decode cX12_trial 200 = .ok (.iconst 1, 1) := by decide +kernel
theorem dX12_trial_201 : decode cX12_trial 201 = .ok (.goto 4, 3) := by decide +kernel
theorem dX12_trial_204 : decode cX12_trial 204 = .ok (.iconst 0, 1) := by decide +kernel
theorem dX12_trial_205 : decode cX12_trial 205 = .ok (.istore 5, 2) := by decide +kernel
theorem dX12_trial_207 : decode cX12_trial 207 = .ok (.goto (-116), 3) := by decide +kernel
theorem dX12_trial_210 : decode cX12_trial 210 = .ok (.aload_n 0, 1) := by decide +kernel
theorem dX12_trial_211 : decode cX12_trial 211 = .ok (.bipush 53, 2) := by decide +kernel
theorem dX12_trial_213 : decode cX12_trial 213 = .ok (.iconst 0, 1) := by decide +kernel
theorem dX12_trial_214 : decode cX12_trial 214 = .ok (.iconst 0, 1) := by decide +kernel
theorem dX12_trial_215 : decode cX12_trial 215 = .ok (.invokevirtual 451, 3) := by decide +kernel
theorem dX12_trial_218 : decode cX12_trial 218 = .ok (.pop, 1) := by decide +kernel
theorem dX12_trial_219 : decode cX12_trial 219 = .ok (.lload_n 3, 1) := by decide +kernel
theorem dX12_trial_220 : decode cX12_trial 220 = .ok (.ldc2_w 475, 3) := by decide +kernel
theorem dX12_trial_223 : decode cX12_trial 223 = .ok (.land, 1) := by decide +kernel
theorem dX12_trial_224 : decode cX12_trial 224 = .ok (.lconst 0, 1) := by decide +kernel
theorem dX12_trial_225 : decode cX12_trial 225 = .ok (.lcmp, 1) := by decide +kernel
theorem dX12_trial_226 : decode cX12_trial 226 = .ok (.ifCond .eq 30, 3) := by decide +kernel
theorem dX12_trial_229 : decode cX12_trial 229 = .ok (.lload_n 3, 1) := by decide +kernel
theorem dX12_trial_230 : decode cX12_trial 230 = .ok (.ldc2_w 548, 3) := by decide +kernel
theorem dX12_trial_233 : decode cX12_trial 233 = .ok (.land, 1) := by decide +kernel
theorem dX12_trial_234 : decode cX12_trial 234 = .ok (.lload 7, 2) := by decide +kernel
theorem dX12_trial_236 : decode cX12_trial 236 = .ok (.lor, 1) := by decide +kernel
theorem dX12_trial_237 : decode cX12_trial 237 = .ok (.iload 5, 2) := by decide +kernel
theorem dX12_trial_239 : decode cX12_trial 239 = .ok (.ifCond .eq 8, 3) := by decide +kernel
theorem dX12_trial_242 : decode cX12_trial 242 = .ok (.iload 6, 2) := by decide +kernel
theorem dX12_trial_244 : decode cX12_trial 244 = .ok (.ifCond .eq 9, 3) := by decide +kernel
theorem dX12_trial_247 : decode cX12_trial 247 = .ok (.ldc2_w 475, 3) := by decide +kernel
theorem dX12_trial_250 : decode cX12_trial 250 = .ok (.goto 4, 3) := by decide +kernel
theorem dX12_trial_253 : decode cX12_trial 253 = .ok (.lconst 0, 1) := by decide +kernel
theorem dX12_trial_254 : decode cX12_trial 254 = .ok (.lor, 1) := by decide +kernel
theorem dX12_trial_255 : decode cX12_trial 255 = .ok (.lstore_n 3, 1) := by decide +kernel
theorem dX12_trial_256 : decode cX12_trial 256 = .ok (.aload_n 0, 1) := by decide +kernel
theorem dX12_trial_257 : decode cX12_trial 257 = .ok (.iload_n 2, 1) := by decide +kernel
theorem dX12_trial_258 : decode cX12_trial 258 = .ok (.lload_n 3, 1) := by decide +kernel
theorem dX12_trial_259 : decode cX12_trial 259 = .ok (.invokevirtual 541, 3) := by decide +kernel
theorem dX12_trial_262 : decode cX12_trial 262 = .ok (.lstore_n 3, 1) := by decide +kernel
theorem dX12_trial_263 : decode cX12_trial 263 = .ok (.aload_n 0, 1) := by decide +kernel
theorem dX12_trial_264 : decode cX12_trial 264 = .ok (.getfield 58, 3) := by decide +kernel
theorem dX12_trial_267 : decode cX12_trial 267 = .ok (.iload_n 2, 1) := by decide +kernel
theorem dX12_trial_268 : decode cX12_trial 268 = .ok (.aload_n 0, 1) := by decide +kernel
theorem dX12_trial_269 : decode cX12_trial 269 = .ok (.getfield 370, 3) := by decide +kernel
theorem dX12_trial_272 : decode cX12_trial 272 = .ok (.iastore, 1) := by decide +kernel
theorem dX12_trial_273 : decode cX12_trial 273 = .ok (.lload_n 3, 1) := by decide +kernel
theorem dX12_trial_274 : decode cX12_trial 274 = .ok (.lreturn, 1) := by decide +kernel
def wX12_trial_b256 (B : Nat → kp_S → (Int64 → kp_S → Prop) → Prop) (a0 : Nat) (x1 : Int32) (xn2 : Int32) (wn3 : Int64)  (Sn : kp_S) (post : Int64 → kp_S → Prop) : Prop :=
  wX12_always B a0 xn2 wn3 Sn (fun z1002 T1001 =>
  ∃ b1003 : Nat, kp_R T1001 2420 a0 = some b1003 ∧
  vp_in xn2 (kp_N T1001 b1003) ∧ ∀ T1004 : kp_S, T1004 = kp_sA T1001 b1003 (upd (kp_A T1001 b1003) (xn2.toNatClampNeg) (kp_I T1001 2417 a0)) →
  post z1002 T1004)
def wX12_trial_b254 (B : Nat → kp_S → (Int64 → kp_S → Prop) → Prop) (a0 : Nat) (x1 : Int32) (xn2 : Int32) (wt0 : Int64) (wt1 : Int64)  (Sn : kp_S) (post : Int64 → kp_S → Prop) : Prop :=
  ∀ z2001 : Int64, z2001 = (wt1 ||| wt0) →
  wX12_trial_b256 B a0 x1 xn2 z2001  Sn post
def wX12_trial_b247 (B : Nat → kp_S → (Int64 → kp_S → Prop) → Prop) (a0 : Nat) (x1 : Int32) (xn2 : Int32) (wt0 : Int64)  (Sn : kp_S) (post : Int64 → kp_S → Prop) : Prop :=
  wX12_trial_b254 B a0 x1 xn2 4 wt0  Sn post
def wX12_trial_b205 (B : Nat → kp_S → (Int64 → kp_S → Prop) → Prop) (a0 : Nat) (x1 : Int32) (xn2 : Int32) (wn3 : Int64) (xn6 : Int32) (wn7 : Int64) (xt0 : Int32) (K91 : Int32 → Int64 → Int32 → Int32 → Int64 → kp_S → Prop) (Sn : kp_S) (post : Int64 → kp_S → Prop) : Prop :=
  K91 xn2 wn3 xt0 xn6 wn7 Sn
def wX12_trial_b200 (B : Nat → kp_S → (Int64 → kp_S → Prop) → Prop) (a0 : Nat) (x1 : Int32) (xn2 : Int32) (wn3 : Int64) (xn6 : Int32) (wn7 : Int64) (K91 : Int32 → Int64 → Int32 → Int32 → Int64 → kp_S → Prop) (Sn : kp_S) (post : Int64 → kp_S → Prop) : Prop :=
  wX12_trial_b205 B a0 x1 xn2 wn3 xn6 wn7 1 K91 Sn post
def wX12_trial_b188 (B : Nat → kp_S → (Int64 → kp_S → Prop) → Prop) (a0 : Nat) (x1 : Int32) (xn2 : Int32) (wn3 : Int64) (xn5 : Int32) (xn6 : Int32) (xn9 : Int32) (wt0 : Int64) (K91 : Int32 → Int64 → Int32 → Int32 → Int64 → kp_S → Prop) (Sn : kp_S) (post : Int64 → kp_S → Prop) : Prop :=
  ((¬ xn5 = 0 →
  wX12_trial_b200 B a0 x1 xn2 wn3 xn6 wt0 K91 Sn post) ∧ (xn5 = 0 →
  ((xn9 = 0 →
  wX12_trial_b205 B a0 x1 xn2 wn3 xn6 wt0 0 K91 Sn post) ∧ (¬ xn9 = 0 →
  wX12_trial_b200 B a0 x1 xn2 wn3 xn6 wt0 K91 Sn post))))
def wX12_trial_b145 (B : Nat → kp_S → (Int64 → kp_S → Prop) → Prop) (a0 : Nat) (x1 : Int32) (xn2 : Int32) (wn3 : Int64) (xn5 : Int32) (wn7 : Int64) (xn9 : Int32) (xn10 : Int32) (xt0 : Int32) (K91 : Int32 → Int64 → Int32 → Int32 → Int64 → kp_S → Prop) (Sn : kp_S) (post : Int64 → kp_S → Prop) : Prop :=
  B a0 Sn (fun z7002 T7001 =>
  wX12_emit a0 48 0 0 T7001 (fun y7004 T7003 =>
  ∃ b7005 : Nat, kp_R T7003 2415 a0 = some b7005 ∧
  vp_in xn10 (kp_N T7003 b7005) ∧ ∀ T7006 : kp_S, T7006 = kp_sA T7003 b7005 (upd (kp_A T7003 b7005) (xn10.toNatClampNeg) (kp_I T7003 2417 a0)) →
  ((xn5 = 0 →
  wX12_trial_b188 B a0 x1 xn2 wn3 xn5 xt0 xn9 (wn7 ||| z7002) K91 T7006 post) ∧ (¬ xn5 = 0 →
  wX12_trial_b188 B a0 x1 xn2 wn3 xn5 xt0 xn9 wn7 K91 T7006 post))))
def wX12_trial_b140 (B : Nat → kp_S → (Int64 → kp_S → Prop) → Prop) (a0 : Nat) (x1 : Int32) (xn2 : Int32) (wn3 : Int64) (xn5 : Int32) (wn7 : Int64) (xn9 : Int32) (xn10 : Int32) (K91 : Int32 → Int64 → Int32 → Int32 → Int64 → kp_S → Prop) (Sn : kp_S) (post : Int64 → kp_S → Prop) : Prop :=
  wX12_trial_b145 B a0 x1 xn2 wn3 xn5 wn7 xn9 xn10 1 K91 Sn post
def wX12_trial_b144 (B : Nat → kp_S → (Int64 → kp_S → Prop) → Prop) (a0 : Nat) (x1 : Int32) (xn2 : Int32) (wn3 : Int64) (xn5 : Int32) (wn7 : Int64) (xn9 : Int32) (xn10 : Int32) (K91 : Int32 → Int64 → Int32 → Int32 → Int64 → kp_S → Prop) (Sn : kp_S) (post : Int64 → kp_S → Prop) : Prop :=
  wX12_trial_b145 B a0 x1 xn2 wn3 xn5 wn7 xn9 xn10 0 K91 Sn post
def wX12_trial_L91 (B : Nat → kp_S → (Int64 → kp_S → Prop) → Prop) (a0 : Nat) (x1 : Int32)  (post : Int64 → kp_S → Prop) : Nat → Int32 → Int64 → Int32 → Int32 → Int64 → kp_S → Prop
  | 0, _, _, _, _, _, _ => False
  | n + 1, xn2, wn3, xn5, xn6, wn7, Sn =>
  wX12_skip a0 25 Sn (fun y10002 T10001 =>
  ((y10002 = 0 →
  wX12_emit a0 53 0 0 T10001 (fun y10004 T10003 =>
  (((lg_cmp (wn3 &&& 4) 0) = 0 →
  wX12_trial_b256 B a0 x1 xn2 wn3  T10003 post) ∧ (¬ (lg_cmp (wn3 &&& 4) 0) = 0 →
  ((xn5 = 0 →
  wX12_trial_b247 B a0 x1 xn2 ((wn3 &&& (-5)) ||| wn7)  T10003 post) ∧ (¬ xn5 = 0 →
  ((xn6 = 0 →
  wX12_trial_b254 B a0 x1 xn2 0 ((wn3 &&& (-5)) ||| wn7)  T10003 post) ∧ (¬ xn6 = 0 →
  wX12_trial_b247 B a0 x1 xn2 ((wn3 &&& (-5)) ||| wn7)  T10003 post)))))))) ∧ (¬ y10002 = 0 →
  wX12_is a0 26 T10001 (fun y10009 T10008 =>
  ∀ T10010 : kp_S, T10010 = kp_sI T10008 2425 a0 0 →
  wX12_list a0 52 51 T10010 (fun y10012 T10011 =>
  ((¬ xn6 = 0 →
  wX12_trial_b140 B a0 x1 xn2 wn3 xn5 wn7 y10009 y10012 (fun xn2_ wn3_ xn5_ xn6_ wn7_ S_ => wX12_trial_L91 B a0 x1  post n xn2_ wn3_ xn5_ xn6_ wn7_ S_) T10011 post) ∧ (xn6 = 0 →
  ((¬ xn5 = 0 →
  wX12_trial_b144 B a0 x1 xn2 wn3 xn5 wn7 y10009 y10012 (fun xn2_ wn3_ xn5_ xn6_ wn7_ S_ => wX12_trial_L91 B a0 x1  post n xn2_ wn3_ xn5_ xn6_ wn7_ S_) T10011 post) ∧ (xn5 = 0 →
  (((kp_I T10011 2425 a0) = 0 →
  wX12_trial_b144 B a0 x1 xn2 wn3 xn5 wn7 y10009 y10012 (fun xn2_ wn3_ xn5_ xn6_ wn7_ S_ => wX12_trial_L91 B a0 x1  post n xn2_ wn3_ xn5_ xn6_ wn7_ S_) T10011 post) ∧ (¬ (kp_I T10011 2425 a0) = 0 →
  wX12_trial_b140 B a0 x1 xn2 wn3 xn5 wn7 y10009 y10012 (fun xn2_ wn3_ xn5_ xn6_ wn7_ S_ => wX12_trial_L91 B a0 x1  post n xn2_ wn3_ xn5_ xn6_ wn7_ S_) T10011 post)))))))))))
def wX12_trial_b82 (B : Nat → kp_S → (Int64 → kp_S → Prop) → Prop) (a0 : Nat) (x1 : Int32) (xn2 : Int32) (wn3 : Int64)  (Sn : kp_S) (post : Int64 → kp_S → Prop) : Prop :=
  ∃ n0 : Nat, wX12_trial_L91 B a0 x1  post n0 xn2 wn3 0 0 0 Sn
def wX12_trial_b63 (B : Nat → kp_S → (Int64 → kp_S → Prop) → Prop) (a0 : Nat) (x1 : Int32) (xn2 : Int32) (wn3 : Int64)  (Sn : kp_S) (post : Int64 → kp_S → Prop) : Prop :=
  wX12_is a0 25 Sn (fun y12002 T12001 =>
  ((y12002 = 0 →
  wX12_trial_b82 B a0 x1 xn2 wn3  T12001 post) ∧ (¬ y12002 = 0 →
  ∃ b12003 : Nat, kp_R T12001 2423 a0 = some b12003 ∧
  vp_in xn2 (kp_N T12001 b12003) ∧ ∀ T12004 : kp_S, T12004 = kp_sA T12001 b12003 (upd (kp_A T12001 b12003) (xn2.toNatClampNeg) (kp_I T12001 2417 a0)) →
  wX12_trial_b82 B a0 x1 xn2 wn3  T12004 post)))
def wX12_trial (B : Nat → kp_S → (Int64 → kp_S → Prop) → Prop) (a0 : Nat) (x1 : Int32) (S : kp_S) (post : Int64 → kp_S → Prop) : Prop :=
  wX12_describe a0 x1 S (fun y2 T1 =>
  ∀ T3 : kp_S, T3 = kp_sI T1 2410 a0 ((kp_I T1 2410 a0) + 1) →
  wX12_emit a0 50 y2 0 T3 (fun y5 T4 =>
  B a0 T4 (fun z7 T6 =>
  wX12_emit a0 48 0 0 T6 (fun y9 T8 =>
  wX12_is a0 25 T8 (fun y11 T10 =>
  ((¬ y11 = 0 →
  wX12_trial_b63 B a0 x1 y2 z7  T10 post) ∧ (y11 = 0 →
  wX12_is a0 27 T10 (fun y13 T12 =>
  ((¬ y13 = 0 →
  wX12_trial_b63 B a0 x1 y2 z7  T12 post) ∧ (y13 = 0 →
  wX12_wrong a0 T12 (fun T14 =>
  post 0 T14)))))))))))
set_option maxHeartbeats 4000000 in
set_option maxRecDepth 100000 in
theorem c_X12_trial (l : Launch) (D : va_G) (cy : Nat → ClassId) (ad : (Nat → Nat) × (Nat → Nat)) (F L : Nat) (B : Nat → kp_S → (Int64 → kp_S → Prop) → Prop) (hB : ∀ (S : kp_S) (a0 : Nat) (post : Int64 → kp_S → Prop), kp_ok S → kp_is S a0 12 → B a0 S post → kp_M l yX12_block cX12_block 6 (some .long) { frames := F, cells := 0, slots := 0, locals := L } D cy ad S [.ref a0] 0 0 (fun A => kp_Ql D cy A S post)) (hF : 151 ≤ F) (hL : 3211 ≤ L) (S : kp_S) (a0 : Nat) (x1 : Int32) (post : Int64 → kp_S → Prop) (hS : kp_ok S) (f_a0 : kp_is S a0 12) (hw : wX12_trial B a0 x1 S post) : kp_M l yX12_trial cX12_trial 13 (some .long) { frames := F + 2, cells := 0, slots := 0, locals := L + 50 } D cy ad S [.ref a0, .int x1] 0 0 (fun A => kp_Ql D cy A S post) := by
  refine kp_start (own := RX12) (by decide) rfl (Nat.le_of_ble_eq_true rfl) hS ?_
  intro p e s m below meth c A ls X hr hlocks hname h hl
  have hle : kp_le S S := kp_le.rf
  have hl : lv_has ls 13 [(0, .ref a0), (1, .int x1)] := hl
  have j256 : ∀ (xn2 : Int32) (wn3 : Int64) (Sn : kp_S) (H : Heap) (locs : List Loc) (ls : Array Slot), lv_has ls 13 [(0, .ref a0), (2, .int xn2), (3, .long wn3)] → kp_H D cy A Sn s.heap H locs → kp_le S Sn → kp_is Sn a0 12 → wX12_trial_b256 B a0 x1 xn2 wn3  Sn post → W p l e { frames := F + 2, cells := 0, slots := 0, locals := L + 50 } s m ([.ref a0, .int x1] : List Value).toArray below meth c H locs 0 0 (MQ below (kp_Ql D cy A S post) ([.ref a0, .int x1] : List Value).toArray s 0 0 A) (F0 m 256 ls []) := by
    intro xn2 wn3 Sn H locs ls hl h hle f_a0 hw
    unfold wX12_trial_b256 at hw
    refine lv_aload_n X.1 X.2.1 dX12_trial_256 rfl (lv_at hl 0 rfl) ?_
    refine lv_iload_n X.1 X.2.1 dX12_trial_257 rfl (lv_at hl 1 rfl) ?_
    refine lv_lload_n X.1 X.2.1 dX12_trial_258 rfl (lv_at hl 2 rfl) ?_
    refine kp_calll X h (kp_runV (rm := { frames := F + 1, cells := 0, slots := 0, locals := L + 25 }) (mc := 0) (ms := 0) (rest := []) (Qc := fun A => kp_Ql D cy A Sn _) X h (c_X12_always l D cy ad F L B hB hF hL Sn a0 xn2 wn3 _ h.2.2.2 f_a0 hw) f_a0 cv_12_541 ⟨by dsimp only; omega, by dsimp only; omega, rfl, rfl, by dsimp only; omega, by dsimp only; omega⟩ rfl hl.1 rfl (Nat.le_of_ble_eq_true rfl) dX12_trial_259) (fun z1002 T1001 hw l_T1001 H locs h => ?_)
    have f_a0 := l_T1001.is f_a0
    have hle := hle.tr l_T1001
    refine lv_lstore_n (lv' := [(3, .long z1002), (0, .ref a0), (2, .int xn2)]) X.1 X.2.1 dX12_trial_262 rfl hl (by decide) rfl (fun ls hl => ?_)
    refine lv_aload_n X.1 X.2.1 dX12_trial_263 rfl (lv_at hl 1 rfl) ?_
    obtain ⟨b1003, e_b1003, hw⟩ := hw
    have f_b1003 := h.2.2.2.rf (c := 12) (k := 20) f_a0 (by decide) (by decide) e_b1003 (t := 14) rfl
    refine kp_get X h f_a0 ff_12_58.l (v := .ref b1003) (congrArg va_rf e_b1003) dX12_trial_264 ?_
    refine lv_iload_n X.1 X.2.1 dX12_trial_267 rfl (lv_at hl 2 rfl) ?_
    refine lv_aload_n X.1 X.2.1 dX12_trial_268 rfl (lv_at hl 1 rfl) ?_
    refine kp_get X h f_a0 fp_12_370.l (v := .int (kp_I T1001 2417 a0)) rfl dX12_trial_269 ?_
    obtain ⟨hi, hw⟩ := hw
    refine kp_iast X h f_b1003 hi dX12_trial_272 (fun T1004 e_T1004 l_T1004 H locs h => ?_)
    have hw := hw T1004 e_T1004
    have f_a0 := l_T1004.is f_a0
    have f_b1003 := l_T1004.is f_b1003
    have hle := hle.tr l_T1004
    have e_b1003 : kp_R T1004 2420 a0 = some b1003 := by rw [e_T1004]; exact e_b1003
    refine lv_lload_n X.1 X.2.1 dX12_trial_273 rfl (lv_at hl 0 rfl) ?_
    exact kp_retl X hr hlocks h hle hw dX12_trial_274
  have j254 : ∀ (xn2 : Int32) (wt0 : Int64) (wt1 : Int64) (Sn : kp_S) (H : Heap) (locs : List Loc) (ls : Array Slot), lv_has ls 13 [(0, .ref a0), (2, .int xn2)] → kp_H D cy A Sn s.heap H locs → kp_le S Sn → kp_is Sn a0 12 → wX12_trial_b254 B a0 x1 xn2 wt0 wt1  Sn post → W p l e { frames := F + 2, cells := 0, slots := 0, locals := L + 50 } s m ([.ref a0, .int x1] : List Value).toArray below meth c H locs 0 0 (MQ below (kp_Ql D cy A S post) ([.ref a0, .int x1] : List Value).toArray s 0 0 A) (F0 m 254 ls [.long wt0, .long wt1]) := by
    intro xn2 wt0 wt1 Sn H locs ls hl h hle f_a0 hw
    unfold wX12_trial_b254 at hw
    refine lv_lor X.1 X.2.1 dX12_trial_254 ?_
    refine lv_topl (fun z2001 e_z2001 => ?_)
    have hw := hw z2001 e_z2001
    refine lv_lstore_n (lv' := [(3, .long z2001), (0, .ref a0), (2, .int xn2)]) X.1 X.2.1 dX12_trial_255 rfl hl (by decide) rfl (fun ls hl => ?_)
    exact j256 xn2 z2001 Sn H locs ls (lv_sub hl [1, 2, 0] rfl) h hle f_a0 hw
  have j247 : ∀ (xn2 : Int32) (wt0 : Int64) (Sn : kp_S) (H : Heap) (locs : List Loc) (ls : Array Slot), lv_has ls 13 [(0, .ref a0), (2, .int xn2)] → kp_H D cy A Sn s.heap H locs → kp_le S Sn → kp_is Sn a0 12 → wX12_trial_b247 B a0 x1 xn2 wt0  Sn post → W p l e { frames := F + 2, cells := 0, slots := 0, locals := L + 50 } s m ([.ref a0, .int x1] : List Value).toArray below meth c H locs 0 0 (MQ below (kp_Ql D cy A S post) ([.ref a0, .int x1] : List Value).toArray s 0 0 A) (F0 m 247 ls [.long wt0]) := by
    intro xn2 wt0 Sn H locs ls hl h hle f_a0 hw
    unfold wX12_trial_b247 at hw
    refine lv_ldc2 (v := 4) X.1 X.2.1 X.2.2.2.1 (X.2.2.2.2.1 _ kl_12_475) dX12_trial_247 ?_
    refine lv_goto (tgt := 254) X.1 X.2.1 dX12_trial_250 (by decide) ?_
    exact j254 xn2 4 wt0 Sn H locs ls (lv_sub hl [0, 1] rfl) h hle f_a0 hw
  have L91 : ∀ n91 : Nat, ∀ (xn2 : Int32) (wn3 : Int64) (xn5 : Int32) (xn6 : Int32) (wn7 : Int64) (Sn : kp_S) (H : Heap) (locs : List Loc) (ls : Array Slot), lv_has ls 13 [(0, .ref a0), (2, .int xn2), (3, .long wn3), (5, .int xn5), (6, .int xn6), (7, .long wn7)] → kp_H D cy A Sn s.heap H locs → kp_le S Sn → kp_is Sn a0 12 → wX12_trial_L91 B a0 x1  post n91 xn2 wn3 xn5 xn6 wn7 Sn → W p l e { frames := F + 2, cells := 0, slots := 0, locals := L + 50 } s m ([.ref a0, .int x1] : List Value).toArray below meth c H locs 0 0 (MQ below (kp_Ql D cy A S post) ([.ref a0, .int x1] : List Value).toArray s 0 0 A) (F0 m 91 ls []) := by
    intro n91
    induction n91 with
    | zero => intro xn2 wn3 xn5 xn6 wn7 Sn H locs ls hl h hle f_a0 hw; exact hw.elim
    | succ n91 ih91 =>
      have j205 : ∀ (xn2 : Int32) (wn3 : Int64) (xn6 : Int32) (wn7 : Int64) (xt0 : Int32) (Sn : kp_S) (H : Heap) (locs : List Loc) (ls : Array Slot), lv_has ls 13 [(0, .ref a0), (2, .int xn2), (3, .long wn3), (6, .int xn6), (7, .long wn7)] → kp_H D cy A Sn s.heap H locs → kp_le S Sn → kp_is Sn a0 12 → wX12_trial_b205 B a0 x1 xn2 wn3 xn6 wn7 xt0 (fun xn2_ wn3_ xn5_ xn6_ wn7_ S_ => wX12_trial_L91 B a0 x1  post n91 xn2_ wn3_ xn5_ xn6_ wn7_ S_) Sn post → W p l e { frames := F + 2, cells := 0, slots := 0, locals := L + 50 } s m ([.ref a0, .int x1] : List Value).toArray below meth c H locs 0 0 (MQ below (kp_Ql D cy A S post) ([.ref a0, .int x1] : List Value).toArray s 0 0 A) (F0 m 205 ls [.int xt0]) := by
        intro xn2 wn3 xn6 wn7 xt0 Sn H locs ls hl h hle f_a0 hw
        unfold wX12_trial_b205 at hw
        refine lv_istore (lv' := [(5, .int xt0), (0, .ref a0), (2, .int xn2), (3, .long wn3), (6, .int xn6), (7, .long wn7)]) X.1 X.2.1 dX12_trial_205 hl (by decide) rfl (fun ls hl => ?_)
        refine lv_goto (tgt := 91) X.1 X.2.1 dX12_trial_207 (by decide) ?_
        exact ih91 xn2 wn3 xt0 xn6 wn7 Sn H locs ls (lv_sub hl [1, 2, 3, 0, 4, 5] rfl) h hle f_a0 hw
      have j200 : ∀ (xn2 : Int32) (wn3 : Int64) (xn6 : Int32) (wn7 : Int64) (Sn : kp_S) (H : Heap) (locs : List Loc) (ls : Array Slot), lv_has ls 13 [(0, .ref a0), (2, .int xn2), (3, .long wn3), (6, .int xn6), (7, .long wn7)] → kp_H D cy A Sn s.heap H locs → kp_le S Sn → kp_is Sn a0 12 → wX12_trial_b200 B a0 x1 xn2 wn3 xn6 wn7 (fun xn2_ wn3_ xn5_ xn6_ wn7_ S_ => wX12_trial_L91 B a0 x1  post n91 xn2_ wn3_ xn5_ xn6_ wn7_ S_) Sn post → W p l e { frames := F + 2, cells := 0, slots := 0, locals := L + 50 } s m ([.ref a0, .int x1] : List Value).toArray below meth c H locs 0 0 (MQ below (kp_Ql D cy A S post) ([.ref a0, .int x1] : List Value).toArray s 0 0 A) (F0 m 200 ls []) := by
        intro xn2 wn3 xn6 wn7 Sn H locs ls hl h hle f_a0 hw
        unfold wX12_trial_b200 at hw
        refine lv_iconst (v := 1) X.1 X.2.1 dX12_trial_200 (by decide) ?_
        refine lv_goto (tgt := 205) X.1 X.2.1 dX12_trial_201 (by decide) ?_
        exact j205 xn2 wn3 xn6 wn7 1 Sn H locs ls (lv_sub hl [0, 1, 2, 3, 4] rfl) h hle f_a0 hw
      have j188 : ∀ (xn2 : Int32) (wn3 : Int64) (xn5 : Int32) (xn6 : Int32) (xn9 : Int32) (wt0 : Int64) (Sn : kp_S) (H : Heap) (locs : List Loc) (ls : Array Slot), lv_has ls 13 [(0, .ref a0), (2, .int xn2), (3, .long wn3), (5, .int xn5), (6, .int xn6), (9, .int xn9)] → kp_H D cy A Sn s.heap H locs → kp_le S Sn → kp_is Sn a0 12 → wX12_trial_b188 B a0 x1 xn2 wn3 xn5 xn6 xn9 wt0 (fun xn2_ wn3_ xn5_ xn6_ wn7_ S_ => wX12_trial_L91 B a0 x1  post n91 xn2_ wn3_ xn5_ xn6_ wn7_ S_) Sn post → W p l e { frames := F + 2, cells := 0, slots := 0, locals := L + 50 } s m ([.ref a0, .int x1] : List Value).toArray below meth c H locs 0 0 (MQ below (kp_Ql D cy A S post) ([.ref a0, .int x1] : List Value).toArray s 0 0 A) (F0 m 188 ls [.long wt0]) := by
        intro xn2 wn3 xn5 xn6 xn9 wt0 Sn H locs ls hl h hle f_a0 hw
        unfold wX12_trial_b188 at hw
        refine lv_lstore (lv' := [(7, .long wt0), (0, .ref a0), (2, .int xn2), (3, .long wn3), (5, .int xn5), (6, .int xn6), (9, .int xn9)]) X.1 X.2.1 dX12_trial_188 hl (by decide) rfl (fun ls hl => ?_)
        refine lv_iload X.1 X.2.1 dX12_trial_190 (lv_at hl 4 rfl) ?_
        refine lv_if_ne (tgt := 200) X.1 X.2.1 dX12_trial_192 (by decide) (fun c6002 => ?_) (fun c6002 => ?_)
        · have hw := hw.1 c6002
          exact j200 xn2 wn3 xn6 wt0 Sn H locs ls (lv_sub hl [1, 2, 3, 5, 0] rfl) h hle f_a0 hw
        · have hw := hw.2 c6002
          refine lv_iload X.1 X.2.1 dX12_trial_195 (lv_at hl 6 rfl) ?_
          refine lv_if_eq (tgt := 204) X.1 X.2.1 dX12_trial_197 (by decide) (fun c6001 => ?_) (fun c6001 => ?_)
          · have hw := hw.1 c6001
            refine lv_iconst (v := 0) X.1 X.2.1 dX12_trial_204 (by decide) ?_
            exact j205 xn2 wn3 xn6 wt0 0 Sn H locs ls (lv_sub hl [1, 2, 3, 5, 0] rfl) h hle f_a0 hw
          · have hw := hw.2 c6001
            exact j200 xn2 wn3 xn6 wt0 Sn H locs ls (lv_sub hl [1, 2, 3, 5, 0] rfl) h hle f_a0 hw
      have j145 : ∀ (xn2 : Int32) (wn3 : Int64) (xn5 : Int32) (wn7 : Int64) (xn9 : Int32) (xn10 : Int32) (xt0 : Int32) (Sn : kp_S) (H : Heap) (locs : List Loc) (ls : Array Slot), lv_has ls 13 [(0, .ref a0), (2, .int xn2), (3, .long wn3), (5, .int xn5), (7, .long wn7), (9, .int xn9), (10, .int xn10)] → kp_H D cy A Sn s.heap H locs → kp_le S Sn → kp_is Sn a0 12 → wX12_trial_b145 B a0 x1 xn2 wn3 xn5 wn7 xn9 xn10 xt0 (fun xn2_ wn3_ xn5_ xn6_ wn7_ S_ => wX12_trial_L91 B a0 x1  post n91 xn2_ wn3_ xn5_ xn6_ wn7_ S_) Sn post → W p l e { frames := F + 2, cells := 0, slots := 0, locals := L + 50 } s m ([.ref a0, .int x1] : List Value).toArray below meth c H locs 0 0 (MQ below (kp_Ql D cy A S post) ([.ref a0, .int x1] : List Value).toArray s 0 0 A) (F0 m 145 ls [.int xt0]) := by
        intro xn2 wn3 xn5 wn7 xn9 xn10 xt0 Sn H locs ls hl h hle f_a0 hw
        unfold wX12_trial_b145 at hw
        refine lv_istore (lv' := [(6, .int xt0), (0, .ref a0), (2, .int xn2), (3, .long wn3), (5, .int xn5), (7, .long wn7), (9, .int xn9), (10, .int xn10)]) X.1 X.2.1 dX12_trial_145 hl (by decide) rfl (fun ls hl => ?_)
        refine lv_aload_n X.1 X.2.1 dX12_trial_147 rfl (lv_at hl 1 rfl) ?_
        refine kp_calll X h (kp_runV (rm := { frames := F, cells := 0, slots := 0, locals := L }) (mc := 0) (ms := 0) (rest := []) (Qc := fun A => kp_Ql D cy A Sn _) X h (hB Sn a0 _ h.2.2.2 f_a0 hw) f_a0 cv_12_447 ⟨by dsimp only; omega, by dsimp only; omega, rfl, rfl, by dsimp only; omega, by dsimp only; omega⟩ rfl hl.1 rfl (Nat.le_of_ble_eq_true rfl) dX12_trial_148) (fun z7002 T7001 hw l_T7001 H locs h => ?_)
        have f_a0 := l_T7001.is f_a0
        have hle := hle.tr l_T7001
        refine lv_lstore (lv' := [(11, .long z7002), (6, .int xt0), (0, .ref a0), (2, .int xn2), (3, .long wn3), (5, .int xn5), (7, .long wn7), (9, .int xn9), (10, .int xn10)]) X.1 X.2.1 dX12_trial_151 hl (by decide) rfl (fun ls hl => ?_)
        refine lv_aload_n X.1 X.2.1 dX12_trial_153 rfl (lv_at hl 2 rfl) ?_
        refine lv_bipush (v := 48) X.1 X.2.1 dX12_trial_154 (by decide) ?_
        refine lv_iconst (v := 0) X.1 X.2.1 dX12_trial_156 (by decide) ?_
        refine lv_iconst (v := 0) X.1 X.2.1 dX12_trial_157 (by decide) ?_
        refine kp_calli X h (kp_runV (rm := { frames := 0, cells := 0, slots := 0, locals := 0 }) (mc := 0) (ms := 0) (rest := []) (Qc := fun A => kp_Qi D cy A T7001 _) X h (c_X12_emit l D cy ad T7001 a0 48 0 0 _ h.2.2.2 f_a0 hw) f_a0 cv_12_451 ⟨by dsimp only; omega, by dsimp only; omega, rfl, rfl, by dsimp only; omega, by dsimp only; omega⟩ rfl hl.1 rfl (Nat.le_of_ble_eq_true rfl) dX12_trial_158) (fun y7004 T7003 hw l_T7003 H locs h => ?_)
        have f_a0 := l_T7003.is f_a0
        have hle := hle.tr l_T7003
        refine lv_pop X.1 X.2.1 dX12_trial_161 rfl ?_
        refine lv_aload_n X.1 X.2.1 dX12_trial_162 rfl (lv_at hl 2 rfl) ?_
        obtain ⟨b7005, e_b7005, hw⟩ := hw
        have f_b7005 := h.2.2.2.rf (c := 12) (k := 15) f_a0 (by decide) (by decide) e_b7005 (t := 14) rfl
        refine kp_get X h f_a0 ff_12_46.l (v := .ref b7005) (congrArg va_rf e_b7005) dX12_trial_163 ?_
        refine lv_iload X.1 X.2.1 dX12_trial_166 (lv_at hl 8 rfl) ?_
        refine lv_aload_n X.1 X.2.1 dX12_trial_168 rfl (lv_at hl 2 rfl) ?_
        refine kp_get X h f_a0 fp_12_370.l (v := .int (kp_I T7003 2417 a0)) rfl dX12_trial_169 ?_
        obtain ⟨hi, hw⟩ := hw
        refine kp_iast X h f_b7005 hi dX12_trial_172 (fun T7006 e_T7006 l_T7006 H locs h => ?_)
        have hw := hw T7006 e_T7006
        have f_a0 := l_T7006.is f_a0
        have f_b7005 := l_T7006.is f_b7005
        have hle := hle.tr l_T7006
        have e_b7005 : kp_R T7006 2415 a0 = some b7005 := by rw [e_T7006]; exact e_b7005
        refine lv_iload X.1 X.2.1 dX12_trial_173 (lv_at hl 5 rfl) ?_
        refine lv_if_eq (tgt := 183) X.1 X.2.1 dX12_trial_175 (by decide) (fun c7007 => ?_) (fun c7007 => ?_)
        · have hw := hw.1 c7007
          refine lv_lload X.1 X.2.1 dX12_trial_183 (lv_at hl 6 rfl) ?_
          refine lv_lload X.1 X.2.1 dX12_trial_185 (lv_at hl 0 rfl) ?_
          refine lv_lor X.1 X.2.1 dX12_trial_187 ?_
          exact j188 xn2 wn3 xn5 xt0 xn9 (wn7 ||| z7002) T7006 H locs ls (lv_sub hl [2, 3, 4, 5, 1, 7] rfl) h hle f_a0 hw
        · have hw := hw.2 c7007
          refine lv_lload X.1 X.2.1 dX12_trial_178 (lv_at hl 6 rfl) ?_
          refine lv_goto (tgt := 188) X.1 X.2.1 dX12_trial_180 (by decide) ?_
          exact j188 xn2 wn3 xn5 xt0 xn9 wn7 T7006 H locs ls (lv_sub hl [2, 3, 4, 5, 1, 7] rfl) h hle f_a0 hw
      have j140 : ∀ (xn2 : Int32) (wn3 : Int64) (xn5 : Int32) (wn7 : Int64) (xn9 : Int32) (xn10 : Int32) (Sn : kp_S) (H : Heap) (locs : List Loc) (ls : Array Slot), lv_has ls 13 [(0, .ref a0), (2, .int xn2), (3, .long wn3), (5, .int xn5), (7, .long wn7), (9, .int xn9), (10, .int xn10)] → kp_H D cy A Sn s.heap H locs → kp_le S Sn → kp_is Sn a0 12 → wX12_trial_b140 B a0 x1 xn2 wn3 xn5 wn7 xn9 xn10 (fun xn2_ wn3_ xn5_ xn6_ wn7_ S_ => wX12_trial_L91 B a0 x1  post n91 xn2_ wn3_ xn5_ xn6_ wn7_ S_) Sn post → W p l e { frames := F + 2, cells := 0, slots := 0, locals := L + 50 } s m ([.ref a0, .int x1] : List Value).toArray below meth c H locs 0 0 (MQ below (kp_Ql D cy A S post) ([.ref a0, .int x1] : List Value).toArray s 0 0 A) (F0 m 140 ls []) := by
        intro xn2 wn3 xn5 wn7 xn9 xn10 Sn H locs ls hl h hle f_a0 hw
        unfold wX12_trial_b140 at hw
        refine lv_iconst (v := 1) X.1 X.2.1 dX12_trial_140 (by decide) ?_
        refine lv_goto (tgt := 145) X.1 X.2.1 dX12_trial_141 (by decide) ?_
        exact j145 xn2 wn3 xn5 wn7 xn9 xn10 1 Sn H locs ls (lv_sub hl [0, 1, 2, 3, 4, 5, 6] rfl) h hle f_a0 hw
      have j144 : ∀ (xn2 : Int32) (wn3 : Int64) (xn5 : Int32) (wn7 : Int64) (xn9 : Int32) (xn10 : Int32) (Sn : kp_S) (H : Heap) (locs : List Loc) (ls : Array Slot), lv_has ls 13 [(0, .ref a0), (2, .int xn2), (3, .long wn3), (5, .int xn5), (7, .long wn7), (9, .int xn9), (10, .int xn10)] → kp_H D cy A Sn s.heap H locs → kp_le S Sn → kp_is Sn a0 12 → wX12_trial_b144 B a0 x1 xn2 wn3 xn5 wn7 xn9 xn10 (fun xn2_ wn3_ xn5_ xn6_ wn7_ S_ => wX12_trial_L91 B a0 x1  post n91 xn2_ wn3_ xn5_ xn6_ wn7_ S_) Sn post → W p l e { frames := F + 2, cells := 0, slots := 0, locals := L + 50 } s m ([.ref a0, .int x1] : List Value).toArray below meth c H locs 0 0 (MQ below (kp_Ql D cy A S post) ([.ref a0, .int x1] : List Value).toArray s 0 0 A) (F0 m 144 ls []) := by
        intro xn2 wn3 xn5 wn7 xn9 xn10 Sn H locs ls hl h hle f_a0 hw
        unfold wX12_trial_b144 at hw
        refine lv_iconst (v := 0) X.1 X.2.1 dX12_trial_144 (by decide) ?_
        exact j145 xn2 wn3 xn5 wn7 xn9 xn10 0 Sn H locs ls (lv_sub hl [0, 1, 2, 3, 4, 5, 6] rfl) h hle f_a0 hw
      intro xn2 wn3 xn5 xn6 wn7 Sn H locs ls hl h hle f_a0 hw
      unfold wX12_trial_L91 at hw
      refine lv_aload_n X.1 X.2.1 dX12_trial_91 rfl (lv_at hl 0 rfl) ?_
      refine lv_bipush (v := 25) X.1 X.2.1 dX12_trial_92 (by decide) ?_
      refine kp_calli X h (kp_runV (rm := { frames := 1, cells := 0, slots := 0, locals := 21 }) (mc := 0) (ms := 0) (rest := []) (Qc := fun A => kp_Qi D cy A Sn _) X h (c_X12_skip l D cy ad Sn a0 25 _ h.2.2.2 f_a0 hw) f_a0 cv_12_440 ⟨by dsimp only; omega, by dsimp only; omega, rfl, rfl, by dsimp only; omega, by dsimp only; omega⟩ rfl hl.1 rfl (Nat.le_of_ble_eq_true rfl) dX12_trial_94) (fun y10002 T10001 hw l_T10001 H locs h => ?_)
      have f_a0 := l_T10001.is f_a0
      have hle := hle.tr l_T10001
      refine lv_if_eq (tgt := 210) X.1 X.2.1 dX12_trial_97 (by decide) (fun c10016 => ?_) (fun c10016 => ?_)
      · have hw := hw.1 c10016
        refine lv_aload_n X.1 X.2.1 dX12_trial_210 rfl (lv_at hl 0 rfl) ?_
        refine lv_bipush (v := 53) X.1 X.2.1 dX12_trial_211 (by decide) ?_
        refine lv_iconst (v := 0) X.1 X.2.1 dX12_trial_213 (by decide) ?_
        refine lv_iconst (v := 0) X.1 X.2.1 dX12_trial_214 (by decide) ?_
        refine kp_calli X h (kp_runV (rm := { frames := 0, cells := 0, slots := 0, locals := 0 }) (mc := 0) (ms := 0) (rest := []) (Qc := fun A => kp_Qi D cy A T10001 _) X h (c_X12_emit l D cy ad T10001 a0 53 0 0 _ h.2.2.2 f_a0 hw) f_a0 cv_12_451 ⟨by dsimp only; omega, by dsimp only; omega, rfl, rfl, by dsimp only; omega, by dsimp only; omega⟩ rfl hl.1 rfl (Nat.le_of_ble_eq_true rfl) dX12_trial_215) (fun y10004 T10003 hw l_T10003 H locs h => ?_)
        have f_a0 := l_T10003.is f_a0
        have hle := hle.tr l_T10003
        refine lv_pop X.1 X.2.1 dX12_trial_218 rfl ?_
        refine lv_lload_n X.1 X.2.1 dX12_trial_219 rfl (lv_at hl 2 rfl) ?_
        refine lv_ldc2 (v := 4) X.1 X.2.1 X.2.2.2.1 (X.2.2.2.2.1 _ kl_12_475) dX12_trial_220 ?_
        refine lv_land X.1 X.2.1 dX12_trial_223 ?_
        refine lv_lconst (v := 0) X.1 X.2.1 dX12_trial_224 (by decide) ?_
        refine W.lcmp X.1 X.2.1 dX12_trial_225 ?_
        refine lv_if_eq (tgt := 256) X.1 X.2.1 dX12_trial_226 (by decide) (fun c10007 => ?_) (fun c10007 => ?_)
        · have hw := hw.1 c10007
          exact j256 xn2 wn3 T10003 H locs ls (lv_sub hl [0, 1, 2] rfl) h hle f_a0 hw
        · have hw := hw.2 c10007
          refine lv_lload_n X.1 X.2.1 dX12_trial_229 rfl (lv_at hl 2 rfl) ?_
          refine lv_ldc2 (v := (-5)) X.1 X.2.1 X.2.2.2.1 (X.2.2.2.2.1 _ kl_12_548) dX12_trial_230 ?_
          refine lv_land X.1 X.2.1 dX12_trial_233 ?_
          refine lv_lload X.1 X.2.1 dX12_trial_234 (lv_at hl 5 rfl) ?_
          refine lv_lor X.1 X.2.1 dX12_trial_236 ?_
          refine lv_iload X.1 X.2.1 dX12_trial_237 (lv_at hl 3 rfl) ?_
          refine lv_if_eq (tgt := 247) X.1 X.2.1 dX12_trial_239 (by decide) (fun c10006 => ?_) (fun c10006 => ?_)
          · have hw := hw.1 c10006
            exact j247 xn2 ((wn3 &&& (-5)) ||| wn7) T10003 H locs ls (lv_sub hl [0, 1] rfl) h hle f_a0 hw
          · have hw := hw.2 c10006
            refine lv_iload X.1 X.2.1 dX12_trial_242 (lv_at hl 4 rfl) ?_
            refine lv_if_eq (tgt := 253) X.1 X.2.1 dX12_trial_244 (by decide) (fun c10005 => ?_) (fun c10005 => ?_)
            · have hw := hw.1 c10005
              refine lv_lconst (v := 0) X.1 X.2.1 dX12_trial_253 (by decide) ?_
              exact j254 xn2 0 ((wn3 &&& (-5)) ||| wn7) T10003 H locs ls (lv_sub hl [0, 1] rfl) h hle f_a0 hw
            · have hw := hw.2 c10005
              exact j247 xn2 ((wn3 &&& (-5)) ||| wn7) T10003 H locs ls (lv_sub hl [0, 1] rfl) h hle f_a0 hw
      · have hw := hw.2 c10016
        refine lv_aload_n X.1 X.2.1 dX12_trial_100 rfl (lv_at hl 0 rfl) ?_
        refine lv_bipush (v := 26) X.1 X.2.1 dX12_trial_101 (by decide) ?_
        refine kp_calli X h (kp_runV (rm := { frames := 0, cells := 0, slots := 0, locals := 0 }) (mc := 0) (ms := 0) (rest := []) (Qc := fun A => kp_Qi D cy A T10001 _) X h (c_X12_is l D cy ad T10001 a0 26 _ h.2.2.2 f_a0 hw) f_a0 cv_12_379 ⟨by dsimp only; omega, by dsimp only; omega, rfl, rfl, by dsimp only; omega, by dsimp only; omega⟩ rfl hl.1 rfl (Nat.le_of_ble_eq_true rfl) dX12_trial_103) (fun y10009 T10008 hw l_T10008 H locs h => ?_)
        have f_a0 := l_T10008.is f_a0
        have hle := hle.tr l_T10008
        refine lv_istore (lv' := [(9, .int y10009), (0, .ref a0), (2, .int xn2), (3, .long wn3), (5, .int xn5), (6, .int xn6), (7, .long wn7)]) X.1 X.2.1 dX12_trial_106 hl (by decide) rfl (fun ls hl => ?_)
        refine lv_aload_n X.1 X.2.1 dX12_trial_108 rfl (lv_at hl 1 rfl) ?_
        refine lv_iconst (v := 0) X.1 X.2.1 dX12_trial_109 (by decide) ?_
        refine kp_putI X h f_a0 fp_12_471 rfl ⟨by decide, by decide⟩ dX12_trial_110 (fun T10010 e_T10010 l_T10010 H locs h => ?_)
        have hw := hw T10010 e_T10010
        have f_a0 := l_T10010.is f_a0
        have hle := hle.tr l_T10010
        refine lv_aload_n X.1 X.2.1 dX12_trial_113 rfl (lv_at hl 1 rfl) ?_
        refine lv_bipush (v := 52) X.1 X.2.1 dX12_trial_114 (by decide) ?_
        refine lv_bipush (v := 51) X.1 X.2.1 dX12_trial_116 (by decide) ?_
        refine kp_calli X h (kp_runV (rm := { frames := 150, cells := 0, slots := 0, locals := 3185 }) (mc := 0) (ms := 0) (rest := []) (Qc := fun A => kp_Qi D cy A T10010 _) X h (c_X12_list l D cy ad T10010 a0 52 51 _ h.2.2.2 f_a0 hw) f_a0 cv_12_526 ⟨by dsimp only; omega, by dsimp only; omega, rfl, rfl, by dsimp only; omega, by dsimp only; omega⟩ rfl hl.1 rfl (Nat.le_of_ble_eq_true rfl) dX12_trial_118) (fun y10012 T10011 hw l_T10011 H locs h => ?_)
        have f_a0 := l_T10011.is f_a0
        have hle := hle.tr l_T10011
        refine lv_istore (lv' := [(10, .int y10012), (9, .int y10009), (0, .ref a0), (2, .int xn2), (3, .long wn3), (5, .int xn5), (6, .int xn6), (7, .long wn7)]) X.1 X.2.1 dX12_trial_121 hl (by decide) rfl (fun ls hl => ?_)
        refine lv_iload X.1 X.2.1 dX12_trial_123 (lv_at hl 6 rfl) ?_
        refine lv_if_ne (tgt := 140) X.1 X.2.1 dX12_trial_125 (by decide) (fun c10015 => ?_) (fun c10015 => ?_)
        · have hw := hw.1 c10015
          exact j140 xn2 wn3 xn5 wn7 y10009 y10012 T10011 H locs ls (lv_sub hl [2, 3, 4, 5, 7, 1, 0] rfl) h hle f_a0 hw
        · have hw := hw.2 c10015
          refine lv_iload X.1 X.2.1 dX12_trial_128 (lv_at hl 5 rfl) ?_
          refine lv_if_ne (tgt := 144) X.1 X.2.1 dX12_trial_130 (by decide) (fun c10014 => ?_) (fun c10014 => ?_)
          · have hw := hw.1 c10014
            exact j144 xn2 wn3 xn5 wn7 y10009 y10012 T10011 H locs ls (lv_sub hl [2, 3, 4, 5, 7, 1, 0] rfl) h hle f_a0 hw
          · have hw := hw.2 c10014
            refine lv_aload_n X.1 X.2.1 dX12_trial_133 rfl (lv_at hl 2 rfl) ?_
            refine kp_get X h f_a0 fp_12_471.l (v := .int (kp_I T10011 2425 a0)) rfl dX12_trial_134 ?_
            refine lv_if_eq (tgt := 144) X.1 X.2.1 dX12_trial_137 (by decide) (fun c10013 => ?_) (fun c10013 => ?_)
            · have hw := hw.1 c10013
              exact j144 xn2 wn3 xn5 wn7 y10009 y10012 T10011 H locs ls (lv_sub hl [2, 3, 4, 5, 7, 1, 0] rfl) h hle f_a0 hw
            · have hw := hw.2 c10013
              exact j140 xn2 wn3 xn5 wn7 y10009 y10012 T10011 H locs ls (lv_sub hl [2, 3, 4, 5, 7, 1, 0] rfl) h hle f_a0 hw
  have j82 : ∀ (xn2 : Int32) (wn3 : Int64) (Sn : kp_S) (H : Heap) (locs : List Loc) (ls : Array Slot), lv_has ls 13 [(0, .ref a0), (2, .int xn2), (3, .long wn3)] → kp_H D cy A Sn s.heap H locs → kp_le S Sn → kp_is Sn a0 12 → wX12_trial_b82 B a0 x1 xn2 wn3  Sn post → W p l e { frames := F + 2, cells := 0, slots := 0, locals := L + 50 } s m ([.ref a0, .int x1] : List Value).toArray below meth c H locs 0 0 (MQ below (kp_Ql D cy A S post) ([.ref a0, .int x1] : List Value).toArray s 0 0 A) (F0 m 82 ls []) := by
    intro xn2 wn3 Sn H locs ls hl h hle f_a0 hw
    unfold wX12_trial_b82 at hw
    refine lv_iconst (v := 0) X.1 X.2.1 dX12_trial_82 (by decide) ?_
    refine lv_istore (lv' := [(5, .int 0), (0, .ref a0), (2, .int xn2), (3, .long wn3)]) X.1 X.2.1 dX12_trial_83 hl (by decide) rfl (fun ls hl => ?_)
    refine lv_iconst (v := 0) X.1 X.2.1 dX12_trial_85 (by decide) ?_
    refine lv_istore (lv' := [(6, .int 0), (5, .int 0), (0, .ref a0), (2, .int xn2), (3, .long wn3)]) X.1 X.2.1 dX12_trial_86 hl (by decide) rfl (fun ls hl => ?_)
    refine lv_lconst (v := 0) X.1 X.2.1 dX12_trial_88 (by decide) ?_
    refine lv_lstore (lv' := [(7, .long 0), (6, .int 0), (5, .int 0), (0, .ref a0), (2, .int xn2), (3, .long wn3)]) X.1 X.2.1 dX12_trial_89 hl (by decide) rfl (fun ls hl => ?_)
    obtain ⟨n0, hw⟩ := hw
    exact L91 n0 xn2 wn3 0 0 0 Sn H locs ls (lv_sub hl [3, 4, 5, 2, 1, 0] rfl) h hle f_a0 hw
  have j63 : ∀ (xn2 : Int32) (wn3 : Int64) (Sn : kp_S) (H : Heap) (locs : List Loc) (ls : Array Slot), lv_has ls 13 [(0, .ref a0), (2, .int xn2), (3, .long wn3)] → kp_H D cy A Sn s.heap H locs → kp_le S Sn → kp_is Sn a0 12 → wX12_trial_b63 B a0 x1 xn2 wn3  Sn post → W p l e { frames := F + 2, cells := 0, slots := 0, locals := L + 50 } s m ([.ref a0, .int x1] : List Value).toArray below meth c H locs 0 0 (MQ below (kp_Ql D cy A S post) ([.ref a0, .int x1] : List Value).toArray s 0 0 A) (F0 m 63 ls []) := by
    intro xn2 wn3 Sn H locs ls hl h hle f_a0 hw
    unfold wX12_trial_b63 at hw
    refine lv_aload_n X.1 X.2.1 dX12_trial_63 rfl (lv_at hl 0 rfl) ?_
    refine lv_bipush (v := 25) X.1 X.2.1 dX12_trial_64 (by decide) ?_
    refine kp_calli X h (kp_runV (rm := { frames := 0, cells := 0, slots := 0, locals := 0 }) (mc := 0) (ms := 0) (rest := []) (Qc := fun A => kp_Qi D cy A Sn _) X h (c_X12_is l D cy ad Sn a0 25 _ h.2.2.2 f_a0 hw) f_a0 cv_12_379 ⟨by dsimp only; omega, by dsimp only; omega, rfl, rfl, by dsimp only; omega, by dsimp only; omega⟩ rfl hl.1 rfl (Nat.le_of_ble_eq_true rfl) dX12_trial_66) (fun y12002 T12001 hw l_T12001 H locs h => ?_)
    have f_a0 := l_T12001.is f_a0
    have hle := hle.tr l_T12001
    refine lv_if_eq (tgt := 82) X.1 X.2.1 dX12_trial_69 (by decide) (fun c12005 => ?_) (fun c12005 => ?_)
    · have hw := hw.1 c12005
      exact j82 xn2 wn3 T12001 H locs ls (lv_sub hl [0, 1, 2] rfl) h hle f_a0 hw
    · have hw := hw.2 c12005
      refine lv_aload_n X.1 X.2.1 dX12_trial_72 rfl (lv_at hl 0 rfl) ?_
      obtain ⟨b12003, e_b12003, hw⟩ := hw
      have f_b12003 := h.2.2.2.rf (c := 12) (k := 23) f_a0 (by decide) (by decide) e_b12003 (t := 14) rfl
      refine kp_get X h f_a0 ff_12_67.l (v := .ref b12003) (congrArg va_rf e_b12003) dX12_trial_73 ?_
      refine lv_iload_n X.1 X.2.1 dX12_trial_76 rfl (lv_at hl 1 rfl) ?_
      refine lv_aload_n X.1 X.2.1 dX12_trial_77 rfl (lv_at hl 0 rfl) ?_
      refine kp_get X h f_a0 fp_12_370.l (v := .int (kp_I T12001 2417 a0)) rfl dX12_trial_78 ?_
      obtain ⟨hi, hw⟩ := hw
      refine kp_iast X h f_b12003 hi dX12_trial_81 (fun T12004 e_T12004 l_T12004 H locs h => ?_)
      have hw := hw T12004 e_T12004
      have f_a0 := l_T12004.is f_a0
      have f_b12003 := l_T12004.is f_b12003
      have hle := hle.tr l_T12004
      have e_b12003 : kp_R T12004 2423 a0 = some b12003 := by rw [e_T12004]; exact e_b12003
      exact j82 xn2 wn3 T12004 H locs ls (lv_sub hl [0, 1, 2] rfl) h hle f_a0 hw
  unfold wX12_trial at hw
  have h : kp_H D cy A S s.heap s.heap [] := h
  revert h
  intro h
  refine lv_aload_n X.1 X.2.1 dX12_trial_0 rfl (lv_at hl 0 rfl) ?_
  refine lv_iload_n X.1 X.2.1 dX12_trial_1 rfl (lv_at hl 1 rfl) ?_
  refine kp_calli X h (kp_runV (rm := { frames := 0, cells := 0, slots := 0, locals := 0 }) (mc := 0) (ms := 0) (rest := []) (Qc := fun A => kp_Qi D cy A S _) X h (c_X12_describe l D cy ad S a0 x1 _ h.2.2.2 f_a0 hw) f_a0 cv_12_538 ⟨by dsimp only; omega, by dsimp only; omega, rfl, rfl, by dsimp only; omega, by dsimp only; omega⟩ rfl hl.1 rfl (Nat.le_of_ble_eq_true rfl) dX12_trial_2) (fun y2 T1 hw l_T1 H locs h => ?_)
  have f_a0 := l_T1.is f_a0
  have hle := hle.tr l_T1
  refine lv_istore_n (lv' := [(2, .int y2), (0, .ref a0), (1, .int x1)]) X.1 X.2.1 dX12_trial_5 rfl hl (by decide) rfl (fun ls hl => ?_)
  refine lv_aload_n X.1 X.2.1 dX12_trial_6 rfl (lv_at hl 1 rfl) ?_
  refine lv_dup X.1 X.2.1 dX12_trial_7 rfl ?_
  refine kp_get X h f_a0 fp_12_376.l (v := .int (kp_I T1 2410 a0)) rfl dX12_trial_8 ?_
  refine lv_iconst (v := 1) X.1 X.2.1 dX12_trial_11 (by decide) ?_
  refine lv_iadd X.1 X.2.1 dX12_trial_12 ?_
  refine kp_putI X h f_a0 fp_12_376 rfl ⟨rfl, rfl⟩ dX12_trial_13 (fun T3 e_T3 l_T3 H locs h => ?_)
  have hw := hw T3 e_T3
  have f_a0 := l_T3.is f_a0
  have hle := hle.tr l_T3
  refine lv_aload_n X.1 X.2.1 dX12_trial_16 rfl (lv_at hl 1 rfl) ?_
  refine lv_bipush (v := 50) X.1 X.2.1 dX12_trial_17 (by decide) ?_
  refine lv_iload_n X.1 X.2.1 dX12_trial_19 rfl (lv_at hl 0 rfl) ?_
  refine lv_iconst (v := 0) X.1 X.2.1 dX12_trial_20 (by decide) ?_
  refine kp_calli X h (kp_runV (rm := { frames := 0, cells := 0, slots := 0, locals := 0 }) (mc := 0) (ms := 0) (rest := []) (Qc := fun A => kp_Qi D cy A T3 _) X h (c_X12_emit l D cy ad T3 a0 50 y2 0 _ h.2.2.2 f_a0 hw) f_a0 cv_12_451 ⟨by dsimp only; omega, by dsimp only; omega, rfl, rfl, by dsimp only; omega, by dsimp only; omega⟩ rfl hl.1 rfl (Nat.le_of_ble_eq_true rfl) dX12_trial_21) (fun y5 T4 hw l_T4 H locs h => ?_)
  have f_a0 := l_T4.is f_a0
  have hle := hle.tr l_T4
  refine lv_pop X.1 X.2.1 dX12_trial_24 rfl ?_
  refine lv_aload_n X.1 X.2.1 dX12_trial_25 rfl (lv_at hl 1 rfl) ?_
  refine kp_calll X h (kp_runV (rm := { frames := F, cells := 0, slots := 0, locals := L }) (mc := 0) (ms := 0) (rest := []) (Qc := fun A => kp_Ql D cy A T4 _) X h (hB T4 a0 _ h.2.2.2 f_a0 hw) f_a0 cv_12_447 ⟨by dsimp only; omega, by dsimp only; omega, rfl, rfl, by dsimp only; omega, by dsimp only; omega⟩ rfl hl.1 rfl (Nat.le_of_ble_eq_true rfl) dX12_trial_26) (fun z7 T6 hw l_T6 H locs h => ?_)
  have f_a0 := l_T6.is f_a0
  have hle := hle.tr l_T6
  refine lv_lstore_n (lv' := [(3, .long z7), (2, .int y2), (0, .ref a0), (1, .int x1)]) X.1 X.2.1 dX12_trial_29 rfl hl (by decide) rfl (fun ls hl => ?_)
  refine lv_aload_n X.1 X.2.1 dX12_trial_30 rfl (lv_at hl 2 rfl) ?_
  refine lv_bipush (v := 48) X.1 X.2.1 dX12_trial_31 (by decide) ?_
  refine lv_iconst (v := 0) X.1 X.2.1 dX12_trial_33 (by decide) ?_
  refine lv_iconst (v := 0) X.1 X.2.1 dX12_trial_34 (by decide) ?_
  refine kp_calli X h (kp_runV (rm := { frames := 0, cells := 0, slots := 0, locals := 0 }) (mc := 0) (ms := 0) (rest := []) (Qc := fun A => kp_Qi D cy A T6 _) X h (c_X12_emit l D cy ad T6 a0 48 0 0 _ h.2.2.2 f_a0 hw) f_a0 cv_12_451 ⟨by dsimp only; omega, by dsimp only; omega, rfl, rfl, by dsimp only; omega, by dsimp only; omega⟩ rfl hl.1 rfl (Nat.le_of_ble_eq_true rfl) dX12_trial_35) (fun y9 T8 hw l_T8 H locs h => ?_)
  have f_a0 := l_T8.is f_a0
  have hle := hle.tr l_T8
  refine lv_pop X.1 X.2.1 dX12_trial_38 rfl ?_
  refine lv_aload_n X.1 X.2.1 dX12_trial_39 rfl (lv_at hl 2 rfl) ?_
  refine lv_bipush (v := 25) X.1 X.2.1 dX12_trial_40 (by decide) ?_
  refine kp_calli X h (kp_runV (rm := { frames := 0, cells := 0, slots := 0, locals := 0 }) (mc := 0) (ms := 0) (rest := []) (Qc := fun A => kp_Qi D cy A T8 _) X h (c_X12_is l D cy ad T8 a0 25 _ h.2.2.2 f_a0 hw) f_a0 cv_12_379 ⟨by dsimp only; omega, by dsimp only; omega, rfl, rfl, by dsimp only; omega, by dsimp only; omega⟩ rfl hl.1 rfl (Nat.le_of_ble_eq_true rfl) dX12_trial_42) (fun y11 T10 hw l_T10 H locs h => ?_)
  have f_a0 := l_T10.is f_a0
  have hle := hle.tr l_T10
  refine lv_if_ne (tgt := 63) X.1 X.2.1 dX12_trial_45 (by decide) (fun c16 => ?_) (fun c16 => ?_)
  · have hw := hw.1 c16
    exact j63 y2 z7 T10 _ _ ls (lv_sub hl [2, 1, 0] rfl) h hle f_a0 hw
  · have hw := hw.2 c16
    refine lv_aload_n X.1 X.2.1 dX12_trial_48 rfl (lv_at hl 2 rfl) ?_
    refine lv_bipush (v := 27) X.1 X.2.1 dX12_trial_49 (by decide) ?_
    refine kp_calli X h (kp_runV (rm := { frames := 0, cells := 0, slots := 0, locals := 0 }) (mc := 0) (ms := 0) (rest := []) (Qc := fun A => kp_Qi D cy A T10 _) X h (c_X12_is l D cy ad T10 a0 27 _ h.2.2.2 f_a0 hw) f_a0 cv_12_379 ⟨by dsimp only; omega, by dsimp only; omega, rfl, rfl, by dsimp only; omega, by dsimp only; omega⟩ rfl hl.1 rfl (Nat.le_of_ble_eq_true rfl) dX12_trial_51) (fun y13 T12 hw l_T12 H locs h => ?_)
    have f_a0 := l_T12.is f_a0
    have hle := hle.tr l_T12
    refine lv_if_ne (tgt := 63) X.1 X.2.1 dX12_trial_54 (by decide) (fun c15 => ?_) (fun c15 => ?_)
    · have hw := hw.1 c15
      exact j63 y2 z7 T12 _ _ ls (lv_sub hl [2, 1, 0] rfl) h hle f_a0 hw
    · have hw := hw.2 c15
      refine lv_aload_n X.1 X.2.1 dX12_trial_57 rfl (lv_at hl 2 rfl) ?_
      refine kp_callv X h (kp_runV (rm := { frames := 0, cells := 0, slots := 0, locals := 0 }) (mc := 0) (ms := 0) (rest := []) (Qc := fun A => kp_Qv D cy A T12 _) X h (c_X12_wrong l D cy ad T12 a0 _ h.2.2.2 f_a0 hw) f_a0 cv_12_382 ⟨by dsimp only; omega, by dsimp only; omega, rfl, rfl, by dsimp only; omega, by dsimp only; omega⟩ rfl hl.1 rfl (Nat.le_of_ble_eq_true rfl) dX12_trial_58) (fun T14 hw l_T14 H locs h => ?_)
      have f_a0 := l_T14.is f_a0
      have hle := hle.tr l_T14
      refine lv_lconst (v := 0) X.1 X.2.1 dX12_trial_61 (by decide) ?_
      exact kp_retl X hr hlocks h hle hw dX12_trial_62
theorem dX12_hold_0 : decode cX12_hold 0 = .ok (.aload_n 0, 1) := by decide +kernel
theorem dX12_hold_1 : decode cX12_hold 1 = .ok (.dup, 1) := by decide +kernel
theorem dX12_hold_2 : decode cX12_hold 2 = .ok (.getfield 376, 3) := by decide +kernel
theorem dX12_hold_5 : decode cX12_hold 5 = .ok (.iconst 1, 1) := by decide +kernel
theorem dX12_hold_6 : decode cX12_hold 6 = .ok (.iadd, 1) := by decide +kernel
theorem dX12_hold_7 : decode cX12_hold 7 = .ok (.putfield 376, 3) := by decide +kernel
theorem dX12_hold_10 : decode cX12_hold 10 = .ok (.aload_n 0, 1) := by decide +kernel
theorem dX12_hold_11 : decode cX12_hold 11 = .ok (.invokevirtual 520, 3) := by decide +kernel
theorem dX12_hold_14 : decode cX12_hold 14 = .ok (.aload_n 0, 1) := by decide +kernel
theorem dX12_hold_15 : decode cX12_hold 15 = .ok (.bipush 49, 2) := by decide +kernel
theorem dX12_hold_17 : decode cX12_hold 17 = .ok (.iconst 0, 1) := by decide +kernel
theorem dX12_hold_18 : decode cX12_hold 18 = .ok (.iconst 0, 1) := by decide +kernel
theorem dX12_hold_19 : decode cX12_hold 19 = .ok (.invokevirtual 451, 3) := by decide +kernel
theorem dX12_hold_22 : decode cX12_hold 22 = .ok (.istore_n 1, 1) := by decide +kernel
theorem dX12_hold_23 : decode cX12_hold 23 = .ok (.aload_n 0, 1) := by decide +kernel
theorem dX12_hold_24 : decode cX12_hold 24 = .ok (.invokevirtual 447, 3) := by decide +kernel
theorem dX12_hold_27 : decode cX12_hold 27 = .ok (.lstore_n 2, 1) := by decide +kernel
theorem dX12_hold_28 : decode cX12_hold 28 = .ok (.aload_n 0, 1) := by decide +kernel
theorem dX12_hold_29 : decode cX12_hold 29 = .ok (.bipush 48, 2) := by decide +kernel
theorem dX12_hold_31 : decode cX12_hold 31 = .ok (.iconst 0, 1) := by decide +kernel
theorem dX12_hold_32 : decode cX12_hold 32 = .ok (.iconst 0, 1) := by decide +kernel
theorem dX12_hold_33 : decode cX12_hold 33 = .ok (.invokevirtual 451, 3) := by decide +kernel
theorem dX12_hold_36 : decode cX12_hold 36 = .ok (.pop, 1) := by decide +kernel
theorem dX12_hold_37 : decode cX12_hold 37 = .ok (.aload_n 0, 1) := by decide +kernel
theorem dX12_hold_38 : decode cX12_hold 38 = .ok (.getfield 46, 3) := by decide +kernel
theorem dX12_hold_41 : decode cX12_hold 41 = .ok (.iload_n 1, 1) := by decide +kernel
theorem dX12_hold_42 : decode cX12_hold 42 = .ok (.aload_n 0, 1) := by decide +kernel
theorem dX12_hold_43 : decode cX12_hold 43 = .ok (.getfield 370, 3) := by decide +kernel
theorem dX12_hold_46 : decode cX12_hold 46 = .ok (.iastore, 1) := by decide +kernel
theorem dX12_hold_47 : decode cX12_hold 47 = .ok (.lload_n 2, 1) := by decide +kernel
theorem dX12_hold_48 : decode cX12_hold 48 = .ok (.ldc2_w 475, 3) := by decide +kernel
theorem dX12_hold_51 : decode cX12_hold 51 = .ok (.lor, 1) := by decide +kernel
theorem dX12_hold_52 : decode cX12_hold 52 = .ok (.lreturn, 1) := by decide +kernel
def wX12_hold (B : Nat → kp_S → (Int64 → kp_S → Prop) → Prop) (a0 : Nat) (S : kp_S) (post : Int64 → kp_S → Prop) : Prop :=
  ∀ T1 : kp_S, T1 = kp_sI S 2410 a0 ((kp_I S 2410 a0) + 1) →
  wX12_expression_t a0 T1 (fun T2 =>
  wX12_emit a0 49 0 0 T2 (fun y4 T3 =>
  B a0 T3 (fun z6 T5 =>
  wX12_emit a0 48 0 0 T5 (fun y8 T7 =>
  ∃ b9 : Nat, kp_R T7 2415 a0 = some b9 ∧
  vp_in y4 (kp_N T7 b9) ∧ ∀ T10 : kp_S, T10 = kp_sA T7 b9 (upd (kp_A T7 b9) (y4.toNatClampNeg) (kp_I T7 2417 a0)) →
  post (z6 ||| 4) T10))))
set_option maxHeartbeats 4000000 in
set_option maxRecDepth 100000 in
theorem c_X12_hold (l : Launch) (D : va_G) (cy : Nat → ClassId) (ad : (Nat → Nat) × (Nat → Nat)) (F L : Nat) (B : Nat → kp_S → (Int64 → kp_S → Prop) → Prop) (hB : ∀ (S : kp_S) (a0 : Nat) (post : Int64 → kp_S → Prop), kp_ok S → kp_is S a0 12 → B a0 S post → kp_M l yX12_block cX12_block 6 (some .long) { frames := F, cells := 0, slots := 0, locals := L } D cy ad S [.ref a0] 0 0 (fun A => kp_Ql D cy A S post)) (hF : 151 ≤ F) (hL : 3211 ≤ L) (S : kp_S) (a0 : Nat) (post : Int64 → kp_S → Prop) (hS : kp_ok S) (f_a0 : kp_is S a0 12) (hw : wX12_hold B a0 S post) : kp_M l yX12_hold cX12_hold 4 (some .long) { frames := F + 1, cells := 0, slots := 0, locals := L + 25 } D cy ad S [.ref a0] 0 0 (fun A => kp_Ql D cy A S post) := by
  refine kp_start (own := RX12) (by decide) rfl (Nat.le_of_ble_eq_true rfl) hS ?_
  intro p e s m below meth c A ls X hr hlocks hname h hl
  have hle : kp_le S S := kp_le.rf
  have hl : lv_has ls 4 [(0, .ref a0)] := hl
  unfold wX12_hold at hw
  have h : kp_H D cy A S s.heap s.heap [] := h
  revert h
  intro h
  refine lv_aload_n X.1 X.2.1 dX12_hold_0 rfl (lv_at hl 0 rfl) ?_
  refine lv_dup X.1 X.2.1 dX12_hold_1 rfl ?_
  refine kp_get X h f_a0 fp_12_376.l (v := .int (kp_I S 2410 a0)) rfl dX12_hold_2 ?_
  refine lv_iconst (v := 1) X.1 X.2.1 dX12_hold_5 (by decide) ?_
  refine lv_iadd X.1 X.2.1 dX12_hold_6 ?_
  refine kp_putI X h f_a0 fp_12_376 rfl ⟨rfl, rfl⟩ dX12_hold_7 (fun T1 e_T1 l_T1 H locs h => ?_)
  have hw := hw T1 e_T1
  have f_a0 := l_T1.is f_a0
  have hle := hle.tr l_T1
  refine lv_aload_n X.1 X.2.1 dX12_hold_10 rfl (lv_at hl 0 rfl) ?_
  refine kp_callv X h (kp_runV (rm := { frames := 149, cells := 0, slots := 0, locals := 3164 }) (mc := 0) (ms := 0) (rest := []) (Qc := fun A => kp_Qv D cy A T1 _) X h (c_X12_expression_t l D cy ad T1 a0 _ h.2.2.2 f_a0 hw) f_a0 cv_12_520 ⟨by dsimp only; omega, by dsimp only; omega, rfl, rfl, by dsimp only; omega, by dsimp only; omega⟩ rfl hl.1 rfl (Nat.le_of_ble_eq_true rfl) dX12_hold_11) (fun T2 hw l_T2 H locs h => ?_)
  have f_a0 := l_T2.is f_a0
  have hle := hle.tr l_T2
  refine lv_aload_n X.1 X.2.1 dX12_hold_14 rfl (lv_at hl 0 rfl) ?_
  refine lv_bipush (v := 49) X.1 X.2.1 dX12_hold_15 (by decide) ?_
  refine lv_iconst (v := 0) X.1 X.2.1 dX12_hold_17 (by decide) ?_
  refine lv_iconst (v := 0) X.1 X.2.1 dX12_hold_18 (by decide) ?_
  refine kp_calli X h (kp_runV (rm := { frames := 0, cells := 0, slots := 0, locals := 0 }) (mc := 0) (ms := 0) (rest := []) (Qc := fun A => kp_Qi D cy A T2 _) X h (c_X12_emit l D cy ad T2 a0 49 0 0 _ h.2.2.2 f_a0 hw) f_a0 cv_12_451 ⟨by dsimp only; omega, by dsimp only; omega, rfl, rfl, by dsimp only; omega, by dsimp only; omega⟩ rfl hl.1 rfl (Nat.le_of_ble_eq_true rfl) dX12_hold_19) (fun y4 T3 hw l_T3 H locs h => ?_)
  have f_a0 := l_T3.is f_a0
  have hle := hle.tr l_T3
  refine lv_istore_n (lv' := [(1, .int y4), (0, .ref a0)]) X.1 X.2.1 dX12_hold_22 rfl hl (by decide) rfl (fun ls hl => ?_)
  refine lv_aload_n X.1 X.2.1 dX12_hold_23 rfl (lv_at hl 1 rfl) ?_
  refine kp_calll X h (kp_runV (rm := { frames := F, cells := 0, slots := 0, locals := L }) (mc := 0) (ms := 0) (rest := []) (Qc := fun A => kp_Ql D cy A T3 _) X h (hB T3 a0 _ h.2.2.2 f_a0 hw) f_a0 cv_12_447 ⟨by dsimp only; omega, by dsimp only; omega, rfl, rfl, by dsimp only; omega, by dsimp only; omega⟩ rfl hl.1 rfl (Nat.le_of_ble_eq_true rfl) dX12_hold_24) (fun z6 T5 hw l_T5 H locs h => ?_)
  have f_a0 := l_T5.is f_a0
  have hle := hle.tr l_T5
  refine lv_lstore_n (lv' := [(2, .long z6), (1, .int y4), (0, .ref a0)]) X.1 X.2.1 dX12_hold_27 rfl hl (by decide) rfl (fun ls hl => ?_)
  refine lv_aload_n X.1 X.2.1 dX12_hold_28 rfl (lv_at hl 2 rfl) ?_
  refine lv_bipush (v := 48) X.1 X.2.1 dX12_hold_29 (by decide) ?_
  refine lv_iconst (v := 0) X.1 X.2.1 dX12_hold_31 (by decide) ?_
  refine lv_iconst (v := 0) X.1 X.2.1 dX12_hold_32 (by decide) ?_
  refine kp_calli X h (kp_runV (rm := { frames := 0, cells := 0, slots := 0, locals := 0 }) (mc := 0) (ms := 0) (rest := []) (Qc := fun A => kp_Qi D cy A T5 _) X h (c_X12_emit l D cy ad T5 a0 48 0 0 _ h.2.2.2 f_a0 hw) f_a0 cv_12_451 ⟨by dsimp only; omega, by dsimp only; omega, rfl, rfl, by dsimp only; omega, by dsimp only; omega⟩ rfl hl.1 rfl (Nat.le_of_ble_eq_true rfl) dX12_hold_33) (fun y8 T7 hw l_T7 H locs h => ?_)
  have f_a0 := l_T7.is f_a0
  have hle := hle.tr l_T7
  refine lv_pop X.1 X.2.1 dX12_hold_36 rfl ?_
  refine lv_aload_n X.1 X.2.1 dX12_hold_37 rfl (lv_at hl 2 rfl) ?_
  obtain ⟨b9, e_b9, hw⟩ := hw
  have f_b9 := h.2.2.2.rf (c := 12) (k := 15) f_a0 (by decide) (by decide) e_b9 (t := 14) rfl
  refine kp_get X h f_a0 ff_12_46.l (v := .ref b9) (congrArg va_rf e_b9) dX12_hold_38 ?_
  refine lv_iload_n X.1 X.2.1 dX12_hold_41 rfl (lv_at hl 1 rfl) ?_
  refine lv_aload_n X.1 X.2.1 dX12_hold_42 rfl (lv_at hl 2 rfl) ?_
  refine kp_get X h f_a0 fp_12_370.l (v := .int (kp_I T7 2417 a0)) rfl dX12_hold_43 ?_
  obtain ⟨hi, hw⟩ := hw
  refine kp_iast X h f_b9 hi dX12_hold_46 (fun T10 e_T10 l_T10 H locs h => ?_)
  have hw := hw T10 e_T10
  have f_a0 := l_T10.is f_a0
  have f_b9 := l_T10.is f_b9
  have hle := hle.tr l_T10
  have e_b9 : kp_R T10 2415 a0 = some b9 := by rw [e_T10]; exact e_b9
  refine lv_lload_n X.1 X.2.1 dX12_hold_47 rfl (lv_at hl 0 rfl) ?_
  refine lv_ldc2 (v := 4) X.1 X.2.1 X.2.2.2.1 (X.2.2.2.2.1 _ kl_12_475) dX12_hold_48 ?_
  refine lv_lor X.1 X.2.1 dX12_hold_51 ?_
  exact kp_retl X hr hlocks h hle hw dX12_hold_52
theorem dX12_ensure_0 : decode cX12_ensure 0 = .ok (.aload_n 0, 1) := by decide +kernel
theorem dX12_ensure_1 : decode cX12_ensure 1 = .ok (.iload_n 1, 1) := by decide +kernel
theorem dX12_ensure_2 : decode cX12_ensure 2 = .ok (.invokevirtual 538, 3) := by decide +kernel
theorem dX12_ensure_5 : decode cX12_ensure 5 = .ok (.istore_n 2, 1) := by decide +kernel
theorem dX12_ensure_6 : decode cX12_ensure 6 = .ok (.aload_n 0, 1) := by decide +kernel
theorem dX12_ensure_7 : decode cX12_ensure 7 = .ok (.dup, 1) := by decide +kernel
theorem dX12_ensure_8 : decode cX12_ensure 8 = .ok (.getfield 376, 3) := by decide +kernel
theorem dX12_ensure_11 : decode cX12_ensure 11 = .ok (.iconst 1, 1) := by decide +kernel
theorem dX12_ensure_12 : decode cX12_ensure 12 = .ok (.iadd, 1) := by decide +kernel
theorem dX12_ensure_13 : decode cX12_ensure 13 = .ok (.putfield 376, 3) := by decide +kernel
theorem dX12_ensure_16 : decode cX12_ensure 16 = .ok (.aload_n 0, 1) := by decide +kernel
theorem dX12_ensure_17 : decode cX12_ensure 17 = .ok (.bipush 60, 2) := by decide +kernel
theorem dX12_ensure_19 : decode cX12_ensure 19 = .ok (.iload_n 2, 1) := by decide +kernel
theorem dX12_ensure_20 : decode cX12_ensure 20 = .ok (.iconst 0, 1) := by decide +kernel
theorem dX12_ensure_21 : decode cX12_ensure 21 = .ok (.invokevirtual 451, 3) := by decide +kernel
theorem dX12_ensure_24 : decode cX12_ensure 24 = .ok (.pop, 1) := by decide +kernel
theorem dX12_ensure_25 : decode cX12_ensure 25 = .ok (.aload_n 0, 1) := by decide +kernel
theorem dX12_ensure_26 : decode cX12_ensure 26 = .ok (.bipush 41, 2) := by decide +kernel
theorem dX12_ensure_28 : decode cX12_ensure 28 = .ok (.iconst 0, 1) := by decide +kernel
theorem dX12_ensure_29 : decode cX12_ensure 29 = .ok (.iconst 0, 1) := by decide +kernel
theorem dX12_ensure_30 : decode cX12_ensure 30 = .ok (.invokevirtual 451, 3) := by decide +kernel
theorem dX12_ensure_33 : decode cX12_ensure 33 = .ok (.istore_n 3, 1) := by decide +kernel
theorem dX12_ensure_34 : decode cX12_ensure 34 = .ok (.aload_n 0, 1) := by decide +kernel
theorem dX12_ensure_35 : decode cX12_ensure 35 = .ok (.getfield 52, 3) := by decide +kernel
theorem dX12_ensure_38 : decode cX12_ensure 38 = .ok (.iload_n 2, 1) := by decide +kernel
theorem dX12_ensure_39 : decode cX12_ensure 39 = .ok (.aload_n 0, 1) := by decide +kernel
theorem dX12_ensure_40 : decode cX12_ensure 40 = .ok (.getfield 370, 3) := by decide +kernel
theorem dX12_ensure_43 : decode cX12_ensure 43 = .ok (.iastore, 1) := by decide +kernel
theorem dX12_ensure_44 : decode cX12_ensure 44 = .ok (.aload_n 0, 1) := by decide +kernel
theorem dX12_ensure_45 : decode cX12_ensure 45 = .ok (.invokevirtual 520, 3) := by decide +kernel
theorem dX12_ensure_48 : decode cX12_ensure 48 = .ok (.aload_n 0, 1) := by decide +kernel
theorem dX12_ensure_49 : decode cX12_ensure 49 = .ok (.bipush 61, 2) := by decide +kernel
theorem dX12_ensure_51 : decode cX12_ensure 51 = .ok (.iconst 0, 1) := by decide +kernel
theorem dX12_ensure_52 : decode cX12_ensure 52 = .ok (.iconst 0, 1) := by decide +kernel
theorem dX12_ensure_53 : decode cX12_ensure 53 = .ok (.invokevirtual 451, 3) := by decide +kernel
theorem dX12_ensure_56 : decode cX12_ensure 56 = .ok (.pop, 1) := by decide +kernel
theorem dX12_ensure_57 : decode cX12_ensure 57 = .ok (.aload_n 0, 1) := by decide +kernel
theorem dX12_ensure_58 : decode cX12_ensure 58 = .ok (.getfield 46, 3) := by decide +kernel
theorem dX12_ensure_61 : decode cX12_ensure 61 = .ok (.iload_n 3, 1) := by decide +kernel
theorem dX12_ensure_62 : decode cX12_ensure 62 = .ok (.aload_n 0, 1) := by decide +kernel
theorem dX12_ensure_63 : decode cX12_ensure 63 = .ok (.getfield 370, 3) := by decide +kernel
theorem dX12_ensure_66 : decode cX12_ensure 66 = .ok (.iastore, 1) := by decide +kernel
theorem dX12_ensure_67 : decode cX12_ensure 67 = .ok (.aload_n 0, 1) := by decide +kernel
theorem dX12_ensure_68 : decode cX12_ensure 68 = .ok (.invokevirtual 447, 3) := by decide +kernel
theorem dX12_ensure_71 : decode cX12_ensure 71 = .ok (.lstore 4, 2) := by decide +kernel
theorem dX12_ensure_73 : decode cX12_ensure 73 = .ok (.aload_n 0, 1) := by decide +kernel
theorem dX12_ensure_74 : decode cX12_ensure 74 = .ok (.bipush 48, 2) := by decide +kernel
theorem dX12_ensure_76 : decode cX12_ensure 76 = .ok (.iconst 0, 1) := by decide +kernel
theorem dX12_ensure_77 : decode cX12_ensure 77 = .ok (.iconst 0, 1) := by decide +kernel
theorem dX12_ensure_78 : decode cX12_ensure 78 = .ok (.invokevirtual 451, 3) := by decide +kernel
theorem dX12_ensure_81 : decode cX12_ensure 81 = .ok (.pop, 1) := by decide +kernel
theorem dX12_ensure_82 : decode cX12_ensure 82 = .ok (.aload_n 0, 1) := by decide +kernel
theorem dX12_ensure_83 : decode cX12_ensure 83 = .ok (.getfield 58, 3) := by decide +kernel
theorem dX12_ensure_86 : decode cX12_ensure 86 = .ok (.iload_n 2, 1) := by decide +kernel
theorem dX12_ensure_87 : decode cX12_ensure 87 = .ok (.aload_n 0, 1) := by decide +kernel
theorem dX12_ensure_88 : decode cX12_ensure 88 = .ok (.getfield 370, 3) := by decide +kernel
theorem dX12_ensure_91 : decode cX12_ensure 91 = .ok (.iastore, 1) := by decide +kernel
theorem dX12_ensure_92 : decode cX12_ensure 92 = .ok (.lload 4, 2) := by decide +kernel
theorem dX12_ensure_94 : decode cX12_ensure 94 = .ok (.lconst 0, 1) := by decide +kernel
theorem dX12_ensure_95 : decode cX12_ensure 95 = .ok (.lcmp, 1) := by decide +kernel
theorem dX12_ensure_96 : decode cX12_ensure 96 = .ok (.ifCond .ne 7, 3) := by decide +kernel
theorem dX12_ensure_99 : decode cX12_ensure 99 = .ok (.lconst 0, 1) := by decide +kernel
theorem dX12_ensure_100 : decode cX12_ensure 100 = .ok (.goto 9, 3) := by decide +kernel
theorem dX12_ensure_103 : decode cX12_ensure 103 = .ok (.lload 4, 2) := by decide +kernel
theorem dX12_ensure_105 : decode cX12_ensure 105 = .ok (.ldc2_w 475, 3) := by decide +kernel
theorem dX12_ensure_108 : decode cX12_ensure 108 = .ok (.lor, 1) := by decide +kernel
theorem dX12_ensure_109 : decode cX12_ensure 109 = .ok (.lreturn, 1) := by decide +kernel
def wX12_ensure_b109 (B : Nat → kp_S → (Int64 → kp_S → Prop) → Prop) (a0 : Nat) (x1 : Int32) (wt0 : Int64)  (Sn : kp_S) (post : Int64 → kp_S → Prop) : Prop :=
  post wt0 Sn
def wX12_ensure (B : Nat → kp_S → (Int64 → kp_S → Prop) → Prop) (a0 : Nat) (x1 : Int32) (S : kp_S) (post : Int64 → kp_S → Prop) : Prop :=
  wX12_describe a0 x1 S (fun y2 T1 =>
  ∀ T3 : kp_S, T3 = kp_sI T1 2410 a0 ((kp_I T1 2410 a0) + 1) →
  wX12_emit a0 60 y2 0 T3 (fun y5 T4 =>
  wX12_emit a0 41 0 0 T4 (fun y7 T6 =>
  ∃ b8 : Nat, kp_R T6 2418 a0 = some b8 ∧
  vp_in y2 (kp_N T6 b8) ∧ ∀ T9 : kp_S, T9 = kp_sA T6 b8 (upd (kp_A T6 b8) (y2.toNatClampNeg) (kp_I T6 2417 a0)) →
  wX12_expression_t a0 T9 (fun T10 =>
  wX12_emit a0 61 0 0 T10 (fun y12 T11 =>
  ∃ b13 : Nat, kp_R T11 2415 a0 = some b13 ∧
  vp_in y7 (kp_N T11 b13) ∧ ∀ T14 : kp_S, T14 = kp_sA T11 b13 (upd (kp_A T11 b13) (y7.toNatClampNeg) (kp_I T11 2417 a0)) →
  B a0 T14 (fun z16 T15 =>
  wX12_emit a0 48 0 0 T15 (fun y18 T17 =>
  ∃ b19 : Nat, kp_R T17 2420 a0 = some b19 ∧
  vp_in y2 (kp_N T17 b19) ∧ ∀ T20 : kp_S, T20 = kp_sA T17 b19 (upd (kp_A T17 b19) (y2.toNatClampNeg) (kp_I T17 2417 a0)) →
  ((¬ (lg_cmp z16 0) = 0 →
  wX12_ensure_b109 B a0 x1 (z16 ||| 4)  T20 post) ∧ ((lg_cmp z16 0) = 0 →
  wX12_ensure_b109 B a0 x1 0  T20 post)))))))))
set_option maxHeartbeats 4000000 in
set_option maxRecDepth 100000 in
theorem c_X12_ensure (l : Launch) (D : va_G) (cy : Nat → ClassId) (ad : (Nat → Nat) × (Nat → Nat)) (F L : Nat) (B : Nat → kp_S → (Int64 → kp_S → Prop) → Prop) (hB : ∀ (S : kp_S) (a0 : Nat) (post : Int64 → kp_S → Prop), kp_ok S → kp_is S a0 12 → B a0 S post → kp_M l yX12_block cX12_block 6 (some .long) { frames := F, cells := 0, slots := 0, locals := L } D cy ad S [.ref a0] 0 0 (fun A => kp_Ql D cy A S post)) (hF : 151 ≤ F) (hL : 3211 ≤ L) (S : kp_S) (a0 : Nat) (x1 : Int32) (post : Int64 → kp_S → Prop) (hS : kp_ok S) (f_a0 : kp_is S a0 12) (hw : wX12_ensure B a0 x1 S post) : kp_M l yX12_ensure cX12_ensure 6 (some .long) { frames := F + 1, cells := 0, slots := 0, locals := L + 25 } D cy ad S [.ref a0, .int x1] 0 0 (fun A => kp_Ql D cy A S post) := by
  refine kp_start (own := RX12) (by decide) rfl (Nat.le_of_ble_eq_true rfl) hS ?_
  intro p e s m below meth c A ls X hr hlocks hname h hl
  have hle : kp_le S S := kp_le.rf
  have hl : lv_has ls 6 [(0, .ref a0), (1, .int x1)] := hl
  have j109 : ∀ (wt0 : Int64) (Sn : kp_S) (H : Heap) (locs : List Loc) (ls : Array Slot), lv_has ls 6 [] → kp_H D cy A Sn s.heap H locs → kp_le S Sn → kp_is Sn a0 12 → wX12_ensure_b109 B a0 x1 wt0  Sn post → W p l e { frames := F + 1, cells := 0, slots := 0, locals := L + 25 } s m ([.ref a0, .int x1] : List Value).toArray below meth c H locs 0 0 (MQ below (kp_Ql D cy A S post) ([.ref a0, .int x1] : List Value).toArray s 0 0 A) (F0 m 109 ls [.long wt0]) := by
    intro wt0 Sn H locs ls hl h hle f_a0 hw
    unfold wX12_ensure_b109 at hw
    exact kp_retl X hr hlocks h hle hw dX12_ensure_109
  unfold wX12_ensure at hw
  have h : kp_H D cy A S s.heap s.heap [] := h
  revert h
  intro h
  refine lv_aload_n X.1 X.2.1 dX12_ensure_0 rfl (lv_at hl 0 rfl) ?_
  refine lv_iload_n X.1 X.2.1 dX12_ensure_1 rfl (lv_at hl 1 rfl) ?_
  refine kp_calli X h (kp_runV (rm := { frames := 0, cells := 0, slots := 0, locals := 0 }) (mc := 0) (ms := 0) (rest := []) (Qc := fun A => kp_Qi D cy A S _) X h (c_X12_describe l D cy ad S a0 x1 _ h.2.2.2 f_a0 hw) f_a0 cv_12_538 ⟨by dsimp only; omega, by dsimp only; omega, rfl, rfl, by dsimp only; omega, by dsimp only; omega⟩ rfl hl.1 rfl (Nat.le_of_ble_eq_true rfl) dX12_ensure_2) (fun y2 T1 hw l_T1 H locs h => ?_)
  have f_a0 := l_T1.is f_a0
  have hle := hle.tr l_T1
  refine lv_istore_n (lv' := [(2, .int y2), (0, .ref a0), (1, .int x1)]) X.1 X.2.1 dX12_ensure_5 rfl hl (by decide) rfl (fun ls hl => ?_)
  refine lv_aload_n X.1 X.2.1 dX12_ensure_6 rfl (lv_at hl 1 rfl) ?_
  refine lv_dup X.1 X.2.1 dX12_ensure_7 rfl ?_
  refine kp_get X h f_a0 fp_12_376.l (v := .int (kp_I T1 2410 a0)) rfl dX12_ensure_8 ?_
  refine lv_iconst (v := 1) X.1 X.2.1 dX12_ensure_11 (by decide) ?_
  refine lv_iadd X.1 X.2.1 dX12_ensure_12 ?_
  refine kp_putI X h f_a0 fp_12_376 rfl ⟨rfl, rfl⟩ dX12_ensure_13 (fun T3 e_T3 l_T3 H locs h => ?_)
  have hw := hw T3 e_T3
  have f_a0 := l_T3.is f_a0
  have hle := hle.tr l_T3
  refine lv_aload_n X.1 X.2.1 dX12_ensure_16 rfl (lv_at hl 1 rfl) ?_
  refine lv_bipush (v := 60) X.1 X.2.1 dX12_ensure_17 (by decide) ?_
  refine lv_iload_n X.1 X.2.1 dX12_ensure_19 rfl (lv_at hl 0 rfl) ?_
  refine lv_iconst (v := 0) X.1 X.2.1 dX12_ensure_20 (by decide) ?_
  refine kp_calli X h (kp_runV (rm := { frames := 0, cells := 0, slots := 0, locals := 0 }) (mc := 0) (ms := 0) (rest := []) (Qc := fun A => kp_Qi D cy A T3 _) X h (c_X12_emit l D cy ad T3 a0 60 y2 0 _ h.2.2.2 f_a0 hw) f_a0 cv_12_451 ⟨by dsimp only; omega, by dsimp only; omega, rfl, rfl, by dsimp only; omega, by dsimp only; omega⟩ rfl hl.1 rfl (Nat.le_of_ble_eq_true rfl) dX12_ensure_21) (fun y5 T4 hw l_T4 H locs h => ?_)
  have f_a0 := l_T4.is f_a0
  have hle := hle.tr l_T4
  refine lv_pop X.1 X.2.1 dX12_ensure_24 rfl ?_
  refine lv_aload_n X.1 X.2.1 dX12_ensure_25 rfl (lv_at hl 1 rfl) ?_
  refine lv_bipush (v := 41) X.1 X.2.1 dX12_ensure_26 (by decide) ?_
  refine lv_iconst (v := 0) X.1 X.2.1 dX12_ensure_28 (by decide) ?_
  refine lv_iconst (v := 0) X.1 X.2.1 dX12_ensure_29 (by decide) ?_
  refine kp_calli X h (kp_runV (rm := { frames := 0, cells := 0, slots := 0, locals := 0 }) (mc := 0) (ms := 0) (rest := []) (Qc := fun A => kp_Qi D cy A T4 _) X h (c_X12_emit l D cy ad T4 a0 41 0 0 _ h.2.2.2 f_a0 hw) f_a0 cv_12_451 ⟨by dsimp only; omega, by dsimp only; omega, rfl, rfl, by dsimp only; omega, by dsimp only; omega⟩ rfl hl.1 rfl (Nat.le_of_ble_eq_true rfl) dX12_ensure_30) (fun y7 T6 hw l_T6 H locs h => ?_)
  have f_a0 := l_T6.is f_a0
  have hle := hle.tr l_T6
  refine lv_istore_n (lv' := [(3, .int y7), (2, .int y2), (0, .ref a0), (1, .int x1)]) X.1 X.2.1 dX12_ensure_33 rfl hl (by decide) rfl (fun ls hl => ?_)
  refine lv_aload_n X.1 X.2.1 dX12_ensure_34 rfl (lv_at hl 2 rfl) ?_
  obtain ⟨b8, e_b8, hw⟩ := hw
  have f_b8 := h.2.2.2.rf (c := 12) (k := 18) f_a0 (by decide) (by decide) e_b8 (t := 14) rfl
  refine kp_get X h f_a0 ff_12_52.l (v := .ref b8) (congrArg va_rf e_b8) dX12_ensure_35 ?_
  refine lv_iload_n X.1 X.2.1 dX12_ensure_38 rfl (lv_at hl 1 rfl) ?_
  refine lv_aload_n X.1 X.2.1 dX12_ensure_39 rfl (lv_at hl 2 rfl) ?_
  refine kp_get X h f_a0 fp_12_370.l (v := .int (kp_I T6 2417 a0)) rfl dX12_ensure_40 ?_
  obtain ⟨hi, hw⟩ := hw
  refine kp_iast X h f_b8 hi dX12_ensure_43 (fun T9 e_T9 l_T9 H locs h => ?_)
  have hw := hw T9 e_T9
  have f_a0 := l_T9.is f_a0
  have f_b8 := l_T9.is f_b8
  have hle := hle.tr l_T9
  have e_b8 : kp_R T9 2418 a0 = some b8 := by rw [e_T9]; exact e_b8
  refine lv_aload_n X.1 X.2.1 dX12_ensure_44 rfl (lv_at hl 2 rfl) ?_
  refine kp_callv X h (kp_runV (rm := { frames := 149, cells := 0, slots := 0, locals := 3164 }) (mc := 0) (ms := 0) (rest := []) (Qc := fun A => kp_Qv D cy A T9 _) X h (c_X12_expression_t l D cy ad T9 a0 _ h.2.2.2 f_a0 hw) f_a0 cv_12_520 ⟨by dsimp only; omega, by dsimp only; omega, rfl, rfl, by dsimp only; omega, by dsimp only; omega⟩ rfl hl.1 rfl (Nat.le_of_ble_eq_true rfl) dX12_ensure_45) (fun T10 hw l_T10 H locs h => ?_)
  have f_a0 := l_T10.is f_a0
  have f_b8 := l_T10.is f_b8
  have hle := hle.tr l_T10
  refine lv_aload_n X.1 X.2.1 dX12_ensure_48 rfl (lv_at hl 2 rfl) ?_
  refine lv_bipush (v := 61) X.1 X.2.1 dX12_ensure_49 (by decide) ?_
  refine lv_iconst (v := 0) X.1 X.2.1 dX12_ensure_51 (by decide) ?_
  refine lv_iconst (v := 0) X.1 X.2.1 dX12_ensure_52 (by decide) ?_
  refine kp_calli X h (kp_runV (rm := { frames := 0, cells := 0, slots := 0, locals := 0 }) (mc := 0) (ms := 0) (rest := []) (Qc := fun A => kp_Qi D cy A T10 _) X h (c_X12_emit l D cy ad T10 a0 61 0 0 _ h.2.2.2 f_a0 hw) f_a0 cv_12_451 ⟨by dsimp only; omega, by dsimp only; omega, rfl, rfl, by dsimp only; omega, by dsimp only; omega⟩ rfl hl.1 rfl (Nat.le_of_ble_eq_true rfl) dX12_ensure_53) (fun y12 T11 hw l_T11 H locs h => ?_)
  have f_a0 := l_T11.is f_a0
  have f_b8 := l_T11.is f_b8
  have hle := hle.tr l_T11
  refine lv_pop X.1 X.2.1 dX12_ensure_56 rfl ?_
  refine lv_aload_n X.1 X.2.1 dX12_ensure_57 rfl (lv_at hl 2 rfl) ?_
  obtain ⟨b13, e_b13, hw⟩ := hw
  have f_b13 := h.2.2.2.rf (c := 12) (k := 15) f_a0 (by decide) (by decide) e_b13 (t := 14) rfl
  refine kp_get X h f_a0 ff_12_46.l (v := .ref b13) (congrArg va_rf e_b13) dX12_ensure_58 ?_
  refine lv_iload_n X.1 X.2.1 dX12_ensure_61 rfl (lv_at hl 0 rfl) ?_
  refine lv_aload_n X.1 X.2.1 dX12_ensure_62 rfl (lv_at hl 2 rfl) ?_
  refine kp_get X h f_a0 fp_12_370.l (v := .int (kp_I T11 2417 a0)) rfl dX12_ensure_63 ?_
  obtain ⟨hi, hw⟩ := hw
  refine kp_iast X h f_b13 hi dX12_ensure_66 (fun T14 e_T14 l_T14 H locs h => ?_)
  have hw := hw T14 e_T14
  have f_a0 := l_T14.is f_a0
  have f_b8 := l_T14.is f_b8
  have f_b13 := l_T14.is f_b13
  have hle := hle.tr l_T14
  have e_b13 : kp_R T14 2415 a0 = some b13 := by rw [e_T14]; exact e_b13
  refine lv_aload_n X.1 X.2.1 dX12_ensure_67 rfl (lv_at hl 2 rfl) ?_
  refine kp_calll X h (kp_runV (rm := { frames := F, cells := 0, slots := 0, locals := L }) (mc := 0) (ms := 0) (rest := []) (Qc := fun A => kp_Ql D cy A T14 _) X h (hB T14 a0 _ h.2.2.2 f_a0 hw) f_a0 cv_12_447 ⟨by dsimp only; omega, by dsimp only; omega, rfl, rfl, by dsimp only; omega, by dsimp only; omega⟩ rfl hl.1 rfl (Nat.le_of_ble_eq_true rfl) dX12_ensure_68) (fun z16 T15 hw l_T15 H locs h => ?_)
  have f_a0 := l_T15.is f_a0
  have f_b8 := l_T15.is f_b8
  have f_b13 := l_T15.is f_b13
  have hle := hle.tr l_T15
  refine lv_lstore (lv' := [(4, .long z16), (3, .int y7), (2, .int y2), (0, .ref a0), (1, .int x1)]) X.1 X.2.1 dX12_ensure_71 hl (by decide) rfl (fun ls hl => ?_)
  refine lv_aload_n X.1 X.2.1 dX12_ensure_73 rfl (lv_at hl 3 rfl) ?_
  refine lv_bipush (v := 48) X.1 X.2.1 dX12_ensure_74 (by decide) ?_
  refine lv_iconst (v := 0) X.1 X.2.1 dX12_ensure_76 (by decide) ?_
  refine lv_iconst (v := 0) X.1 X.2.1 dX12_ensure_77 (by decide) ?_
  refine kp_calli X h (kp_runV (rm := { frames := 0, cells := 0, slots := 0, locals := 0 }) (mc := 0) (ms := 0) (rest := []) (Qc := fun A => kp_Qi D cy A T15 _) X h (c_X12_emit l D cy ad T15 a0 48 0 0 _ h.2.2.2 f_a0 hw) f_a0 cv_12_451 ⟨by dsimp only; omega, by dsimp only; omega, rfl, rfl, by dsimp only; omega, by dsimp only; omega⟩ rfl hl.1 rfl (Nat.le_of_ble_eq_true rfl) dX12_ensure_78) (fun y18 T17 hw l_T17 H locs h => ?_)
  have f_a0 := l_T17.is f_a0
  have f_b8 := l_T17.is f_b8
  have f_b13 := l_T17.is f_b13
  have hle := hle.tr l_T17
  refine lv_pop X.1 X.2.1 dX12_ensure_81 rfl ?_
  refine lv_aload_n X.1 X.2.1 dX12_ensure_82 rfl (lv_at hl 3 rfl) ?_
  obtain ⟨b19, e_b19, hw⟩ := hw
  have f_b19 := h.2.2.2.rf (c := 12) (k := 20) f_a0 (by decide) (by decide) e_b19 (t := 14) rfl
  refine kp_get X h f_a0 ff_12_58.l (v := .ref b19) (congrArg va_rf e_b19) dX12_ensure_83 ?_
  refine lv_iload_n X.1 X.2.1 dX12_ensure_86 rfl (lv_at hl 2 rfl) ?_
  refine lv_aload_n X.1 X.2.1 dX12_ensure_87 rfl (lv_at hl 3 rfl) ?_
  refine kp_get X h f_a0 fp_12_370.l (v := .int (kp_I T17 2417 a0)) rfl dX12_ensure_88 ?_
  obtain ⟨hi, hw⟩ := hw
  refine kp_iast X h f_b19 hi dX12_ensure_91 (fun T20 e_T20 l_T20 H locs h => ?_)
  have hw := hw T20 e_T20
  have f_a0 := l_T20.is f_a0
  have f_b8 := l_T20.is f_b8
  have f_b13 := l_T20.is f_b13
  have f_b19 := l_T20.is f_b19
  have hle := hle.tr l_T20
  have e_b19 : kp_R T20 2420 a0 = some b19 := by rw [e_T20]; exact e_b19
  refine lv_lload X.1 X.2.1 dX12_ensure_92 (lv_at hl 0 rfl) ?_
  refine lv_lconst (v := 0) X.1 X.2.1 dX12_ensure_94 (by decide) ?_
  refine W.lcmp X.1 X.2.1 dX12_ensure_95 ?_
  refine lv_if_ne (tgt := 103) X.1 X.2.1 dX12_ensure_96 (by decide) (fun c21 => ?_) (fun c21 => ?_)
  · have hw := hw.1 c21
    refine lv_lload X.1 X.2.1 dX12_ensure_103 (lv_at hl 0 rfl) ?_
    refine lv_ldc2 (v := 4) X.1 X.2.1 X.2.2.2.1 (X.2.2.2.2.1 _ kl_12_475) dX12_ensure_105 ?_
    refine lv_lor X.1 X.2.1 dX12_ensure_108 ?_
    exact j109 (z16 ||| 4) T20 _ _ ls (lv_sub hl [] rfl) h hle f_a0 hw
  · have hw := hw.2 c21
    refine lv_lconst (v := 0) X.1 X.2.1 dX12_ensure_99 (by decide) ?_
    refine lv_goto (tgt := 109) X.1 X.2.1 dX12_ensure_100 (by decide) ?_
    exact j109 0 T20 _ _ ls (lv_sub hl [] rfl) h hle f_a0 hw
theorem dX12_later_0 : decode cX12_later 0 = .ok (.aload_n 0, 1) := by decide +kernel
theorem dX12_later_1 : decode cX12_later 1 = .ok (.dup, 1) := by decide +kernel
theorem dX12_later_2 : decode cX12_later 2 = .ok (.getfield 376, 3) := by decide +kernel
theorem dX12_later_5 : decode cX12_later 5 = .ok (.iconst 1, 1) := by decide +kernel
theorem dX12_later_6 : decode cX12_later 6 = .ok (.iadd, 1) := by decide +kernel
theorem dX12_later_7 : decode cX12_later 7 = .ok (.putfield 376, 3) := by decide +kernel
theorem dX12_later_10 : decode cX12_later 10 = .ok (.aload_n 0, 1) := by decide +kernel
theorem dX12_later_11 : decode cX12_later 11 = .ok (.bipush 54, 2) := by decide +kernel
theorem dX12_later_13 : decode cX12_later 13 = .ok (.iconst 0, 1) := by decide +kernel
theorem dX12_later_14 : decode cX12_later 14 = .ok (.aload_n 0, 1) := by decide +kernel
theorem dX12_later_15 : decode cX12_later 15 = .ok (.getfield 34, 3) := by decide +kernel
theorem dX12_later_18 : decode cX12_later 18 = .ok (.iload_n 1, 1) := by decide +kernel
theorem dX12_later_19 : decode cX12_later 19 = .ok (.iaload, 1) := by decide +kernel
theorem dX12_later_20 : decode cX12_later 20 = .ok (.invokevirtual 451, 3) := by decide +kernel
theorem dX12_later_23 : decode cX12_later 23 = .ok (.istore_n 2, 1) := by decide +kernel
theorem dX12_later_24 : decode cX12_later 24 = .ok (.aload_n 0, 1) := by decide +kernel
theorem dX12_later_25 : decode cX12_later 25 = .ok (.bipush 41, 2) := by decide +kernel
theorem dX12_later_27 : decode cX12_later 27 = .ok (.iconst 0, 1) := by decide +kernel
theorem dX12_later_28 : decode cX12_later 28 = .ok (.iconst 0, 1) := by decide +kernel
theorem dX12_later_29 : decode cX12_later 29 = .ok (.invokevirtual 451, 3) := by decide +kernel
theorem dX12_later_32 : decode cX12_later 32 = .ok (.istore_n 3, 1) := by decide +kernel
theorem dX12_later_33 : decode cX12_later 33 = .ok (.aload_n 0, 1) := by decide +kernel
theorem dX12_later_34 : decode cX12_later 34 = .ok (.getfield 46, 3) := by decide +kernel
theorem dX12_later_37 : decode cX12_later 37 = .ok (.iload_n 2, 1) := by decide +kernel
theorem dX12_later_38 : decode cX12_later 38 = .ok (.aload_n 0, 1) := by decide +kernel
theorem dX12_later_39 : decode cX12_later 39 = .ok (.getfield 370, 3) := by decide +kernel
theorem dX12_later_42 : decode cX12_later 42 = .ok (.iastore, 1) := by decide +kernel
theorem dX12_later_43 : decode cX12_later 43 = .ok (.aload_n 0, 1) := by decide +kernel
theorem dX12_later_44 : decode cX12_later 44 = .ok (.getfield 426, 3) := by decide +kernel
theorem dX12_later_47 : decode cX12_later 47 = .ok (.istore 4, 2) := by decide +kernel
theorem dX12_later_49 : decode cX12_later 49 = .ok (.aload_n 0, 1) := by decide +kernel
theorem dX12_later_50 : decode cX12_later 50 = .ok (.aload_n 0, 1) := by decide +kernel
theorem dX12_later_51 : decode cX12_later 51 = .ok (.getfield 423, 3) := by decide +kernel
theorem dX12_later_54 : decode cX12_later 54 = .ok (.putfield 426, 3) := by decide +kernel
theorem dX12_later_57 : decode cX12_later 57 = .ok (.aload_n 0, 1) := by decide +kernel
theorem dX12_later_58 : decode cX12_later 58 = .ok (.invokevirtual 447, 3) := by decide +kernel
theorem dX12_later_61 : decode cX12_later 61 = .ok (.lstore 5, 2) := by decide +kernel
theorem dX12_later_63 : decode cX12_later 63 = .ok (.aload_n 0, 1) := by decide +kernel
theorem dX12_later_64 : decode cX12_later 64 = .ok (.dup, 1) := by decide +kernel
theorem dX12_later_65 : decode cX12_later 65 = .ok (.getfield 443, 3) := by decide +kernel
theorem dX12_later_68 : decode cX12_later 68 = .ok (.lload 5, 2) := by decide +kernel
theorem dX12_later_70 : decode cX12_later 70 = .ok (.lor, 1) := by decide +kernel
theorem dX12_later_71 : decode cX12_later 71 = .ok (.putfield 443, 3) := by decide +kernel
theorem dX12_later_74 : decode cX12_later 74 = .ok (.aload_n 0, 1) := by decide +kernel
theorem dX12_later_75 : decode cX12_later 75 = .ok (.iload 4, 2) := by decide +kernel
theorem dX12_later_77 : decode cX12_later 77 = .ok (.putfield 426, 3) := by decide +kernel
theorem dX12_later_80 : decode cX12_later 80 = .ok (.aload_n 0, 1) := by decide +kernel
theorem dX12_later_81 : decode cX12_later 81 = .ok (.bipush 48, 2) := by decide +kernel
theorem dX12_later_83 : decode cX12_later 83 = .ok (.iconst 0, 1) := by decide +kernel
theorem dX12_later_84 : decode cX12_later 84 = .ok (.iconst 0, 1) := by decide +kernel
theorem dX12_later_85 : decode cX12_later 85 = .ok (.invokevirtual 451, 3) := by decide +kernel
theorem dX12_later_88 : decode cX12_later 88 = .ok (.pop, 1) := by decide +kernel
theorem dX12_later_89 : decode cX12_later 89 = .ok (.aload_n 0, 1) := by decide +kernel
theorem dX12_later_90 : decode cX12_later 90 = .ok (.getfield 46, 3) := by decide +kernel
theorem dX12_later_93 : decode cX12_later 93 = .ok (.iload_n 3, 1) := by decide +kernel
theorem dX12_later_94 : decode cX12_later 94 = .ok (.aload_n 0, 1) := by decide +kernel
theorem dX12_later_95 : decode cX12_later 95 = .ok (.getfield 370, 3) := by decide +kernel
theorem dX12_later_98 : decode cX12_later 98 = .ok (.iastore, 1) := by decide +kernel
theorem dX12_later_99 : decode cX12_later 99 = .ok (.ldc2_w 487, 3) := by decide +kernel
theorem dX12_later_102 : decode cX12_later 102 = .ok (.lreturn, 1) := by decide +kernel
def wX12_later (B : Nat → kp_S → (Int64 → kp_S → Prop) → Prop) (a0 : Nat) (x1 : Int32) (S : kp_S) (post : Int64 → kp_S → Prop) : Prop :=
  ∀ T1 : kp_S, T1 = kp_sI S 2410 a0 ((kp_I S 2410 a0) + 1) →
  ∃ b2 : Nat, kp_R T1 2405 a0 = some b2 ∧
  vp_in x1 (kp_N T1 b2) ∧
  wX12_emit a0 54 0 (kp_A T1 b2 x1.toNatClampNeg) T1 (fun y4 T3 =>
  wX12_emit a0 41 0 0 T3 (fun y6 T5 =>
  ∃ b7 : Nat, kp_R T5 2415 a0 = some b7 ∧
  vp_in y4 (kp_N T5 b7) ∧ ∀ T8 : kp_S, T8 = kp_sA T5 b7 (upd (kp_A T5 b7) (y4.toNatClampNeg) (kp_I T5 2417 a0)) →
  ∀ y9 : Int32, y9 = (kp_I T8 2446 a0) →
  ∀ T10 : kp_S, T10 = kp_sI T8 2446 a0 (kp_I T8 2445 a0) →
  B a0 T10 (fun z12 T11 =>
  ∀ T13 : kp_S, T13 = kp_sJ T11 2426 a0 ((kp_J T11 2426 a0) ||| z12) →
  ∀ T14 : kp_S, T14 = kp_sI T13 2446 a0 y9 →
  wX12_emit a0 48 0 0 T14 (fun y16 T15 =>
  ∃ b17 : Nat, kp_R T15 2415 a0 = some b17 ∧
  vp_in y6 (kp_N T15 b17) ∧ ∀ T18 : kp_S, T18 = kp_sA T15 b17 (upd (kp_A T15 b17) (y6.toNatClampNeg) (kp_I T15 2417 a0)) →
  post 5 T18))))
set_option maxHeartbeats 4000000 in
set_option maxRecDepth 100000 in
theorem c_X12_later (l : Launch) (D : va_G) (cy : Nat → ClassId) (ad : (Nat → Nat) × (Nat → Nat)) (F L : Nat) (B : Nat → kp_S → (Int64 → kp_S → Prop) → Prop) (hB : ∀ (S : kp_S) (a0 : Nat) (post : Int64 → kp_S → Prop), kp_ok S → kp_is S a0 12 → B a0 S post → kp_M l yX12_block cX12_block 6 (some .long) { frames := F, cells := 0, slots := 0, locals := L } D cy ad S [.ref a0] 0 0 (fun A => kp_Ql D cy A S post)) (hF : 151 ≤ F) (hL : 3211 ≤ L) (S : kp_S) (a0 : Nat) (x1 : Int32) (post : Int64 → kp_S → Prop) (hS : kp_ok S) (f_a0 : kp_is S a0 12) (hw : wX12_later B a0 x1 S post) : kp_M l yX12_later cX12_later 7 (some .long) { frames := F + 1, cells := 0, slots := 0, locals := L + 25 } D cy ad S [.ref a0, .int x1] 0 0 (fun A => kp_Ql D cy A S post) := by
  refine kp_start (own := RX12) (by decide) rfl (Nat.le_of_ble_eq_true rfl) hS ?_
  intro p e s m below meth c A ls X hr hlocks hname h hl
  have hle : kp_le S S := kp_le.rf
  have hl : lv_has ls 7 [(0, .ref a0), (1, .int x1)] := hl
  unfold wX12_later at hw
  have h : kp_H D cy A S s.heap s.heap [] := h
  revert h
  intro h
  refine lv_aload_n X.1 X.2.1 dX12_later_0 rfl (lv_at hl 0 rfl) ?_
  refine lv_dup X.1 X.2.1 dX12_later_1 rfl ?_
  refine kp_get X h f_a0 fp_12_376.l (v := .int (kp_I S 2410 a0)) rfl dX12_later_2 ?_
  refine lv_iconst (v := 1) X.1 X.2.1 dX12_later_5 (by decide) ?_
  refine lv_iadd X.1 X.2.1 dX12_later_6 ?_
  refine kp_putI X h f_a0 fp_12_376 rfl ⟨rfl, rfl⟩ dX12_later_7 (fun T1 e_T1 l_T1 H locs h => ?_)
  have hw := hw T1 e_T1
  have f_a0 := l_T1.is f_a0
  have hle := hle.tr l_T1
  refine lv_aload_n X.1 X.2.1 dX12_later_10 rfl (lv_at hl 0 rfl) ?_
  refine lv_bipush (v := 54) X.1 X.2.1 dX12_later_11 (by decide) ?_
  refine lv_iconst (v := 0) X.1 X.2.1 dX12_later_13 (by decide) ?_
  refine lv_aload_n X.1 X.2.1 dX12_later_14 rfl (lv_at hl 0 rfl) ?_
  obtain ⟨b2, e_b2, hw⟩ := hw
  have f_b2 := h.2.2.2.rf (c := 12) (k := 5) f_a0 (by decide) (by decide) e_b2 (t := 14) rfl
  refine kp_get X h f_a0 ff_12_34.l (v := .ref b2) (congrArg va_rf e_b2) dX12_later_15 ?_
  refine lv_iload_n X.1 X.2.1 dX12_later_18 rfl (lv_at hl 1 rfl) ?_
  obtain ⟨hi, hw⟩ := hw
  refine kp_iald X h f_b2 hi dX12_later_19 ?_
  refine kp_calli X h (kp_runV (rm := { frames := 0, cells := 0, slots := 0, locals := 0 }) (mc := 0) (ms := 0) (rest := []) (Qc := fun A => kp_Qi D cy A T1 _) X h (c_X12_emit l D cy ad T1 a0 54 0 (kp_A T1 b2 x1.toNatClampNeg) _ h.2.2.2 f_a0 hw) f_a0 cv_12_451 ⟨by dsimp only; omega, by dsimp only; omega, rfl, rfl, by dsimp only; omega, by dsimp only; omega⟩ rfl hl.1 rfl (Nat.le_of_ble_eq_true rfl) dX12_later_20) (fun y4 T3 hw l_T3 H locs h => ?_)
  have f_a0 := l_T3.is f_a0
  have f_b2 := l_T3.is f_b2
  have hle := hle.tr l_T3
  refine lv_istore_n (lv' := [(2, .int y4), (0, .ref a0), (1, .int x1)]) X.1 X.2.1 dX12_later_23 rfl hl (by decide) rfl (fun ls hl => ?_)
  refine lv_aload_n X.1 X.2.1 dX12_later_24 rfl (lv_at hl 1 rfl) ?_
  refine lv_bipush (v := 41) X.1 X.2.1 dX12_later_25 (by decide) ?_
  refine lv_iconst (v := 0) X.1 X.2.1 dX12_later_27 (by decide) ?_
  refine lv_iconst (v := 0) X.1 X.2.1 dX12_later_28 (by decide) ?_
  refine kp_calli X h (kp_runV (rm := { frames := 0, cells := 0, slots := 0, locals := 0 }) (mc := 0) (ms := 0) (rest := []) (Qc := fun A => kp_Qi D cy A T3 _) X h (c_X12_emit l D cy ad T3 a0 41 0 0 _ h.2.2.2 f_a0 hw) f_a0 cv_12_451 ⟨by dsimp only; omega, by dsimp only; omega, rfl, rfl, by dsimp only; omega, by dsimp only; omega⟩ rfl hl.1 rfl (Nat.le_of_ble_eq_true rfl) dX12_later_29) (fun y6 T5 hw l_T5 H locs h => ?_)
  have f_a0 := l_T5.is f_a0
  have f_b2 := l_T5.is f_b2
  have hle := hle.tr l_T5
  refine lv_istore_n (lv' := [(3, .int y6), (2, .int y4), (0, .ref a0), (1, .int x1)]) X.1 X.2.1 dX12_later_32 rfl hl (by decide) rfl (fun ls hl => ?_)
  refine lv_aload_n X.1 X.2.1 dX12_later_33 rfl (lv_at hl 2 rfl) ?_
  obtain ⟨b7, e_b7, hw⟩ := hw
  have f_b7 := h.2.2.2.rf (c := 12) (k := 15) f_a0 (by decide) (by decide) e_b7 (t := 14) rfl
  refine kp_get X h f_a0 ff_12_46.l (v := .ref b7) (congrArg va_rf e_b7) dX12_later_34 ?_
  refine lv_iload_n X.1 X.2.1 dX12_later_37 rfl (lv_at hl 1 rfl) ?_
  refine lv_aload_n X.1 X.2.1 dX12_later_38 rfl (lv_at hl 2 rfl) ?_
  refine kp_get X h f_a0 fp_12_370.l (v := .int (kp_I T5 2417 a0)) rfl dX12_later_39 ?_
  obtain ⟨hi, hw⟩ := hw
  refine kp_iast X h f_b7 hi dX12_later_42 (fun T8 e_T8 l_T8 H locs h => ?_)
  have hw := hw T8 e_T8
  have f_a0 := l_T8.is f_a0
  have f_b2 := l_T8.is f_b2
  have f_b7 := l_T8.is f_b7
  have hle := hle.tr l_T8
  have e_b7 : kp_R T8 2415 a0 = some b7 := by rw [e_T8]; exact e_b7
  refine lv_aload_n X.1 X.2.1 dX12_later_43 rfl (lv_at hl 2 rfl) ?_
  refine kp_get X h f_a0 fp_12_426.l (v := .int (kp_I T8 2446 a0)) rfl dX12_later_44 ?_
  refine lv_topi (fun y9 e_y9 => ?_)
  have hw := hw y9 e_y9
  refine lv_istore (lv' := [(4, .int y9), (3, .int y6), (2, .int y4), (0, .ref a0), (1, .int x1)]) X.1 X.2.1 dX12_later_47 hl (by decide) rfl (fun ls hl => ?_)
  refine lv_aload_n X.1 X.2.1 dX12_later_49 rfl (lv_at hl 3 rfl) ?_
  refine lv_aload_n X.1 X.2.1 dX12_later_50 rfl (lv_at hl 3 rfl) ?_
  refine kp_get X h f_a0 fp_12_423.l (v := .int (kp_I T8 2445 a0)) rfl dX12_later_51 ?_
  refine kp_putI X h f_a0 fp_12_426 rfl ⟨rfl, rfl⟩ dX12_later_54 (fun T10 e_T10 l_T10 H locs h => ?_)
  have hw := hw T10 e_T10
  have f_a0 := l_T10.is f_a0
  have f_b2 := l_T10.is f_b2
  have f_b7 := l_T10.is f_b7
  have hle := hle.tr l_T10
  have e_b7 : kp_R T10 2415 a0 = some b7 := by rw [e_T10]; exact e_b7
  refine lv_aload_n X.1 X.2.1 dX12_later_57 rfl (lv_at hl 3 rfl) ?_
  refine kp_calll X h (kp_runV (rm := { frames := F, cells := 0, slots := 0, locals := L }) (mc := 0) (ms := 0) (rest := []) (Qc := fun A => kp_Ql D cy A T10 _) X h (hB T10 a0 _ h.2.2.2 f_a0 hw) f_a0 cv_12_447 ⟨by dsimp only; omega, by dsimp only; omega, rfl, rfl, by dsimp only; omega, by dsimp only; omega⟩ rfl hl.1 rfl (Nat.le_of_ble_eq_true rfl) dX12_later_58) (fun z12 T11 hw l_T11 H locs h => ?_)
  have f_a0 := l_T11.is f_a0
  have f_b2 := l_T11.is f_b2
  have f_b7 := l_T11.is f_b7
  have hle := hle.tr l_T11
  refine lv_lstore (lv' := [(5, .long z12), (4, .int y9), (3, .int y6), (2, .int y4), (0, .ref a0), (1, .int x1)]) X.1 X.2.1 dX12_later_61 hl (by decide) rfl (fun ls hl => ?_)
  refine lv_aload_n X.1 X.2.1 dX12_later_63 rfl (lv_at hl 4 rfl) ?_
  refine lv_dup X.1 X.2.1 dX12_later_64 rfl ?_
  refine kp_get X h f_a0 fp_12_443.l (v := .long (kp_J T11 2426 a0)) rfl dX12_later_65 ?_
  refine lv_lload X.1 X.2.1 dX12_later_68 (lv_at hl 0 rfl) ?_
  refine lv_lor X.1 X.2.1 dX12_later_70 ?_
  refine kp_putJ X h f_a0 fp_12_443 rfl ⟨rfl, rfl⟩ dX12_later_71 (fun T13 e_T13 l_T13 H locs h => ?_)
  have hw := hw T13 e_T13
  have f_a0 := l_T13.is f_a0
  have f_b2 := l_T13.is f_b2
  have f_b7 := l_T13.is f_b7
  have hle := hle.tr l_T13
  refine lv_aload_n X.1 X.2.1 dX12_later_74 rfl (lv_at hl 4 rfl) ?_
  refine lv_iload X.1 X.2.1 dX12_later_75 (lv_at hl 1 rfl) ?_
  refine kp_putI X h f_a0 fp_12_426 rfl ⟨rfl, rfl⟩ dX12_later_77 (fun T14 e_T14 l_T14 H locs h => ?_)
  have hw := hw T14 e_T14
  have f_a0 := l_T14.is f_a0
  have f_b2 := l_T14.is f_b2
  have f_b7 := l_T14.is f_b7
  have hle := hle.tr l_T14
  refine lv_aload_n X.1 X.2.1 dX12_later_80 rfl (lv_at hl 4 rfl) ?_
  refine lv_bipush (v := 48) X.1 X.2.1 dX12_later_81 (by decide) ?_
  refine lv_iconst (v := 0) X.1 X.2.1 dX12_later_83 (by decide) ?_
  refine lv_iconst (v := 0) X.1 X.2.1 dX12_later_84 (by decide) ?_
  refine kp_calli X h (kp_runV (rm := { frames := 0, cells := 0, slots := 0, locals := 0 }) (mc := 0) (ms := 0) (rest := []) (Qc := fun A => kp_Qi D cy A T14 _) X h (c_X12_emit l D cy ad T14 a0 48 0 0 _ h.2.2.2 f_a0 hw) f_a0 cv_12_451 ⟨by dsimp only; omega, by dsimp only; omega, rfl, rfl, by dsimp only; omega, by dsimp only; omega⟩ rfl hl.1 rfl (Nat.le_of_ble_eq_true rfl) dX12_later_85) (fun y16 T15 hw l_T15 H locs h => ?_)
  have f_a0 := l_T15.is f_a0
  have f_b2 := l_T15.is f_b2
  have f_b7 := l_T15.is f_b7
  have hle := hle.tr l_T15
  refine lv_pop X.1 X.2.1 dX12_later_88 rfl ?_
  refine lv_aload_n X.1 X.2.1 dX12_later_89 rfl (lv_at hl 4 rfl) ?_
  obtain ⟨b17, e_b17, hw⟩ := hw
  have f_b17 := h.2.2.2.rf (c := 12) (k := 15) f_a0 (by decide) (by decide) e_b17 (t := 14) rfl
  refine kp_get X h f_a0 ff_12_46.l (v := .ref b17) (congrArg va_rf e_b17) dX12_later_90 ?_
  refine lv_iload_n X.1 X.2.1 dX12_later_93 rfl (lv_at hl 2 rfl) ?_
  refine lv_aload_n X.1 X.2.1 dX12_later_94 rfl (lv_at hl 4 rfl) ?_
  refine kp_get X h f_a0 fp_12_370.l (v := .int (kp_I T15 2417 a0)) rfl dX12_later_95 ?_
  obtain ⟨hi, hw⟩ := hw
  refine kp_iast X h f_b17 hi dX12_later_98 (fun T18 e_T18 l_T18 H locs h => ?_)
  have hw := hw T18 e_T18
  have f_a0 := l_T18.is f_a0
  have f_b2 := l_T18.is f_b2
  have f_b7 := l_T18.is f_b7
  have f_b17 := l_T18.is f_b17
  have hle := hle.tr l_T18
  have e_b17 : kp_R T18 2415 a0 = some b17 := by rw [e_T18]; exact e_b17
  refine lv_ldc2 (v := 5) X.1 X.2.1 X.2.2.2.1 (X.2.2.2.2.1 _ kl_12_487) dX12_later_99 ?_
  exact kp_retl X hr hlocks h hle hw dX12_later_102
theorem dX12_statement_0 : decode cX12_statement 0 = .ok (.aload_n 0, 1) := by decide +kernel
theorem dX12_statement_1 : decode cX12_statement 1 = .ok (.bipush 123, 2) := by decide +kernel
theorem dX12_statement_3 : decode cX12_statement 3 = .ok (.invokevirtual 433, 3) := by decide +kernel
theorem dX12_statement_6 : decode cX12_statement 6 = .ok (.ifCond .eq 8, 3) := by decide +kernel
theorem dX12_statement_9 : decode cX12_statement 9 = .ok (.aload_n 0, 1) := by decide +kernel
theorem dX12_statement_10 : decode cX12_statement 10 = .ok (.invokevirtual 447, 3) := by decide +kernel
theorem dX12_statement_13 : decode cX12_statement 13 = .ok (.lreturn, 1) := by decide +kernel
theorem dX12_statement_14 : decode cX12_statement 14 = .ok (.aload_n 0, 1) := by decide +kernel
theorem dX12_statement_15 : decode cX12_statement 15 = .ok (.getfield 376, 3) := by decide +kernel
theorem dX12_statement_18 : decode cX12_statement 18 = .ok (.istore_n 1, 1) := by decide +kernel
theorem dX12_statement_19 : decode cX12_statement 19 = .ok (.aload_n 0, 1) := by decide +kernel
theorem dX12_statement_20 : decode cX12_statement 20 = .ok (.bipush 30, 2) := by decide +kernel
theorem dX12_statement_22 : decode cX12_statement 22 = .ok (.aload_n 0, 1) := by decide +kernel
theorem dX12_statement_23 : decode cX12_statement 23 = .ok (.getfield 34, 3) := by decide +kernel
theorem dX12_statement_26 : decode cX12_statement 26 = .ok (.iload_n 1, 1) := by decide +kernel
theorem dX12_statement_27 : decode cX12_statement 27 = .ok (.iaload, 1) := by decide +kernel
theorem dX12_statement_28 : decode cX12_statement 28 = .ok (.iconst 0, 1) := by decide +kernel
theorem dX12_statement_29 : decode cX12_statement 29 = .ok (.invokevirtual 451, 3) := by decide +kernel
theorem dX12_statement_32 : decode cX12_statement 32 = .ok (.pop, 1) := by decide +kernel
theorem dX12_statement_33 : decode cX12_statement 33 = .ok (.aload_n 0, 1) := by decide +kernel
theorem dX12_statement_34 : decode cX12_statement 34 = .ok (.iconst 0, 1) := by decide +kernel
theorem dX12_statement_35 : decode cX12_statement 35 = .ok (.putfield 471, 3) := by decide +kernel
theorem dX12_statement_38 : decode cX12_statement 38 = .ok (.aload_n 0, 1) := by decide +kernel
theorem dX12_statement_39 : decode cX12_statement 39 = .ok (.getfield 31, 3) := by decide +kernel
theorem dX12_statement_42 : decode cX12_statement 42 = .ok (.iload_n 1, 1) := by decide +kernel
theorem dX12_statement_43 : decode cX12_statement 43 = .ok (.iaload, 1) := by decide +kernel
theorem dX12_statement_44 : decode cX12_statement 44 = .ok (.tableswitch 353 2 47 #[347, 353, 353, 353, 353, 353, 353, 353, 353, 200, 205, 282, 353, 292, 292, 353, 353, 299, 309, 319, 262, 324, 335, 353, 353, 353, 341, 273, 353, 353, 353, 218, 229, 240, 251, 353, 353, 353, 353, 353, 353, 353, 329, 292, 353, 287], 200) := by decide +kernel
theorem dX12_statement_244 : decode cX12_statement 244 = .ok (.aload_n 0, 1) := by decide +kernel
theorem dX12_statement_245 : decode cX12_statement 245 = .ok (.invokevirtual 477, 3) := by decide +kernel
theorem dX12_statement_248 : decode cX12_statement 248 = .ok (.lreturn, 1) := by decide +kernel
theorem dX12_statement_249 : decode cX12_statement 249 = .ok (.aload_n 0, 1) := by decide +kernel
theorem dX12_statement_250 : decode cX12_statement 250 = .ok (.aload_n 0, 1) := by decide +kernel
theorem dX12_statement_251 : decode cX12_statement 251 = .ok (.iconst 1, 1) := by decide +kernel
theorem dX12_statement_252 : decode cX12_statement 252 = .ok (.bipush 31, 2) := by decide +kernel
theorem dX12_statement_254 : decode cX12_statement 254 = .ok (.lconst 1, 1) := by decide +kernel
theorem dX12_statement_255 : decode cX12_statement 255 = .ok (.invokevirtual 479, 3) := by decide +kernel
theorem dX12_statement_258 : decode cX12_statement 258 = .ok (.invokevirtual 483, 3) := by decide +kernel
theorem dX12_statement_261 : decode cX12_statement 261 = .ok (.lreturn, 1) := by decide +kernel
theorem dX12_statement_262 : decode cX12_statement 262 = .ok (.aload_n 0, 1) := by decide +kernel
theorem dX12_statement_263 : decode cX12_statement 263 = .ok (.iconst 2, 1) := by decide +kernel
theorem dX12_statement_264 : decode cX12_statement 264 = .ok (.bipush 32, 2) := by decide +kernel
theorem dX12_statement_266 : decode cX12_statement 266 = .ok (.ldc2_w 487, 3) := by decide +kernel
theorem dX12_statement_269 : decode cX12_statement 269 = .ok (.invokevirtual 479, 3) := by decide +kernel
theorem dX12_statement_272 : decode cX12_statement 272 = .ok (.lreturn, 1) := by decide +kernel
theorem dX12_statement_273 : decode cX12_statement 273 = .ok (.aload_n 0, 1) := by decide +kernel
theorem dX12_statement_274 : decode cX12_statement 274 = .ok (.iconst 2, 1) := by decide +kernel
theorem dX12_statement_275 : decode cX12_statement 275 = .ok (.bipush 33, 2) := by decide +kernel
theorem dX12_statement_277 : decode cX12_statement 277 = .ok (.ldc2_w 487, 3) := by decide +kernel
theorem dX12_statement_280 : decode cX12_statement 280 = .ok (.invokevirtual 479, 3) := by decide +kernel
theorem dX12_statement_283 : decode cX12_statement 283 = .ok (.lreturn, 1) := by decide +kernel
theorem dX12_statement_284 : decode cX12_statement 284 = .ok (.aload_n 0, 1) := by decide +kernel
theorem dX12_statement_285 : decode cX12_statement 285 = .ok (.iconst 3, 1) := by decide +kernel
theorem dX12_statement_286 : decode cX12_statement 286 = .ok (.bipush 34, 2) := by decide +kernel
theorem dX12_statement_288 : decode cX12_statement 288 = .ok (.ldc2_w 487, 3) := by decide +kernel
theorem dX12_statement_291 : decode cX12_statement 291 = .ok (.invokevirtual 479, 3) := by decide +kernel
theorem dX12_statement_294 : decode cX12_statement 294 = .ok (.lreturn, 1) := by decide +kernel
theorem dX12_statement_295 : decode cX12_statement 295 = .ok (.aload_n 0, 1) := by decide +kernel
theorem dX12_statement_296 : decode cX12_statement 296 = .ok (.iconst 2, 1) := by decide +kernel
theorem dX12_statement_297 : decode cX12_statement 297 = .ok (.bipush 35, 2) := by decide +kernel
theorem dX12_statement_299 : decode cX12_statement 299 = .ok (.ldc2_w 487, 3) := by decide +kernel
theorem dX12_statement_302 : decode cX12_statement 302 = .ok (.invokevirtual 479, 3) := by decide +kernel
theorem dX12_statement_305 : decode cX12_statement 305 = .ok (.lreturn, 1) := by decide +kernel
theorem dX12_statement_306 : decode cX12_statement 306 = .ok (.aload_n 0, 1) := by decide +kernel
theorem dX12_statement_307 : decode cX12_statement 307 = .ok (.iconst 1, 1) := by decide +kernel
theorem dX12_statement_308 : decode cX12_statement 308 = .ok (.bipush 36, 2) := by decide +kernel
theorem dX12_statement_310 : decode cX12_statement 310 = .ok (.ldc2_w 475, 3) := by decide +kernel
theorem dX12_statement_313 : decode cX12_statement 313 = .ok (.invokevirtual 479, 3) := by decide +kernel
theorem dX12_statement_316 : decode cX12_statement 316 = .ok (.lreturn, 1) := by decide +kernel
theorem dX12_statement_317 : decode cX12_statement 317 = .ok (.aload_n 0, 1) := by decide +kernel
theorem dX12_statement_318 : decode cX12_statement 318 = .ok (.iconst 0, 1) := by decide +kernel
theorem dX12_statement_319 : decode cX12_statement 319 = .ok (.bipush 37, 2) := by decide +kernel
theorem dX12_statement_321 : decode cX12_statement 321 = .ok (.lconst 0, 1) := by decide +kernel
theorem dX12_statement_322 : decode cX12_statement 322 = .ok (.invokevirtual 479, 3) := by decide +kernel
theorem dX12_statement_325 : decode cX12_statement 325 = .ok (.lreturn, 1) := by decide +kernel
theorem dX12_statement_326 : decode cX12_statement 326 = .ok (.aload_n 0, 1) := by decide +kernel
theorem dX12_statement_327 : decode cX12_statement 327 = .ok (.invokevirtual 489, 3) := by decide +kernel
theorem dX12_statement_330 : decode cX12_statement 330 = .ok (.lreturn, 1) := by decide +kernel
theorem dX12_statement_331 : decode cX12_statement 331 = .ok (.aload_n 0, 1) := by decide +kernel
theorem dX12_statement_332 : decode cX12_statement 332 = .ok (.invokevirtual 492, 3) := by decide +kernel
theorem dX12_statement_335 : decode cX12_statement 335 = .ok (.lreturn, 1) := by decide +kernel
theorem dX12_statement_336 : decode cX12_statement 336 = .ok (.aload_n 0, 1) := by decide +kernel
theorem dX12_statement_337 : decode cX12_statement 337 = .ok (.iload_n 1, 1) := by decide +kernel
theorem dX12_statement_338 : decode cX12_statement 338 = .ok (.lconst 0, 1) := by decide +kernel
theorem dX12_statement_339 : decode cX12_statement 339 = .ok (.invokevirtual 494, 3) := by decide +kernel
theorem dX12_statement_342 : decode cX12_statement 342 = .ok (.lreturn, 1) := by decide +kernel
theorem dX12_statement_343 : decode cX12_statement 343 = .ok (.aload_n 0, 1) := by decide +kernel
theorem dX12_statement_344 : decode cX12_statement 344 = .ok (.bipush 39, 2) := by decide +kernel
theorem dX12_statement_346 : decode cX12_statement 346 = .ok (.ldc2_w 498, 3) := by decide +kernel
theorem dX12_statement_349 : decode cX12_statement 349 = .ok (.invokevirtual 500, 3) := by decide +kernel
theorem dX12_statement_352 : decode cX12_statement 352 = .ok (.lreturn, 1) := by decide +kernel
theorem dX12_statement_353 : decode cX12_statement 353 = .ok (.aload_n 0, 1) := by decide +kernel
theorem dX12_statement_354 : decode cX12_statement 354 = .ok (.bipush 40, 2) := by decide +kernel
theorem dX12_statement_356 : decode cX12_statement 356 = .ok (.ldc2_w 503, 3) := by decide +kernel
theorem dX12_statement_359 : decode cX12_statement 359 = .ok (.invokevirtual 500, 3) := by decide +kernel
theorem dX12_statement_362 : decode cX12_statement 362 = .ok (.lreturn, 1) := by decide +kernel
theorem dX12_statement_363 : decode cX12_statement 363 = .ok (.aload_n 0, 1) := by decide +kernel
theorem dX12_statement_364 : decode cX12_statement 364 = .ok (.invokevirtual 505, 3) := by decide +kernel
theorem dX12_statement_367 : decode cX12_statement 367 = .ok (.lreturn, 1) := by decide +kernel
theorem dX12_statement_368 : decode cX12_statement 368 = .ok (.aload_n 0, 1) := by decide +kernel
theorem dX12_statement_369 : decode cX12_statement 369 = .ok (.invokevirtual 507, 3) := by decide +kernel
theorem dX12_statement_372 : decode cX12_statement 372 = .ok (.lreturn, 1) := by decide +kernel
theorem dX12_statement_373 : decode cX12_statement 373 = .ok (.aload_n 0, 1) := by decide +kernel
theorem dX12_statement_374 : decode cX12_statement 374 = .ok (.iload_n 1, 1) := by decide +kernel
theorem dX12_statement_375 : decode cX12_statement 375 = .ok (.invokevirtual 509, 3) := by decide +kernel
theorem dX12_statement_378 : decode cX12_statement 378 = .ok (.lreturn, 1) := by decide +kernel
theorem dX12_statement_379 : decode cX12_statement 379 = .ok (.aload_n 0, 1) := by decide +kernel
theorem dX12_statement_380 : decode cX12_statement 380 = .ok (.iload_n 1, 1) := by decide +kernel
theorem dX12_statement_381 : decode cX12_statement 381 = .ok (.invokevirtual 512, 3) := by decide +kernel
theorem dX12_statement_384 : decode cX12_statement 384 = .ok (.lreturn, 1) := by decide +kernel
theorem dX12_statement_385 : decode cX12_statement 385 = .ok (.aload_n 0, 1) := by decide +kernel
theorem dX12_statement_386 : decode cX12_statement 386 = .ok (.iload_n 1, 1) := by decide +kernel
theorem dX12_statement_387 : decode cX12_statement 387 = .ok (.invokevirtual 515, 3) := by decide +kernel
theorem dX12_statement_390 : decode cX12_statement 390 = .ok (.lreturn, 1) := by decide +kernel
theorem dX12_statement_391 : decode cX12_statement 391 = .ok (.aload_n 0, 1) := by decide +kernel
theorem dX12_statement_392 : decode cX12_statement 392 = .ok (.iload_n 1, 1) := by decide +kernel
theorem dX12_statement_393 : decode cX12_statement 393 = .ok (.invokevirtual 517, 3) := by decide +kernel
theorem dX12_statement_396 : decode cX12_statement 396 = .ok (.lreturn, 1) := by decide +kernel
theorem dX12_statement_397 : decode cX12_statement 397 = .ok (.aload_n 0, 1) := by decide +kernel
theorem dX12_statement_398 : decode cX12_statement 398 = .ok (.invokevirtual 382, 3) := by decide +kernel
theorem dX12_statement_401 : decode cX12_statement 401 = .ok (.lconst 0, 1) := by decide +kernel
theorem dX12_statement_402 : decode cX12_statement 402 = .ok (.lreturn, 1) := by decide +kernel
def wX12_statement_b397 (B : Nat → kp_S → (Int64 → kp_S → Prop) → Prop) (a0 : Nat)  (Sn : kp_S) (post : Int64 → kp_S → Prop) : Prop :=
  wX12_wrong a0 Sn (fun T1001 =>
  post 0 T1001)
def wX12_statement_b336 (B : Nat → kp_S → (Int64 → kp_S → Prop) → Prop) (a0 : Nat) (xn1 : Int32)  (Sn : kp_S) (post : Int64 → kp_S → Prop) : Prop :=
  wX12_loop B a0 xn1 0 Sn (fun z2002 T2001 =>
  post z2002 T2001)
def wX12_statement (B : Nat → kp_S → (Int64 → kp_S → Prop) → Prop) (a0 : Nat) (S : kp_S) (post : Int64 → kp_S → Prop) : Prop :=
  wX12_isSign a0 123 S (fun y2 T1 =>
  ((y2 = 0 →
  ∀ y3 : Int32, y3 = (kp_I T1 2410 a0) →
  ∃ b4 : Nat, kp_R T1 2405 a0 = some b4 ∧
  vp_in y3 (kp_N T1 b4) ∧
  wX12_emit a0 30 (kp_A T1 b4 y3.toNatClampNeg) 0 T1 (fun y6 T5 =>
  ∀ T7 : kp_S, T7 = kp_sI T5 2425 a0 0 →
  ∃ b8 : Nat, kp_R T7 2404 a0 = some b8 ∧
  vp_in y3 (kp_N T7 b8) ∧
  ∀ y9 : Int32, y9 = (kp_A T7 b8 y3.toNatClampNeg) →
  ((y9 = 2 →
  wX12_named B a0 y3 T7 (fun z12 T11 =>
  post z12 T11)) ∧ (¬ y9 = 2 →
  ((y9 = 3 →
  wX12_statement_b397 B a0   T7 post) ∧ (¬ y9 = 3 →
  ((y9 = 4 →
  wX12_statement_b397 B a0   T7 post) ∧ (¬ y9 = 4 →
  ((y9 = 5 →
  wX12_statement_b397 B a0   T7 post) ∧ (¬ y9 = 5 →
  ((y9 = 6 →
  wX12_statement_b397 B a0   T7 post) ∧ (¬ y9 = 6 →
  ((y9 = 7 →
  wX12_statement_b397 B a0   T7 post) ∧ (¬ y9 = 7 →
  ((y9 = 8 →
  wX12_statement_b397 B a0   T7 post) ∧ (¬ y9 = 8 →
  ((y9 = 9 →
  wX12_statement_b397 B a0   T7 post) ∧ (¬ y9 = 9 →
  ((y9 = 10 →
  wX12_statement_b397 B a0   T7 post) ∧ (¬ y9 = 10 →
  ((y9 = 11 →
  wX12_variable a0 T7 (fun z23 T22 =>
  post z23 T22)) ∧ (¬ y9 = 11 →
  ((y9 = 12 →
  wX12_order a0 1 31 1 T7 (fun z26 T25 =>
  wX12_risky a0 z26 T25 (fun z28 T27 =>
  post z28 T27))) ∧ (¬ y9 = 12 →
  ((y9 = 13 →
  wX12_choice B a0 T7 (fun z31 T30 =>
  post z31 T30)) ∧ (¬ y9 = 13 →
  ((y9 = 14 →
  wX12_statement_b397 B a0   T7 post) ∧ (¬ y9 = 14 →
  ((y9 = 15 →
  wX12_statement_b336 B a0 y3  T7 post) ∧ (¬ y9 = 15 →
  ((y9 = 16 →
  wX12_statement_b336 B a0 y3  T7 post) ∧ (¬ y9 = 16 →
  ((y9 = 17 →
  wX12_statement_b397 B a0   T7 post) ∧ (¬ y9 = 17 →
  ((y9 = 18 →
  wX12_statement_b397 B a0   T7 post) ∧ (¬ y9 = 18 →
  ((y9 = 19 →
  wX12_away a0 39 8 T7 (fun z39 T38 =>
  post z39 T38)) ∧ (¬ y9 = 19 →
  ((y9 = 20 →
  wX12_away a0 40 1048576 T7 (fun z42 T41 =>
  post z42 T41)) ∧ (¬ y9 = 20 →
  ((y9 = 21 →
  wX12_answer a0 T7 (fun z45 T44 =>
  post z45 T44)) ∧ (¬ y9 = 21 →
  ((y9 = 22 →
  wX12_order a0 1 36 4 T7 (fun z48 T47 =>
  post z48 T47)) ∧ (¬ y9 = 22 →
  ((y9 = 23 →
  wX12_hold B a0 T7 (fun z51 T50 =>
  post z51 T50)) ∧ (¬ y9 = 23 →
  ((y9 = 24 →
  wX12_trial B a0 y3 T7 (fun z54 T53 =>
  post z54 T53)) ∧ (¬ y9 = 24 →
  ((y9 = 25 →
  wX12_statement_b397 B a0   T7 post) ∧ (¬ y9 = 25 →
  ((y9 = 26 →
  wX12_statement_b397 B a0   T7 post) ∧ (¬ y9 = 26 →
  ((y9 = 27 →
  wX12_statement_b397 B a0   T7 post) ∧ (¬ y9 = 27 →
  ((y9 = 28 →
  wX12_later B a0 y3 T7 (fun z60 T59 =>
  post z60 T59)) ∧ (¬ y9 = 28 →
  ((y9 = 29 →
  wX12_order a0 0 37 0 T7 (fun z63 T62 =>
  post z63 T62)) ∧ (¬ y9 = 29 →
  ((y9 = 30 →
  wX12_statement_b397 B a0   T7 post) ∧ (¬ y9 = 30 →
  ((y9 = 31 →
  wX12_statement_b397 B a0   T7 post) ∧ (¬ y9 = 31 →
  ((y9 = 32 →
  wX12_statement_b397 B a0   T7 post) ∧ (¬ y9 = 32 →
  ((y9 = 33 →
  wX12_order a0 2 32 5 T7 (fun z69 T68 =>
  post z69 T68)) ∧ (¬ y9 = 33 →
  ((y9 = 34 →
  wX12_order a0 2 33 5 T7 (fun z72 T71 =>
  post z72 T71)) ∧ (¬ y9 = 34 →
  ((y9 = 35 →
  wX12_order a0 3 34 5 T7 (fun z75 T74 =>
  post z75 T74)) ∧ (¬ y9 = 35 →
  ((y9 = 36 →
  wX12_order a0 2 35 5 T7 (fun z78 T77 =>
  post z78 T77)) ∧ (¬ y9 = 36 →
  ((y9 = 37 →
  wX12_statement_b397 B a0   T7 post) ∧ (¬ y9 = 37 →
  ((y9 = 38 →
  wX12_statement_b397 B a0   T7 post) ∧ (¬ y9 = 38 →
  ((y9 = 39 →
  wX12_statement_b397 B a0   T7 post) ∧ (¬ y9 = 39 →
  ((y9 = 40 →
  wX12_statement_b397 B a0   T7 post) ∧ (¬ y9 = 40 →
  ((y9 = 41 →
  wX12_statement_b397 B a0   T7 post) ∧ (¬ y9 = 41 →
  ((y9 = 42 →
  wX12_statement_b397 B a0   T7 post) ∧ (¬ y9 = 42 →
  ((y9 = 43 →
  wX12_statement_b397 B a0   T7 post) ∧ (¬ y9 = 43 →
  ((y9 = 44 →
  wX12_ensure B a0 y3 T7 (fun z88 T87 =>
  post z88 T87)) ∧ (¬ y9 = 44 →
  ((y9 = 45 →
  wX12_statement_b336 B a0 y3  T7 post) ∧ (¬ y9 = 45 →
  ((y9 = 46 →
  wX12_statement_b397 B a0   T7 post) ∧ (¬ y9 = 46 →
  ((y9 = 47 →
  wX12_choose B a0 T7 (fun z93 T92 =>
  post z93 T92)) ∧ (¬ y9 = 47 →
  wX12_statement_b397 B a0   T7 post)))))))))))))))))))))))))))))))))))))))))))))))))))))))))))))))))))))))))))))))))))))))))))))) ∧ (¬ y2 = 0 →
  B a0 T1 (fun z95 T94 =>
  post z95 T94))))
set_option maxHeartbeats 4000000 in
set_option maxRecDepth 100000 in
theorem c_X12_statement (l : Launch) (D : va_G) (cy : Nat → ClassId) (ad : (Nat → Nat) × (Nat → Nat)) (F L : Nat) (B : Nat → kp_S → (Int64 → kp_S → Prop) → Prop) (hB : ∀ (S : kp_S) (a0 : Nat) (post : Int64 → kp_S → Prop), kp_ok S → kp_is S a0 12 → B a0 S post → kp_M l yX12_block cX12_block 6 (some .long) { frames := F, cells := 0, slots := 0, locals := L } D cy ad S [.ref a0] 0 0 (fun A => kp_Ql D cy A S post)) (hF : 151 ≤ F) (hL : 3211 ≤ L) (S : kp_S) (a0 : Nat) (post : Int64 → kp_S → Prop) (hS : kp_ok S) (f_a0 : kp_is S a0 12) (hw : wX12_statement B a0 S post) : kp_M l yX12_statement cX12_statement 2 (some .long) { frames := F + 4, cells := 0, slots := 0, locals := L + 107 } D cy ad S [.ref a0] 0 0 (fun A => kp_Ql D cy A S post) := by
  refine kp_start (own := RX12) (by decide) rfl (Nat.le_of_ble_eq_true rfl) hS ?_
  intro p e s m below meth c A ls X hr hlocks hname h hl
  have hle : kp_le S S := kp_le.rf
  have hl : lv_has ls 2 [(0, .ref a0)] := hl
  have j397 : ∀  (Sn : kp_S) (H : Heap) (locs : List Loc) (ls : Array Slot), lv_has ls 2 [(0, .ref a0)] → kp_H D cy A Sn s.heap H locs → kp_le S Sn → kp_is Sn a0 12 → wX12_statement_b397 B a0   Sn post → W p l e { frames := F + 4, cells := 0, slots := 0, locals := L + 107 } s m ([.ref a0] : List Value).toArray below meth c H locs 0 0 (MQ below (kp_Ql D cy A S post) ([.ref a0] : List Value).toArray s 0 0 A) (F0 m 397 ls []) := by
    intro  Sn H locs ls hl h hle f_a0 hw
    unfold wX12_statement_b397 at hw
    refine lv_aload_n X.1 X.2.1 dX12_statement_397 rfl (lv_at hl 0 rfl) ?_
    refine kp_callv X h (kp_runV (rm := { frames := 0, cells := 0, slots := 0, locals := 0 }) (mc := 0) (ms := 0) (rest := []) (Qc := fun A => kp_Qv D cy A Sn _) X h (c_X12_wrong l D cy ad Sn a0 _ h.2.2.2 f_a0 hw) f_a0 cv_12_382 ⟨by dsimp only; omega, by dsimp only; omega, rfl, rfl, by dsimp only; omega, by dsimp only; omega⟩ rfl hl.1 rfl (Nat.le_of_ble_eq_true rfl) dX12_statement_398) (fun T1001 hw l_T1001 H locs h => ?_)
    have f_a0 := l_T1001.is f_a0
    have hle := hle.tr l_T1001
    refine lv_lconst (v := 0) X.1 X.2.1 dX12_statement_401 (by decide) ?_
    exact kp_retl X hr hlocks h hle hw dX12_statement_402
  have j336 : ∀ (xn1 : Int32) (Sn : kp_S) (H : Heap) (locs : List Loc) (ls : Array Slot), lv_has ls 2 [(0, .ref a0), (1, .int xn1)] → kp_H D cy A Sn s.heap H locs → kp_le S Sn → kp_is Sn a0 12 → wX12_statement_b336 B a0 xn1  Sn post → W p l e { frames := F + 4, cells := 0, slots := 0, locals := L + 107 } s m ([.ref a0] : List Value).toArray below meth c H locs 0 0 (MQ below (kp_Ql D cy A S post) ([.ref a0] : List Value).toArray s 0 0 A) (F0 m 336 ls []) := by
    intro xn1 Sn H locs ls hl h hle f_a0 hw
    unfold wX12_statement_b336 at hw
    refine lv_aload_n X.1 X.2.1 dX12_statement_336 rfl (lv_at hl 0 rfl) ?_
    refine lv_iload_n X.1 X.2.1 dX12_statement_337 rfl (lv_at hl 1 rfl) ?_
    refine lv_lconst (v := 0) X.1 X.2.1 dX12_statement_338 (by decide) ?_
    refine kp_calll X h (kp_runV (rm := { frames := F + 2, cells := 0, slots := 0, locals := L + 50 }) (mc := 0) (ms := 0) (rest := []) (Qc := fun A => kp_Ql D cy A Sn _) X h (c_X12_loop l D cy ad F L B hB hF hL Sn a0 xn1 0 _ h.2.2.2 f_a0 hw) f_a0 cv_12_494 ⟨by dsimp only; omega, by dsimp only; omega, rfl, rfl, by dsimp only; omega, by dsimp only; omega⟩ rfl hl.1 rfl (Nat.le_of_ble_eq_true rfl) dX12_statement_339) (fun z2002 T2001 hw l_T2001 H locs h => ?_)
    have f_a0 := l_T2001.is f_a0
    have hle := hle.tr l_T2001
    exact kp_retl X hr hlocks h hle hw dX12_statement_342
  unfold wX12_statement at hw
  have h : kp_H D cy A S s.heap s.heap [] := h
  revert h
  intro h
  refine lv_aload_n X.1 X.2.1 dX12_statement_0 rfl (lv_at hl 0 rfl) ?_
  refine lv_bipush (v := 123) X.1 X.2.1 dX12_statement_1 (by decide) ?_
  refine kp_calli X h (kp_runV (rm := { frames := 1, cells := 0, slots := 0, locals := 21 }) (mc := 0) (ms := 0) (rest := []) (Qc := fun A => kp_Qi D cy A S _) X h (c_X12_isSign l D cy ad S a0 123 _ h.2.2.2 f_a0 hw) f_a0 cv_12_433 ⟨by dsimp only; omega, by dsimp only; omega, rfl, rfl, by dsimp only; omega, by dsimp only; omega⟩ rfl hl.1 rfl (Nat.le_of_ble_eq_true rfl) dX12_statement_3) (fun y2 T1 hw l_T1 H locs h => ?_)
  have f_a0 := l_T1.is f_a0
  have hle := hle.tr l_T1
  refine lv_if_eq (tgt := 14) X.1 X.2.1 dX12_statement_6 (by decide) (fun c96 => ?_) (fun c96 => ?_)
  · have hw := hw.1 c96
    refine lv_aload_n X.1 X.2.1 dX12_statement_14 rfl (lv_at hl 0 rfl) ?_
    refine kp_get X h f_a0 fp_12_376.l (v := .int (kp_I T1 2410 a0)) rfl dX12_statement_15 ?_
    refine lv_topi (fun y3 e_y3 => ?_)
    have hw := hw y3 e_y3
    refine lv_istore_n (lv' := [(1, .int y3), (0, .ref a0)]) X.1 X.2.1 dX12_statement_18 rfl hl (by decide) rfl (fun ls hl => ?_)
    refine lv_aload_n X.1 X.2.1 dX12_statement_19 rfl (lv_at hl 1 rfl) ?_
    refine lv_bipush (v := 30) X.1 X.2.1 dX12_statement_20 (by decide) ?_
    refine lv_aload_n X.1 X.2.1 dX12_statement_22 rfl (lv_at hl 1 rfl) ?_
    obtain ⟨b4, e_b4, hw⟩ := hw
    have f_b4 := h.2.2.2.rf (c := 12) (k := 5) f_a0 (by decide) (by decide) e_b4 (t := 14) rfl
    refine kp_get X h f_a0 ff_12_34.l (v := .ref b4) (congrArg va_rf e_b4) dX12_statement_23 ?_
    refine lv_iload_n X.1 X.2.1 dX12_statement_26 rfl (lv_at hl 0 rfl) ?_
    obtain ⟨hi, hw⟩ := hw
    refine kp_iald X h f_b4 hi dX12_statement_27 ?_
    refine lv_iconst (v := 0) X.1 X.2.1 dX12_statement_28 (by decide) ?_
    refine kp_calli X h (kp_runV (rm := { frames := 0, cells := 0, slots := 0, locals := 0 }) (mc := 0) (ms := 0) (rest := []) (Qc := fun A => kp_Qi D cy A T1 _) X h (c_X12_emit l D cy ad T1 a0 30 (kp_A T1 b4 y3.toNatClampNeg) 0 _ h.2.2.2 f_a0 hw) f_a0 cv_12_451 ⟨by dsimp only; omega, by dsimp only; omega, rfl, rfl, by dsimp only; omega, by dsimp only; omega⟩ rfl hl.1 rfl (Nat.le_of_ble_eq_true rfl) dX12_statement_29) (fun y6 T5 hw l_T5 H locs h => ?_)
    have f_a0 := l_T5.is f_a0
    have f_b4 := l_T5.is f_b4
    have hle := hle.tr l_T5
    refine lv_pop X.1 X.2.1 dX12_statement_32 rfl ?_
    refine lv_aload_n X.1 X.2.1 dX12_statement_33 rfl (lv_at hl 1 rfl) ?_
    refine lv_iconst (v := 0) X.1 X.2.1 dX12_statement_34 (by decide) ?_
    refine kp_putI X h f_a0 fp_12_471 rfl ⟨by decide, by decide⟩ dX12_statement_35 (fun T7 e_T7 l_T7 H locs h => ?_)
    have hw := hw T7 e_T7
    have f_a0 := l_T7.is f_a0
    have f_b4 := l_T7.is f_b4
    have hle := hle.tr l_T7
    refine lv_aload_n X.1 X.2.1 dX12_statement_38 rfl (lv_at hl 1 rfl) ?_
    obtain ⟨b8, e_b8, hw⟩ := hw
    have f_b8 := h.2.2.2.rf (c := 12) (k := 4) f_a0 (by decide) (by decide) e_b8 (t := 14) rfl
    refine kp_get X h f_a0 ff_12_31.l (v := .ref b8) (congrArg va_rf e_b8) dX12_statement_39 ?_
    refine lv_iload_n X.1 X.2.1 dX12_statement_42 rfl (lv_at hl 0 rfl) ?_
    obtain ⟨hi, hw⟩ := hw
    refine kp_iald X h f_b8 hi dX12_statement_43 ?_
    refine lv_topi (fun y9 e_y9 => ?_)
    have hw := hw y9 e_y9
    by_cases c10 : y9 = 2
    · have hw := hw.1 c10
      refine lv_tableIn (off := 347) (tgt := 391) X.1 X.2.1 dX12_statement_44 (by rw [c10]; decide) (by rw [c10]; decide) (by rw [c10]; decide) (by decide) ?_
      refine lv_aload_n X.1 X.2.1 dX12_statement_391 rfl (lv_at hl 1 rfl) ?_
      refine lv_iload_n X.1 X.2.1 dX12_statement_392 rfl (lv_at hl 0 rfl) ?_
      refine kp_calll X h (kp_runV (rm := { frames := F + 3, cells := 0, slots := 0, locals := L + 85 }) (mc := 0) (ms := 0) (rest := []) (Qc := fun A => kp_Ql D cy A T7 _) X h (c_X12_named l D cy ad F L B hB hF hL T7 a0 y3 _ h.2.2.2 f_a0 hw) f_a0 cv_12_517 ⟨by dsimp only; omega, by dsimp only; omega, rfl, rfl, by dsimp only; omega, by dsimp only; omega⟩ rfl hl.1 rfl (Nat.le_of_ble_eq_true rfl) dX12_statement_393) (fun z12 T11 hw l_T11 H locs h => ?_)
      have f_a0 := l_T11.is f_a0
      have f_b4 := l_T11.is f_b4
      have f_b8 := l_T11.is f_b8
      have hle := hle.tr l_T11
      exact kp_retl X hr hlocks h hle hw dX12_statement_396
    have hw := hw.2 c10
    by_cases c13 : y9 = 3
    · have hw := hw.1 c13
      refine lv_tableIn (off := 353) (tgt := 397) X.1 X.2.1 dX12_statement_44 (by rw [c13]; decide) (by rw [c13]; decide) (by rw [c13]; decide) (by decide) ?_
      exact j397  T7 _ _ ls (lv_sub hl [1] rfl) h hle f_a0 hw
    have hw := hw.2 c13
    by_cases c14 : y9 = 4
    · have hw := hw.1 c14
      refine lv_tableIn (off := 353) (tgt := 397) X.1 X.2.1 dX12_statement_44 (by rw [c14]; decide) (by rw [c14]; decide) (by rw [c14]; decide) (by decide) ?_
      exact j397  T7 _ _ ls (lv_sub hl [1] rfl) h hle f_a0 hw
    have hw := hw.2 c14
    by_cases c15 : y9 = 5
    · have hw := hw.1 c15
      refine lv_tableIn (off := 353) (tgt := 397) X.1 X.2.1 dX12_statement_44 (by rw [c15]; decide) (by rw [c15]; decide) (by rw [c15]; decide) (by decide) ?_
      exact j397  T7 _ _ ls (lv_sub hl [1] rfl) h hle f_a0 hw
    have hw := hw.2 c15
    by_cases c16 : y9 = 6
    · have hw := hw.1 c16
      refine lv_tableIn (off := 353) (tgt := 397) X.1 X.2.1 dX12_statement_44 (by rw [c16]; decide) (by rw [c16]; decide) (by rw [c16]; decide) (by decide) ?_
      exact j397  T7 _ _ ls (lv_sub hl [1] rfl) h hle f_a0 hw
    have hw := hw.2 c16
    by_cases c17 : y9 = 7
    · have hw := hw.1 c17
      refine lv_tableIn (off := 353) (tgt := 397) X.1 X.2.1 dX12_statement_44 (by rw [c17]; decide) (by rw [c17]; decide) (by rw [c17]; decide) (by decide) ?_
      exact j397  T7 _ _ ls (lv_sub hl [1] rfl) h hle f_a0 hw
    have hw := hw.2 c17
    by_cases c18 : y9 = 8
    · have hw := hw.1 c18
      refine lv_tableIn (off := 353) (tgt := 397) X.1 X.2.1 dX12_statement_44 (by rw [c18]; decide) (by rw [c18]; decide) (by rw [c18]; decide) (by decide) ?_
      exact j397  T7 _ _ ls (lv_sub hl [1] rfl) h hle f_a0 hw
    have hw := hw.2 c18
    by_cases c19 : y9 = 9
    · have hw := hw.1 c19
      refine lv_tableIn (off := 353) (tgt := 397) X.1 X.2.1 dX12_statement_44 (by rw [c19]; decide) (by rw [c19]; decide) (by rw [c19]; decide) (by decide) ?_
      exact j397  T7 _ _ ls (lv_sub hl [1] rfl) h hle f_a0 hw
    have hw := hw.2 c19
    by_cases c20 : y9 = 10
    · have hw := hw.1 c20
      refine lv_tableIn (off := 353) (tgt := 397) X.1 X.2.1 dX12_statement_44 (by rw [c20]; decide) (by rw [c20]; decide) (by rw [c20]; decide) (by decide) ?_
      exact j397  T7 _ _ ls (lv_sub hl [1] rfl) h hle f_a0 hw
    have hw := hw.2 c20
    by_cases c21 : y9 = 11
    · have hw := hw.1 c21
      refine lv_tableIn (off := 200) (tgt := 244) X.1 X.2.1 dX12_statement_44 (by rw [c21]; decide) (by rw [c21]; decide) (by rw [c21]; decide) (by decide) ?_
      refine lv_aload_n X.1 X.2.1 dX12_statement_244 rfl (lv_at hl 1 rfl) ?_
      refine kp_calll X h (kp_runV (rm := { frames := 150, cells := 0, slots := 0, locals := 3185 }) (mc := 0) (ms := 0) (rest := []) (Qc := fun A => kp_Ql D cy A T7 _) X h (c_X12_variable l D cy ad T7 a0 _ h.2.2.2 f_a0 hw) f_a0 cv_12_477 ⟨by dsimp only; omega, by dsimp only; omega, rfl, rfl, by dsimp only; omega, by dsimp only; omega⟩ rfl hl.1 rfl (Nat.le_of_ble_eq_true rfl) dX12_statement_245) (fun z23 T22 hw l_T22 H locs h => ?_)
      have f_a0 := l_T22.is f_a0
      have f_b4 := l_T22.is f_b4
      have f_b8 := l_T22.is f_b8
      have hle := hle.tr l_T22
      exact kp_retl X hr hlocks h hle hw dX12_statement_248
    have hw := hw.2 c21
    by_cases c24 : y9 = 12
    · have hw := hw.1 c24
      refine lv_tableIn (off := 205) (tgt := 249) X.1 X.2.1 dX12_statement_44 (by rw [c24]; decide) (by rw [c24]; decide) (by rw [c24]; decide) (by decide) ?_
      refine lv_aload_n X.1 X.2.1 dX12_statement_249 rfl (lv_at hl 1 rfl) ?_
      refine lv_aload_n X.1 X.2.1 dX12_statement_250 rfl (lv_at hl 1 rfl) ?_
      refine lv_iconst (v := 1) X.1 X.2.1 dX12_statement_251 (by decide) ?_
      refine lv_bipush (v := 31) X.1 X.2.1 dX12_statement_252 (by decide) ?_
      refine lv_lconst (v := 1) X.1 X.2.1 dX12_statement_254 (by decide) ?_
      refine kp_calll X h (kp_runV (rm := { frames := 150, cells := 0, slots := 0, locals := 3185 }) (mc := 0) (ms := 0) (rest := [.ref a0]) (Qc := fun A => kp_Ql D cy A T7 _) X h (c_X12_order l D cy ad T7 a0 1 31 1 _ h.2.2.2 f_a0 hw) f_a0 cv_12_479 ⟨by dsimp only; omega, by dsimp only; omega, rfl, rfl, by dsimp only; omega, by dsimp only; omega⟩ rfl hl.1 rfl (Nat.le_of_ble_eq_true rfl) dX12_statement_255) (fun z26 T25 hw l_T25 H locs h => ?_)
      have f_a0 := l_T25.is f_a0
      have f_b4 := l_T25.is f_b4
      have f_b8 := l_T25.is f_b8
      have hle := hle.tr l_T25
      refine kp_calll X h (kp_runV (rm := { frames := 0, cells := 0, slots := 0, locals := 0 }) (mc := 0) (ms := 0) (rest := []) (Qc := fun A => kp_Ql D cy A T25 _) X h (c_X12_risky l D cy ad T25 a0 z26 _ h.2.2.2 f_a0 hw) f_a0 cv_12_483 ⟨by dsimp only; omega, by dsimp only; omega, rfl, rfl, by dsimp only; omega, by dsimp only; omega⟩ rfl hl.1 rfl (Nat.le_of_ble_eq_true rfl) dX12_statement_258) (fun z28 T27 hw l_T27 H locs h => ?_)
      have f_a0 := l_T27.is f_a0
      have f_b4 := l_T27.is f_b4
      have f_b8 := l_T27.is f_b8
      have hle := hle.tr l_T27
      exact kp_retl X hr hlocks h hle hw dX12_statement_261
    have hw := hw.2 c24
    by_cases c29 : y9 = 13
    · have hw := hw.1 c29
      refine lv_tableIn (off := 282) (tgt := 326) X.1 X.2.1 dX12_statement_44 (by rw [c29]; decide) (by rw [c29]; decide) (by rw [c29]; decide) (by decide) ?_
      refine lv_aload_n X.1 X.2.1 dX12_statement_326 rfl (lv_at hl 1 rfl) ?_
      refine kp_calll X h (kp_runV (rm := { frames := F + 1, cells := 0, slots := 0, locals := L + 25 }) (mc := 0) (ms := 0) (rest := []) (Qc := fun A => kp_Ql D cy A T7 _) X h (c_X12_choice l D cy ad F L B hB hF hL T7 a0 _ h.2.2.2 f_a0 hw) f_a0 cv_12_489 ⟨by dsimp only; omega, by dsimp only; omega, rfl, rfl, by dsimp only; omega, by dsimp only; omega⟩ rfl hl.1 rfl (Nat.le_of_ble_eq_true rfl) dX12_statement_327) (fun z31 T30 hw l_T30 H locs h => ?_)
      have f_a0 := l_T30.is f_a0
      have f_b4 := l_T30.is f_b4
      have f_b8 := l_T30.is f_b8
      have hle := hle.tr l_T30
      exact kp_retl X hr hlocks h hle hw dX12_statement_330
    have hw := hw.2 c29
    by_cases c32 : y9 = 14
    · have hw := hw.1 c32
      refine lv_tableIn (off := 353) (tgt := 397) X.1 X.2.1 dX12_statement_44 (by rw [c32]; decide) (by rw [c32]; decide) (by rw [c32]; decide) (by decide) ?_
      exact j397  T7 _ _ ls (lv_sub hl [1] rfl) h hle f_a0 hw
    have hw := hw.2 c32
    by_cases c33 : y9 = 15
    · have hw := hw.1 c33
      refine lv_tableIn (off := 292) (tgt := 336) X.1 X.2.1 dX12_statement_44 (by rw [c33]; decide) (by rw [c33]; decide) (by rw [c33]; decide) (by decide) ?_
      exact j336 y3 T7 _ _ ls (lv_sub hl [1, 0] rfl) h hle f_a0 hw
    have hw := hw.2 c33
    by_cases c34 : y9 = 16
    · have hw := hw.1 c34
      refine lv_tableIn (off := 292) (tgt := 336) X.1 X.2.1 dX12_statement_44 (by rw [c34]; decide) (by rw [c34]; decide) (by rw [c34]; decide) (by decide) ?_
      exact j336 y3 T7 _ _ ls (lv_sub hl [1, 0] rfl) h hle f_a0 hw
    have hw := hw.2 c34
    by_cases c35 : y9 = 17
    · have hw := hw.1 c35
      refine lv_tableIn (off := 353) (tgt := 397) X.1 X.2.1 dX12_statement_44 (by rw [c35]; decide) (by rw [c35]; decide) (by rw [c35]; decide) (by decide) ?_
      exact j397  T7 _ _ ls (lv_sub hl [1] rfl) h hle f_a0 hw
    have hw := hw.2 c35
    by_cases c36 : y9 = 18
    · have hw := hw.1 c36
      refine lv_tableIn (off := 353) (tgt := 397) X.1 X.2.1 dX12_statement_44 (by rw [c36]; decide) (by rw [c36]; decide) (by rw [c36]; decide) (by decide) ?_
      exact j397  T7 _ _ ls (lv_sub hl [1] rfl) h hle f_a0 hw
    have hw := hw.2 c36
    by_cases c37 : y9 = 19
    · have hw := hw.1 c37
      refine lv_tableIn (off := 299) (tgt := 343) X.1 X.2.1 dX12_statement_44 (by rw [c37]; decide) (by rw [c37]; decide) (by rw [c37]; decide) (by decide) ?_
      refine lv_aload_n X.1 X.2.1 dX12_statement_343 rfl (lv_at hl 1 rfl) ?_
      refine lv_bipush (v := 39) X.1 X.2.1 dX12_statement_344 (by decide) ?_
      refine lv_ldc2 (v := 8) X.1 X.2.1 X.2.2.2.1 (X.2.2.2.2.1 _ kl_12_498) dX12_statement_346 ?_
      refine kp_calll X h (kp_runV (rm := { frames := 3, cells := 0, slots := 0, locals := 63 }) (mc := 0) (ms := 0) (rest := []) (Qc := fun A => kp_Ql D cy A T7 _) X h (c_X12_away l D cy ad T7 a0 39 8 _ h.2.2.2 f_a0 hw) f_a0 cv_12_500 ⟨by dsimp only; omega, by dsimp only; omega, rfl, rfl, by dsimp only; omega, by dsimp only; omega⟩ rfl hl.1 rfl (Nat.le_of_ble_eq_true rfl) dX12_statement_349) (fun z39 T38 hw l_T38 H locs h => ?_)
      have f_a0 := l_T38.is f_a0
      have f_b4 := l_T38.is f_b4
      have f_b8 := l_T38.is f_b8
      have hle := hle.tr l_T38
      exact kp_retl X hr hlocks h hle hw dX12_statement_352
    have hw := hw.2 c37
    by_cases c40 : y9 = 20
    · have hw := hw.1 c40
      refine lv_tableIn (off := 309) (tgt := 353) X.1 X.2.1 dX12_statement_44 (by rw [c40]; decide) (by rw [c40]; decide) (by rw [c40]; decide) (by decide) ?_
      refine lv_aload_n X.1 X.2.1 dX12_statement_353 rfl (lv_at hl 1 rfl) ?_
      refine lv_bipush (v := 40) X.1 X.2.1 dX12_statement_354 (by decide) ?_
      refine lv_ldc2 (v := 1048576) X.1 X.2.1 X.2.2.2.1 (X.2.2.2.2.1 _ kl_12_503) dX12_statement_356 ?_
      refine kp_calll X h (kp_runV (rm := { frames := 3, cells := 0, slots := 0, locals := 63 }) (mc := 0) (ms := 0) (rest := []) (Qc := fun A => kp_Ql D cy A T7 _) X h (c_X12_away l D cy ad T7 a0 40 1048576 _ h.2.2.2 f_a0 hw) f_a0 cv_12_500 ⟨by dsimp only; omega, by dsimp only; omega, rfl, rfl, by dsimp only; omega, by dsimp only; omega⟩ rfl hl.1 rfl (Nat.le_of_ble_eq_true rfl) dX12_statement_359) (fun z42 T41 hw l_T41 H locs h => ?_)
      have f_a0 := l_T41.is f_a0
      have f_b4 := l_T41.is f_b4
      have f_b8 := l_T41.is f_b8
      have hle := hle.tr l_T41
      exact kp_retl X hr hlocks h hle hw dX12_statement_362
    have hw := hw.2 c40
    by_cases c43 : y9 = 21
    · have hw := hw.1 c43
      refine lv_tableIn (off := 319) (tgt := 363) X.1 X.2.1 dX12_statement_44 (by rw [c43]; decide) (by rw [c43]; decide) (by rw [c43]; decide) (by decide) ?_
      refine lv_aload_n X.1 X.2.1 dX12_statement_363 rfl (lv_at hl 1 rfl) ?_
      refine kp_calll X h (kp_runV (rm := { frames := 150, cells := 0, slots := 0, locals := 3185 }) (mc := 0) (ms := 0) (rest := []) (Qc := fun A => kp_Ql D cy A T7 _) X h (c_X12_answer l D cy ad T7 a0 _ h.2.2.2 f_a0 hw) f_a0 cv_12_505 ⟨by dsimp only; omega, by dsimp only; omega, rfl, rfl, by dsimp only; omega, by dsimp only; omega⟩ rfl hl.1 rfl (Nat.le_of_ble_eq_true rfl) dX12_statement_364) (fun z45 T44 hw l_T44 H locs h => ?_)
      have f_a0 := l_T44.is f_a0
      have f_b4 := l_T44.is f_b4
      have f_b8 := l_T44.is f_b8
      have hle := hle.tr l_T44
      exact kp_retl X hr hlocks h hle hw dX12_statement_367
    have hw := hw.2 c43
    by_cases c46 : y9 = 22
    · have hw := hw.1 c46
      refine lv_tableIn (off := 262) (tgt := 306) X.1 X.2.1 dX12_statement_44 (by rw [c46]; decide) (by rw [c46]; decide) (by rw [c46]; decide) (by decide) ?_
      refine lv_aload_n X.1 X.2.1 dX12_statement_306 rfl (lv_at hl 1 rfl) ?_
      refine lv_iconst (v := 1) X.1 X.2.1 dX12_statement_307 (by decide) ?_
      refine lv_bipush (v := 36) X.1 X.2.1 dX12_statement_308 (by decide) ?_
      refine lv_ldc2 (v := 4) X.1 X.2.1 X.2.2.2.1 (X.2.2.2.2.1 _ kl_12_475) dX12_statement_310 ?_
      refine kp_calll X h (kp_runV (rm := { frames := 150, cells := 0, slots := 0, locals := 3185 }) (mc := 0) (ms := 0) (rest := []) (Qc := fun A => kp_Ql D cy A T7 _) X h (c_X12_order l D cy ad T7 a0 1 36 4 _ h.2.2.2 f_a0 hw) f_a0 cv_12_479 ⟨by dsimp only; omega, by dsimp only; omega, rfl, rfl, by dsimp only; omega, by dsimp only; omega⟩ rfl hl.1 rfl (Nat.le_of_ble_eq_true rfl) dX12_statement_313) (fun z48 T47 hw l_T47 H locs h => ?_)
      have f_a0 := l_T47.is f_a0
      have f_b4 := l_T47.is f_b4
      have f_b8 := l_T47.is f_b8
      have hle := hle.tr l_T47
      exact kp_retl X hr hlocks h hle hw dX12_statement_316
    have hw := hw.2 c46
    by_cases c49 : y9 = 23
    · have hw := hw.1 c49
      refine lv_tableIn (off := 324) (tgt := 368) X.1 X.2.1 dX12_statement_44 (by rw [c49]; decide) (by rw [c49]; decide) (by rw [c49]; decide) (by decide) ?_
      refine lv_aload_n X.1 X.2.1 dX12_statement_368 rfl (lv_at hl 1 rfl) ?_
      refine kp_calll X h (kp_runV (rm := { frames := F + 1, cells := 0, slots := 0, locals := L + 25 }) (mc := 0) (ms := 0) (rest := []) (Qc := fun A => kp_Ql D cy A T7 _) X h (c_X12_hold l D cy ad F L B hB hF hL T7 a0 _ h.2.2.2 f_a0 hw) f_a0 cv_12_507 ⟨by dsimp only; omega, by dsimp only; omega, rfl, rfl, by dsimp only; omega, by dsimp only; omega⟩ rfl hl.1 rfl (Nat.le_of_ble_eq_true rfl) dX12_statement_369) (fun z51 T50 hw l_T50 H locs h => ?_)
      have f_a0 := l_T50.is f_a0
      have f_b4 := l_T50.is f_b4
      have f_b8 := l_T50.is f_b8
      have hle := hle.tr l_T50
      exact kp_retl X hr hlocks h hle hw dX12_statement_372
    have hw := hw.2 c49
    by_cases c52 : y9 = 24
    · have hw := hw.1 c52
      refine lv_tableIn (off := 335) (tgt := 379) X.1 X.2.1 dX12_statement_44 (by rw [c52]; decide) (by rw [c52]; decide) (by rw [c52]; decide) (by decide) ?_
      refine lv_aload_n X.1 X.2.1 dX12_statement_379 rfl (lv_at hl 1 rfl) ?_
      refine lv_iload_n X.1 X.2.1 dX12_statement_380 rfl (lv_at hl 0 rfl) ?_
      refine kp_calll X h (kp_runV (rm := { frames := F + 2, cells := 0, slots := 0, locals := L + 50 }) (mc := 0) (ms := 0) (rest := []) (Qc := fun A => kp_Ql D cy A T7 _) X h (c_X12_trial l D cy ad F L B hB hF hL T7 a0 y3 _ h.2.2.2 f_a0 hw) f_a0 cv_12_512 ⟨by dsimp only; omega, by dsimp only; omega, rfl, rfl, by dsimp only; omega, by dsimp only; omega⟩ rfl hl.1 rfl (Nat.le_of_ble_eq_true rfl) dX12_statement_381) (fun z54 T53 hw l_T53 H locs h => ?_)
      have f_a0 := l_T53.is f_a0
      have f_b4 := l_T53.is f_b4
      have f_b8 := l_T53.is f_b8
      have hle := hle.tr l_T53
      exact kp_retl X hr hlocks h hle hw dX12_statement_384
    have hw := hw.2 c52
    by_cases c55 : y9 = 25
    · have hw := hw.1 c55
      refine lv_tableIn (off := 353) (tgt := 397) X.1 X.2.1 dX12_statement_44 (by rw [c55]; decide) (by rw [c55]; decide) (by rw [c55]; decide) (by decide) ?_
      exact j397  T7 _ _ ls (lv_sub hl [1] rfl) h hle f_a0 hw
    have hw := hw.2 c55
    by_cases c56 : y9 = 26
    · have hw := hw.1 c56
      refine lv_tableIn (off := 353) (tgt := 397) X.1 X.2.1 dX12_statement_44 (by rw [c56]; decide) (by rw [c56]; decide) (by rw [c56]; decide) (by decide) ?_
      exact j397  T7 _ _ ls (lv_sub hl [1] rfl) h hle f_a0 hw
    have hw := hw.2 c56
    by_cases c57 : y9 = 27
    · have hw := hw.1 c57
      refine lv_tableIn (off := 353) (tgt := 397) X.1 X.2.1 dX12_statement_44 (by rw [c57]; decide) (by rw [c57]; decide) (by rw [c57]; decide) (by decide) ?_
      exact j397  T7 _ _ ls (lv_sub hl [1] rfl) h hle f_a0 hw
    have hw := hw.2 c57
    by_cases c58 : y9 = 28
    · have hw := hw.1 c58
      refine lv_tableIn (off := 341) (tgt := 385) X.1 X.2.1 dX12_statement_44 (by rw [c58]; decide) (by rw [c58]; decide) (by rw [c58]; decide) (by decide) ?_
      refine lv_aload_n X.1 X.2.1 dX12_statement_385 rfl (lv_at hl 1 rfl) ?_
      refine lv_iload_n X.1 X.2.1 dX12_statement_386 rfl (lv_at hl 0 rfl) ?_
      refine kp_calll X h (kp_runV (rm := { frames := F + 1, cells := 0, slots := 0, locals := L + 25 }) (mc := 0) (ms := 0) (rest := []) (Qc := fun A => kp_Ql D cy A T7 _) X h (c_X12_later l D cy ad F L B hB hF hL T7 a0 y3 _ h.2.2.2 f_a0 hw) f_a0 cv_12_515 ⟨by dsimp only; omega, by dsimp only; omega, rfl, rfl, by dsimp only; omega, by dsimp only; omega⟩ rfl hl.1 rfl (Nat.le_of_ble_eq_true rfl) dX12_statement_387) (fun z60 T59 hw l_T59 H locs h => ?_)
      have f_a0 := l_T59.is f_a0
      have f_b4 := l_T59.is f_b4
      have f_b8 := l_T59.is f_b8
      have hle := hle.tr l_T59
      exact kp_retl X hr hlocks h hle hw dX12_statement_390
    have hw := hw.2 c58
    by_cases c61 : y9 = 29
    · have hw := hw.1 c61
      refine lv_tableIn (off := 273) (tgt := 317) X.1 X.2.1 dX12_statement_44 (by rw [c61]; decide) (by rw [c61]; decide) (by rw [c61]; decide) (by decide) ?_
      refine lv_aload_n X.1 X.2.1 dX12_statement_317 rfl (lv_at hl 1 rfl) ?_
      refine lv_iconst (v := 0) X.1 X.2.1 dX12_statement_318 (by decide) ?_
      refine lv_bipush (v := 37) X.1 X.2.1 dX12_statement_319 (by decide) ?_
      refine lv_lconst (v := 0) X.1 X.2.1 dX12_statement_321 (by decide) ?_
      refine kp_calll X h (kp_runV (rm := { frames := 150, cells := 0, slots := 0, locals := 3185 }) (mc := 0) (ms := 0) (rest := []) (Qc := fun A => kp_Ql D cy A T7 _) X h (c_X12_order l D cy ad T7 a0 0 37 0 _ h.2.2.2 f_a0 hw) f_a0 cv_12_479 ⟨by dsimp only; omega, by dsimp only; omega, rfl, rfl, by dsimp only; omega, by dsimp only; omega⟩ rfl hl.1 rfl (Nat.le_of_ble_eq_true rfl) dX12_statement_322) (fun z63 T62 hw l_T62 H locs h => ?_)
      have f_a0 := l_T62.is f_a0
      have f_b4 := l_T62.is f_b4
      have f_b8 := l_T62.is f_b8
      have hle := hle.tr l_T62
      exact kp_retl X hr hlocks h hle hw dX12_statement_325
    have hw := hw.2 c61
    by_cases c64 : y9 = 30
    · have hw := hw.1 c64
      refine lv_tableIn (off := 353) (tgt := 397) X.1 X.2.1 dX12_statement_44 (by rw [c64]; decide) (by rw [c64]; decide) (by rw [c64]; decide) (by decide) ?_
      exact j397  T7 _ _ ls (lv_sub hl [1] rfl) h hle f_a0 hw
    have hw := hw.2 c64
    by_cases c65 : y9 = 31
    · have hw := hw.1 c65
      refine lv_tableIn (off := 353) (tgt := 397) X.1 X.2.1 dX12_statement_44 (by rw [c65]; decide) (by rw [c65]; decide) (by rw [c65]; decide) (by decide) ?_
      exact j397  T7 _ _ ls (lv_sub hl [1] rfl) h hle f_a0 hw
    have hw := hw.2 c65
    by_cases c66 : y9 = 32
    · have hw := hw.1 c66
      refine lv_tableIn (off := 353) (tgt := 397) X.1 X.2.1 dX12_statement_44 (by rw [c66]; decide) (by rw [c66]; decide) (by rw [c66]; decide) (by decide) ?_
      exact j397  T7 _ _ ls (lv_sub hl [1] rfl) h hle f_a0 hw
    have hw := hw.2 c66
    by_cases c67 : y9 = 33
    · have hw := hw.1 c67
      refine lv_tableIn (off := 218) (tgt := 262) X.1 X.2.1 dX12_statement_44 (by rw [c67]; decide) (by rw [c67]; decide) (by rw [c67]; decide) (by decide) ?_
      refine lv_aload_n X.1 X.2.1 dX12_statement_262 rfl (lv_at hl 1 rfl) ?_
      refine lv_iconst (v := 2) X.1 X.2.1 dX12_statement_263 (by decide) ?_
      refine lv_bipush (v := 32) X.1 X.2.1 dX12_statement_264 (by decide) ?_
      refine lv_ldc2 (v := 5) X.1 X.2.1 X.2.2.2.1 (X.2.2.2.2.1 _ kl_12_487) dX12_statement_266 ?_
      refine kp_calll X h (kp_runV (rm := { frames := 150, cells := 0, slots := 0, locals := 3185 }) (mc := 0) (ms := 0) (rest := []) (Qc := fun A => kp_Ql D cy A T7 _) X h (c_X12_order l D cy ad T7 a0 2 32 5 _ h.2.2.2 f_a0 hw) f_a0 cv_12_479 ⟨by dsimp only; omega, by dsimp only; omega, rfl, rfl, by dsimp only; omega, by dsimp only; omega⟩ rfl hl.1 rfl (Nat.le_of_ble_eq_true rfl) dX12_statement_269) (fun z69 T68 hw l_T68 H locs h => ?_)
      have f_a0 := l_T68.is f_a0
      have f_b4 := l_T68.is f_b4
      have f_b8 := l_T68.is f_b8
      have hle := hle.tr l_T68
      exact kp_retl X hr hlocks h hle hw dX12_statement_272
    have hw := hw.2 c67
    by_cases c70 : y9 = 34
    · have hw := hw.1 c70
      refine lv_tableIn (off := 229) (tgt := 273) X.1 X.2.1 dX12_statement_44 (by rw [c70]; decide) (by rw [c70]; decide) (by rw [c70]; decide) (by decide) ?_
      refine lv_aload_n X.1 X.2.1 dX12_statement_273 rfl (lv_at hl 1 rfl) ?_
      refine lv_iconst (v := 2) X.1 X.2.1 dX12_statement_274 (by decide) ?_
      refine lv_bipush (v := 33) X.1 X.2.1 dX12_statement_275 (by decide) ?_
      refine lv_ldc2 (v := 5) X.1 X.2.1 X.2.2.2.1 (X.2.2.2.2.1 _ kl_12_487) dX12_statement_277 ?_
      refine kp_calll X h (kp_runV (rm := { frames := 150, cells := 0, slots := 0, locals := 3185 }) (mc := 0) (ms := 0) (rest := []) (Qc := fun A => kp_Ql D cy A T7 _) X h (c_X12_order l D cy ad T7 a0 2 33 5 _ h.2.2.2 f_a0 hw) f_a0 cv_12_479 ⟨by dsimp only; omega, by dsimp only; omega, rfl, rfl, by dsimp only; omega, by dsimp only; omega⟩ rfl hl.1 rfl (Nat.le_of_ble_eq_true rfl) dX12_statement_280) (fun z72 T71 hw l_T71 H locs h => ?_)
      have f_a0 := l_T71.is f_a0
      have f_b4 := l_T71.is f_b4
      have f_b8 := l_T71.is f_b8
      have hle := hle.tr l_T71
      exact kp_retl X hr hlocks h hle hw dX12_statement_283
    have hw := hw.2 c70
    by_cases c73 : y9 = 35
    · have hw := hw.1 c73
      refine lv_tableIn (off := 240) (tgt := 284) X.1 X.2.1 dX12_statement_44 (by rw [c73]; decide) (by rw [c73]; decide) (by rw [c73]; decide) (by decide) ?_
      refine lv_aload_n X.1 X.2.1 dX12_statement_284 rfl (lv_at hl 1 rfl) ?_
      refine lv_iconst (v := 3) X.1 X.2.1 dX12_statement_285 (by decide) ?_
      refine lv_bipush (v := 34) X.1 X.2.1 dX12_statement_286 (by decide) ?_
      refine lv_ldc2 (v := 5) X.1 X.2.1 X.2.2.2.1 (X.2.2.2.2.1 _ kl_12_487) dX12_statement_288 ?_
      refine kp_calll X h (kp_runV (rm := { frames := 150, cells := 0, slots := 0, locals := 3185 }) (mc := 0) (ms := 0) (rest := []) (Qc := fun A => kp_Ql D cy A T7 _) X h (c_X12_order l D cy ad T7 a0 3 34 5 _ h.2.2.2 f_a0 hw) f_a0 cv_12_479 ⟨by dsimp only; omega, by dsimp only; omega, rfl, rfl, by dsimp only; omega, by dsimp only; omega⟩ rfl hl.1 rfl (Nat.le_of_ble_eq_true rfl) dX12_statement_291) (fun z75 T74 hw l_T74 H locs h => ?_)
      have f_a0 := l_T74.is f_a0
      have f_b4 := l_T74.is f_b4
      have f_b8 := l_T74.is f_b8
      have hle := hle.tr l_T74
      exact kp_retl X hr hlocks h hle hw dX12_statement_294
    have hw := hw.2 c73
    by_cases c76 : y9 = 36
    · have hw := hw.1 c76
      refine lv_tableIn (off := 251) (tgt := 295) X.1 X.2.1 dX12_statement_44 (by rw [c76]; decide) (by rw [c76]; decide) (by rw [c76]; decide) (by decide) ?_
      refine lv_aload_n X.1 X.2.1 dX12_statement_295 rfl (lv_at hl 1 rfl) ?_
      refine lv_iconst (v := 2) X.1 X.2.1 dX12_statement_296 (by decide) ?_
      refine lv_bipush (v := 35) X.1 X.2.1 dX12_statement_297 (by decide) ?_
      refine lv_ldc2 (v := 5) X.1 X.2.1 X.2.2.2.1 (X.2.2.2.2.1 _ kl_12_487) dX12_statement_299 ?_
      refine kp_calll X h (kp_runV (rm := { frames := 150, cells := 0, slots := 0, locals := 3185 }) (mc := 0) (ms := 0) (rest := []) (Qc := fun A => kp_Ql D cy A T7 _) X h (c_X12_order l D cy ad T7 a0 2 35 5 _ h.2.2.2 f_a0 hw) f_a0 cv_12_479 ⟨by dsimp only; omega, by dsimp only; omega, rfl, rfl, by dsimp only; omega, by dsimp only; omega⟩ rfl hl.1 rfl (Nat.le_of_ble_eq_true rfl) dX12_statement_302) (fun z78 T77 hw l_T77 H locs h => ?_)
      have f_a0 := l_T77.is f_a0
      have f_b4 := l_T77.is f_b4
      have f_b8 := l_T77.is f_b8
      have hle := hle.tr l_T77
      exact kp_retl X hr hlocks h hle hw dX12_statement_305
    have hw := hw.2 c76
    by_cases c79 : y9 = 37
    · have hw := hw.1 c79
      refine lv_tableIn (off := 353) (tgt := 397) X.1 X.2.1 dX12_statement_44 (by rw [c79]; decide) (by rw [c79]; decide) (by rw [c79]; decide) (by decide) ?_
      exact j397  T7 _ _ ls (lv_sub hl [1] rfl) h hle f_a0 hw
    have hw := hw.2 c79
    by_cases c80 : y9 = 38
    · have hw := hw.1 c80
      refine lv_tableIn (off := 353) (tgt := 397) X.1 X.2.1 dX12_statement_44 (by rw [c80]; decide) (by rw [c80]; decide) (by rw [c80]; decide) (by decide) ?_
      exact j397  T7 _ _ ls (lv_sub hl [1] rfl) h hle f_a0 hw
    have hw := hw.2 c80
    by_cases c81 : y9 = 39
    · have hw := hw.1 c81
      refine lv_tableIn (off := 353) (tgt := 397) X.1 X.2.1 dX12_statement_44 (by rw [c81]; decide) (by rw [c81]; decide) (by rw [c81]; decide) (by decide) ?_
      exact j397  T7 _ _ ls (lv_sub hl [1] rfl) h hle f_a0 hw
    have hw := hw.2 c81
    by_cases c82 : y9 = 40
    · have hw := hw.1 c82
      refine lv_tableIn (off := 353) (tgt := 397) X.1 X.2.1 dX12_statement_44 (by rw [c82]; decide) (by rw [c82]; decide) (by rw [c82]; decide) (by decide) ?_
      exact j397  T7 _ _ ls (lv_sub hl [1] rfl) h hle f_a0 hw
    have hw := hw.2 c82
    by_cases c83 : y9 = 41
    · have hw := hw.1 c83
      refine lv_tableIn (off := 353) (tgt := 397) X.1 X.2.1 dX12_statement_44 (by rw [c83]; decide) (by rw [c83]; decide) (by rw [c83]; decide) (by decide) ?_
      exact j397  T7 _ _ ls (lv_sub hl [1] rfl) h hle f_a0 hw
    have hw := hw.2 c83
    by_cases c84 : y9 = 42
    · have hw := hw.1 c84
      refine lv_tableIn (off := 353) (tgt := 397) X.1 X.2.1 dX12_statement_44 (by rw [c84]; decide) (by rw [c84]; decide) (by rw [c84]; decide) (by decide) ?_
      exact j397  T7 _ _ ls (lv_sub hl [1] rfl) h hle f_a0 hw
    have hw := hw.2 c84
    by_cases c85 : y9 = 43
    · have hw := hw.1 c85
      refine lv_tableIn (off := 353) (tgt := 397) X.1 X.2.1 dX12_statement_44 (by rw [c85]; decide) (by rw [c85]; decide) (by rw [c85]; decide) (by decide) ?_
      exact j397  T7 _ _ ls (lv_sub hl [1] rfl) h hle f_a0 hw
    have hw := hw.2 c85
    by_cases c86 : y9 = 44
    · have hw := hw.1 c86
      refine lv_tableIn (off := 329) (tgt := 373) X.1 X.2.1 dX12_statement_44 (by rw [c86]; decide) (by rw [c86]; decide) (by rw [c86]; decide) (by decide) ?_
      refine lv_aload_n X.1 X.2.1 dX12_statement_373 rfl (lv_at hl 1 rfl) ?_
      refine lv_iload_n X.1 X.2.1 dX12_statement_374 rfl (lv_at hl 0 rfl) ?_
      refine kp_calll X h (kp_runV (rm := { frames := F + 1, cells := 0, slots := 0, locals := L + 25 }) (mc := 0) (ms := 0) (rest := []) (Qc := fun A => kp_Ql D cy A T7 _) X h (c_X12_ensure l D cy ad F L B hB hF hL T7 a0 y3 _ h.2.2.2 f_a0 hw) f_a0 cv_12_509 ⟨by dsimp only; omega, by dsimp only; omega, rfl, rfl, by dsimp only; omega, by dsimp only; omega⟩ rfl hl.1 rfl (Nat.le_of_ble_eq_true rfl) dX12_statement_375) (fun z88 T87 hw l_T87 H locs h => ?_)
      have f_a0 := l_T87.is f_a0
      have f_b4 := l_T87.is f_b4
      have f_b8 := l_T87.is f_b8
      have hle := hle.tr l_T87
      exact kp_retl X hr hlocks h hle hw dX12_statement_378
    have hw := hw.2 c86
    by_cases c89 : y9 = 45
    · have hw := hw.1 c89
      refine lv_tableIn (off := 292) (tgt := 336) X.1 X.2.1 dX12_statement_44 (by rw [c89]; decide) (by rw [c89]; decide) (by rw [c89]; decide) (by decide) ?_
      exact j336 y3 T7 _ _ ls (lv_sub hl [1, 0] rfl) h hle f_a0 hw
    have hw := hw.2 c89
    by_cases c90 : y9 = 46
    · have hw := hw.1 c90
      refine lv_tableIn (off := 353) (tgt := 397) X.1 X.2.1 dX12_statement_44 (by rw [c90]; decide) (by rw [c90]; decide) (by rw [c90]; decide) (by decide) ?_
      exact j397  T7 _ _ ls (lv_sub hl [1] rfl) h hle f_a0 hw
    have hw := hw.2 c90
    by_cases c91 : y9 = 47
    · have hw := hw.1 c91
      refine lv_tableIn (off := 287) (tgt := 331) X.1 X.2.1 dX12_statement_44 (by rw [c91]; decide) (by rw [c91]; decide) (by rw [c91]; decide) (by decide) ?_
      refine lv_aload_n X.1 X.2.1 dX12_statement_331 rfl (lv_at hl 1 rfl) ?_
      refine kp_calll X h (kp_runV (rm := { frames := F + 1, cells := 0, slots := 0, locals := L + 25 }) (mc := 0) (ms := 0) (rest := []) (Qc := fun A => kp_Ql D cy A T7 _) X h (c_X12_choose l D cy ad F L B hB hF hL T7 a0 _ h.2.2.2 f_a0 hw) f_a0 cv_12_492 ⟨by dsimp only; omega, by dsimp only; omega, rfl, rfl, by dsimp only; omega, by dsimp only; omega⟩ rfl hl.1 rfl (Nat.le_of_ble_eq_true rfl) dX12_statement_332) (fun z93 T92 hw l_T92 H locs h => ?_)
      have f_a0 := l_T92.is f_a0
      have f_b4 := l_T92.is f_b4
      have f_b8 := l_T92.is f_b8
      have hle := hle.tr l_T92
      exact kp_retl X hr hlocks h hle hw dX12_statement_335
    have hw := hw.2 c91
    have t_c10 := lv_neT (a := 2) c10 (by decide)
    have t_c13 := lv_neT (a := 3) c13 (by decide)
    have t_c14 := lv_neT (a := 4) c14 (by decide)
    have t_c15 := lv_neT (a := 5) c15 (by decide)
    have t_c16 := lv_neT (a := 6) c16 (by decide)
    have t_c17 := lv_neT (a := 7) c17 (by decide)
    have t_c18 := lv_neT (a := 8) c18 (by decide)
    have t_c19 := lv_neT (a := 9) c19 (by decide)
    have t_c20 := lv_neT (a := 10) c20 (by decide)
    have t_c21 := lv_neT (a := 11) c21 (by decide)
    have t_c24 := lv_neT (a := 12) c24 (by decide)
    have t_c29 := lv_neT (a := 13) c29 (by decide)
    have t_c32 := lv_neT (a := 14) c32 (by decide)
    have t_c33 := lv_neT (a := 15) c33 (by decide)
    have t_c34 := lv_neT (a := 16) c34 (by decide)
    have t_c35 := lv_neT (a := 17) c35 (by decide)
    have t_c36 := lv_neT (a := 18) c36 (by decide)
    have t_c37 := lv_neT (a := 19) c37 (by decide)
    have t_c40 := lv_neT (a := 20) c40 (by decide)
    have t_c43 := lv_neT (a := 21) c43 (by decide)
    have t_c46 := lv_neT (a := 22) c46 (by decide)
    have t_c49 := lv_neT (a := 23) c49 (by decide)
    have t_c52 := lv_neT (a := 24) c52 (by decide)
    have t_c55 := lv_neT (a := 25) c55 (by decide)
    have t_c56 := lv_neT (a := 26) c56 (by decide)
    have t_c57 := lv_neT (a := 27) c57 (by decide)
    have t_c58 := lv_neT (a := 28) c58 (by decide)
    have t_c61 := lv_neT (a := 29) c61 (by decide)
    have t_c64 := lv_neT (a := 30) c64 (by decide)
    have t_c65 := lv_neT (a := 31) c65 (by decide)
    have t_c66 := lv_neT (a := 32) c66 (by decide)
    have t_c67 := lv_neT (a := 33) c67 (by decide)
    have t_c70 := lv_neT (a := 34) c70 (by decide)
    have t_c73 := lv_neT (a := 35) c73 (by decide)
    have t_c76 := lv_neT (a := 36) c76 (by decide)
    have t_c79 := lv_neT (a := 37) c79 (by decide)
    have t_c80 := lv_neT (a := 38) c80 (by decide)
    have t_c81 := lv_neT (a := 39) c81 (by decide)
    have t_c82 := lv_neT (a := 40) c82 (by decide)
    have t_c83 := lv_neT (a := 41) c83 (by decide)
    have t_c84 := lv_neT (a := 42) c84 (by decide)
    have t_c85 := lv_neT (a := 43) c85 (by decide)
    have t_c86 := lv_neT (a := 44) c86 (by decide)
    have t_c89 := lv_neT (a := 45) c89 (by decide)
    have t_c90 := lv_neT (a := 46) c90 (by decide)
    have t_c91 := lv_neT (a := 47) c91 (by decide)
    refine lv_tableOut (tgt := 397) X.1 X.2.1 dX12_statement_44 (by omega) (by decide) ?_
    exact j397  T7 _ _ ls (lv_sub hl [1] rfl) h hle f_a0 hw
  · have hw := hw.2 c96
    refine lv_aload_n X.1 X.2.1 dX12_statement_9 rfl (lv_at hl 0 rfl) ?_
    refine kp_calll X h (kp_runV (rm := { frames := F, cells := 0, slots := 0, locals := L }) (mc := 0) (ms := 0) (rest := []) (Qc := fun A => kp_Ql D cy A T1 _) X h (hB T1 a0 _ h.2.2.2 f_a0 hw) f_a0 cv_12_447 ⟨by dsimp only; omega, by dsimp only; omega, rfl, rfl, by dsimp only; omega, by dsimp only; omega⟩ rfl hl.1 rfl (Nat.le_of_ble_eq_true rfl) dX12_statement_10) (fun z95 T94 hw l_T94 H locs h => ?_)
    have f_a0 := l_T94.is f_a0
    have hle := hle.tr l_T94
    exact kp_retl X hr hlocks h hle hw dX12_statement_13
theorem dX12_block_0 : decode cX12_block 0 = .ok (.aload_n 0, 1) := by decide +kernel
theorem dX12_block_1 : decode cX12_block 1 = .ok (.bipush 123, 2) := by decide +kernel
theorem dX12_block_3 : decode cX12_block 3 = .ok (.invokevirtual 433, 3) := by decide +kernel
theorem dX12_block_6 : decode cX12_block 6 = .ok (.ifCond .ne 9, 3) := by decide +kernel
theorem dX12_block_9 : decode cX12_block 9 = .ok (.aload_n 0, 1) := by decide +kernel
theorem dX12_block_10 : decode cX12_block 10 = .ok (.invokevirtual 382, 3) := by decide +kernel
theorem dX12_block_13 : decode cX12_block 13 = .ok (.lconst 0, 1) := by decide +kernel
theorem dX12_block_14 : decode cX12_block 14 = .ok (.lreturn, 1) := by decide +kernel
theorem dX12_block_15 : decode cX12_block 15 = .ok (.aload_n 0, 1) := by decide +kernel
theorem dX12_block_16 : decode cX12_block 16 = .ok (.invokevirtual 463, 3) := by decide +kernel
theorem dX12_block_19 : decode cX12_block 19 = .ok (.aload_n 0, 1) := by decide +kernel
theorem dX12_block_20 : decode cX12_block 20 = .ok (.getfield 397, 3) := by decide +kernel
theorem dX12_block_23 : decode cX12_block 23 = .ok (.istore_n 1, 1) := by decide +kernel
theorem dX12_block_24 : decode cX12_block 24 = .ok (.lconst 1, 1) := by decide +kernel
theorem dX12_block_25 : decode cX12_block 25 = .ok (.lstore_n 2, 1) := by decide +kernel
theorem dX12_block_26 : decode cX12_block 26 = .ok (.aload_n 0, 1) := by decide +kernel
theorem dX12_block_27 : decode cX12_block 27 = .ok (.invokevirtual 408, 3) := by decide +kernel
theorem dX12_block_30 : decode cX12_block 30 = .ok (.ifCond .eq 42, 3) := by decide +kernel
theorem dX12_block_33 : decode cX12_block 33 = .ok (.aload_n 0, 1) := by decide +kernel
theorem dX12_block_34 : decode cX12_block 34 = .ok (.bipush 125, 2) := by decide +kernel
theorem dX12_block_36 : decode cX12_block 36 = .ok (.invokevirtual 433, 3) := by decide +kernel
theorem dX12_block_39 : decode cX12_block 39 = .ok (.ifCond .ne 33, 3) := by decide +kernel
theorem dX12_block_42 : decode cX12_block 42 = .ok (.aload_n 0, 1) := by decide +kernel
theorem dX12_block_43 : decode cX12_block 43 = .ok (.invokevirtual 466, 3) := by decide +kernel
theorem dX12_block_46 : decode cX12_block 46 = .ok (.lstore 4, 2) := by decide +kernel
theorem dX12_block_48 : decode cX12_block 48 = .ok (.lload_n 2, 1) := by decide +kernel
theorem dX12_block_49 : decode cX12_block 49 = .ok (.lconst 1, 1) := by decide +kernel
theorem dX12_block_50 : decode cX12_block 50 = .ok (.land, 1) := by decide +kernel
theorem dX12_block_51 : decode cX12_block 51 = .ok (.lconst 0, 1) := by decide +kernel
theorem dX12_block_52 : decode cX12_block 52 = .ok (.lcmp, 1) := by decide +kernel
theorem dX12_block_53 : decode cX12_block 53 = .ok (.ifCond .ne 7, 3) := by decide +kernel
theorem dX12_block_56 : decode cX12_block 56 = .ok (.lload_n 2, 1) := by decide +kernel
theorem dX12_block_57 : decode cX12_block 57 = .ok (.goto 11, 3) := by decide +kernel
theorem dX12_block_60 : decode cX12_block 60 = .ok (.lload_n 2, 1) := by decide +kernel
theorem dX12_block_61 : decode cX12_block 61 = .ok (.ldc2_w 469, 3) := by decide +kernel
theorem dX12_block_64 : decode cX12_block 64 = .ok (.land, 1) := by decide +kernel
theorem dX12_block_65 : decode cX12_block 65 = .ok (.lload 4, 2) := by decide +kernel
theorem dX12_block_67 : decode cX12_block 67 = .ok (.lor, 1) := by decide +kernel
theorem dX12_block_68 : decode cX12_block 68 = .ok (.lstore_n 2, 1) := by decide +kernel
theorem dX12_block_69 : decode cX12_block 69 = .ok (.goto (-43), 3) := by decide +kernel
theorem dX12_block_72 : decode cX12_block 72 = .ok (.aload_n 0, 1) := by decide +kernel
theorem dX12_block_73 : decode cX12_block 73 = .ok (.bipush 125, 2) := by decide +kernel
theorem dX12_block_75 : decode cX12_block 75 = .ok (.invokevirtual 429, 3) := by decide +kernel
theorem dX12_block_78 : decode cX12_block 78 = .ok (.aload_n 0, 1) := by decide +kernel
theorem dX12_block_79 : decode cX12_block 79 = .ok (.dup, 1) := by decide +kernel
theorem dX12_block_80 : decode cX12_block 80 = .ok (.getfield 388, 3) := by decide +kernel
theorem dX12_block_83 : decode cX12_block 83 = .ok (.iconst 1, 1) := by decide +kernel
theorem dX12_block_84 : decode cX12_block 84 = .ok (.isub, 1) := by decide +kernel
theorem dX12_block_85 : decode cX12_block 85 = .ok (.putfield 388, 3) := by decide +kernel
theorem dX12_block_88 : decode cX12_block 88 = .ok (.aload_n 0, 1) := by decide +kernel
theorem dX12_block_89 : decode cX12_block 89 = .ok (.iload_n 1, 1) := by decide +kernel
theorem dX12_block_90 : decode cX12_block 90 = .ok (.putfield 397, 3) := by decide +kernel
theorem dX12_block_93 : decode cX12_block 93 = .ok (.lload_n 2, 1) := by decide +kernel
theorem dX12_block_94 : decode cX12_block 94 = .ok (.lreturn, 1) := by decide +kernel
def wX12_block_b72 (B : Nat → kp_S → (Int64 → kp_S → Prop) → Prop) (a0 : Nat) (xn1 : Int32) (wn2 : Int64)  (Sn : kp_S) (post : Int64 → kp_S → Prop) : Prop :=
  wX12_takeSign a0 125 Sn (fun T1001 =>
  ∀ T1002 : kp_S, T1002 = kp_sI T1001 2411 a0 ((kp_I T1001 2411 a0) - 1) →
  ∀ T1003 : kp_S, T1003 = kp_sI T1002 2441 a0 xn1 →
  post wn2 T1003)
def wX12_block_b68 (B : Nat → kp_S → (Int64 → kp_S → Prop) → Prop) (a0 : Nat) (xn1 : Int32) (wt0 : Int64) (K26 : Int32 → Int64 → kp_S → Prop) (Sn : kp_S) (post : Int64 → kp_S → Prop) : Prop :=
  K26 xn1 wt0 Sn
def wX12_block_L26 (B : Nat → kp_S → (Int64 → kp_S → Prop) → Prop) (a0 : Nat)  (post : Int64 → kp_S → Prop) : Nat → Int32 → Int64 → kp_S → Prop
  | 0, _, _, _ => False
  | n + 1, xn1, wn2, Sn =>
  wX12_fine a0 Sn (fun y3002 T3001 =>
  ((y3002 = 0 →
  wX12_block_b72 B a0 xn1 wn2  T3001 post) ∧ (¬ y3002 = 0 →
  wX12_isSign a0 125 T3001 (fun y3004 T3003 =>
  ((¬ y3004 = 0 →
  wX12_block_b72 B a0 xn1 wn2  T3003 post) ∧ (y3004 = 0 →
  wX12_statement B a0 T3003 (fun z3006 T3005 =>
  ((¬ (lg_cmp (wn2 &&& 1) 0) = 0 →
  wX12_block_b68 B a0 xn1 ((wn2 &&& (-2)) ||| z3006) (fun xn1_ wn2_ S_ => wX12_block_L26 B a0  post n xn1_ wn2_ S_) T3005 post) ∧ ((lg_cmp (wn2 &&& 1) 0) = 0 →
  wX12_block_b68 B a0 xn1 wn2 (fun xn1_ wn2_ S_ => wX12_block_L26 B a0  post n xn1_ wn2_ S_) T3005 post)))))))))
def wX12_block (B : Nat → kp_S → (Int64 → kp_S → Prop) → Prop) (a0 : Nat) (S : kp_S) (post : Int64 → kp_S → Prop) : Prop :=
  wX12_isSign a0 123 S (fun y2 T1 =>
  ((¬ y2 = 0 →
  wX12_nest a0 T1 (fun T3 =>
  ∀ y4 : Int32, y4 = (kp_I T3 2441 a0) →
  ∃ n0 : Nat, wX12_block_L26 B a0  post n0 y4 1 T3)) ∧ (y2 = 0 →
  wX12_wrong a0 T1 (fun T5 =>
  post 0 T5))))
set_option maxHeartbeats 4000000 in
set_option maxRecDepth 100000 in
theorem c_X12_block (l : Launch) (D : va_G) (cy : Nat → ClassId) (ad : (Nat → Nat) × (Nat → Nat)) (F L : Nat) (B : Nat → kp_S → (Int64 → kp_S → Prop) → Prop) (hB : ∀ (S : kp_S) (a0 : Nat) (post : Int64 → kp_S → Prop), kp_ok S → kp_is S a0 12 → B a0 S post → kp_M l yX12_block cX12_block 6 (some .long) { frames := F, cells := 0, slots := 0, locals := L } D cy ad S [.ref a0] 0 0 (fun A => kp_Ql D cy A S post)) (hF : 151 ≤ F) (hL : 3211 ≤ L) (S : kp_S) (a0 : Nat) (post : Int64 → kp_S → Prop) (hS : kp_ok S) (f_a0 : kp_is S a0 12) (hw : wX12_block B a0 S post) : kp_M l yX12_block cX12_block 6 (some .long) { frames := F + 5, cells := 0, slots := 0, locals := L + 128 } D cy ad S [.ref a0] 0 0 (fun A => kp_Ql D cy A S post) := by
  refine kp_start (own := RX12) (by decide) rfl (Nat.le_of_ble_eq_true rfl) hS ?_
  intro p e s m below meth c A ls X hr hlocks hname h hl
  have hle : kp_le S S := kp_le.rf
  have hl : lv_has ls 6 [(0, .ref a0)] := hl
  have j72 : ∀ (xn1 : Int32) (wn2 : Int64) (Sn : kp_S) (H : Heap) (locs : List Loc) (ls : Array Slot), lv_has ls 6 [(0, .ref a0), (1, .int xn1), (2, .long wn2)] → kp_H D cy A Sn s.heap H locs → kp_le S Sn → kp_is Sn a0 12 → wX12_block_b72 B a0 xn1 wn2  Sn post → W p l e { frames := F + 5, cells := 0, slots := 0, locals := L + 128 } s m ([.ref a0] : List Value).toArray below meth c H locs 0 0 (MQ below (kp_Ql D cy A S post) ([.ref a0] : List Value).toArray s 0 0 A) (F0 m 72 ls []) := by
    intro xn1 wn2 Sn H locs ls hl h hle f_a0 hw
    unfold wX12_block_b72 at hw
    refine lv_aload_n X.1 X.2.1 dX12_block_72 rfl (lv_at hl 0 rfl) ?_
    refine lv_bipush (v := 125) X.1 X.2.1 dX12_block_73 (by decide) ?_
    refine kp_callv X h (kp_runV (rm := { frames := 2, cells := 0, slots := 0, locals := 42 }) (mc := 0) (ms := 0) (rest := []) (Qc := fun A => kp_Qv D cy A Sn _) X h (c_X12_takeSign l D cy ad Sn a0 125 _ h.2.2.2 f_a0 hw) f_a0 cv_12_429 ⟨by dsimp only; omega, by dsimp only; omega, rfl, rfl, by dsimp only; omega, by dsimp only; omega⟩ rfl hl.1 rfl (Nat.le_of_ble_eq_true rfl) dX12_block_75) (fun T1001 hw l_T1001 H locs h => ?_)
    have f_a0 := l_T1001.is f_a0
    have hle := hle.tr l_T1001
    refine lv_aload_n X.1 X.2.1 dX12_block_78 rfl (lv_at hl 0 rfl) ?_
    refine lv_dup X.1 X.2.1 dX12_block_79 rfl ?_
    refine kp_get X h f_a0 fp_12_388.l (v := .int (kp_I T1001 2411 a0)) rfl dX12_block_80 ?_
    refine lv_iconst (v := 1) X.1 X.2.1 dX12_block_83 (by decide) ?_
    refine lv_isub X.1 X.2.1 dX12_block_84 ?_
    refine kp_putI X h f_a0 fp_12_388 rfl ⟨rfl, rfl⟩ dX12_block_85 (fun T1002 e_T1002 l_T1002 H locs h => ?_)
    have hw := hw T1002 e_T1002
    have f_a0 := l_T1002.is f_a0
    have hle := hle.tr l_T1002
    refine lv_aload_n X.1 X.2.1 dX12_block_88 rfl (lv_at hl 0 rfl) ?_
    refine lv_iload_n X.1 X.2.1 dX12_block_89 rfl (lv_at hl 1 rfl) ?_
    refine kp_putI X h f_a0 fp_12_397 rfl ⟨rfl, rfl⟩ dX12_block_90 (fun T1003 e_T1003 l_T1003 H locs h => ?_)
    have hw := hw T1003 e_T1003
    have f_a0 := l_T1003.is f_a0
    have hle := hle.tr l_T1003
    refine lv_lload_n X.1 X.2.1 dX12_block_93 rfl (lv_at hl 2 rfl) ?_
    exact kp_retl X hr hlocks h hle hw dX12_block_94
  have L26 : ∀ n26 : Nat, ∀ (xn1 : Int32) (wn2 : Int64) (Sn : kp_S) (H : Heap) (locs : List Loc) (ls : Array Slot), lv_has ls 6 [(0, .ref a0), (1, .int xn1), (2, .long wn2)] → kp_H D cy A Sn s.heap H locs → kp_le S Sn → kp_is Sn a0 12 → wX12_block_L26 B a0  post n26 xn1 wn2 Sn → W p l e { frames := F + 5, cells := 0, slots := 0, locals := L + 128 } s m ([.ref a0] : List Value).toArray below meth c H locs 0 0 (MQ below (kp_Ql D cy A S post) ([.ref a0] : List Value).toArray s 0 0 A) (F0 m 26 ls []) := by
    intro n26
    induction n26 with
    | zero => intro xn1 wn2 Sn H locs ls hl h hle f_a0 hw; exact hw.elim
    | succ n26 ih26 =>
      have j68 : ∀ (xn1 : Int32) (wt0 : Int64) (Sn : kp_S) (H : Heap) (locs : List Loc) (ls : Array Slot), lv_has ls 6 [(0, .ref a0), (1, .int xn1)] → kp_H D cy A Sn s.heap H locs → kp_le S Sn → kp_is Sn a0 12 → wX12_block_b68 B a0 xn1 wt0 (fun xn1_ wn2_ S_ => wX12_block_L26 B a0  post n26 xn1_ wn2_ S_) Sn post → W p l e { frames := F + 5, cells := 0, slots := 0, locals := L + 128 } s m ([.ref a0] : List Value).toArray below meth c H locs 0 0 (MQ below (kp_Ql D cy A S post) ([.ref a0] : List Value).toArray s 0 0 A) (F0 m 68 ls [.long wt0]) := by
        intro xn1 wt0 Sn H locs ls hl h hle f_a0 hw
        unfold wX12_block_b68 at hw
        refine lv_lstore_n (lv' := [(2, .long wt0), (0, .ref a0), (1, .int xn1)]) X.1 X.2.1 dX12_block_68 rfl hl (by decide) rfl (fun ls hl => ?_)
        refine lv_goto (tgt := 26) X.1 X.2.1 dX12_block_69 (by decide) ?_
        exact ih26 xn1 wt0 Sn H locs ls (lv_sub hl [1, 2, 0] rfl) h hle f_a0 hw
      intro xn1 wn2 Sn H locs ls hl h hle f_a0 hw
      unfold wX12_block_L26 at hw
      refine lv_aload_n X.1 X.2.1 dX12_block_26 rfl (lv_at hl 0 rfl) ?_
      refine kp_calli X h (kp_runV (rm := { frames := 0, cells := 0, slots := 0, locals := 0 }) (mc := 0) (ms := 0) (rest := []) (Qc := fun A => kp_Qi D cy A Sn _) X h (c_X12_fine l D cy ad Sn a0 _ h.2.2.2 f_a0 hw) f_a0 cv_12_408 ⟨by dsimp only; omega, by dsimp only; omega, rfl, rfl, by dsimp only; omega, by dsimp only; omega⟩ rfl hl.1 rfl (Nat.le_of_ble_eq_true rfl) dX12_block_27) (fun y3002 T3001 hw l_T3001 H locs h => ?_)
      have f_a0 := l_T3001.is f_a0
      have hle := hle.tr l_T3001
      refine lv_if_eq (tgt := 72) X.1 X.2.1 dX12_block_30 (by decide) (fun c3009 => ?_) (fun c3009 => ?_)
      · have hw := hw.1 c3009
        exact j72 xn1 wn2 T3001 H locs ls (lv_sub hl [0, 1, 2] rfl) h hle f_a0 hw
      · have hw := hw.2 c3009
        refine lv_aload_n X.1 X.2.1 dX12_block_33 rfl (lv_at hl 0 rfl) ?_
        refine lv_bipush (v := 125) X.1 X.2.1 dX12_block_34 (by decide) ?_
        refine kp_calli X h (kp_runV (rm := { frames := 1, cells := 0, slots := 0, locals := 21 }) (mc := 0) (ms := 0) (rest := []) (Qc := fun A => kp_Qi D cy A T3001 _) X h (c_X12_isSign l D cy ad T3001 a0 125 _ h.2.2.2 f_a0 hw) f_a0 cv_12_433 ⟨by dsimp only; omega, by dsimp only; omega, rfl, rfl, by dsimp only; omega, by dsimp only; omega⟩ rfl hl.1 rfl (Nat.le_of_ble_eq_true rfl) dX12_block_36) (fun y3004 T3003 hw l_T3003 H locs h => ?_)
        have f_a0 := l_T3003.is f_a0
        have hle := hle.tr l_T3003
        refine lv_if_ne (tgt := 72) X.1 X.2.1 dX12_block_39 (by decide) (fun c3008 => ?_) (fun c3008 => ?_)
        · have hw := hw.1 c3008
          exact j72 xn1 wn2 T3003 H locs ls (lv_sub hl [0, 1, 2] rfl) h hle f_a0 hw
        · have hw := hw.2 c3008
          refine lv_aload_n X.1 X.2.1 dX12_block_42 rfl (lv_at hl 0 rfl) ?_
          refine kp_calll X h (kp_runV (rm := { frames := F + 4, cells := 0, slots := 0, locals := L + 107 }) (mc := 0) (ms := 0) (rest := []) (Qc := fun A => kp_Ql D cy A T3003 _) X h (c_X12_statement l D cy ad F L B hB hF hL T3003 a0 _ h.2.2.2 f_a0 hw) f_a0 cv_12_466 ⟨by dsimp only; omega, by dsimp only; omega, rfl, rfl, by dsimp only; omega, by dsimp only; omega⟩ rfl hl.1 rfl (Nat.le_of_ble_eq_true rfl) dX12_block_43) (fun z3006 T3005 hw l_T3005 H locs h => ?_)
          have f_a0 := l_T3005.is f_a0
          have hle := hle.tr l_T3005
          refine lv_lstore (lv' := [(4, .long z3006), (0, .ref a0), (1, .int xn1), (2, .long wn2)]) X.1 X.2.1 dX12_block_46 hl (by decide) rfl (fun ls hl => ?_)
          refine lv_lload_n X.1 X.2.1 dX12_block_48 rfl (lv_at hl 3 rfl) ?_
          refine lv_lconst (v := 1) X.1 X.2.1 dX12_block_49 (by decide) ?_
          refine lv_land X.1 X.2.1 dX12_block_50 ?_
          refine lv_lconst (v := 0) X.1 X.2.1 dX12_block_51 (by decide) ?_
          refine W.lcmp X.1 X.2.1 dX12_block_52 ?_
          refine lv_if_ne (tgt := 60) X.1 X.2.1 dX12_block_53 (by decide) (fun c3007 => ?_) (fun c3007 => ?_)
          · have hw := hw.1 c3007
            refine lv_lload_n X.1 X.2.1 dX12_block_60 rfl (lv_at hl 3 rfl) ?_
            refine lv_ldc2 (v := (-2)) X.1 X.2.1 X.2.2.2.1 (X.2.2.2.2.1 _ kl_12_469) dX12_block_61 ?_
            refine lv_land X.1 X.2.1 dX12_block_64 ?_
            refine lv_lload X.1 X.2.1 dX12_block_65 (lv_at hl 0 rfl) ?_
            refine lv_lor X.1 X.2.1 dX12_block_67 ?_
            exact j68 xn1 ((wn2 &&& (-2)) ||| z3006) T3005 H locs ls (lv_sub hl [1, 2] rfl) h hle f_a0 hw
          · have hw := hw.2 c3007
            refine lv_lload_n X.1 X.2.1 dX12_block_56 rfl (lv_at hl 3 rfl) ?_
            refine lv_goto (tgt := 68) X.1 X.2.1 dX12_block_57 (by decide) ?_
            exact j68 xn1 wn2 T3005 H locs ls (lv_sub hl [1, 2] rfl) h hle f_a0 hw
  unfold wX12_block at hw
  have h : kp_H D cy A S s.heap s.heap [] := h
  revert h
  intro h
  refine lv_aload_n X.1 X.2.1 dX12_block_0 rfl (lv_at hl 0 rfl) ?_
  refine lv_bipush (v := 123) X.1 X.2.1 dX12_block_1 (by decide) ?_
  refine kp_calli X h (kp_runV (rm := { frames := 1, cells := 0, slots := 0, locals := 21 }) (mc := 0) (ms := 0) (rest := []) (Qc := fun A => kp_Qi D cy A S _) X h (c_X12_isSign l D cy ad S a0 123 _ h.2.2.2 f_a0 hw) f_a0 cv_12_433 ⟨by dsimp only; omega, by dsimp only; omega, rfl, rfl, by dsimp only; omega, by dsimp only; omega⟩ rfl hl.1 rfl (Nat.le_of_ble_eq_true rfl) dX12_block_3) (fun y2 T1 hw l_T1 H locs h => ?_)
  have f_a0 := l_T1.is f_a0
  have hle := hle.tr l_T1
  refine lv_if_ne (tgt := 15) X.1 X.2.1 dX12_block_6 (by decide) (fun c6 => ?_) (fun c6 => ?_)
  · have hw := hw.1 c6
    refine lv_aload_n X.1 X.2.1 dX12_block_15 rfl (lv_at hl 0 rfl) ?_
    refine kp_callv X h (kp_runV (rm := { frames := 0, cells := 0, slots := 0, locals := 0 }) (mc := 0) (ms := 0) (rest := []) (Qc := fun A => kp_Qv D cy A T1 _) X h (c_X12_nest l D cy ad T1 a0 _ h.2.2.2 f_a0 hw) f_a0 cv_12_463 ⟨by dsimp only; omega, by dsimp only; omega, rfl, rfl, by dsimp only; omega, by dsimp only; omega⟩ rfl hl.1 rfl (Nat.le_of_ble_eq_true rfl) dX12_block_16) (fun T3 hw l_T3 H locs h => ?_)
    have f_a0 := l_T3.is f_a0
    have hle := hle.tr l_T3
    refine lv_aload_n X.1 X.2.1 dX12_block_19 rfl (lv_at hl 0 rfl) ?_
    refine kp_get X h f_a0 fp_12_397.l (v := .int (kp_I T3 2441 a0)) rfl dX12_block_20 ?_
    refine lv_topi (fun y4 e_y4 => ?_)
    have hw := hw y4 e_y4
    refine lv_istore_n (lv' := [(1, .int y4), (0, .ref a0)]) X.1 X.2.1 dX12_block_23 rfl hl (by decide) rfl (fun ls hl => ?_)
    refine lv_lconst (v := 1) X.1 X.2.1 dX12_block_24 (by decide) ?_
    refine lv_lstore_n (lv' := [(2, .long 1), (1, .int y4), (0, .ref a0)]) X.1 X.2.1 dX12_block_25 rfl hl (by decide) rfl (fun ls hl => ?_)
    obtain ⟨n0, hw⟩ := hw
    exact L26 n0 y4 1 T3 _ _ ls (lv_sub hl [2, 1, 0] rfl) h hle f_a0 hw
  · have hw := hw.2 c6
    refine lv_aload_n X.1 X.2.1 dX12_block_9 rfl (lv_at hl 0 rfl) ?_
    refine kp_callv X h (kp_runV (rm := { frames := 0, cells := 0, slots := 0, locals := 0 }) (mc := 0) (ms := 0) (rest := []) (Qc := fun A => kp_Qv D cy A T1 _) X h (c_X12_wrong l D cy ad T1 a0 _ h.2.2.2 f_a0 hw) f_a0 cv_12_382 ⟨by dsimp only; omega, by dsimp only; omega, rfl, rfl, by dsimp only; omega, by dsimp only; omega⟩ rfl hl.1 rfl (Nat.le_of_ble_eq_true rfl) dX12_block_10) (fun T5 hw l_T5 H locs h => ?_)
    have f_a0 := l_T5.is f_a0
    have hle := hle.tr l_T5
    refine lv_lconst (v := 0) X.1 X.2.1 dX12_block_13 (by decide) ?_
    exact kp_retl X hr hlocks h hle hw dX12_block_14
def wx12s_rec : Nat → Nat → Nat → kp_S → (Int64 → kp_S → Prop) → Prop
  | 0, _, _, _, _ => False
  | n + 1, _, a0, S, post => wX12_block (wx12s_rec n 0) a0 S post
theorem wx12s_all (l : Launch) (D : va_G) (cy : Nat → ClassId) (ad : (Nat → Nat) × (Nat → Nat)) : ∀ n : Nat, (∀ (S : kp_S) (a0 : Nat) (post : Int64 → kp_S → Prop), kp_ok S → kp_is S a0 12 → wx12s_rec n 0 a0 S post → kp_M l yX12_block cX12_block 6 (some .long) { frames := 151 + 5 * n, cells := 0, slots := 0, locals := 3211 + 128 * n } D cy ad S [.ref a0] 0 0 (fun A => kp_Ql D cy A S post)) := by
  intro n
  induction n with
  | zero => exact fun S a0 post hS ha hw => kp_never hw
  | succ n ih =>
    exact fun S a0 post hS ha hw => by
      rw [show 151 + 5 * (n + 1) = 151 + 5 * n + 5 by omega, show 3211 + 128 * (n + 1) = 3211 + 128 * n + 128 by omega]
      exact c_X12_block l D cy ad (151 + 5 * n) (3211 + 128 * n) (wx12s_rec n 0) ih (by omega) (by omega) S a0 post hS ha hw
def wX12_block_t (a0 : Nat) (S : kp_S) (post : Int64 → kp_S → Prop) : Prop := wX12_block (wx12s_rec 16 0) a0 S post
theorem c_X12_block_t (l : Launch) (D : va_G) (cy : Nat → ClassId) (ad : (Nat → Nat) × (Nat → Nat)) (S : kp_S) (a0 : Nat) (post : Int64 → kp_S → Prop) (hS : kp_ok S) (f_a0 : kp_is S a0 12) (hw : wX12_block_t a0 S post) : kp_M l yX12_block cX12_block 6 (some .long) { frames := 236, cells := 0, slots := 0, locals := 5387 } D cy ad S [.ref a0] 0 0 (fun A => kp_Ql D cy A S post) :=
  c_X12_block l D cy ad (151 + 5 * 16) (3211 + 128 * 16) (wx12s_rec 16 0) (wx12s_all l D cy ad 16) (by omega) (by omega) S a0 post hS f_a0 hw
