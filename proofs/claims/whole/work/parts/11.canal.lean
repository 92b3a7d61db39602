theorem cs_1_27 : kp_CS RX1 27 yX1_isReach cX1_isReach 1 (some .boolean) 1 := ⟨⟨kp_mem 1182 (by decide +kernel) (by decide +kernel), kp_mem 215 (by decide +kernel) (by decide +kernel), by decide +kernel⟩, kp_mem 1180 (by decide +kernel) (by decide +kernel), kp_mem 1181 (by decide +kernel) (by decide +kernel)⟩
theorem kc_1_31 : Cond.constant RX1 31 100000 ∈ kp_tb := kp_mem 1183 (by decide +kernel) (by decide +kernel)
set_option maxRecDepth 100000 in
theorem cl_1 : kp_CL 1 RX1 TX1 5 := ⟨rfl, by decide, rfl, by decide +kernel, tyX1_ok, nmX1⟩
theorem ff_1_15 : kp_FF RX1 15 1 1 := ⟨RX1, TX1, 5, cl_1, by decide, kp_mem 451 (by decide +kernel) (by decide +kernel), rfl, rfl⟩
theorem cs_1_60 : kp_CS RX1 60 yX1_isGate cX1_isGate 2 (some .boolean) 2 := ⟨⟨kp_mem 1201 (by decide +kernel) (by decide +kernel), kp_mem 215 (by decide +kernel) (by decide +kernel), by decide +kernel⟩, kp_mem 1199 (by decide +kernel) (by decide +kernel), kp_mem 1200 (by decide +kernel) (by decide +kernel)⟩
theorem ff_1_18 : kp_FF RX1 18 1 2 := ⟨RX1, TX1, 5, cl_1, by decide, kp_mem 452 (by decide +kernel) (by decide +kernel), rfl, rfl⟩
theorem cs_1_32 : kp_CS RX1 32 yX1_isLock cX1_isLock 1 (some .boolean) 1 := ⟨⟨kp_mem 1194 (by decide +kernel) (by decide +kernel), kp_mem 215 (by decide +kernel) (by decide +kernel), by decide +kernel⟩, kp_mem 1192 (by decide +kernel) (by decide +kernel), kp_mem 1193 (by decide +kernel) (by decide +kernel)⟩
theorem cv_1_35 : kp_CV RX1 35 yX1_gateOf cX1_gateOf 3 (some .int) 2 1 := ⟨⟨kp_mem 1198 (by decide +kernel) (by decide +kernel), kp_mem 215 (by decide +kernel) (by decide +kernel), by decide +kernel⟩, kp_mem 1195 (by decide +kernel) (by decide +kernel), kp_mem 1196 (by decide +kernel) (by decide +kernel), kp_mem 1197 (by decide +kernel) (by decide +kernel), by decide, TX1, 5, rfl⟩
theorem ff_1_11 : kp_FF RX1 11 1 0 := ⟨RX1, TX1, 5, cl_1, by decide, kp_mem 450 (by decide +kernel) (by decide +kernel), rfl, rfl⟩
theorem ff_1_24 : kp_FF RX1 24 1 4 := ⟨RX1, TX1, 5, cl_1, by decide, kp_mem 454 (by decide +kernel) (by decide +kernel), rfl, rfl⟩
theorem cs_1_39 : kp_CS RX1 39 yX1_isShip cX1_isShip 1 (some .boolean) 1 := ⟨⟨kp_mem 1212 (by decide +kernel) (by decide +kernel), kp_mem 215 (by decide +kernel) (by decide +kernel), by decide +kernel⟩, kp_mem 1210 (by decide +kernel) (by decide +kernel), kp_mem 1211 (by decide +kernel) (by decide +kernel)⟩
theorem cv_1_42 : kp_CV RX1 42 yX1_isTaken cX1_isTaken 4 (some .boolean) 2 1 := ⟨⟨kp_mem 1216 (by decide +kernel) (by decide +kernel), kp_mem 215 (by decide +kernel) (by decide +kernel), by decide +kernel⟩, kp_mem 1213 (by decide +kernel) (by decide +kernel), kp_mem 1215 (by decide +kernel) (by decide +kernel), kp_mem 58 (by decide +kernel) (by decide +kernel), by decide, TX1, 5, rfl⟩
theorem ff_1_21 : kp_FF RX1 21 1 3 := ⟨RX1, TX1, 5, cl_1, by decide, kp_mem 453 (by decide +kernel) (by decide +kernel), rfl, rfl⟩
theorem cv_1_46 : kp_CV RX1 46 yX1_levelOf cX1_levelOf 2 (some .int) 1 1 := ⟨⟨kp_mem 1244 (by decide +kernel) (by decide +kernel), kp_mem 215 (by decide +kernel) (by decide +kernel), by decide +kernel⟩, kp_mem 1241 (by decide +kernel) (by decide +kernel), kp_mem 1242 (by decide +kernel) (by decide +kernel), kp_mem 1243 (by decide +kernel) (by decide +kernel), by decide, TX1, 5, rfl⟩
theorem cv_1_50 : kp_CV RX1 50 yX1_holdsOf cX1_holdsOf 2 (some .int) 1 1 := ⟨⟨kp_mem 1248 (by decide +kernel) (by decide +kernel), kp_mem 215 (by decide +kernel) (by decide +kernel), by decide +kernel⟩, kp_mem 1245 (by decide +kernel) (by decide +kernel), kp_mem 1246 (by decide +kernel) (by decide +kernel), kp_mem 1247 (by decide +kernel) (by decide +kernel), by decide, TX1, 5, rfl⟩
theorem cv_1_53 : kp_CV RX1 53 yX1_placeOf cX1_placeOf 2 (some .int) 1 1 := ⟨⟨kp_mem 1252 (by decide +kernel) (by decide +kernel), kp_mem 215 (by decide +kernel) (by decide +kernel), by decide +kernel⟩, kp_mem 1249 (by decide +kernel) (by decide +kernel), kp_mem 1250 (by decide +kernel) (by decide +kernel), kp_mem 1251 (by decide +kernel) (by decide +kernel), by decide, TX1, 5, rfl⟩
theorem cv_1_56 : kp_CV RX1 56 yX1_allWater cX1_allWater 3 (some .int) 0 1 := ⟨⟨kp_mem 1256 (by decide +kernel) (by decide +kernel), kp_mem 215 (by decide +kernel) (by decide +kernel), by decide +kernel⟩, kp_mem 1253 (by decide +kernel) (by decide +kernel), kp_mem 1255 (by decide +kernel) (by decide +kernel), kp_mem 59 (by decide +kernel) (by decide +kernel), by decide, TX1, 5, rfl⟩
theorem dX1_isLock_0 : decode cX1_isLock 0 = .ok (.iload_n 0, 1) := by decide +kernel
theorem dX1_isLock_1 : decode cX1_isLock 1 = .ok (.ifCond .lt 13, 3) := by decide +kernel
theorem dX1_isLock_4 : decode cX1_isLock 4 = .ok (.iload_n 0, 1) := by decide +kernel
theorem dX1_isLock_5 : decode cX1_isLock 5 = .ok (.bipush 6, 2) := by decide +kernel
theorem dX1_isLock_7 : decode cX1_isLock 7 = .ok (.if_icmp .ge 7, 3) := by decide +kernel
theorem dX1_isLock_10 : decode cX1_isLock 10 = .ok (.iconst 1, 1) := by decide +kernel
theorem dX1_isLock_11 : decode cX1_isLock 11 = .ok (.goto 4, 3) := by decide +kernel
theorem dX1_isLock_14 : decode cX1_isLock 14 = .ok (.iconst 0, 1) := by decide +kernel
theorem dX1_isLock_15 : decode cX1_isLock 15 = .ok (.ireturn, 1) := by decide +kernel
def wX1_isLock_b15 (x0 : Int32) (xt0 : Int32)  (Sn : kp_S) (post : Int32 → kp_S → Prop) : Prop :=
  kp_b xt0 ∧ post xt0 Sn
def wX1_isLock_b14 (x0 : Int32)  (Sn : kp_S) (post : Int32 → kp_S → Prop) : Prop :=
  wX1_isLock_b15 x0 0  Sn post
def wX1_isLock (x0 : Int32) (S : kp_S) (post : Int32 → kp_S → Prop) : Prop :=
  ((x0 < 0 →
  wX1_isLock_b14 x0   S post) ∧ (¬ x0 < 0 →
  ((6 ≤ x0 →
  wX1_isLock_b14 x0   S post) ∧ (¬ 6 ≤ x0 →
  wX1_isLock_b15 x0 1  S post))))
set_option maxHeartbeats 4000000 in
set_option maxRecDepth 100000 in
theorem c_X1_isLock (l : Launch) (D : va_G) (cy : Nat → ClassId) (ad : (Nat → Nat) × (Nat → Nat)) (S : kp_S) (x0 : Int32) (post : Int32 → kp_S → Prop) (hS : kp_ok S)  (hw : wX1_isLock x0 S post) : kp_M l yX1_isLock cX1_isLock 1 (some .boolean) { frames := 0, cells := 0, slots := 0, locals := 0 } D cy ad S [.int x0] 0 0 (fun A => kp_Qi D cy A S post) := by
  refine kp_start (own := RX1) (by decide) rfl (Nat.le_of_ble_eq_true rfl) hS ?_
  intro p e s m below meth c A ls X hr hlocks hname h hl
  have hle : kp_le S S := kp_le.rf
  have hl : lv_has ls 1 [(0, .int x0)] := hl
  have j15 : ∀ (xt0 : Int32) (Sn : kp_S) (H : Heap) (locs : List Loc) (ls : Array Slot), lv_has ls 1 [] → kp_H D cy A Sn s.heap H locs → kp_le S Sn → wX1_isLock_b15 x0 xt0  Sn post → W p l e { frames := 0, cells := 0, slots := 0, locals := 0 } s m ([.int x0] : List Value).toArray below meth c H locs 0 0 (MQ below (kp_Qi D cy A S post) ([.int x0] : List Value).toArray s 0 0 A) (F0 m 15 ls [.int xt0]) := by
    intro xt0 Sn H locs ls hl h hle  hw
    unfold wX1_isLock_b15 at hw
    exact kp_reti X hr hlocks h hle (kp_bz hw.1).1 hw.2 dX1_isLock_15
  have j14 : ∀  (Sn : kp_S) (H : Heap) (locs : List Loc) (ls : Array Slot), lv_has ls 1 [] → kp_H D cy A Sn s.heap H locs → kp_le S Sn → wX1_isLock_b14 x0   Sn post → W p l e { frames := 0, cells := 0, slots := 0, locals := 0 } s m ([.int x0] : List Value).toArray below meth c H locs 0 0 (MQ below (kp_Qi D cy A S post) ([.int x0] : List Value).toArray s 0 0 A) (F0 m 14 ls []) := by
    intro  Sn H locs ls hl h hle  hw
    unfold wX1_isLock_b14 at hw
    refine lv_iconst (v := 0) X.1 X.2.1 dX1_isLock_14 (by decide) ?_
    exact j15 0 Sn H locs ls (lv_sub hl [] rfl) h hle  hw
  unfold wX1_isLock at hw
  have h : kp_H D cy A S s.heap s.heap [] := h
  revert h
  intro h
  refine lv_iload_n X.1 X.2.1 dX1_isLock_0 rfl (lv_at hl 0 rfl) ?_
  refine lv_if_lt (tgt := 14) X.1 X.2.1 dX1_isLock_1 (by decide) (fun c2 => ?_) (fun c2 => ?_)
  · have hw := hw.1 c2
    exact j14  S _ _ ls (lv_sub hl [] rfl) h hle  hw
  · have hw := hw.2 c2
    refine lv_iload_n X.1 X.2.1 dX1_isLock_4 rfl (lv_at hl 0 rfl) ?_
    refine lv_bipush (v := 6) X.1 X.2.1 dX1_isLock_5 (by decide) ?_
    refine lv_icmp_ge (tgt := 14) X.1 X.2.1 dX1_isLock_7 (by decide) (fun c1 => ?_) (fun c1 => ?_)
    · have hw := hw.1 c1
      exact j14  S _ _ ls (lv_sub hl [] rfl) h hle  hw
    · have hw := hw.2 c1
      refine lv_iconst (v := 1) X.1 X.2.1 dX1_isLock_10 (by decide) ?_
      refine lv_goto (tgt := 15) X.1 X.2.1 dX1_isLock_11 (by decide) ?_
      exact j15 1 S _ _ ls (lv_sub hl [] rfl) h hle  hw
theorem dX1_isReach_0 : decode cX1_isReach 0 = .ok (.iload_n 0, 1) := by decide +kernel
theorem dX1_isReach_1 : decode cX1_isReach 1 = .ok (.ifCond .lt 13, 3) := by decide +kernel
theorem dX1_isReach_4 : decode cX1_isReach 4 = .ok (.iload_n 0, 1) := by decide +kernel
theorem dX1_isReach_5 : decode cX1_isReach 5 = .ok (.bipush 7, 2) := by decide +kernel
theorem dX1_isReach_7 : decode cX1_isReach 7 = .ok (.if_icmp .ge 7, 3) := by decide +kernel
theorem dX1_isReach_10 : decode cX1_isReach 10 = .ok (.iconst 1, 1) := by decide +kernel
theorem dX1_isReach_11 : decode cX1_isReach 11 = .ok (.goto 4, 3) := by decide +kernel
theorem dX1_isReach_14 : decode cX1_isReach 14 = .ok (.iconst 0, 1) := by decide +kernel
theorem dX1_isReach_15 : decode cX1_isReach 15 = .ok (.ireturn, 1) := by decide +kernel
def wX1_isReach_b15 (x0 : Int32) (xt0 : Int32)  (Sn : kp_S) (post : Int32 → kp_S → Prop) : Prop :=
  kp_b xt0 ∧ post xt0 Sn
def wX1_isReach_b14 (x0 : Int32)  (Sn : kp_S) (post : Int32 → kp_S → Prop) : Prop :=
  wX1_isReach_b15 x0 0  Sn post
def wX1_isReach (x0 : Int32) (S : kp_S) (post : Int32 → kp_S → Prop) : Prop :=
  ((x0 < 0 →
  wX1_isReach_b14 x0   S post) ∧ (¬ x0 < 0 →
  ((7 ≤ x0 →
  wX1_isReach_b14 x0   S post) ∧ (¬ 7 ≤ x0 →
  wX1_isReach_b15 x0 1  S post))))
set_option maxHeartbeats 4000000 in
set_option maxRecDepth 100000 in
theorem c_X1_isReach (l : Launch) (D : va_G) (cy : Nat → ClassId) (ad : (Nat → Nat) × (Nat → Nat)) (S : kp_S) (x0 : Int32) (post : Int32 → kp_S → Prop) (hS : kp_ok S)  (hw : wX1_isReach x0 S post) : kp_M l yX1_isReach cX1_isReach 1 (some .boolean) { frames := 0, cells := 0, slots := 0, locals := 0 } D cy ad S [.int x0] 0 0 (fun A => kp_Qi D cy A S post) := by
  refine kp_start (own := RX1) (by decide) rfl (Nat.le_of_ble_eq_true rfl) hS ?_
  intro p e s m below meth c A ls X hr hlocks hname h hl
  have hle : kp_le S S := kp_le.rf
  have hl : lv_has ls 1 [(0, .int x0)] := hl
  have j15 : ∀ (xt0 : Int32) (Sn : kp_S) (H : Heap) (locs : List Loc) (ls : Array Slot), lv_has ls 1 [] → kp_H D cy A Sn s.heap H locs → kp_le S Sn → wX1_isReach_b15 x0 xt0  Sn post → W p l e { frames := 0, cells := 0, slots := 0, locals := 0 } s m ([.int x0] : List Value).toArray below meth c H locs 0 0 (MQ below (kp_Qi D cy A S post) ([.int x0] : List Value).toArray s 0 0 A) (F0 m 15 ls [.int xt0]) := by
    intro xt0 Sn H locs ls hl h hle  hw
    unfold wX1_isReach_b15 at hw
    exact kp_reti X hr hlocks h hle (kp_bz hw.1).1 hw.2 dX1_isReach_15
  have j14 : ∀  (Sn : kp_S) (H : Heap) (locs : List Loc) (ls : Array Slot), lv_has ls 1 [] → kp_H D cy A Sn s.heap H locs → kp_le S Sn → wX1_isReach_b14 x0   Sn post → W p l e { frames := 0, cells := 0, slots := 0, locals := 0 } s m ([.int x0] : List Value).toArray below meth c H locs 0 0 (MQ below (kp_Qi D cy A S post) ([.int x0] : List Value).toArray s 0 0 A) (F0 m 14 ls []) := by
    intro  Sn H locs ls hl h hle  hw
    unfold wX1_isReach_b14 at hw
    refine lv_iconst (v := 0) X.1 X.2.1 dX1_isReach_14 (by decide) ?_
    exact j15 0 Sn H locs ls (lv_sub hl [] rfl) h hle  hw
  unfold wX1_isReach at hw
  have h : kp_H D cy A S s.heap s.heap [] := h
  revert h
  intro h
  refine lv_iload_n X.1 X.2.1 dX1_isReach_0 rfl (lv_at hl 0 rfl) ?_
  refine lv_if_lt (tgt := 14) X.1 X.2.1 dX1_isReach_1 (by decide) (fun c2 => ?_) (fun c2 => ?_)
  · have hw := hw.1 c2
    exact j14  S _ _ ls (lv_sub hl [] rfl) h hle  hw
  · have hw := hw.2 c2
    refine lv_iload_n X.1 X.2.1 dX1_isReach_4 rfl (lv_at hl 0 rfl) ?_
    refine lv_bipush (v := 7) X.1 X.2.1 dX1_isReach_5 (by decide) ?_
    refine lv_icmp_ge (tgt := 14) X.1 X.2.1 dX1_isReach_7 (by decide) (fun c1 => ?_) (fun c1 => ?_)
    · have hw := hw.1 c1
      exact j14  S _ _ ls (lv_sub hl [] rfl) h hle  hw
    · have hw := hw.2 c1
      refine lv_iconst (v := 1) X.1 X.2.1 dX1_isReach_10 (by decide) ?_
      refine lv_goto (tgt := 15) X.1 X.2.1 dX1_isReach_11 (by decide) ?_
      exact j15 1 S _ _ ls (lv_sub hl [] rfl) h hle  hw
theorem dX1_isShip_0 : decode cX1_isShip 0 = .ok (.iload_n 0, 1) := by decide +kernel
theorem dX1_isShip_1 : decode cX1_isShip 1 = .ok (.ifCond .lt 13, 3) := by decide +kernel
theorem dX1_isShip_4 : decode cX1_isShip 4 = .ok (.iload_n 0, 1) := by decide +kernel
theorem dX1_isShip_5 : decode cX1_isShip 5 = .ok (.bipush 8, 2) := by decide +kernel
theorem dX1_isShip_7 : decode cX1_isShip 7 = .ok (.if_icmp .ge 7, 3) := by decide +kernel
theorem dX1_isShip_10 : decode cX1_isShip 10 = .ok (.iconst 1, 1) := by decide +kernel
theorem dX1_isShip_11 : decode cX1_isShip 11 = .ok (.goto 4, 3) := by decide +kernel
theorem dX1_isShip_14 : decode cX1_isShip 14 = .ok (.iconst 0, 1) := by decide +kernel
theorem dX1_isShip_15 : decode cX1_isShip 15 = .ok (.ireturn, 1) := by decide +kernel
def wX1_isShip_b15 (x0 : Int32) (xt0 : Int32)  (Sn : kp_S) (post : Int32 → kp_S → Prop) : Prop :=
  kp_b xt0 ∧ post xt0 Sn
def wX1_isShip_b14 (x0 : Int32)  (Sn : kp_S) (post : Int32 → kp_S → Prop) : Prop :=
  wX1_isShip_b15 x0 0  Sn post
def wX1_isShip (x0 : Int32) (S : kp_S) (post : Int32 → kp_S → Prop) : Prop :=
  ((x0 < 0 →
  wX1_isShip_b14 x0   S post) ∧ (¬ x0 < 0 →
  ((8 ≤ x0 →
  wX1_isShip_b14 x0   S post) ∧ (¬ 8 ≤ x0 →
  wX1_isShip_b15 x0 1  S post))))
set_option maxHeartbeats 4000000 in
set_option maxRecDepth 100000 in
theorem c_X1_isShip (l : Launch) (D : va_G) (cy : Nat → ClassId) (ad : (Nat → Nat) × (Nat → Nat)) (S : kp_S) (x0 : Int32) (post : Int32 → kp_S → Prop) (hS : kp_ok S)  (hw : wX1_isShip x0 S post) : kp_M l yX1_isShip cX1_isShip 1 (some .boolean) { frames := 0, cells := 0, slots := 0, locals := 0 } D cy ad S [.int x0] 0 0 (fun A => kp_Qi D cy A S post) := by
  refine kp_start (own := RX1) (by decide) rfl (Nat.le_of_ble_eq_true rfl) hS ?_
  intro p e s m below meth c A ls X hr hlocks hname h hl
  have hle : kp_le S S := kp_le.rf
  have hl : lv_has ls 1 [(0, .int x0)] := hl
  have j15 : ∀ (xt0 : Int32) (Sn : kp_S) (H : Heap) (locs : List Loc) (ls : Array Slot), lv_has ls 1 [] → kp_H D cy A Sn s.heap H locs → kp_le S Sn → wX1_isShip_b15 x0 xt0  Sn post → W p l e { frames := 0, cells := 0, slots := 0, locals := 0 } s m ([.int x0] : List Value).toArray below meth c H locs 0 0 (MQ below (kp_Qi D cy A S post) ([.int x0] : List Value).toArray s 0 0 A) (F0 m 15 ls [.int xt0]) := by
    intro xt0 Sn H locs ls hl h hle  hw
    unfold wX1_isShip_b15 at hw
    exact kp_reti X hr hlocks h hle (kp_bz hw.1).1 hw.2 dX1_isShip_15
  have j14 : ∀  (Sn : kp_S) (H : Heap) (locs : List Loc) (ls : Array Slot), lv_has ls 1 [] → kp_H D cy A Sn s.heap H locs → kp_le S Sn → wX1_isShip_b14 x0   Sn post → W p l e { frames := 0, cells := 0, slots := 0, locals := 0 } s m ([.int x0] : List Value).toArray below meth c H locs 0 0 (MQ below (kp_Qi D cy A S post) ([.int x0] : List Value).toArray s 0 0 A) (F0 m 14 ls []) := by
    intro  Sn H locs ls hl h hle  hw
    unfold wX1_isShip_b14 at hw
    refine lv_iconst (v := 0) X.1 X.2.1 dX1_isShip_14 (by decide) ?_
    exact j15 0 Sn H locs ls (lv_sub hl [] rfl) h hle  hw
  unfold wX1_isShip at hw
  have h : kp_H D cy A S s.heap s.heap [] := h
  revert h
  intro h
  refine lv_iload_n X.1 X.2.1 dX1_isShip_0 rfl (lv_at hl 0 rfl) ?_
  refine lv_if_lt (tgt := 14) X.1 X.2.1 dX1_isShip_1 (by decide) (fun c2 => ?_) (fun c2 => ?_)
  · have hw := hw.1 c2
    exact j14  S _ _ ls (lv_sub hl [] rfl) h hle  hw
  · have hw := hw.2 c2
    refine lv_iload_n X.1 X.2.1 dX1_isShip_4 rfl (lv_at hl 0 rfl) ?_
    refine lv_bipush (v := 8) X.1 X.2.1 dX1_isShip_5 (by decide) ?_
    refine lv_icmp_ge (tgt := 14) X.1 X.2.1 dX1_isShip_7 (by decide) (fun c1 => ?_) (fun c1 => ?_)
    · have hw := hw.1 c1
      exact j14  S _ _ ls (lv_sub hl [] rfl) h hle  hw
    · have hw := hw.2 c1
      refine lv_iconst (v := 1) X.1 X.2.1 dX1_isShip_10 (by decide) ?_
      refine lv_goto (tgt := 15) X.1 X.2.1 dX1_isShip_11 (by decide) ?_
      exact j15 1 S _ _ ls (lv_sub hl [] rfl) h hle  hw
theorem dX1_isGate_0 : decode cX1_isGate 0 = .ok (.iload_n 0, 1) := by decide +kernel
theorem dX1_isGate_1 : decode cX1_isGate 1 = .ok (.ifCond .lt 22, 3) := by decide +kernel
theorem dX1_isGate_4 : decode cX1_isGate 4 = .ok (.iload_n 0, 1) := by decide +kernel
theorem dX1_isGate_5 : decode cX1_isGate 5 = .ok (.bipush 6, 2) := by decide +kernel
theorem dX1_isGate_7 : decode cX1_isGate 7 = .ok (.if_icmp .ge 16, 3) := by decide +kernel
theorem dX1_isGate_10 : decode cX1_isGate 10 = .ok (.iload_n 1, 1) := by decide +kernel
theorem dX1_isGate_11 : decode cX1_isGate 11 = .ok (.ifCond .eq 8, 3) := by decide +kernel
theorem dX1_isGate_14 : decode cX1_isGate 14 = .ok (.iload_n 1, 1) := by decide +kernel
theorem dX1_isGate_15 : decode cX1_isGate 15 = .ok (.iconst 1, 1) := by decide +kernel
theorem dX1_isGate_16 : decode cX1_isGate 16 = .ok (.if_icmp .ne 7, 3) := by decide +kernel
theorem dX1_isGate_19 : decode cX1_isGate 19 = .ok (.iconst 1, 1) := by decide +kernel
theorem dX1_isGate_20 : decode cX1_isGate 20 = .ok (.goto 4, 3) := by decide +kernel
theorem dX1_isGate_23 : decode cX1_isGate 23 = .ok (.iconst 0, 1) := by decide +kernel
theorem dX1_isGate_24 : decode cX1_isGate 24 = .ok (.ireturn, 1) := by decide +kernel
def wX1_isGate_b24 (x0 : Int32) (x1 : Int32) (xt0 : Int32)  (Sn : kp_S) (post : Int32 → kp_S → Prop) : Prop :=
  kp_b xt0 ∧ post xt0 Sn
def wX1_isGate_b23 (x0 : Int32) (x1 : Int32)  (Sn : kp_S) (post : Int32 → kp_S → Prop) : Prop :=
  wX1_isGate_b24 x0 x1 0  Sn post
def wX1_isGate_b19 (x0 : Int32) (x1 : Int32)  (Sn : kp_S) (post : Int32 → kp_S → Prop) : Prop :=
  wX1_isGate_b24 x0 x1 1  Sn post
def wX1_isGate (x0 : Int32) (x1 : Int32) (S : kp_S) (post : Int32 → kp_S → Prop) : Prop :=
  ((x0 < 0 →
  wX1_isGate_b23 x0 x1   S post) ∧ (¬ x0 < 0 →
  ((6 ≤ x0 →
  wX1_isGate_b23 x0 x1   S post) ∧ (¬ 6 ≤ x0 →
  ((x1 = 0 →
  wX1_isGate_b19 x0 x1   S post) ∧ (¬ x1 = 0 →
  ((¬ x1 = 1 →
  wX1_isGate_b23 x0 x1   S post) ∧ (x1 = 1 →
  wX1_isGate_b19 x0 x1   S post))))))))
set_option maxHeartbeats 4000000 in
set_option maxRecDepth 100000 in
theorem c_X1_isGate (l : Launch) (D : va_G) (cy : Nat → ClassId) (ad : (Nat → Nat) × (Nat → Nat)) (S : kp_S) (x0 : Int32) (x1 : Int32) (post : Int32 → kp_S → Prop) (hS : kp_ok S)  (hw : wX1_isGate x0 x1 S post) : kp_M l yX1_isGate cX1_isGate 2 (some .boolean) { frames := 0, cells := 0, slots := 0, locals := 0 } D cy ad S [.int x0, .int x1] 0 0 (fun A => kp_Qi D cy A S post) := by
  refine kp_start (own := RX1) (by decide) rfl (Nat.le_of_ble_eq_true rfl) hS ?_
  intro p e s m below meth c A ls X hr hlocks hname h hl
  have hle : kp_le S S := kp_le.rf
  have hl : lv_has ls 2 [(0, .int x0), (1, .int x1)] := hl
  have j24 : ∀ (xt0 : Int32) (Sn : kp_S) (H : Heap) (locs : List Loc) (ls : Array Slot), lv_has ls 2 [] → kp_H D cy A Sn s.heap H locs → kp_le S Sn → wX1_isGate_b24 x0 x1 xt0  Sn post → W p l e { frames := 0, cells := 0, slots := 0, locals := 0 } s m ([.int x0, .int x1] : List Value).toArray below meth c H locs 0 0 (MQ below (kp_Qi D cy A S post) ([.int x0, .int x1] : List Value).toArray s 0 0 A) (F0 m 24 ls [.int xt0]) := by
    intro xt0 Sn H locs ls hl h hle  hw
    unfold wX1_isGate_b24 at hw
    exact kp_reti X hr hlocks h hle (kp_bz hw.1).1 hw.2 dX1_isGate_24
  have j23 : ∀  (Sn : kp_S) (H : Heap) (locs : List Loc) (ls : Array Slot), lv_has ls 2 [] → kp_H D cy A Sn s.heap H locs → kp_le S Sn → wX1_isGate_b23 x0 x1   Sn post → W p l e { frames := 0, cells := 0, slots := 0, locals := 0 } s m ([.int x0, .int x1] : List Value).toArray below meth c H locs 0 0 (MQ below (kp_Qi D cy A S post) ([.int x0, .int x1] : List Value).toArray s 0 0 A) (F0 m 23 ls []) := by
    intro  Sn H locs ls hl h hle  hw
    unfold wX1_isGate_b23 at hw
    refine lv_iconst (v := 0) X.1 X.2.1 dX1_isGate_23 (by decide) ?_
    exact j24 0 Sn H locs ls (lv_sub hl [] rfl) h hle  hw
  have j19 : ∀  (Sn : kp_S) (H : Heap) (locs : List Loc) (ls : Array Slot), lv_has ls 2 [] → kp_H D cy A Sn s.heap H locs → kp_le S Sn → wX1_isGate_b19 x0 x1   Sn post → W p l e { frames := 0, cells := 0, slots := 0, locals := 0 } s m ([.int x0, .int x1] : List Value).toArray below meth c H locs 0 0 (MQ below (kp_Qi D cy A S post) ([.int x0, .int x1] : List Value).toArray s 0 0 A) (F0 m 19 ls []) := by
    intro  Sn H locs ls hl h hle  hw
    unfold wX1_isGate_b19 at hw
    refine lv_iconst (v := 1) X.1 X.2.1 dX1_isGate_19 (by decide) ?_
    refine lv_goto (tgt := 24) X.1 X.2.1 dX1_isGate_20 (by decide) ?_
    exact j24 1 Sn H locs ls (lv_sub hl [] rfl) h hle  hw
  unfold wX1_isGate at hw
  have h : kp_H D cy A S s.heap s.heap [] := h
  revert h
  intro h
  refine lv_iload_n X.1 X.2.1 dX1_isGate_0 rfl (lv_at hl 0 rfl) ?_
  refine lv_if_lt (tgt := 23) X.1 X.2.1 dX1_isGate_1 (by decide) (fun c4 => ?_) (fun c4 => ?_)
  · have hw := hw.1 c4
    exact j23  S _ _ ls (lv_sub hl [] rfl) h hle  hw
  · have hw := hw.2 c4
    refine lv_iload_n X.1 X.2.1 dX1_isGate_4 rfl (lv_at hl 0 rfl) ?_
    refine lv_bipush (v := 6) X.1 X.2.1 dX1_isGate_5 (by decide) ?_
    refine lv_icmp_ge (tgt := 23) X.1 X.2.1 dX1_isGate_7 (by decide) (fun c3 => ?_) (fun c3 => ?_)
    · have hw := hw.1 c3
      exact j23  S _ _ ls (lv_sub hl [] rfl) h hle  hw
    · have hw := hw.2 c3
      refine lv_iload_n X.1 X.2.1 dX1_isGate_10 rfl (lv_at hl 1 rfl) ?_
      refine lv_if_eq (tgt := 19) X.1 X.2.1 dX1_isGate_11 (by decide) (fun c2 => ?_) (fun c2 => ?_)
      · have hw := hw.1 c2
        exact j19  S _ _ ls (lv_sub hl [] rfl) h hle  hw
      · have hw := hw.2 c2
        refine lv_iload_n X.1 X.2.1 dX1_isGate_14 rfl (lv_at hl 1 rfl) ?_
        refine lv_iconst (v := 1) X.1 X.2.1 dX1_isGate_15 (by decide) ?_
        refine lv_icmp_ne (tgt := 23) X.1 X.2.1 dX1_isGate_16 (by decide) (fun c1 => ?_) (fun c1 => ?_)
        · have hw := hw.1 c1
          exact j23  S _ _ ls (lv_sub hl [] rfl) h hle  hw
        · have hw := hw.2 c1
          exact j19  S _ _ ls (lv_sub hl [] rfl) h hle  hw
theorem dX1_fillReach_0 : decode cX1_fillReach 0 = .ok (.iload_n 1, 1) := by decide +kernel
theorem dX1_fillReach_1 : decode cX1_fillReach 1 = .ok (.invokestatic 27, 3) := by decide +kernel
theorem dX1_fillReach_4 : decode cX1_fillReach 4 = .ok (.ifCond .eq 13, 3) := by decide +kernel
theorem dX1_fillReach_7 : decode cX1_fillReach 7 = .ok (.iload_n 2, 1) := by decide +kernel
theorem dX1_fillReach_8 : decode cX1_fillReach 8 = .ok (.ifCond .lt 9, 3) := by decide +kernel
theorem dX1_fillReach_11 : decode cX1_fillReach 11 = .ok (.iload_n 2, 1) := by decide +kernel
theorem dX1_fillReach_12 : decode cX1_fillReach 12 = .ok (.ldc 31, 2) := by decide +kernel
theorem dX1_fillReach_14 : decode cX1_fillReach 14 = .ok (.if_icmp .le 5, 3) := by decide +kernel
theorem dX1_fillReach_17 : decode cX1_fillReach 17 = .ok (.iconst 0, 1) := by decide +kernel
theorem dX1_fillReach_18 : decode cX1_fillReach 18 = .ok (.ireturn, 1) := by decide +kernel
theorem dX1_fillReach_19 : decode cX1_fillReach 19 = .ok (.aload_n 0, 1) := by decide +kernel
theorem dX1_fillReach_20 : decode cX1_fillReach 20 = .ok (.getfield 15, 3) := by decide +kernel
theorem dX1_fillReach_23 : decode cX1_fillReach 23 = .ok (.iload_n 1, 1) := by decide +kernel
theorem dX1_fillReach_24 : decode cX1_fillReach 24 = .ok (.iload_n 2, 1) := by decide +kernel
theorem dX1_fillReach_25 : decode cX1_fillReach 25 = .ok (.iastore, 1) := by decide +kernel
theorem dX1_fillReach_26 : decode cX1_fillReach 26 = .ok (.iconst 1, 1) := by decide +kernel
theorem dX1_fillReach_27 : decode cX1_fillReach 27 = .ok (.ireturn, 1) := by decide +kernel
def wX1_fillReach_b17 (a0 : Nat) (x1 : Int32) (x2 : Int32)  (Sn : kp_S) (post : Int32 → kp_S → Prop) : Prop :=
  post 0 Sn
def wX1_fillReach (a0 : Nat) (x1 : Int32) (x2 : Int32) (S : kp_S) (post : Int32 → kp_S → Prop) : Prop :=
  wX1_isReach x1 S (fun y2 T1 =>
  ((y2 = 0 →
  wX1_fillReach_b17 a0 x1 x2   T1 post) ∧ (¬ y2 = 0 →
  ((x2 < 0 →
  wX1_fillReach_b17 a0 x1 x2   T1 post) ∧ (¬ x2 < 0 →
  ((x2 ≤ 100000 →
  ∃ b3 : Nat, kp_R T1 201 a0 = some b3 ∧
  vp_in x1 (kp_N T1 b3) ∧ ∀ T4 : kp_S, T4 = kp_sA T1 b3 (upd (kp_A T1 b3) (x1.toNatClampNeg) x2) →
  post 1 T4) ∧ (¬ x2 ≤ 100000 →
  wX1_fillReach_b17 a0 x1 x2   T1 post)))))))
set_option maxHeartbeats 4000000 in
set_option maxRecDepth 100000 in
theorem c_X1_fillReach (l : Launch) (D : va_G) (cy : Nat → ClassId) (ad : (Nat → Nat) × (Nat → Nat)) (S : kp_S) (a0 : Nat) (x1 : Int32) (x2 : Int32) (post : Int32 → kp_S → Prop) (hS : kp_ok S) (f_a0 : kp_is S a0 1) (hw : wX1_fillReach a0 x1 x2 S post) : kp_M l yX1_fillReach cX1_fillReach 3 (some .boolean) { frames := 1, cells := 0, slots := 0, locals := 20 } D cy ad S [.ref a0, .int x1, .int x2] 0 0 (fun A => kp_Qi D cy A S post) := by
  refine kp_start (own := RX1) (by decide) rfl (Nat.le_of_ble_eq_true rfl) hS ?_
  intro p e s m below meth c A ls X hr hlocks hname h hl
  have hle : kp_le S S := kp_le.rf
  have hl : lv_has ls 3 [(0, .ref a0), (1, .int x1), (2, .int x2)] := hl
  have j17 : ∀  (Sn : kp_S) (H : Heap) (locs : List Loc) (ls : Array Slot), lv_has ls 3 [] → kp_H D cy A Sn s.heap H locs → kp_le S Sn → kp_is Sn a0 1 → wX1_fillReach_b17 a0 x1 x2   Sn post → W p l e { frames := 1, cells := 0, slots := 0, locals := 20 } s m ([.ref a0, .int x1, .int x2] : List Value).toArray below meth c H locs 0 0 (MQ below (kp_Qi D cy A S post) ([.ref a0, .int x1, .int x2] : List Value).toArray s 0 0 A) (F0 m 17 ls []) := by
    intro  Sn H locs ls hl h hle f_a0 hw
    unfold wX1_fillReach_b17 at hw
    refine lv_iconst (v := 0) X.1 X.2.1 dX1_fillReach_17 (by decide) ?_
    exact kp_reti X hr hlocks h hle (by decide) hw dX1_fillReach_18
  unfold wX1_fillReach at hw
  have h : kp_H D cy A S s.heap s.heap [] := h
  revert h
  intro h
  refine lv_iload_n X.1 X.2.1 dX1_fillReach_0 rfl (lv_at hl 1 rfl) ?_
  refine kp_calli X h (kp_runS (rm := { frames := 0, cells := 0, slots := 0, locals := 0 }) (mc := 0) (ms := 0) (rest := []) (Qc := fun A => kp_Qi D cy A S _) X h (c_X1_isReach l D cy ad S x1 _ h.2.2.2  hw) cs_1_27 ⟨by decide, by decide, rfl, rfl, by decide, by decide⟩ rfl hl.1 rfl (by decide) dX1_fillReach_1) (fun y2 T1 hw l_T1 H locs h => ?_)
  have f_a0 := l_T1.is f_a0
  have hle := hle.tr l_T1
  refine lv_if_eq (tgt := 17) X.1 X.2.1 dX1_fillReach_4 (by decide) (fun c7 => ?_) (fun c7 => ?_)
  · have hw := hw.1 c7
    exact j17  T1 _ _ ls (lv_sub hl [] rfl) h hle f_a0 hw
  · have hw := hw.2 c7
    refine lv_iload_n X.1 X.2.1 dX1_fillReach_7 rfl (lv_at hl 2 rfl) ?_
    refine lv_if_lt (tgt := 17) X.1 X.2.1 dX1_fillReach_8 (by decide) (fun c6 => ?_) (fun c6 => ?_)
    · have hw := hw.1 c6
      exact j17  T1 _ _ ls (lv_sub hl [] rfl) h hle f_a0 hw
    · have hw := hw.2 c6
      refine lv_iload_n X.1 X.2.1 dX1_fillReach_11 rfl (lv_at hl 2 rfl) ?_
      refine lv_ldc (v := 100000) X.1 X.2.1 X.2.2.2.1 (X.2.2.2.2.1 _ kc_1_31) dX1_fillReach_12 ?_
      refine lv_icmp_le (tgt := 19) X.1 X.2.1 dX1_fillReach_14 (by decide) (fun c5 => ?_) (fun c5 => ?_)
      · have hw := hw.1 c5
        refine lv_aload_n X.1 X.2.1 dX1_fillReach_19 rfl (lv_at hl 0 rfl) ?_
        obtain ⟨b3, e_b3, hw⟩ := hw
        have f_b3 := h.2.2.2.rf (c := 1) (k := 1) f_a0 (by decide) (by decide) e_b3 (t := 14) rfl
        refine kp_get X h f_a0 ff_1_15.l (v := .ref b3) (congrArg va_rf e_b3) dX1_fillReach_20 ?_
        refine lv_iload_n X.1 X.2.1 dX1_fillReach_23 rfl (lv_at hl 1 rfl) ?_
        refine lv_iload_n X.1 X.2.1 dX1_fillReach_24 rfl (lv_at hl 2 rfl) ?_
        obtain ⟨hi, hw⟩ := hw
        refine kp_iast X h f_b3 hi dX1_fillReach_25 (fun T4 e_T4 l_T4 H locs h => ?_)
        have hw := hw T4 e_T4
        have f_a0 := l_T4.is f_a0
        have f_b3 := l_T4.is f_b3
        have hle := hle.tr l_T4
        have e_b3 : kp_R T4 201 a0 = some b3 := by rw [e_T4]; exact e_b3
        refine lv_iconst (v := 1) X.1 X.2.1 dX1_fillReach_26 (by decide) ?_
        exact kp_reti X hr hlocks h hle (by decide) hw dX1_fillReach_27
      · have hw := hw.2 c5
        exact j17  T1 _ _ ls (lv_sub hl [] rfl) h hle f_a0 hw
theorem dX1_gateOf_0 : decode cX1_gateOf 0 = .ok (.iload_n 1, 1) := by decide +kernel
theorem dX1_gateOf_1 : decode cX1_gateOf 1 = .ok (.iload_n 2, 1) := by decide +kernel
theorem dX1_gateOf_2 : decode cX1_gateOf 2 = .ok (.invokestatic 60, 3) := by decide +kernel
theorem dX1_gateOf_5 : decode cX1_gateOf 5 = .ok (.ifCond .eq 16, 3) := by decide +kernel
theorem dX1_gateOf_8 : decode cX1_gateOf 8 = .ok (.aload_n 0, 1) := by decide +kernel
theorem dX1_gateOf_9 : decode cX1_gateOf 9 = .ok (.getfield 18, 3) := by decide +kernel
theorem dX1_gateOf_12 : decode cX1_gateOf 12 = .ok (.iconst 2, 1) := by decide +kernel
theorem dX1_gateOf_13 : decode cX1_gateOf 13 = .ok (.iload_n 1, 1) := by decide +kernel
theorem dX1_gateOf_14 : decode cX1_gateOf 14 = .ok (.imul, 1) := by decide +kernel
theorem dX1_gateOf_15 : decode cX1_gateOf 15 = .ok (.iload_n 2, 1) := by decide +kernel
theorem dX1_gateOf_16 : decode cX1_gateOf 16 = .ok (.iadd, 1) := by decide +kernel
theorem dX1_gateOf_17 : decode cX1_gateOf 17 = .ok (.iaload, 1) := by decide +kernel
theorem dX1_gateOf_18 : decode cX1_gateOf 18 = .ok (.goto 4, 3) := by decide +kernel
theorem dX1_gateOf_21 : decode cX1_gateOf 21 = .ok (.iconst (-1), 1) := by decide +kernel
theorem dX1_gateOf_22 : decode cX1_gateOf 22 = .ok (.ireturn, 1) := by decide +kernel
def wX1_gateOf_b22 (a0 : Nat) (x1 : Int32) (x2 : Int32) (xt0 : Int32)  (Sn : kp_S) (post : Int32 → kp_S → Prop) : Prop :=
  post xt0 Sn
def wX1_gateOf (a0 : Nat) (x1 : Int32) (x2 : Int32) (S : kp_S) (post : Int32 → kp_S → Prop) : Prop :=
  wX1_isGate x1 x2 S (fun y2 T1 =>
  ((y2 = 0 →
  wX1_gateOf_b22 a0 x1 x2 (-1)  T1 post) ∧ (¬ y2 = 0 →
  ∃ b3 : Nat, kp_R T1 202 a0 = some b3 ∧
  vp_in ((2 * x1) + x2) (kp_N T1 b3) ∧
  wX1_gateOf_b22 a0 x1 x2 (kp_A T1 b3 ((2 * x1) + x2).toNatClampNeg)  T1 post)))
set_option maxHeartbeats 4000000 in
set_option maxRecDepth 100000 in
theorem c_X1_gateOf (l : Launch) (D : va_G) (cy : Nat → ClassId) (ad : (Nat → Nat) × (Nat → Nat)) (S : kp_S) (a0 : Nat) (x1 : Int32) (x2 : Int32) (post : Int32 → kp_S → Prop) (hS : kp_ok S) (f_a0 : kp_is S a0 1) (hw : wX1_gateOf a0 x1 x2 S post) : kp_M l yX1_gateOf cX1_gateOf 3 (some .int) { frames := 1, cells := 0, slots := 0, locals := 21 } D cy ad S [.ref a0, .int x1, .int x2] 0 0 (fun A => kp_Qi D cy A S post) := by
  refine kp_start (own := RX1) (by decide) rfl (Nat.le_of_ble_eq_true rfl) hS ?_
  intro p e s m below meth c A ls X hr hlocks hname h hl
  have hle : kp_le S S := kp_le.rf
  have hl : lv_has ls 3 [(0, .ref a0), (1, .int x1), (2, .int x2)] := hl
  have j22 : ∀ (xt0 : Int32) (Sn : kp_S) (H : Heap) (locs : List Loc) (ls : Array Slot), lv_has ls 3 [] → kp_H D cy A Sn s.heap H locs → kp_le S Sn → kp_is Sn a0 1 → wX1_gateOf_b22 a0 x1 x2 xt0  Sn post → W p l e { frames := 1, cells := 0, slots := 0, locals := 21 } s m ([.ref a0, .int x1, .int x2] : List Value).toArray below meth c H locs 0 0 (MQ below (kp_Qi D cy A S post) ([.ref a0, .int x1, .int x2] : List Value).toArray s 0 0 A) (F0 m 22 ls [.int xt0]) := by
    intro xt0 Sn H locs ls hl h hle f_a0 hw
    unfold wX1_gateOf_b22 at hw
    exact kp_reti X hr hlocks h hle rfl hw dX1_gateOf_22
  unfold wX1_gateOf at hw
  have h : kp_H D cy A S s.heap s.heap [] := h
  revert h
  intro h
  refine lv_iload_n X.1 X.2.1 dX1_gateOf_0 rfl (lv_at hl 1 rfl) ?_
  refine lv_iload_n X.1 X.2.1 dX1_gateOf_1 rfl (lv_at hl 2 rfl) ?_
  refine kp_calli X h (kp_runS (rm := { frames := 0, cells := 0, slots := 0, locals := 0 }) (mc := 0) (ms := 0) (rest := []) (Qc := fun A => kp_Qi D cy A S _) X h (c_X1_isGate l D cy ad S x1 x2 _ h.2.2.2  hw) cs_1_60 ⟨by decide, by decide, rfl, rfl, by decide, by decide⟩ rfl hl.1 rfl (by decide) dX1_gateOf_2) (fun y2 T1 hw l_T1 H locs h => ?_)
  have f_a0 := l_T1.is f_a0
  have hle := hle.tr l_T1
  refine lv_if_eq (tgt := 21) X.1 X.2.1 dX1_gateOf_5 (by decide) (fun c4 => ?_) (fun c4 => ?_)
  · have hw := hw.1 c4
    refine lv_iconst (v := (-1)) X.1 X.2.1 dX1_gateOf_21 (by decide) ?_
    exact j22 (-1) T1 _ _ ls (lv_sub hl [] rfl) h hle f_a0 hw
  · have hw := hw.2 c4
    refine lv_aload_n X.1 X.2.1 dX1_gateOf_8 rfl (lv_at hl 0 rfl) ?_
    obtain ⟨b3, e_b3, hw⟩ := hw
    have f_b3 := h.2.2.2.rf (c := 1) (k := 2) f_a0 (by decide) (by decide) e_b3 (t := 14) rfl
    refine kp_get X h f_a0 ff_1_18.l (v := .ref b3) (congrArg va_rf e_b3) dX1_gateOf_9 ?_
    refine lv_iconst (v := 2) X.1 X.2.1 dX1_gateOf_12 (by decide) ?_
    refine lv_iload_n X.1 X.2.1 dX1_gateOf_13 rfl (lv_at hl 1 rfl) ?_
    refine lv_imul X.1 X.2.1 dX1_gateOf_14 ?_
    refine lv_iload_n X.1 X.2.1 dX1_gateOf_15 rfl (lv_at hl 2 rfl) ?_
    refine lv_iadd X.1 X.2.1 dX1_gateOf_16 ?_
    obtain ⟨hi, hw⟩ := hw
    refine kp_iald X h f_b3 hi dX1_gateOf_17 ?_
    refine lv_goto (tgt := 22) X.1 X.2.1 dX1_gateOf_18 (by decide) ?_
    exact j22 (kp_A T1 b3 ((2 * x1) + x2).toNatClampNeg) T1 _ _ ls (lv_sub hl [] rfl) h hle f_a0 hw
theorem dX1_fillChamber_0 : decode cX1_fillChamber 0 = .ok (.iload_n 1, 1) := by decide +kernel
theorem dX1_fillChamber_1 : decode cX1_fillChamber 1 = .ok (.invokestatic 32, 3) := by decide +kernel
theorem dX1_fillChamber_4 : decode cX1_fillChamber 4 = .ok (.ifCond .eq 34, 3) := by decide +kernel
theorem dX1_fillChamber_7 : decode cX1_fillChamber 7 = .ok (.iload_n 2, 1) := by decide +kernel
theorem dX1_fillChamber_8 : decode cX1_fillChamber 8 = .ok (.ifCond .lt 30, 3) := by decide +kernel
theorem dX1_fillChamber_11 : decode cX1_fillChamber 11 = .ok (.iload_n 2, 1) := by decide +kernel
theorem dX1_fillChamber_12 : decode cX1_fillChamber 12 = .ok (.sipush 10000, 3) := by decide +kernel
theorem dX1_fillChamber_15 : decode cX1_fillChamber 15 = .ok (.if_icmp .gt 23, 3) := by decide +kernel
theorem dX1_fillChamber_18 : decode cX1_fillChamber 18 = .ok (.aload_n 0, 1) := by decide +kernel
theorem dX1_fillChamber_19 : decode cX1_fillChamber 19 = .ok (.iload_n 1, 1) := by decide +kernel
theorem dX1_fillChamber_20 : decode cX1_fillChamber 20 = .ok (.iconst 0, 1) := by decide +kernel
theorem dX1_fillChamber_21 : decode cX1_fillChamber 21 = .ok (.invokevirtual 35, 3) := by decide +kernel
theorem dX1_fillChamber_24 : decode cX1_fillChamber 24 = .ok (.iconst 1, 1) := by decide +kernel
theorem dX1_fillChamber_25 : decode cX1_fillChamber 25 = .ok (.if_icmp .eq 13, 3) := by decide +kernel
theorem dX1_fillChamber_28 : decode cX1_fillChamber 28 = .ok (.aload_n 0, 1) := by decide +kernel
theorem dX1_fillChamber_29 : decode cX1_fillChamber 29 = .ok (.iload_n 1, 1) := by decide +kernel
theorem dX1_fillChamber_30 : decode cX1_fillChamber 30 = .ok (.iconst 1, 1) := by decide +kernel
theorem dX1_fillChamber_31 : decode cX1_fillChamber 31 = .ok (.invokevirtual 35, 3) := by decide +kernel
theorem dX1_fillChamber_34 : decode cX1_fillChamber 34 = .ok (.iconst 1, 1) := by decide +kernel
theorem dX1_fillChamber_35 : decode cX1_fillChamber 35 = .ok (.if_icmp .ne 5, 3) := by decide +kernel
theorem dX1_fillChamber_38 : decode cX1_fillChamber 38 = .ok (.iconst 0, 1) := by decide +kernel
theorem dX1_fillChamber_39 : decode cX1_fillChamber 39 = .ok (.ireturn, 1) := by decide +kernel
theorem dX1_fillChamber_40 : decode cX1_fillChamber 40 = .ok (.aload_n 0, 1) := by decide +kernel
theorem dX1_fillChamber_41 : decode cX1_fillChamber 41 = .ok (.getfield 11, 3) := by decide +kernel
theorem dX1_fillChamber_44 : decode cX1_fillChamber 44 = .ok (.iload_n 1, 1) := by decide +kernel
theorem dX1_fillChamber_45 : decode cX1_fillChamber 45 = .ok (.iload_n 2, 1) := by decide +kernel
theorem dX1_fillChamber_46 : decode cX1_fillChamber 46 = .ok (.iastore, 1) := by decide +kernel
theorem dX1_fillChamber_47 : decode cX1_fillChamber 47 = .ok (.iconst 1, 1) := by decide +kernel
theorem dX1_fillChamber_48 : decode cX1_fillChamber 48 = .ok (.ireturn, 1) := by decide +kernel
def wX1_fillChamber_b38 (a0 : Nat) (x1 : Int32) (x2 : Int32)  (Sn : kp_S) (post : Int32 → kp_S → Prop) : Prop :=
  post 0 Sn
def wX1_fillChamber (a0 : Nat) (x1 : Int32) (x2 : Int32) (S : kp_S) (post : Int32 → kp_S → Prop) : Prop :=
  wX1_isLock x1 S (fun y2 T1 =>
  ((y2 = 0 →
  wX1_fillChamber_b38 a0 x1 x2   T1 post) ∧ (¬ y2 = 0 →
  ((x2 < 0 →
  wX1_fillChamber_b38 a0 x1 x2   T1 post) ∧ (¬ x2 < 0 →
  ((10000 < x2 →
  wX1_fillChamber_b38 a0 x1 x2   T1 post) ∧ (¬ 10000 < x2 →
  wX1_gateOf a0 x1 0 T1 (fun y4 T3 =>
  ((y4 = 1 →
  wX1_fillChamber_b38 a0 x1 x2   T3 post) ∧ (¬ y4 = 1 →
  wX1_gateOf a0 x1 1 T3 (fun y6 T5 =>
  ((¬ y6 = 1 →
  ∃ b7 : Nat, kp_R T5 200 a0 = some b7 ∧
  vp_in x1 (kp_N T5 b7) ∧ ∀ T8 : kp_S, T8 = kp_sA T5 b7 (upd (kp_A T5 b7) (x1.toNatClampNeg) x2) →
  post 1 T8) ∧ (y6 = 1 →
  wX1_fillChamber_b38 a0 x1 x2   T5 post)))))))))))))
set_option maxHeartbeats 4000000 in
set_option maxRecDepth 100000 in
theorem c_X1_fillChamber (l : Launch) (D : va_G) (cy : Nat → ClassId) (ad : (Nat → Nat) × (Nat → Nat)) (S : kp_S) (a0 : Nat) (x1 : Int32) (x2 : Int32) (post : Int32 → kp_S → Prop) (hS : kp_ok S) (f_a0 : kp_is S a0 1) (hw : wX1_fillChamber a0 x1 x2 S post) : kp_M l yX1_fillChamber cX1_fillChamber 3 (some .boolean) { frames := 2, cells := 0, slots := 0, locals := 43 } D cy ad S [.ref a0, .int x1, .int x2] 0 0 (fun A => kp_Qi D cy A S post) := by
  refine kp_start (own := RX1) (by decide) rfl (Nat.le_of_ble_eq_true rfl) hS ?_
  intro p e s m below meth c A ls X hr hlocks hname h hl
  have hle : kp_le S S := kp_le.rf
  have hl : lv_has ls 3 [(0, .ref a0), (1, .int x1), (2, .int x2)] := hl
  have j38 : ∀  (Sn : kp_S) (H : Heap) (locs : List Loc) (ls : Array Slot), lv_has ls 3 [] → kp_H D cy A Sn s.heap H locs → kp_le S Sn → kp_is Sn a0 1 → wX1_fillChamber_b38 a0 x1 x2   Sn post → W p l e { frames := 2, cells := 0, slots := 0, locals := 43 } s m ([.ref a0, .int x1, .int x2] : List Value).toArray below meth c H locs 0 0 (MQ below (kp_Qi D cy A S post) ([.ref a0, .int x1, .int x2] : List Value).toArray s 0 0 A) (F0 m 38 ls []) := by
    intro  Sn H locs ls hl h hle f_a0 hw
    unfold wX1_fillChamber_b38 at hw
    refine lv_iconst (v := 0) X.1 X.2.1 dX1_fillChamber_38 (by decide) ?_
    exact kp_reti X hr hlocks h hle (by decide) hw dX1_fillChamber_39
  unfold wX1_fillChamber at hw
  have h : kp_H D cy A S s.heap s.heap [] := h
  revert h
  intro h
  refine lv_iload_n X.1 X.2.1 dX1_fillChamber_0 rfl (lv_at hl 1 rfl) ?_
  refine kp_calli X h (kp_runS (rm := { frames := 0, cells := 0, slots := 0, locals := 0 }) (mc := 0) (ms := 0) (rest := []) (Qc := fun A => kp_Qi D cy A S _) X h (c_X1_isLock l D cy ad S x1 _ h.2.2.2  hw) cs_1_32 ⟨by decide, by decide, rfl, rfl, by decide, by decide⟩ rfl hl.1 rfl (by decide) dX1_fillChamber_1) (fun y2 T1 hw l_T1 H locs h => ?_)
  have f_a0 := l_T1.is f_a0
  have hle := hle.tr l_T1
  refine lv_if_eq (tgt := 38) X.1 X.2.1 dX1_fillChamber_4 (by decide) (fun c13 => ?_) (fun c13 => ?_)
  · have hw := hw.1 c13
    exact j38  T1 _ _ ls (lv_sub hl [] rfl) h hle f_a0 hw
  · have hw := hw.2 c13
    refine lv_iload_n X.1 X.2.1 dX1_fillChamber_7 rfl (lv_at hl 2 rfl) ?_
    refine lv_if_lt (tgt := 38) X.1 X.2.1 dX1_fillChamber_8 (by decide) (fun c12 => ?_) (fun c12 => ?_)
    · have hw := hw.1 c12
      exact j38  T1 _ _ ls (lv_sub hl [] rfl) h hle f_a0 hw
    · have hw := hw.2 c12
      refine lv_iload_n X.1 X.2.1 dX1_fillChamber_11 rfl (lv_at hl 2 rfl) ?_
      refine lv_sipush (v := 10000) X.1 X.2.1 dX1_fillChamber_12 (by decide) ?_
      refine lv_icmp_gt (tgt := 38) X.1 X.2.1 dX1_fillChamber_15 (by decide) (fun c11 => ?_) (fun c11 => ?_)
      · have hw := hw.1 c11
        exact j38  T1 _ _ ls (lv_sub hl [] rfl) h hle f_a0 hw
      · have hw := hw.2 c11
        refine lv_aload_n X.1 X.2.1 dX1_fillChamber_18 rfl (lv_at hl 0 rfl) ?_
        refine lv_iload_n X.1 X.2.1 dX1_fillChamber_19 rfl (lv_at hl 1 rfl) ?_
        refine lv_iconst (v := 0) X.1 X.2.1 dX1_fillChamber_20 (by decide) ?_
        refine kp_calli X h (kp_runV (rm := { frames := 1, cells := 0, slots := 0, locals := 21 }) (mc := 0) (ms := 0) (rest := []) (Qc := fun A => kp_Qi D cy A T1 _) X h (c_X1_gateOf l D cy ad T1 a0 x1 0 _ h.2.2.2 f_a0 hw) f_a0 cv_1_35 ⟨by decide, by decide, rfl, rfl, by decide, by decide⟩ rfl hl.1 rfl (by decide) dX1_fillChamber_21) (fun y4 T3 hw l_T3 H locs h => ?_)
        have f_a0 := l_T3.is f_a0
        have hle := hle.tr l_T3
        refine lv_iconst (v := 1) X.1 X.2.1 dX1_fillChamber_24 (by decide) ?_
        refine lv_icmp_eq (tgt := 38) X.1 X.2.1 dX1_fillChamber_25 (by decide) (fun c10 => ?_) (fun c10 => ?_)
        · have hw := hw.1 c10
          exact j38  T3 _ _ ls (lv_sub hl [] rfl) h hle f_a0 hw
        · have hw := hw.2 c10
          refine lv_aload_n X.1 X.2.1 dX1_fillChamber_28 rfl (lv_at hl 0 rfl) ?_
          refine lv_iload_n X.1 X.2.1 dX1_fillChamber_29 rfl (lv_at hl 1 rfl) ?_
          refine lv_iconst (v := 1) X.1 X.2.1 dX1_fillChamber_30 (by decide) ?_
          refine kp_calli X h (kp_runV (rm := { frames := 1, cells := 0, slots := 0, locals := 21 }) (mc := 0) (ms := 0) (rest := []) (Qc := fun A => kp_Qi D cy A T3 _) X h (c_X1_gateOf l D cy ad T3 a0 x1 1 _ h.2.2.2 f_a0 hw) f_a0 cv_1_35 ⟨by decide, by decide, rfl, rfl, by decide, by decide⟩ rfl hl.1 rfl (by decide) dX1_fillChamber_31) (fun y6 T5 hw l_T5 H locs h => ?_)
          have f_a0 := l_T5.is f_a0
          have hle := hle.tr l_T5
          refine lv_iconst (v := 1) X.1 X.2.1 dX1_fillChamber_34 (by decide) ?_
          refine lv_icmp_ne (tgt := 40) X.1 X.2.1 dX1_fillChamber_35 (by decide) (fun c9 => ?_) (fun c9 => ?_)
          · have hw := hw.1 c9
            refine lv_aload_n X.1 X.2.1 dX1_fillChamber_40 rfl (lv_at hl 0 rfl) ?_
            obtain ⟨b7, e_b7, hw⟩ := hw
            have f_b7 := h.2.2.2.rf (c := 1) (k := 0) f_a0 (by decide) (by decide) e_b7 (t := 14) rfl
            refine kp_get X h f_a0 ff_1_11.l (v := .ref b7) (congrArg va_rf e_b7) dX1_fillChamber_41 ?_
            refine lv_iload_n X.1 X.2.1 dX1_fillChamber_44 rfl (lv_at hl 1 rfl) ?_
            refine lv_iload_n X.1 X.2.1 dX1_fillChamber_45 rfl (lv_at hl 2 rfl) ?_
            obtain ⟨hi, hw⟩ := hw
            refine kp_iast X h f_b7 hi dX1_fillChamber_46 (fun T8 e_T8 l_T8 H locs h => ?_)
            have hw := hw T8 e_T8
            have f_a0 := l_T8.is f_a0
            have f_b7 := l_T8.is f_b7
            have hle := hle.tr l_T8
            have e_b7 : kp_R T8 200 a0 = some b7 := by rw [e_T8]; exact e_b7
            refine lv_iconst (v := 1) X.1 X.2.1 dX1_fillChamber_47 (by decide) ?_
            exact kp_reti X hr hlocks h hle (by decide) hw dX1_fillChamber_48
          · have hw := hw.2 c9
            exact j38  T5 _ _ ls (lv_sub hl [] rfl) h hle f_a0 hw
theorem dX1_isTaken_0 : decode cX1_isTaken 0 = .ok (.iload_n 1, 1) := by decide +kernel
theorem dX1_isTaken_1 : decode cX1_isTaken 1 = .ok (.iconst 2, 1) := by decide +kernel
theorem dX1_isTaken_2 : decode cX1_isTaken 2 = .ok (.irem, 1) := by decide +kernel
theorem dX1_isTaken_3 : decode cX1_isTaken 3 = .ok (.ifCond .ne 5, 3) := by decide +kernel
theorem dX1_isTaken_6 : decode cX1_isTaken 6 = .ok (.iconst 0, 1) := by decide +kernel
theorem dX1_isTaken_7 : decode cX1_isTaken 7 = .ok (.ireturn, 1) := by decide +kernel
theorem dX1_isTaken_8 : decode cX1_isTaken 8 = .ok (.iconst 0, 1) := by decide +kernel
theorem dX1_isTaken_9 : decode cX1_isTaken 9 = .ok (.istore_n 3, 1) := by decide +kernel
theorem dX1_isTaken_10 : decode cX1_isTaken 10 = .ok (.iload_n 3, 1) := by decide +kernel
theorem dX1_isTaken_11 : decode cX1_isTaken 11 = .ok (.bipush 8, 2) := by decide +kernel
theorem dX1_isTaken_13 : decode cX1_isTaken 13 = .ok (.if_icmp .ge 26, 3) := by decide +kernel
theorem dX1_isTaken_16 : decode cX1_isTaken 16 = .ok (.iload_n 3, 1) := by decide +kernel
theorem dX1_isTaken_17 : decode cX1_isTaken 17 = .ok (.iload_n 2, 1) := by decide +kernel
theorem dX1_isTaken_18 : decode cX1_isTaken 18 = .ok (.if_icmp .eq 15, 3) := by decide +kernel
theorem dX1_isTaken_21 : decode cX1_isTaken 21 = .ok (.aload_n 0, 1) := by decide +kernel
theorem dX1_isTaken_22 : decode cX1_isTaken 22 = .ok (.getfield 24, 3) := by decide +kernel
theorem dX1_isTaken_25 : decode cX1_isTaken 25 = .ok (.iload_n 3, 1) := by decide +kernel
theorem dX1_isTaken_26 : decode cX1_isTaken 26 = .ok (.iaload, 1) := by decide +kernel
theorem dX1_isTaken_27 : decode cX1_isTaken 27 = .ok (.iload_n 1, 1) := by decide +kernel
theorem dX1_isTaken_28 : decode cX1_isTaken 28 = .ok (.if_icmp .ne 5, 3) := by decide +kernel
theorem dX1_isTaken_31 : decode cX1_isTaken 31 = .ok (.iconst 1, 1) := by decide +kernel
theorem dX1_isTaken_32 : decode cX1_isTaken 32 = .ok (.ireturn, 1) := by decide +kernel
theorem dX1_isTaken_33 : decode cX1_isTaken 33 = .ok (.iinc 3 1, 3) := by decide +kernel
theorem dX1_isTaken_36 : decode cX1_isTaken 36 = .ok (.goto (-26), 3) := by decide +kernel
theorem dX1_isTaken_39 : decode cX1_isTaken 39 = .ok (.iconst 0, 1) := by decide +kernel
theorem dX1_isTaken_40 : decode cX1_isTaken 40 = .ok (.ireturn, 1) := by decide +kernel
def wX1_isTaken_b33 (a0 : Nat) (x1 : Int32) (x2 : Int32) (xn3 : Int32) (K10 : Int32 → kp_S → Prop) (Sn : kp_S) (post : Int32 → kp_S → Prop) : Prop :=
  ∀ y1001 : Int32, y1001 = xn3 + 1 →
  K10 y1001 Sn
def wX1_isTaken_L10 (a0 : Nat) (x1 : Int32) (x2 : Int32)  (post : Int32 → kp_S → Prop) : Nat → Int32 → kp_S → Prop
  | 0, _, _ => False
  | n + 1, xn3, Sn =>
  ((8 ≤ xn3 →
  post 0 Sn) ∧ (¬ 8 ≤ xn3 →
  ((xn3 = x2 →
  wX1_isTaken_b33 a0 x1 x2 xn3 (fun xn3_ S_ => wX1_isTaken_L10 a0 x1 x2  post n xn3_ S_) Sn post) ∧ (¬ xn3 = x2 →
  ∃ b2001 : Nat, kp_R Sn 204 a0 = some b2001 ∧
  vp_in xn3 (kp_N Sn b2001) ∧
  ((¬ (kp_A Sn b2001 xn3.toNatClampNeg) = x1 →
  wX1_isTaken_b33 a0 x1 x2 xn3 (fun xn3_ S_ => wX1_isTaken_L10 a0 x1 x2  post n xn3_ S_) Sn post) ∧ ((kp_A Sn b2001 xn3.toNatClampNeg) = x1 →
  post 1 Sn))))))
def wX1_isTaken (a0 : Nat) (x1 : Int32) (x2 : Int32) (S : kp_S) (post : Int32 → kp_S → Prop) : Prop :=
  ((¬ (x1 - x1 / 2 * 2) = 0 →
  ∃ n0 : Nat, wX1_isTaken_L10 a0 x1 x2  post n0 0 S) ∧ ((x1 - x1 / 2 * 2) = 0 →
  post 0 S))
set_option maxHeartbeats 4000000 in
set_option maxRecDepth 100000 in
theorem c_X1_isTaken (l : Launch) (D : va_G) (cy : Nat → ClassId) (ad : (Nat → Nat) × (Nat → Nat)) (S : kp_S) (a0 : Nat) (x1 : Int32) (x2 : Int32) (post : Int32 → kp_S → Prop) (hS : kp_ok S) (f_a0 : kp_is S a0 1) (hw : wX1_isTaken a0 x1 x2 S post) : kp_M l yX1_isTaken cX1_isTaken 4 (some .boolean) { frames := 0, cells := 0, slots := 0, locals := 0 } D cy ad S [.ref a0, .int x1, .int x2] 0 0 (fun A => kp_Qi D cy A S post) := by
  refine kp_start (own := RX1) (by decide) rfl (Nat.le_of_ble_eq_true rfl) hS ?_
  intro p e s m below meth c A ls X hr hlocks hname h hl
  have hle : kp_le S S := kp_le.rf
  have hl : lv_has ls 4 [(0, .ref a0), (1, .int x1), (2, .int x2)] := hl
  have L10 : ∀ n10 : Nat, ∀ (xn3 : Int32) (Sn : kp_S) (H : Heap) (locs : List Loc) (ls : Array Slot), lv_has ls 4 [(0, .ref a0), (1, .int x1), (2, .int x2), (3, .int xn3)] → kp_H D cy A Sn s.heap H locs → kp_le S Sn → kp_is Sn a0 1 → wX1_isTaken_L10 a0 x1 x2  post n10 xn3 Sn → W p l e { frames := 0, cells := 0, slots := 0, locals := 0 } s m ([.ref a0, .int x1, .int x2] : List Value).toArray below meth c H locs 0 0 (MQ below (kp_Qi D cy A S post) ([.ref a0, .int x1, .int x2] : List Value).toArray s 0 0 A) (F0 m 10 ls []) := by
    intro n10
    induction n10 with
    | zero => intro xn3 Sn H locs ls hl h hle f_a0 hw; exact hw.elim
    | succ n10 ih10 =>
      have j33 : ∀ (xn3 : Int32) (Sn : kp_S) (H : Heap) (locs : List Loc) (ls : Array Slot), lv_has ls 4 [(0, .ref a0), (1, .int x1), (2, .int x2), (3, .int xn3)] → kp_H D cy A Sn s.heap H locs → kp_le S Sn → kp_is Sn a0 1 → wX1_isTaken_b33 a0 x1 x2 xn3 (fun xn3_ S_ => wX1_isTaken_L10 a0 x1 x2  post n10 xn3_ S_) Sn post → W p l e { frames := 0, cells := 0, slots := 0, locals := 0 } s m ([.ref a0, .int x1, .int x2] : List Value).toArray below meth c H locs 0 0 (MQ below (kp_Qi D cy A S post) ([.ref a0, .int x1, .int x2] : List Value).toArray s 0 0 A) (F0 m 33 ls []) := by
        intro xn3 Sn H locs ls hl h hle f_a0 hw
        unfold wX1_isTaken_b33 at hw
        obtain ⟨y1001, e_y1001⟩ : ∃ y : Int32, y = xn3 + 1 := ⟨_, rfl⟩
        have hw := hw y1001 e_y1001
        refine lv_iinc (v := y1001) (lv' := [(3, .int y1001), (0, .ref a0), (1, .int x1), (2, .int x2)]) X.1 X.2.1 dX1_isTaken_33 hl (k := 3) rfl (by rw [e_y1001]; rfl) (by decide) rfl (fun ls hl => ?_)
        refine lv_goto (tgt := 10) X.1 X.2.1 dX1_isTaken_36 (by decide) ?_
        exact ih10 y1001 Sn H locs ls (lv_sub hl [1, 2, 3, 0] rfl) h hle f_a0 hw
      intro xn3 Sn H locs ls hl h hle f_a0 hw
      unfold wX1_isTaken_L10 at hw
      refine lv_iload_n X.1 X.2.1 dX1_isTaken_10 rfl (lv_at hl 3 rfl) ?_
      refine lv_bipush (v := 8) X.1 X.2.1 dX1_isTaken_11 (by decide) ?_
      refine lv_icmp_ge (tgt := 39) X.1 X.2.1 dX1_isTaken_13 (by decide) (fun c2004 => ?_) (fun c2004 => ?_)
      · have hw := hw.1 c2004
        refine lv_iconst (v := 0) X.1 X.2.1 dX1_isTaken_39 (by decide) ?_
        exact kp_reti X hr hlocks h hle (by decide) hw dX1_isTaken_40
      · have hw := hw.2 c2004
        refine lv_iload_n X.1 X.2.1 dX1_isTaken_16 rfl (lv_at hl 3 rfl) ?_
        refine lv_iload_n X.1 X.2.1 dX1_isTaken_17 rfl (lv_at hl 2 rfl) ?_
        refine lv_icmp_eq (tgt := 33) X.1 X.2.1 dX1_isTaken_18 (by decide) (fun c2003 => ?_) (fun c2003 => ?_)
        · have hw := hw.1 c2003
          exact j33 xn3 Sn H locs ls (lv_sub hl [0, 1, 2, 3] rfl) h hle f_a0 hw
        · have hw := hw.2 c2003
          refine lv_aload_n X.1 X.2.1 dX1_isTaken_21 rfl (lv_at hl 0 rfl) ?_
          obtain ⟨b2001, e_b2001, hw⟩ := hw
          have f_b2001 := h.2.2.2.rf (c := 1) (k := 4) f_a0 (by decide) (by decide) e_b2001 (t := 14) rfl
          refine kp_get X h f_a0 ff_1_24.l (v := .ref b2001) (congrArg va_rf e_b2001) dX1_isTaken_22 ?_
          refine lv_iload_n X.1 X.2.1 dX1_isTaken_25 rfl (lv_at hl 3 rfl) ?_
          obtain ⟨hi, hw⟩ := hw
          refine kp_iald X h f_b2001 hi dX1_isTaken_26 ?_
          refine lv_iload_n X.1 X.2.1 dX1_isTaken_27 rfl (lv_at hl 1 rfl) ?_
          refine lv_icmp_ne (tgt := 33) X.1 X.2.1 dX1_isTaken_28 (by decide) (fun c2002 => ?_) (fun c2002 => ?_)
          · have hw := hw.1 c2002
            exact j33 xn3 Sn H locs ls (lv_sub hl [0, 1, 2, 3] rfl) h hle f_a0 hw
          · have hw := hw.2 c2002
            refine lv_iconst (v := 1) X.1 X.2.1 dX1_isTaken_31 (by decide) ?_
            exact kp_reti X hr hlocks h hle (by decide) hw dX1_isTaken_32
  unfold wX1_isTaken at hw
  have h : kp_H D cy A S s.heap s.heap [] := h
  revert h
  intro h
  refine lv_iload_n X.1 X.2.1 dX1_isTaken_0 rfl (lv_at hl 1 rfl) ?_
  refine lv_iconst (v := 2) X.1 X.2.1 dX1_isTaken_1 (by decide) ?_
  refine lv_irem X.1 X.2.1 dX1_isTaken_2 (by decide) ?_
  refine lv_if_ne (tgt := 8) X.1 X.2.1 dX1_isTaken_3 (by decide) (fun c1 => ?_) (fun c1 => ?_)
  · have hw := hw.1 c1
    refine lv_iconst (v := 0) X.1 X.2.1 dX1_isTaken_8 (by decide) ?_
    refine lv_istore_n (lv' := [(3, .int 0), (0, .ref a0), (1, .int x1), (2, .int x2)]) X.1 X.2.1 dX1_isTaken_9 rfl hl (by decide) rfl (fun ls hl => ?_)
    obtain ⟨n0, hw⟩ := hw
    exact L10 n0 0 S _ _ ls (lv_sub hl [1, 2, 3, 0] rfl) h hle f_a0 hw
  · have hw := hw.2 c1
    refine lv_iconst (v := 0) X.1 X.2.1 dX1_isTaken_6 (by decide) ?_
    exact kp_reti X hr hlocks h hle (by decide) hw dX1_isTaken_7
theorem dX1_layShip_0 : decode cX1_layShip 0 = .ok (.iload_n 1, 1) := by decide +kernel
theorem dX1_layShip_1 : decode cX1_layShip 1 = .ok (.invokestatic 39, 3) := by decide +kernel
theorem dX1_layShip_4 : decode cX1_layShip 4 = .ok (.ifCond .eq 22, 3) := by decide +kernel
theorem dX1_layShip_7 : decode cX1_layShip 7 = .ok (.iload_n 2, 1) := by decide +kernel
theorem dX1_layShip_8 : decode cX1_layShip 8 = .ok (.ifCond .lt 18, 3) := by decide +kernel
theorem dX1_layShip_11 : decode cX1_layShip 11 = .ok (.iload_n 2, 1) := by decide +kernel
theorem dX1_layShip_12 : decode cX1_layShip 12 = .ok (.bipush 12, 2) := by decide +kernel
theorem dX1_layShip_14 : decode cX1_layShip 14 = .ok (.if_icmp .gt 12, 3) := by decide +kernel
theorem dX1_layShip_17 : decode cX1_layShip 17 = .ok (.aload_n 0, 1) := by decide +kernel
theorem dX1_layShip_18 : decode cX1_layShip 18 = .ok (.iload_n 2, 1) := by decide +kernel
theorem dX1_layShip_19 : decode cX1_layShip 19 = .ok (.iload_n 1, 1) := by decide +kernel
theorem dX1_layShip_20 : decode cX1_layShip 20 = .ok (.invokevirtual 42, 3) := by decide +kernel
theorem dX1_layShip_23 : decode cX1_layShip 23 = .ok (.ifCond .eq 5, 3) := by decide +kernel
theorem dX1_layShip_26 : decode cX1_layShip 26 = .ok (.iconst 0, 1) := by decide +kernel
theorem dX1_layShip_27 : decode cX1_layShip 27 = .ok (.ireturn, 1) := by decide +kernel
theorem dX1_layShip_28 : decode cX1_layShip 28 = .ok (.aload_n 0, 1) := by decide +kernel
theorem dX1_layShip_29 : decode cX1_layShip 29 = .ok (.getfield 24, 3) := by decide +kernel
theorem dX1_layShip_32 : decode cX1_layShip 32 = .ok (.iload_n 1, 1) := by decide +kernel
theorem dX1_layShip_33 : decode cX1_layShip 33 = .ok (.iload_n 2, 1) := by decide +kernel
theorem dX1_layShip_34 : decode cX1_layShip 34 = .ok (.iastore, 1) := by decide +kernel
theorem dX1_layShip_35 : decode cX1_layShip 35 = .ok (.iconst 1, 1) := by decide +kernel
theorem dX1_layShip_36 : decode cX1_layShip 36 = .ok (.ireturn, 1) := by decide +kernel
def wX1_layShip_b26 (a0 : Nat) (x1 : Int32) (x2 : Int32)  (Sn : kp_S) (post : Int32 → kp_S → Prop) : Prop :=
  post 0 Sn
def wX1_layShip (a0 : Nat) (x1 : Int32) (x2 : Int32) (S : kp_S) (post : Int32 → kp_S → Prop) : Prop :=
  wX1_isShip x1 S (fun y2 T1 =>
  ((y2 = 0 →
  wX1_layShip_b26 a0 x1 x2   T1 post) ∧ (¬ y2 = 0 →
  ((x2 < 0 →
  wX1_layShip_b26 a0 x1 x2   T1 post) ∧ (¬ x2 < 0 →
  ((12 < x2 →
  wX1_layShip_b26 a0 x1 x2   T1 post) ∧ (¬ 12 < x2 →
  wX1_isTaken a0 x2 x1 T1 (fun y4 T3 =>
  ((y4 = 0 →
  ∃ b5 : Nat, kp_R T3 204 a0 = some b5 ∧
  vp_in x1 (kp_N T3 b5) ∧ ∀ T6 : kp_S, T6 = kp_sA T3 b5 (upd (kp_A T3 b5) (x1.toNatClampNeg) x2) →
  post 1 T6) ∧ (¬ y4 = 0 →
  wX1_layShip_b26 a0 x1 x2   T3 post))))))))))
set_option maxHeartbeats 4000000 in
set_option maxRecDepth 100000 in
theorem c_X1_layShip (l : Launch) (D : va_G) (cy : Nat → ClassId) (ad : (Nat → Nat) × (Nat → Nat)) (S : kp_S) (a0 : Nat) (x1 : Int32) (x2 : Int32) (post : Int32 → kp_S → Prop) (hS : kp_ok S) (f_a0 : kp_is S a0 1) (hw : wX1_layShip a0 x1 x2 S post) : kp_M l yX1_layShip cX1_layShip 3 (some .boolean) { frames := 1, cells := 0, slots := 0, locals := 23 } D cy ad S [.ref a0, .int x1, .int x2] 0 0 (fun A => kp_Qi D cy A S post) := by
  refine kp_start (own := RX1) (by decide) rfl (Nat.le_of_ble_eq_true rfl) hS ?_
  intro p e s m below meth c A ls X hr hlocks hname h hl
  have hle : kp_le S S := kp_le.rf
  have hl : lv_has ls 3 [(0, .ref a0), (1, .int x1), (2, .int x2)] := hl
  have j26 : ∀  (Sn : kp_S) (H : Heap) (locs : List Loc) (ls : Array Slot), lv_has ls 3 [] → kp_H D cy A Sn s.heap H locs → kp_le S Sn → kp_is Sn a0 1 → wX1_layShip_b26 a0 x1 x2   Sn post → W p l e { frames := 1, cells := 0, slots := 0, locals := 23 } s m ([.ref a0, .int x1, .int x2] : List Value).toArray below meth c H locs 0 0 (MQ below (kp_Qi D cy A S post) ([.ref a0, .int x1, .int x2] : List Value).toArray s 0 0 A) (F0 m 26 ls []) := by
    intro  Sn H locs ls hl h hle f_a0 hw
    unfold wX1_layShip_b26 at hw
    refine lv_iconst (v := 0) X.1 X.2.1 dX1_layShip_26 (by decide) ?_
    exact kp_reti X hr hlocks h hle (by decide) hw dX1_layShip_27
  unfold wX1_layShip at hw
  have h : kp_H D cy A S s.heap s.heap [] := h
  revert h
  intro h
  refine lv_iload_n X.1 X.2.1 dX1_layShip_0 rfl (lv_at hl 1 rfl) ?_
  refine kp_calli X h (kp_runS (rm := { frames := 0, cells := 0, slots := 0, locals := 0 }) (mc := 0) (ms := 0) (rest := []) (Qc := fun A => kp_Qi D cy A S _) X h (c_X1_isShip l D cy ad S x1 _ h.2.2.2  hw) cs_1_39 ⟨by decide, by decide, rfl, rfl, by decide, by decide⟩ rfl hl.1 rfl (by decide) dX1_layShip_1) (fun y2 T1 hw l_T1 H locs h => ?_)
  have f_a0 := l_T1.is f_a0
  have hle := hle.tr l_T1
  refine lv_if_eq (tgt := 26) X.1 X.2.1 dX1_layShip_4 (by decide) (fun c10 => ?_) (fun c10 => ?_)
  · have hw := hw.1 c10
    exact j26  T1 _ _ ls (lv_sub hl [] rfl) h hle f_a0 hw
  · have hw := hw.2 c10
    refine lv_iload_n X.1 X.2.1 dX1_layShip_7 rfl (lv_at hl 2 rfl) ?_
    refine lv_if_lt (tgt := 26) X.1 X.2.1 dX1_layShip_8 (by decide) (fun c9 => ?_) (fun c9 => ?_)
    · have hw := hw.1 c9
      exact j26  T1 _ _ ls (lv_sub hl [] rfl) h hle f_a0 hw
    · have hw := hw.2 c9
      refine lv_iload_n X.1 X.2.1 dX1_layShip_11 rfl (lv_at hl 2 rfl) ?_
      refine lv_bipush (v := 12) X.1 X.2.1 dX1_layShip_12 (by decide) ?_
      refine lv_icmp_gt (tgt := 26) X.1 X.2.1 dX1_layShip_14 (by decide) (fun c8 => ?_) (fun c8 => ?_)
      · have hw := hw.1 c8
        exact j26  T1 _ _ ls (lv_sub hl [] rfl) h hle f_a0 hw
      · have hw := hw.2 c8
        refine lv_aload_n X.1 X.2.1 dX1_layShip_17 rfl (lv_at hl 0 rfl) ?_
        refine lv_iload_n X.1 X.2.1 dX1_layShip_18 rfl (lv_at hl 2 rfl) ?_
        refine lv_iload_n X.1 X.2.1 dX1_layShip_19 rfl (lv_at hl 1 rfl) ?_
        refine kp_calli X h (kp_runV (rm := { frames := 0, cells := 0, slots := 0, locals := 0 }) (mc := 0) (ms := 0) (rest := []) (Qc := fun A => kp_Qi D cy A T1 _) X h (c_X1_isTaken l D cy ad T1 a0 x2 x1 _ h.2.2.2 f_a0 hw) f_a0 cv_1_42 ⟨by decide, by decide, rfl, rfl, by decide, by decide⟩ rfl hl.1 rfl (by decide) dX1_layShip_20) (fun y4 T3 hw l_T3 H locs h => ?_)
        have f_a0 := l_T3.is f_a0
        have hle := hle.tr l_T3
        refine lv_if_eq (tgt := 28) X.1 X.2.1 dX1_layShip_23 (by decide) (fun c7 => ?_) (fun c7 => ?_)
        · have hw := hw.1 c7
          refine lv_aload_n X.1 X.2.1 dX1_layShip_28 rfl (lv_at hl 0 rfl) ?_
          obtain ⟨b5, e_b5, hw⟩ := hw
          have f_b5 := h.2.2.2.rf (c := 1) (k := 4) f_a0 (by decide) (by decide) e_b5 (t := 14) rfl
          refine kp_get X h f_a0 ff_1_24.l (v := .ref b5) (congrArg va_rf e_b5) dX1_layShip_29 ?_
          refine lv_iload_n X.1 X.2.1 dX1_layShip_32 rfl (lv_at hl 1 rfl) ?_
          refine lv_iload_n X.1 X.2.1 dX1_layShip_33 rfl (lv_at hl 2 rfl) ?_
          obtain ⟨hi, hw⟩ := hw
          refine kp_iast X h f_b5 hi dX1_layShip_34 (fun T6 e_T6 l_T6 H locs h => ?_)
          have hw := hw T6 e_T6
          have f_a0 := l_T6.is f_a0
          have f_b5 := l_T6.is f_b5
          have hle := hle.tr l_T6
          have e_b5 : kp_R T6 204 a0 = some b5 := by rw [e_T6]; exact e_b5
          refine lv_iconst (v := 1) X.1 X.2.1 dX1_layShip_35 (by decide) ?_
          exact kp_reti X hr hlocks h hle (by decide) hw dX1_layShip_36
        · have hw := hw.2 c7
          exact j26  T3 _ _ ls (lv_sub hl [] rfl) h hle f_a0 hw
theorem dX1_levelOf_0 : decode cX1_levelOf 0 = .ok (.iload_n 1, 1) := by decide +kernel
theorem dX1_levelOf_1 : decode cX1_levelOf 1 = .ok (.invokestatic 32, 3) := by decide +kernel
theorem dX1_levelOf_4 : decode cX1_levelOf 4 = .ok (.ifCond .eq 12, 3) := by decide +kernel
theorem dX1_levelOf_7 : decode cX1_levelOf 7 = .ok (.aload_n 0, 1) := by decide +kernel
theorem dX1_levelOf_8 : decode cX1_levelOf 8 = .ok (.getfield 11, 3) := by decide +kernel
theorem dX1_levelOf_11 : decode cX1_levelOf 11 = .ok (.iload_n 1, 1) := by decide +kernel
theorem dX1_levelOf_12 : decode cX1_levelOf 12 = .ok (.iaload, 1) := by decide +kernel
theorem dX1_levelOf_13 : decode cX1_levelOf 13 = .ok (.goto 4, 3) := by decide +kernel
theorem dX1_levelOf_16 : decode cX1_levelOf 16 = .ok (.iconst (-1), 1) := by decide +kernel
theorem dX1_levelOf_17 : decode cX1_levelOf 17 = .ok (.ireturn, 1) := by decide +kernel
def wX1_levelOf_b17 (a0 : Nat) (x1 : Int32) (xt0 : Int32)  (Sn : kp_S) (post : Int32 → kp_S → Prop) : Prop :=
  post xt0 Sn
def wX1_levelOf (a0 : Nat) (x1 : Int32) (S : kp_S) (post : Int32 → kp_S → Prop) : Prop :=
  wX1_isLock x1 S (fun y2 T1 =>
  ((y2 = 0 →
  wX1_levelOf_b17 a0 x1 (-1)  T1 post) ∧ (¬ y2 = 0 →
  ∃ b3 : Nat, kp_R T1 200 a0 = some b3 ∧
  vp_in x1 (kp_N T1 b3) ∧
  wX1_levelOf_b17 a0 x1 (kp_A T1 b3 x1.toNatClampNeg)  T1 post)))
set_option maxHeartbeats 4000000 in
set_option maxRecDepth 100000 in
theorem c_X1_levelOf (l : Launch) (D : va_G) (cy : Nat → ClassId) (ad : (Nat → Nat) × (Nat → Nat)) (S : kp_S) (a0 : Nat) (x1 : Int32) (post : Int32 → kp_S → Prop) (hS : kp_ok S) (f_a0 : kp_is S a0 1) (hw : wX1_levelOf a0 x1 S post) : kp_M l yX1_levelOf cX1_levelOf 2 (some .int) { frames := 1, cells := 0, slots := 0, locals := 20 } D cy ad S [.ref a0, .int x1] 0 0 (fun A => kp_Qi D cy A S post) := by
  refine kp_start (own := RX1) (by decide) rfl (Nat.le_of_ble_eq_true rfl) hS ?_
  intro p e s m below meth c A ls X hr hlocks hname h hl
  have hle : kp_le S S := kp_le.rf
  have hl : lv_has ls 2 [(0, .ref a0), (1, .int x1)] := hl
  have j17 : ∀ (xt0 : Int32) (Sn : kp_S) (H : Heap) (locs : List Loc) (ls : Array Slot), lv_has ls 2 [] → kp_H D cy A Sn s.heap H locs → kp_le S Sn → kp_is Sn a0 1 → wX1_levelOf_b17 a0 x1 xt0  Sn post → W p l e { frames := 1, cells := 0, slots := 0, locals := 20 } s m ([.ref a0, .int x1] : List Value).toArray below meth c H locs 0 0 (MQ below (kp_Qi D cy A S post) ([.ref a0, .int x1] : List Value).toArray s 0 0 A) (F0 m 17 ls [.int xt0]) := by
    intro xt0 Sn H locs ls hl h hle f_a0 hw
    unfold wX1_levelOf_b17 at hw
    exact kp_reti X hr hlocks h hle rfl hw dX1_levelOf_17
  unfold wX1_levelOf at hw
  have h : kp_H D cy A S s.heap s.heap [] := h
  revert h
  intro h
  refine lv_iload_n X.1 X.2.1 dX1_levelOf_0 rfl (lv_at hl 1 rfl) ?_
  refine kp_calli X h (kp_runS (rm := { frames := 0, cells := 0, slots := 0, locals := 0 }) (mc := 0) (ms := 0) (rest := []) (Qc := fun A => kp_Qi D cy A S _) X h (c_X1_isLock l D cy ad S x1 _ h.2.2.2  hw) cs_1_32 ⟨by decide, by decide, rfl, rfl, by decide, by decide⟩ rfl hl.1 rfl (by decide) dX1_levelOf_1) (fun y2 T1 hw l_T1 H locs h => ?_)
  have f_a0 := l_T1.is f_a0
  have hle := hle.tr l_T1
  refine lv_if_eq (tgt := 16) X.1 X.2.1 dX1_levelOf_4 (by decide) (fun c4 => ?_) (fun c4 => ?_)
  · have hw := hw.1 c4
    refine lv_iconst (v := (-1)) X.1 X.2.1 dX1_levelOf_16 (by decide) ?_
    exact j17 (-1) T1 _ _ ls (lv_sub hl [] rfl) h hle f_a0 hw
  · have hw := hw.2 c4
    refine lv_aload_n X.1 X.2.1 dX1_levelOf_7 rfl (lv_at hl 0 rfl) ?_
    obtain ⟨b3, e_b3, hw⟩ := hw
    have f_b3 := h.2.2.2.rf (c := 1) (k := 0) f_a0 (by decide) (by decide) e_b3 (t := 14) rfl
    refine kp_get X h f_a0 ff_1_11.l (v := .ref b3) (congrArg va_rf e_b3) dX1_levelOf_8 ?_
    refine lv_iload_n X.1 X.2.1 dX1_levelOf_11 rfl (lv_at hl 1 rfl) ?_
    obtain ⟨hi, hw⟩ := hw
    refine kp_iald X h f_b3 hi dX1_levelOf_12 ?_
    refine lv_goto (tgt := 17) X.1 X.2.1 dX1_levelOf_13 (by decide) ?_
    exact j17 (kp_A T1 b3 x1.toNatClampNeg) T1 _ _ ls (lv_sub hl [] rfl) h hle f_a0 hw
theorem dX1_reachLevelOf_0 : decode cX1_reachLevelOf 0 = .ok (.iload_n 1, 1) := by decide +kernel
theorem dX1_reachLevelOf_1 : decode cX1_reachLevelOf 1 = .ok (.invokestatic 27, 3) := by decide +kernel
theorem dX1_reachLevelOf_4 : decode cX1_reachLevelOf 4 = .ok (.ifCond .eq 15, 3) := by decide +kernel
theorem dX1_reachLevelOf_7 : decode cX1_reachLevelOf 7 = .ok (.aload_n 0, 1) := by decide +kernel
theorem dX1_reachLevelOf_8 : decode cX1_reachLevelOf 8 = .ok (.getfield 15, 3) := by decide +kernel
theorem dX1_reachLevelOf_11 : decode cX1_reachLevelOf 11 = .ok (.iload_n 1, 1) := by decide +kernel
theorem dX1_reachLevelOf_12 : decode cX1_reachLevelOf 12 = .ok (.iaload, 1) := by decide +kernel
theorem dX1_reachLevelOf_13 : decode cX1_reachLevelOf 13 = .ok (.bipush 10, 2) := by decide +kernel
theorem dX1_reachLevelOf_15 : decode cX1_reachLevelOf 15 = .ok (.idiv, 1) := by decide +kernel
theorem dX1_reachLevelOf_16 : decode cX1_reachLevelOf 16 = .ok (.goto 4, 3) := by decide +kernel
theorem dX1_reachLevelOf_19 : decode cX1_reachLevelOf 19 = .ok (.iconst (-1), 1) := by decide +kernel
theorem dX1_reachLevelOf_20 : decode cX1_reachLevelOf 20 = .ok (.ireturn, 1) := by decide +kernel
def wX1_reachLevelOf_b20 (a0 : Nat) (x1 : Int32) (xt0 : Int32)  (Sn : kp_S) (post : Int32 → kp_S → Prop) : Prop :=
  post xt0 Sn
def wX1_reachLevelOf (a0 : Nat) (x1 : Int32) (S : kp_S) (post : Int32 → kp_S → Prop) : Prop :=
  wX1_isReach x1 S (fun y2 T1 =>
  ((y2 = 0 →
  wX1_reachLevelOf_b20 a0 x1 (-1)  T1 post) ∧ (¬ y2 = 0 →
  ∃ b3 : Nat, kp_R T1 201 a0 = some b3 ∧
  vp_in x1 (kp_N T1 b3) ∧
  wX1_reachLevelOf_b20 a0 x1 ((kp_A T1 b3 x1.toNatClampNeg) / 10)  T1 post)))
set_option maxHeartbeats 4000000 in
set_option maxRecDepth 100000 in
theorem c_X1_reachLevelOf (l : Launch) (D : va_G) (cy : Nat → ClassId) (ad : (Nat → Nat) × (Nat → Nat)) (S : kp_S) (a0 : Nat) (x1 : Int32) (post : Int32 → kp_S → Prop) (hS : kp_ok S) (f_a0 : kp_is S a0 1) (hw : wX1_reachLevelOf a0 x1 S post) : kp_M l yX1_reachLevelOf cX1_reachLevelOf 2 (some .int) { frames := 1, cells := 0, slots := 0, locals := 20 } D cy ad S [.ref a0, .int x1] 0 0 (fun A => kp_Qi D cy A S post) := by
  refine kp_start (own := RX1) (by decide) rfl (Nat.le_of_ble_eq_true rfl) hS ?_
  intro p e s m below meth c A ls X hr hlocks hname h hl
  have hle : kp_le S S := kp_le.rf
  have hl : lv_has ls 2 [(0, .ref a0), (1, .int x1)] := hl
  have j20 : ∀ (xt0 : Int32) (Sn : kp_S) (H : Heap) (locs : List Loc) (ls : Array Slot), lv_has ls 2 [] → kp_H D cy A Sn s.heap H locs → kp_le S Sn → kp_is Sn a0 1 → wX1_reachLevelOf_b20 a0 x1 xt0  Sn post → W p l e { frames := 1, cells := 0, slots := 0, locals := 20 } s m ([.ref a0, .int x1] : List Value).toArray below meth c H locs 0 0 (MQ below (kp_Qi D cy A S post) ([.ref a0, .int x1] : List Value).toArray s 0 0 A) (F0 m 20 ls [.int xt0]) := by
    intro xt0 Sn H locs ls hl h hle f_a0 hw
    unfold wX1_reachLevelOf_b20 at hw
    exact kp_reti X hr hlocks h hle rfl hw dX1_reachLevelOf_20
  unfold wX1_reachLevelOf at hw
  have h : kp_H D cy A S s.heap s.heap [] := h
  revert h
  intro h
  refine lv_iload_n X.1 X.2.1 dX1_reachLevelOf_0 rfl (lv_at hl 1 rfl) ?_
  refine kp_calli X h (kp_runS (rm := { frames := 0, cells := 0, slots := 0, locals := 0 }) (mc := 0) (ms := 0) (rest := []) (Qc := fun A => kp_Qi D cy A S _) X h (c_X1_isReach l D cy ad S x1 _ h.2.2.2  hw) cs_1_27 ⟨by decide, by decide, rfl, rfl, by decide, by decide⟩ rfl hl.1 rfl (by decide) dX1_reachLevelOf_1) (fun y2 T1 hw l_T1 H locs h => ?_)
  have f_a0 := l_T1.is f_a0
  have hle := hle.tr l_T1
  refine lv_if_eq (tgt := 19) X.1 X.2.1 dX1_reachLevelOf_4 (by decide) (fun c4 => ?_) (fun c4 => ?_)
  · have hw := hw.1 c4
    refine lv_iconst (v := (-1)) X.1 X.2.1 dX1_reachLevelOf_19 (by decide) ?_
    exact j20 (-1) T1 _ _ ls (lv_sub hl [] rfl) h hle f_a0 hw
  · have hw := hw.2 c4
    refine lv_aload_n X.1 X.2.1 dX1_reachLevelOf_7 rfl (lv_at hl 0 rfl) ?_
    obtain ⟨b3, e_b3, hw⟩ := hw
    have f_b3 := h.2.2.2.rf (c := 1) (k := 1) f_a0 (by decide) (by decide) e_b3 (t := 14) rfl
    refine kp_get X h f_a0 ff_1_15.l (v := .ref b3) (congrArg va_rf e_b3) dX1_reachLevelOf_8 ?_
    refine lv_iload_n X.1 X.2.1 dX1_reachLevelOf_11 rfl (lv_at hl 1 rfl) ?_
    obtain ⟨hi, hw⟩ := hw
    refine kp_iald X h f_b3 hi dX1_reachLevelOf_12 ?_
    refine lv_bipush (v := 10) X.1 X.2.1 dX1_reachLevelOf_13 (by decide) ?_
    refine lv_idiv X.1 X.2.1 dX1_reachLevelOf_15 (by decide) ?_
    refine lv_goto (tgt := 20) X.1 X.2.1 dX1_reachLevelOf_16 (by decide) ?_
    exact j20 ((kp_A T1 b3 x1.toNatClampNeg) / 10) T1 _ _ ls (lv_sub hl [] rfl) h hle f_a0 hw
theorem dX1_holdsOf_0 : decode cX1_holdsOf 0 = .ok (.iload_n 1, 1) := by decide +kernel
theorem dX1_holdsOf_1 : decode cX1_holdsOf 1 = .ok (.invokestatic 32, 3) := by decide +kernel
theorem dX1_holdsOf_4 : decode cX1_holdsOf 4 = .ok (.ifCond .eq 12, 3) := by decide +kernel
theorem dX1_holdsOf_7 : decode cX1_holdsOf 7 = .ok (.aload_n 0, 1) := by decide +kernel
theorem dX1_holdsOf_8 : decode cX1_holdsOf 8 = .ok (.getfield 21, 3) := by decide +kernel
theorem dX1_holdsOf_11 : decode cX1_holdsOf 11 = .ok (.iload_n 1, 1) := by decide +kernel
theorem dX1_holdsOf_12 : decode cX1_holdsOf 12 = .ok (.iaload, 1) := by decide +kernel
theorem dX1_holdsOf_13 : decode cX1_holdsOf 13 = .ok (.goto 4, 3) := by decide +kernel
theorem dX1_holdsOf_16 : decode cX1_holdsOf 16 = .ok (.iconst (-1), 1) := by decide +kernel
theorem dX1_holdsOf_17 : decode cX1_holdsOf 17 = .ok (.ireturn, 1) := by decide +kernel
def wX1_holdsOf_b17 (a0 : Nat) (x1 : Int32) (xt0 : Int32)  (Sn : kp_S) (post : Int32 → kp_S → Prop) : Prop :=
  post xt0 Sn
def wX1_holdsOf (a0 : Nat) (x1 : Int32) (S : kp_S) (post : Int32 → kp_S → Prop) : Prop :=
  wX1_isLock x1 S (fun y2 T1 =>
  ((y2 = 0 →
  wX1_holdsOf_b17 a0 x1 (-1)  T1 post) ∧ (¬ y2 = 0 →
  ∃ b3 : Nat, kp_R T1 203 a0 = some b3 ∧
  vp_in x1 (kp_N T1 b3) ∧
  wX1_holdsOf_b17 a0 x1 (kp_A T1 b3 x1.toNatClampNeg)  T1 post)))
set_option maxHeartbeats 4000000 in
set_option maxRecDepth 100000 in
theorem c_X1_holdsOf (l : Launch) (D : va_G) (cy : Nat → ClassId) (ad : (Nat → Nat) × (Nat → Nat)) (S : kp_S) (a0 : Nat) (x1 : Int32) (post : Int32 → kp_S → Prop) (hS : kp_ok S) (f_a0 : kp_is S a0 1) (hw : wX1_holdsOf a0 x1 S post) : kp_M l yX1_holdsOf cX1_holdsOf 2 (some .int) { frames := 1, cells := 0, slots := 0, locals := 20 } D cy ad S [.ref a0, .int x1] 0 0 (fun A => kp_Qi D cy A S post) := by
  refine kp_start (own := RX1) (by decide) rfl (Nat.le_of_ble_eq_true rfl) hS ?_
  intro p e s m below meth c A ls X hr hlocks hname h hl
  have hle : kp_le S S := kp_le.rf
  have hl : lv_has ls 2 [(0, .ref a0), (1, .int x1)] := hl
  have j17 : ∀ (xt0 : Int32) (Sn : kp_S) (H : Heap) (locs : List Loc) (ls : Array Slot), lv_has ls 2 [] → kp_H D cy A Sn s.heap H locs → kp_le S Sn → kp_is Sn a0 1 → wX1_holdsOf_b17 a0 x1 xt0  Sn post → W p l e { frames := 1, cells := 0, slots := 0, locals := 20 } s m ([.ref a0, .int x1] : List Value).toArray below meth c H locs 0 0 (MQ below (kp_Qi D cy A S post) ([.ref a0, .int x1] : List Value).toArray s 0 0 A) (F0 m 17 ls [.int xt0]) := by
    intro xt0 Sn H locs ls hl h hle f_a0 hw
    unfold wX1_holdsOf_b17 at hw
    exact kp_reti X hr hlocks h hle rfl hw dX1_holdsOf_17
  unfold wX1_holdsOf at hw
  have h : kp_H D cy A S s.heap s.heap [] := h
  revert h
  intro h
  refine lv_iload_n X.1 X.2.1 dX1_holdsOf_0 rfl (lv_at hl 1 rfl) ?_
  refine kp_calli X h (kp_runS (rm := { frames := 0, cells := 0, slots := 0, locals := 0 }) (mc := 0) (ms := 0) (rest := []) (Qc := fun A => kp_Qi D cy A S _) X h (c_X1_isLock l D cy ad S x1 _ h.2.2.2  hw) cs_1_32 ⟨by decide, by decide, rfl, rfl, by decide, by decide⟩ rfl hl.1 rfl (by decide) dX1_holdsOf_1) (fun y2 T1 hw l_T1 H locs h => ?_)
  have f_a0 := l_T1.is f_a0
  have hle := hle.tr l_T1
  refine lv_if_eq (tgt := 16) X.1 X.2.1 dX1_holdsOf_4 (by decide) (fun c4 => ?_) (fun c4 => ?_)
  · have hw := hw.1 c4
    refine lv_iconst (v := (-1)) X.1 X.2.1 dX1_holdsOf_16 (by decide) ?_
    exact j17 (-1) T1 _ _ ls (lv_sub hl [] rfl) h hle f_a0 hw
  · have hw := hw.2 c4
    refine lv_aload_n X.1 X.2.1 dX1_holdsOf_7 rfl (lv_at hl 0 rfl) ?_
    obtain ⟨b3, e_b3, hw⟩ := hw
    have f_b3 := h.2.2.2.rf (c := 1) (k := 3) f_a0 (by decide) (by decide) e_b3 (t := 14) rfl
    refine kp_get X h f_a0 ff_1_21.l (v := .ref b3) (congrArg va_rf e_b3) dX1_holdsOf_8 ?_
    refine lv_iload_n X.1 X.2.1 dX1_holdsOf_11 rfl (lv_at hl 1 rfl) ?_
    obtain ⟨hi, hw⟩ := hw
    refine kp_iald X h f_b3 hi dX1_holdsOf_12 ?_
    refine lv_goto (tgt := 17) X.1 X.2.1 dX1_holdsOf_13 (by decide) ?_
    exact j17 (kp_A T1 b3 x1.toNatClampNeg) T1 _ _ ls (lv_sub hl [] rfl) h hle f_a0 hw
theorem dX1_placeOf_0 : decode cX1_placeOf 0 = .ok (.iload_n 1, 1) := by decide +kernel
theorem dX1_placeOf_1 : decode cX1_placeOf 1 = .ok (.invokestatic 39, 3) := by decide +kernel
theorem dX1_placeOf_4 : decode cX1_placeOf 4 = .ok (.ifCond .eq 12, 3) := by decide +kernel
theorem dX1_placeOf_7 : decode cX1_placeOf 7 = .ok (.aload_n 0, 1) := by decide +kernel
theorem dX1_placeOf_8 : decode cX1_placeOf 8 = .ok (.getfield 24, 3) := by decide +kernel
theorem dX1_placeOf_11 : decode cX1_placeOf 11 = .ok (.iload_n 1, 1) := by decide +kernel
theorem dX1_placeOf_12 : decode cX1_placeOf 12 = .ok (.iaload, 1) := by decide +kernel
theorem dX1_placeOf_13 : decode cX1_placeOf 13 = .ok (.goto 4, 3) := by decide +kernel
theorem dX1_placeOf_16 : decode cX1_placeOf 16 = .ok (.iconst (-1), 1) := by decide +kernel
theorem dX1_placeOf_17 : decode cX1_placeOf 17 = .ok (.ireturn, 1) := by decide +kernel
def wX1_placeOf_b17 (a0 : Nat) (x1 : Int32) (xt0 : Int32)  (Sn : kp_S) (post : Int32 → kp_S → Prop) : Prop :=
  post xt0 Sn
def wX1_placeOf (a0 : Nat) (x1 : Int32) (S : kp_S) (post : Int32 → kp_S → Prop) : Prop :=
  wX1_isShip x1 S (fun y2 T1 =>
  ((y2 = 0 →
  wX1_placeOf_b17 a0 x1 (-1)  T1 post) ∧ (¬ y2 = 0 →
  ∃ b3 : Nat, kp_R T1 204 a0 = some b3 ∧
  vp_in x1 (kp_N T1 b3) ∧
  wX1_placeOf_b17 a0 x1 (kp_A T1 b3 x1.toNatClampNeg)  T1 post)))
set_option maxHeartbeats 4000000 in
set_option maxRecDepth 100000 in
theorem c_X1_placeOf (l : Launch) (D : va_G) (cy : Nat → ClassId) (ad : (Nat → Nat) × (Nat → Nat)) (S : kp_S) (a0 : Nat) (x1 : Int32) (post : Int32 → kp_S → Prop) (hS : kp_ok S) (f_a0 : kp_is S a0 1) (hw : wX1_placeOf a0 x1 S post) : kp_M l yX1_placeOf cX1_placeOf 2 (some .int) { frames := 1, cells := 0, slots := 0, locals := 20 } D cy ad S [.ref a0, .int x1] 0 0 (fun A => kp_Qi D cy A S post) := by
  refine kp_start (own := RX1) (by decide) rfl (Nat.le_of_ble_eq_true rfl) hS ?_
  intro p e s m below meth c A ls X hr hlocks hname h hl
  have hle : kp_le S S := kp_le.rf
  have hl : lv_has ls 2 [(0, .ref a0), (1, .int x1)] := hl
  have j17 : ∀ (xt0 : Int32) (Sn : kp_S) (H : Heap) (locs : List Loc) (ls : Array Slot), lv_has ls 2 [] → kp_H D cy A Sn s.heap H locs → kp_le S Sn → kp_is Sn a0 1 → wX1_placeOf_b17 a0 x1 xt0  Sn post → W p l e { frames := 1, cells := 0, slots := 0, locals := 20 } s m ([.ref a0, .int x1] : List Value).toArray below meth c H locs 0 0 (MQ below (kp_Qi D cy A S post) ([.ref a0, .int x1] : List Value).toArray s 0 0 A) (F0 m 17 ls [.int xt0]) := by
    intro xt0 Sn H locs ls hl h hle f_a0 hw
    unfold wX1_placeOf_b17 at hw
    exact kp_reti X hr hlocks h hle rfl hw dX1_placeOf_17
  unfold wX1_placeOf at hw
  have h : kp_H D cy A S s.heap s.heap [] := h
  revert h
  intro h
  refine lv_iload_n X.1 X.2.1 dX1_placeOf_0 rfl (lv_at hl 1 rfl) ?_
  refine kp_calli X h (kp_runS (rm := { frames := 0, cells := 0, slots := 0, locals := 0 }) (mc := 0) (ms := 0) (rest := []) (Qc := fun A => kp_Qi D cy A S _) X h (c_X1_isShip l D cy ad S x1 _ h.2.2.2  hw) cs_1_39 ⟨by decide, by decide, rfl, rfl, by decide, by decide⟩ rfl hl.1 rfl (by decide) dX1_placeOf_1) (fun y2 T1 hw l_T1 H locs h => ?_)
  have f_a0 := l_T1.is f_a0
  have hle := hle.tr l_T1
  refine lv_if_eq (tgt := 16) X.1 X.2.1 dX1_placeOf_4 (by decide) (fun c4 => ?_) (fun c4 => ?_)
  · have hw := hw.1 c4
    refine lv_iconst (v := (-1)) X.1 X.2.1 dX1_placeOf_16 (by decide) ?_
    exact j17 (-1) T1 _ _ ls (lv_sub hl [] rfl) h hle f_a0 hw
  · have hw := hw.2 c4
    refine lv_aload_n X.1 X.2.1 dX1_placeOf_7 rfl (lv_at hl 0 rfl) ?_
    obtain ⟨b3, e_b3, hw⟩ := hw
    have f_b3 := h.2.2.2.rf (c := 1) (k := 4) f_a0 (by decide) (by decide) e_b3 (t := 14) rfl
    refine kp_get X h f_a0 ff_1_24.l (v := .ref b3) (congrArg va_rf e_b3) dX1_placeOf_8 ?_
    refine lv_iload_n X.1 X.2.1 dX1_placeOf_11 rfl (lv_at hl 1 rfl) ?_
    obtain ⟨hi, hw⟩ := hw
    refine kp_iald X h f_b3 hi dX1_placeOf_12 ?_
    refine lv_goto (tgt := 17) X.1 X.2.1 dX1_placeOf_13 (by decide) ?_
    exact j17 (kp_A T1 b3 x1.toNatClampNeg) T1 _ _ ls (lv_sub hl [] rfl) h hle f_a0 hw
theorem dX1_allWater_0 : decode cX1_allWater 0 = .ok (.iconst 0, 1) := by decide +kernel
theorem dX1_allWater_1 : decode cX1_allWater 1 = .ok (.istore_n 1, 1) := by decide +kernel
theorem dX1_allWater_2 : decode cX1_allWater 2 = .ok (.iconst 0, 1) := by decide +kernel
theorem dX1_allWater_3 : decode cX1_allWater 3 = .ok (.istore_n 2, 1) := by decide +kernel
theorem dX1_allWater_4 : decode cX1_allWater 4 = .ok (.iload_n 2, 1) := by decide +kernel
theorem dX1_allWater_5 : decode cX1_allWater 5 = .ok (.bipush 6, 2) := by decide +kernel
theorem dX1_allWater_7 : decode cX1_allWater 7 = .ok (.if_icmp .ge 18, 3) := by decide +kernel
theorem dX1_allWater_10 : decode cX1_allWater 10 = .ok (.iload_n 1, 1) := by decide +kernel
theorem dX1_allWater_11 : decode cX1_allWater 11 = .ok (.aload_n 0, 1) := by decide +kernel
theorem dX1_allWater_12 : decode cX1_allWater 12 = .ok (.getfield 11, 3) := by decide +kernel
theorem dX1_allWater_15 : decode cX1_allWater 15 = .ok (.iload_n 2, 1) := by decide +kernel
theorem dX1_allWater_16 : decode cX1_allWater 16 = .ok (.iaload, 1) := by decide +kernel
theorem dX1_allWater_17 : decode cX1_allWater 17 = .ok (.iadd, 1) := by decide +kernel
theorem dX1_allWater_18 : decode cX1_allWater 18 = .ok (.istore_n 1, 1) := by decide +kernel
theorem dX1_allWater_19 : decode cX1_allWater 19 = .ok (.iinc 2 1, 3) := by decide +kernel
theorem dX1_allWater_22 : decode cX1_allWater 22 = .ok (.goto (-18), 3) := by decide +kernel
theorem dX1_allWater_25 : decode cX1_allWater 25 = .ok (.iconst 0, 1) := by decide +kernel
theorem dX1_allWater_26 : decode cX1_allWater 26 = .ok (.istore_n 2, 1) := by decide +kernel
theorem dX1_allWater_27 : decode cX1_allWater 27 = .ok (.iload_n 2, 1) := by decide +kernel
theorem dX1_allWater_28 : decode cX1_allWater 28 = .ok (.bipush 7, 2) := by decide +kernel
theorem dX1_allWater_30 : decode cX1_allWater 30 = .ok (.if_icmp .ge 18, 3) := by decide +kernel
theorem dX1_allWater_33 : decode cX1_allWater 33 = .ok (.iload_n 1, 1) := by decide +kernel
theorem dX1_allWater_34 : decode cX1_allWater 34 = .ok (.aload_n 0, 1) := by decide +kernel
theorem dX1_allWater_35 : decode cX1_allWater 35 = .ok (.getfield 15, 3) := by decide +kernel
theorem dX1_allWater_38 : decode cX1_allWater 38 = .ok (.iload_n 2, 1) := by decide +kernel
theorem dX1_allWater_39 : decode cX1_allWater 39 = .ok (.iaload, 1) := by decide +kernel
theorem dX1_allWater_40 : decode cX1_allWater 40 = .ok (.iadd, 1) := by decide +kernel
theorem dX1_allWater_41 : decode cX1_allWater 41 = .ok (.istore_n 1, 1) := by decide +kernel
theorem dX1_allWater_42 : decode cX1_allWater 42 = .ok (.iinc 2 1, 3) := by decide +kernel
theorem dX1_allWater_45 : decode cX1_allWater 45 = .ok (.goto (-18), 3) := by decide +kernel
theorem dX1_allWater_48 : decode cX1_allWater 48 = .ok (.iload_n 1, 1) := by decide +kernel
theorem dX1_allWater_49 : decode cX1_allWater 49 = .ok (.ireturn, 1) := by decide +kernel
def wX1_allWater_L27 (a0 : Nat)  (post : Int32 → kp_S → Prop) : Nat → Int32 → Int32 → kp_S → Prop
  | 0, _, _, _ => False
  | n + 1, xn1, xn2, Sn =>
  ((7 ≤ xn2 →
  post xn1 Sn) ∧ (¬ 7 ≤ xn2 →
  ∃ b1001 : Nat, kp_R Sn 201 a0 = some b1001 ∧
  vp_in xn2 (kp_N Sn b1001) ∧
  ∀ y1002 : Int32, y1002 = xn1 + (kp_A Sn b1001 xn2.toNatClampNeg) →
  ∀ y1003 : Int32, y1003 = xn2 + 1 →
  wX1_allWater_L27 a0  post n y1002 y1003 Sn))
def wX1_allWater_L4 (a0 : Nat)  (post : Int32 → kp_S → Prop) : Nat → Int32 → Int32 → kp_S → Prop
  | 0, _, _, _ => False
  | n + 1, xn1, xn2, Sn =>
  ((6 ≤ xn2 →
  ∃ n0 : Nat, wX1_allWater_L27 a0  post n0 xn1 0 Sn) ∧ (¬ 6 ≤ xn2 →
  ∃ b2001 : Nat, kp_R Sn 200 a0 = some b2001 ∧
  vp_in xn2 (kp_N Sn b2001) ∧
  ∀ y2002 : Int32, y2002 = xn1 + (kp_A Sn b2001 xn2.toNatClampNeg) →
  ∀ y2003 : Int32, y2003 = xn2 + 1 →
  wX1_allWater_L4 a0  post n y2002 y2003 Sn))
def wX1_allWater (a0 : Nat) (S : kp_S) (post : Int32 → kp_S → Prop) : Prop :=
  ∃ n0 : Nat, wX1_allWater_L4 a0  post n0 0 0 S
set_option maxHeartbeats 4000000 in
set_option maxRecDepth 100000 in
theorem c_X1_allWater (l : Launch) (D : va_G) (cy : Nat → ClassId) (ad : (Nat → Nat) × (Nat → Nat)) (S : kp_S) (a0 : Nat) (post : Int32 → kp_S → Prop) (hS : kp_ok S) (f_a0 : kp_is S a0 1) (hw : wX1_allWater a0 S post) : kp_M l yX1_allWater cX1_allWater 3 (some .int) { frames := 0, cells := 0, slots := 0, locals := 0 } D cy ad S [.ref a0] 0 0 (fun A => kp_Qi D cy A S post) := by
  refine kp_start (own := RX1) (by decide) rfl (Nat.le_of_ble_eq_true rfl) hS ?_
  intro p e s m below meth c A ls X hr hlocks hname h hl
  have hle : kp_le S S := kp_le.rf
  have hl : lv_has ls 3 [(0, .ref a0)] := hl
  have L27 : ∀ n27 : Nat, ∀ (xn1 : Int32) (xn2 : Int32) (Sn : kp_S) (H : Heap) (locs : List Loc) (ls : Array Slot), lv_has ls 3 [(0, .ref a0), (1, .int xn1), (2, .int xn2)] → kp_H D cy A Sn s.heap H locs → kp_le S Sn → kp_is Sn a0 1 → wX1_allWater_L27 a0  post n27 xn1 xn2 Sn → W p l e { frames := 0, cells := 0, slots := 0, locals := 0 } s m ([.ref a0] : List Value).toArray below meth c H locs 0 0 (MQ below (kp_Qi D cy A S post) ([.ref a0] : List Value).toArray s 0 0 A) (F0 m 27 ls []) := by
    intro n27
    induction n27 with
    | zero => intro xn1 xn2 Sn H locs ls hl h hle f_a0 hw; exact hw.elim
    | succ n27 ih27 =>
      intro xn1 xn2 Sn H locs ls hl h hle f_a0 hw
      unfold wX1_allWater_L27 at hw
      refine lv_iload_n X.1 X.2.1 dX1_allWater_27 rfl (lv_at hl 2 rfl) ?_
      refine lv_bipush (v := 7) X.1 X.2.1 dX1_allWater_28 (by decide) ?_
      refine lv_icmp_ge (tgt := 48) X.1 X.2.1 dX1_allWater_30 (by decide) (fun c1004 => ?_) (fun c1004 => ?_)
      · have hw := hw.1 c1004
        refine lv_iload_n X.1 X.2.1 dX1_allWater_48 rfl (lv_at hl 1 rfl) ?_
        exact kp_reti X hr hlocks h hle rfl hw dX1_allWater_49
      · have hw := hw.2 c1004
        refine lv_iload_n X.1 X.2.1 dX1_allWater_33 rfl (lv_at hl 1 rfl) ?_
        refine lv_aload_n X.1 X.2.1 dX1_allWater_34 rfl (lv_at hl 0 rfl) ?_
        obtain ⟨b1001, e_b1001, hw⟩ := hw
        have f_b1001 := h.2.2.2.rf (c := 1) (k := 1) f_a0 (by decide) (by decide) e_b1001 (t := 14) rfl
        refine kp_get X h f_a0 ff_1_15.l (v := .ref b1001) (congrArg va_rf e_b1001) dX1_allWater_35 ?_
        refine lv_iload_n X.1 X.2.1 dX1_allWater_38 rfl (lv_at hl 2 rfl) ?_
        obtain ⟨hi, hw⟩ := hw
        refine kp_iald X h f_b1001 hi dX1_allWater_39 ?_
        refine lv_iadd X.1 X.2.1 dX1_allWater_40 ?_
        refine lv_topi (fun y1002 e_y1002 => ?_)
        have hw := hw y1002 e_y1002
        refine lv_istore_n (lv' := [(1, .int y1002), (0, .ref a0), (2, .int xn2)]) X.1 X.2.1 dX1_allWater_41 rfl hl (by decide) rfl (fun ls hl => ?_)
        obtain ⟨y1003, e_y1003⟩ : ∃ y : Int32, y = xn2 + 1 := ⟨_, rfl⟩
        have hw := hw y1003 e_y1003
        refine lv_iinc (v := y1003) (lv' := [(2, .int y1003), (1, .int y1002), (0, .ref a0)]) X.1 X.2.1 dX1_allWater_42 hl (k := 2) rfl (by rw [e_y1003]; rfl) (by decide) rfl (fun ls hl => ?_)
        refine lv_goto (tgt := 27) X.1 X.2.1 dX1_allWater_45 (by decide) ?_
        exact ih27 y1002 y1003 Sn H locs ls (lv_sub hl [2, 1, 0] rfl) h hle f_a0 hw
  have L4 : ∀ n4 : Nat, ∀ (xn1 : Int32) (xn2 : Int32) (Sn : kp_S) (H : Heap) (locs : List Loc) (ls : Array Slot), lv_has ls 3 [(0, .ref a0), (1, .int xn1), (2, .int xn2)] → kp_H D cy A Sn s.heap H locs → kp_le S Sn → kp_is Sn a0 1 → wX1_allWater_L4 a0  post n4 xn1 xn2 Sn → W p l e { frames := 0, cells := 0, slots := 0, locals := 0 } s m ([.ref a0] : List Value).toArray below meth c H locs 0 0 (MQ below (kp_Qi D cy A S post) ([.ref a0] : List Value).toArray s 0 0 A) (F0 m 4 ls []) := by
    intro n4
    induction n4 with
    | zero => intro xn1 xn2 Sn H locs ls hl h hle f_a0 hw; exact hw.elim
    | succ n4 ih4 =>
      intro xn1 xn2 Sn H locs ls hl h hle f_a0 hw
      unfold wX1_allWater_L4 at hw
      refine lv_iload_n X.1 X.2.1 dX1_allWater_4 rfl (lv_at hl 2 rfl) ?_
      refine lv_bipush (v := 6) X.1 X.2.1 dX1_allWater_5 (by decide) ?_
      refine lv_icmp_ge (tgt := 25) X.1 X.2.1 dX1_allWater_7 (by decide) (fun c2004 => ?_) (fun c2004 => ?_)
      · have hw := hw.1 c2004
        refine lv_iconst (v := 0) X.1 X.2.1 dX1_allWater_25 (by decide) ?_
        refine lv_istore_n (lv' := [(2, .int 0), (0, .ref a0), (1, .int xn1)]) X.1 X.2.1 dX1_allWater_26 rfl hl (by decide) rfl (fun ls hl => ?_)
        obtain ⟨n0, hw⟩ := hw
        exact L27 n0 xn1 0 Sn H locs ls (lv_sub hl [1, 2, 0] rfl) h hle f_a0 hw
      · have hw := hw.2 c2004
        refine lv_iload_n X.1 X.2.1 dX1_allWater_10 rfl (lv_at hl 1 rfl) ?_
        refine lv_aload_n X.1 X.2.1 dX1_allWater_11 rfl (lv_at hl 0 rfl) ?_
        obtain ⟨b2001, e_b2001, hw⟩ := hw
        have f_b2001 := h.2.2.2.rf (c := 1) (k := 0) f_a0 (by decide) (by decide) e_b2001 (t := 14) rfl
        refine kp_get X h f_a0 ff_1_11.l (v := .ref b2001) (congrArg va_rf e_b2001) dX1_allWater_12 ?_
        refine lv_iload_n X.1 X.2.1 dX1_allWater_15 rfl (lv_at hl 2 rfl) ?_
        obtain ⟨hi, hw⟩ := hw
        refine kp_iald X h f_b2001 hi dX1_allWater_16 ?_
        refine lv_iadd X.1 X.2.1 dX1_allWater_17 ?_
        refine lv_topi (fun y2002 e_y2002 => ?_)
        have hw := hw y2002 e_y2002
        refine lv_istore_n (lv' := [(1, .int y2002), (0, .ref a0), (2, .int xn2)]) X.1 X.2.1 dX1_allWater_18 rfl hl (by decide) rfl (fun ls hl => ?_)
        obtain ⟨y2003, e_y2003⟩ : ∃ y : Int32, y = xn2 + 1 := ⟨_, rfl⟩
        have hw := hw y2003 e_y2003
        refine lv_iinc (v := y2003) (lv' := [(2, .int y2003), (1, .int y2002), (0, .ref a0)]) X.1 X.2.1 dX1_allWater_19 hl (k := 2) rfl (by rw [e_y2003]; rfl) (by decide) rfl (fun ls hl => ?_)
        refine lv_goto (tgt := 4) X.1 X.2.1 dX1_allWater_22 (by decide) ?_
        exact ih4 y2002 y2003 Sn H locs ls (lv_sub hl [2, 1, 0] rfl) h hle f_a0 hw
  unfold wX1_allWater at hw
  have h : kp_H D cy A S s.heap s.heap [] := h
  revert h
  intro h
  refine lv_iconst (v := 0) X.1 X.2.1 dX1_allWater_0 (by decide) ?_
  refine lv_istore_n (lv' := [(1, .int 0), (0, .ref a0)]) X.1 X.2.1 dX1_allWater_1 rfl hl (by decide) rfl (fun ls hl => ?_)
  refine lv_iconst (v := 0) X.1 X.2.1 dX1_allWater_2 (by decide) ?_
  refine lv_istore_n (lv' := [(2, .int 0), (1, .int 0), (0, .ref a0)]) X.1 X.2.1 dX1_allWater_3 rfl hl (by decide) rfl (fun ls hl => ?_)
  obtain ⟨n0, hw⟩ := hw
  exact L4 n0 0 0 S _ _ ls (lv_sub hl [2, 1, 0] rfl) h hle f_a0 hw
theorem dX1_fact_0 : decode cX1_fact 0 = .ok (.iload_n 1, 1) := by decide +kernel
theorem dX1_fact_1 : decode cX1_fact 1 = .ok (.tableswitch 98 0 6 #[43, 49, 56, 63, 69, 87, 93], 43) := by decide +kernel
theorem dX1_fact_44 : decode cX1_fact 44 = .ok (.aload_n 0, 1) := by decide +kernel
theorem dX1_fact_45 : decode cX1_fact 45 = .ok (.iload_n 2, 1) := by decide +kernel
theorem dX1_fact_46 : decode cX1_fact 46 = .ok (.invokevirtual 46, 3) := by decide +kernel
theorem dX1_fact_49 : decode cX1_fact 49 = .ok (.ireturn, 1) := by decide +kernel
theorem dX1_fact_50 : decode cX1_fact 50 = .ok (.aload_n 0, 1) := by decide +kernel
theorem dX1_fact_51 : decode cX1_fact 51 = .ok (.iload_n 2, 1) := by decide +kernel
theorem dX1_fact_52 : decode cX1_fact 52 = .ok (.iconst 0, 1) := by decide +kernel
theorem dX1_fact_53 : decode cX1_fact 53 = .ok (.invokevirtual 35, 3) := by decide +kernel
theorem dX1_fact_56 : decode cX1_fact 56 = .ok (.ireturn, 1) := by decide +kernel
theorem dX1_fact_57 : decode cX1_fact 57 = .ok (.aload_n 0, 1) := by decide +kernel
theorem dX1_fact_58 : decode cX1_fact 58 = .ok (.iload_n 2, 1) := by decide +kernel
theorem dX1_fact_59 : decode cX1_fact 59 = .ok (.iconst 1, 1) := by decide +kernel
theorem dX1_fact_60 : decode cX1_fact 60 = .ok (.invokevirtual 35, 3) := by decide +kernel
theorem dX1_fact_63 : decode cX1_fact 63 = .ok (.ireturn, 1) := by decide +kernel
theorem dX1_fact_64 : decode cX1_fact 64 = .ok (.aload_n 0, 1) := by decide +kernel
theorem dX1_fact_65 : decode cX1_fact 65 = .ok (.iload_n 2, 1) := by decide +kernel
theorem dX1_fact_66 : decode cX1_fact 66 = .ok (.invokevirtual 50, 3) := by decide +kernel
theorem dX1_fact_69 : decode cX1_fact 69 = .ok (.ireturn, 1) := by decide +kernel
theorem dX1_fact_70 : decode cX1_fact 70 = .ok (.iload_n 2, 1) := by decide +kernel
theorem dX1_fact_71 : decode cX1_fact 71 = .ok (.invokestatic 27, 3) := by decide +kernel
theorem dX1_fact_74 : decode cX1_fact 74 = .ok (.ifCond .eq 12, 3) := by decide +kernel
theorem dX1_fact_77 : decode cX1_fact 77 = .ok (.aload_n 0, 1) := by decide +kernel
theorem dX1_fact_78 : decode cX1_fact 78 = .ok (.getfield 15, 3) := by decide +kernel
theorem dX1_fact_81 : decode cX1_fact 81 = .ok (.iload_n 2, 1) := by decide +kernel
theorem dX1_fact_82 : decode cX1_fact 82 = .ok (.iaload, 1) := by decide +kernel
theorem dX1_fact_83 : decode cX1_fact 83 = .ok (.goto 4, 3) := by decide +kernel
theorem dX1_fact_86 : decode cX1_fact 86 = .ok (.iconst (-1), 1) := by decide +kernel
theorem dX1_fact_87 : decode cX1_fact 87 = .ok (.ireturn, 1) := by decide +kernel
theorem dX1_fact_88 : decode cX1_fact 88 = .ok (.aload_n 0, 1) := by decide +kernel
theorem dX1_fact_89 : decode cX1_fact 89 = .ok (.iload_n 2, 1) := by decide +kernel
theorem dX1_fact_90 : decode cX1_fact 90 = .ok (.invokevirtual 53, 3) := by decide +kernel
theorem dX1_fact_93 : decode cX1_fact 93 = .ok (.ireturn, 1) := by decide +kernel
theorem dX1_fact_94 : decode cX1_fact 94 = .ok (.aload_n 0, 1) := by decide +kernel
theorem dX1_fact_95 : decode cX1_fact 95 = .ok (.invokevirtual 56, 3) := by decide +kernel
theorem dX1_fact_98 : decode cX1_fact 98 = .ok (.ireturn, 1) := by decide +kernel
theorem dX1_fact_99 : decode cX1_fact 99 = .ok (.iconst (-1), 1) := by decide +kernel
theorem dX1_fact_100 : decode cX1_fact 100 = .ok (.ireturn, 1) := by decide +kernel
def wX1_fact_b87 (a0 : Nat) (x1 : Int32) (x2 : Int32) (xt0 : Int32)  (Sn : kp_S) (post : Int32 → kp_S → Prop) : Prop :=
  post xt0 Sn
def wX1_fact (a0 : Nat) (x1 : Int32) (x2 : Int32) (S : kp_S) (post : Int32 → kp_S → Prop) : Prop :=
  ((x1 = 0 →
  wX1_levelOf a0 x2 S (fun y3 T2 =>
  post y3 T2)) ∧ (¬ x1 = 0 →
  ((x1 = 1 →
  wX1_gateOf a0 x2 0 S (fun y6 T5 =>
  post y6 T5)) ∧ (¬ x1 = 1 →
  ((x1 = 2 →
  wX1_gateOf a0 x2 1 S (fun y9 T8 =>
  post y9 T8)) ∧ (¬ x1 = 2 →
  ((x1 = 3 →
  wX1_holdsOf a0 x2 S (fun y12 T11 =>
  post y12 T11)) ∧ (¬ x1 = 3 →
  ((x1 = 4 →
  wX1_isReach x2 S (fun y15 T14 =>
  ((y15 = 0 →
  wX1_fact_b87 a0 x1 x2 (-1)  T14 post) ∧ (¬ y15 = 0 →
  ∃ b16 : Nat, kp_R T14 201 a0 = some b16 ∧
  vp_in x2 (kp_N T14 b16) ∧
  wX1_fact_b87 a0 x1 x2 (kp_A T14 b16 x2.toNatClampNeg)  T14 post)))) ∧ (¬ x1 = 4 →
  ((x1 = 5 →
  wX1_placeOf a0 x2 S (fun y20 T19 =>
  post y20 T19)) ∧ (¬ x1 = 5 →
  ((x1 = 6 →
  wX1_allWater a0 S (fun y23 T22 =>
  post y23 T22)) ∧ (¬ x1 = 6 →
  post (-1) S))))))))))))))
set_option maxHeartbeats 4000000 in
set_option maxRecDepth 100000 in
theorem c_X1_fact (l : Launch) (D : va_G) (cy : Nat → ClassId) (ad : (Nat → Nat) × (Nat → Nat)) (S : kp_S) (a0 : Nat) (x1 : Int32) (x2 : Int32) (post : Int32 → kp_S → Prop) (hS : kp_ok S) (f_a0 : kp_is S a0 1) (hw : wX1_fact a0 x1 x2 S post) : kp_M l yX1_fact cX1_fact 3 (some .int) { frames := 2, cells := 0, slots := 0, locals := 43 } D cy ad S [.ref a0, .int x1, .int x2] 0 0 (fun A => kp_Qi D cy A S post) := by
  refine kp_start (own := RX1) (by decide) rfl (Nat.le_of_ble_eq_true rfl) hS ?_
  intro p e s m below meth c A ls X hr hlocks hname h hl
  have hle : kp_le S S := kp_le.rf
  have hl : lv_has ls 3 [(0, .ref a0), (1, .int x1), (2, .int x2)] := hl
  have j87 : ∀ (xt0 : Int32) (Sn : kp_S) (H : Heap) (locs : List Loc) (ls : Array Slot), lv_has ls 3 [] → kp_H D cy A Sn s.heap H locs → kp_le S Sn → kp_is Sn a0 1 → wX1_fact_b87 a0 x1 x2 xt0  Sn post → W p l e { frames := 2, cells := 0, slots := 0, locals := 43 } s m ([.ref a0, .int x1, .int x2] : List Value).toArray below meth c H locs 0 0 (MQ below (kp_Qi D cy A S post) ([.ref a0, .int x1, .int x2] : List Value).toArray s 0 0 A) (F0 m 87 ls [.int xt0]) := by
    intro xt0 Sn H locs ls hl h hle f_a0 hw
    unfold wX1_fact_b87 at hw
    exact kp_reti X hr hlocks h hle rfl hw dX1_fact_87
  unfold wX1_fact at hw
  have h : kp_H D cy A S s.heap s.heap [] := h
  revert h
  intro h
  refine lv_iload_n X.1 X.2.1 dX1_fact_0 rfl (lv_at hl 1 rfl) ?_
  by_cases c1 : x1 = 0
  · have hw := hw.1 c1
    refine lv_tableIn (off := 43) (tgt := 44) X.1 X.2.1 dX1_fact_1 (by rw [c1]; decide) (by rw [c1]; decide) (by rw [c1]; decide) (by decide) ?_
    refine lv_aload_n X.1 X.2.1 dX1_fact_44 rfl (lv_at hl 0 rfl) ?_
    refine lv_iload_n X.1 X.2.1 dX1_fact_45 rfl (lv_at hl 2 rfl) ?_
    refine kp_calli X h (kp_runV (rm := { frames := 1, cells := 0, slots := 0, locals := 20 }) (mc := 0) (ms := 0) (rest := []) (Qc := fun A => kp_Qi D cy A S _) X h (c_X1_levelOf l D cy ad S a0 x2 _ h.2.2.2 f_a0 hw) f_a0 cv_1_46 ⟨by decide, by decide, rfl, rfl, by decide, by decide⟩ rfl hl.1 rfl (by decide) dX1_fact_46) (fun y3 T2 hw l_T2 H locs h => ?_)
    have f_a0 := l_T2.is f_a0
    have hle := hle.tr l_T2
    exact kp_reti X hr hlocks h hle rfl hw dX1_fact_49
  have hw := hw.2 c1
  by_cases c4 : x1 = 1
  · have hw := hw.1 c4
    refine lv_tableIn (off := 49) (tgt := 50) X.1 X.2.1 dX1_fact_1 (by rw [c4]; decide) (by rw [c4]; decide) (by rw [c4]; decide) (by decide) ?_
    refine lv_aload_n X.1 X.2.1 dX1_fact_50 rfl (lv_at hl 0 rfl) ?_
    refine lv_iload_n X.1 X.2.1 dX1_fact_51 rfl (lv_at hl 2 rfl) ?_
    refine lv_iconst (v := 0) X.1 X.2.1 dX1_fact_52 (by decide) ?_
    refine kp_calli X h (kp_runV (rm := { frames := 1, cells := 0, slots := 0, locals := 21 }) (mc := 0) (ms := 0) (rest := []) (Qc := fun A => kp_Qi D cy A S _) X h (c_X1_gateOf l D cy ad S a0 x2 0 _ h.2.2.2 f_a0 hw) f_a0 cv_1_35 ⟨by decide, by decide, rfl, rfl, by decide, by decide⟩ rfl hl.1 rfl (by decide) dX1_fact_53) (fun y6 T5 hw l_T5 H locs h => ?_)
    have f_a0 := l_T5.is f_a0
    have hle := hle.tr l_T5
    exact kp_reti X hr hlocks h hle rfl hw dX1_fact_56
  have hw := hw.2 c4
  by_cases c7 : x1 = 2
  · have hw := hw.1 c7
    refine lv_tableIn (off := 56) (tgt := 57) X.1 X.2.1 dX1_fact_1 (by rw [c7]; decide) (by rw [c7]; decide) (by rw [c7]; decide) (by decide) ?_
    refine lv_aload_n X.1 X.2.1 dX1_fact_57 rfl (lv_at hl 0 rfl) ?_
    refine lv_iload_n X.1 X.2.1 dX1_fact_58 rfl (lv_at hl 2 rfl) ?_
    refine lv_iconst (v := 1) X.1 X.2.1 dX1_fact_59 (by decide) ?_
    refine kp_calli X h (kp_runV (rm := { frames := 1, cells := 0, slots := 0, locals := 21 }) (mc := 0) (ms := 0) (rest := []) (Qc := fun A => kp_Qi D cy A S _) X h (c_X1_gateOf l D cy ad S a0 x2 1 _ h.2.2.2 f_a0 hw) f_a0 cv_1_35 ⟨by decide, by decide, rfl, rfl, by decide, by decide⟩ rfl hl.1 rfl (by decide) dX1_fact_60) (fun y9 T8 hw l_T8 H locs h => ?_)
    have f_a0 := l_T8.is f_a0
    have hle := hle.tr l_T8
    exact kp_reti X hr hlocks h hle rfl hw dX1_fact_63
  have hw := hw.2 c7
  by_cases c10 : x1 = 3
  · have hw := hw.1 c10
    refine lv_tableIn (off := 63) (tgt := 64) X.1 X.2.1 dX1_fact_1 (by rw [c10]; decide) (by rw [c10]; decide) (by rw [c10]; decide) (by decide) ?_
    refine lv_aload_n X.1 X.2.1 dX1_fact_64 rfl (lv_at hl 0 rfl) ?_
    refine lv_iload_n X.1 X.2.1 dX1_fact_65 rfl (lv_at hl 2 rfl) ?_
    refine kp_calli X h (kp_runV (rm := { frames := 1, cells := 0, slots := 0, locals := 20 }) (mc := 0) (ms := 0) (rest := []) (Qc := fun A => kp_Qi D cy A S _) X h (c_X1_holdsOf l D cy ad S a0 x2 _ h.2.2.2 f_a0 hw) f_a0 cv_1_50 ⟨by decide, by decide, rfl, rfl, by decide, by decide⟩ rfl hl.1 rfl (by decide) dX1_fact_66) (fun y12 T11 hw l_T11 H locs h => ?_)
    have f_a0 := l_T11.is f_a0
    have hle := hle.tr l_T11
    exact kp_reti X hr hlocks h hle rfl hw dX1_fact_69
  have hw := hw.2 c10
  by_cases c13 : x1 = 4
  · have hw := hw.1 c13
    refine lv_tableIn (off := 69) (tgt := 70) X.1 X.2.1 dX1_fact_1 (by rw [c13]; decide) (by rw [c13]; decide) (by rw [c13]; decide) (by decide) ?_
    refine lv_iload_n X.1 X.2.1 dX1_fact_70 rfl (lv_at hl 2 rfl) ?_
    refine kp_calli X h (kp_runS (rm := { frames := 0, cells := 0, slots := 0, locals := 0 }) (mc := 0) (ms := 0) (rest := []) (Qc := fun A => kp_Qi D cy A S _) X h (c_X1_isReach l D cy ad S x2 _ h.2.2.2  hw) cs_1_27 ⟨by decide, by decide, rfl, rfl, by decide, by decide⟩ rfl hl.1 rfl (by decide) dX1_fact_71) (fun y15 T14 hw l_T14 H locs h => ?_)
    have f_a0 := l_T14.is f_a0
    have hle := hle.tr l_T14
    refine lv_if_eq (tgt := 86) X.1 X.2.1 dX1_fact_74 (by decide) (fun c17 => ?_) (fun c17 => ?_)
    · have hw := hw.1 c17
      refine lv_iconst (v := (-1)) X.1 X.2.1 dX1_fact_86 (by decide) ?_
      exact j87 (-1) T14 _ _ ls (lv_sub hl [] rfl) h hle f_a0 hw
    · have hw := hw.2 c17
      refine lv_aload_n X.1 X.2.1 dX1_fact_77 rfl (lv_at hl 0 rfl) ?_
      obtain ⟨b16, e_b16, hw⟩ := hw
      have f_b16 := h.2.2.2.rf (c := 1) (k := 1) f_a0 (by decide) (by decide) e_b16 (t := 14) rfl
      refine kp_get X h f_a0 ff_1_15.l (v := .ref b16) (congrArg va_rf e_b16) dX1_fact_78 ?_
      refine lv_iload_n X.1 X.2.1 dX1_fact_81 rfl (lv_at hl 2 rfl) ?_
      obtain ⟨hi, hw⟩ := hw
      refine kp_iald X h f_b16 hi dX1_fact_82 ?_
      refine lv_goto (tgt := 87) X.1 X.2.1 dX1_fact_83 (by decide) ?_
      exact j87 (kp_A T14 b16 x2.toNatClampNeg) T14 _ _ ls (lv_sub hl [] rfl) h hle f_a0 hw
  have hw := hw.2 c13
  by_cases c18 : x1 = 5
  · have hw := hw.1 c18
    refine lv_tableIn (off := 87) (tgt := 88) X.1 X.2.1 dX1_fact_1 (by rw [c18]; decide) (by rw [c18]; decide) (by rw [c18]; decide) (by decide) ?_
    refine lv_aload_n X.1 X.2.1 dX1_fact_88 rfl (lv_at hl 0 rfl) ?_
    refine lv_iload_n X.1 X.2.1 dX1_fact_89 rfl (lv_at hl 2 rfl) ?_
    refine kp_calli X h (kp_runV (rm := { frames := 1, cells := 0, slots := 0, locals := 20 }) (mc := 0) (ms := 0) (rest := []) (Qc := fun A => kp_Qi D cy A S _) X h (c_X1_placeOf l D cy ad S a0 x2 _ h.2.2.2 f_a0 hw) f_a0 cv_1_53 ⟨by decide, by decide, rfl, rfl, by decide, by decide⟩ rfl hl.1 rfl (by decide) dX1_fact_90) (fun y20 T19 hw l_T19 H locs h => ?_)
    have f_a0 := l_T19.is f_a0
    have hle := hle.tr l_T19
    exact kp_reti X hr hlocks h hle rfl hw dX1_fact_93
  have hw := hw.2 c18
  by_cases c21 : x1 = 6
  · have hw := hw.1 c21
    refine lv_tableIn (off := 93) (tgt := 94) X.1 X.2.1 dX1_fact_1 (by rw [c21]; decide) (by rw [c21]; decide) (by rw [c21]; decide) (by decide) ?_
    refine lv_aload_n X.1 X.2.1 dX1_fact_94 rfl (lv_at hl 0 rfl) ?_
    refine kp_calli X h (kp_runV (rm := { frames := 0, cells := 0, slots := 0, locals := 0 }) (mc := 0) (ms := 0) (rest := []) (Qc := fun A => kp_Qi D cy A S _) X h (c_X1_allWater l D cy ad S a0 _ h.2.2.2 f_a0 hw) f_a0 cv_1_56 ⟨by decide, by decide, rfl, rfl, by decide, by decide⟩ rfl hl.1 rfl (by decide) dX1_fact_95) (fun y23 T22 hw l_T22 H locs h => ?_)
    have f_a0 := l_T22.is f_a0
    have hle := hle.tr l_T22
    exact kp_reti X hr hlocks h hle rfl hw dX1_fact_98
  have hw := hw.2 c21
  have t_c1 := lv_neT (a := 0) c1 (by decide)
  have t_c4 := lv_neT (a := 1) c4 (by decide)
  have t_c7 := lv_neT (a := 2) c7 (by decide)
  have t_c10 := lv_neT (a := 3) c10 (by decide)
  have t_c13 := lv_neT (a := 4) c13 (by decide)
  have t_c18 := lv_neT (a := 5) c18 (by decide)
  have t_c21 := lv_neT (a := 6) c21 (by decide)
  refine lv_tableOut (tgt := 99) X.1 X.2.1 dX1_fact_1 (by omega) (by decide) ?_
  refine lv_iconst (v := (-1)) X.1 X.2.1 dX1_fact_99 (by decide) ?_
  exact kp_reti X hr hlocks h hle rfl hw dX1_fact_100
theorem dX1_addHold_0 : decode cX1_addHold 0 = .ok (.iload_n 1, 1) := by decide +kernel
theorem dX1_addHold_1 : decode cX1_addHold 1 = .ok (.invokestatic 32, 3) := by decide +kernel
theorem dX1_addHold_4 : decode cX1_addHold 4 = .ok (.ifCond .ne 5, 3) := by decide +kernel
theorem dX1_addHold_7 : decode cX1_addHold 7 = .ok (.iconst (-1), 1) := by decide +kernel
theorem dX1_addHold_8 : decode cX1_addHold 8 = .ok (.ireturn, 1) := by decide +kernel
theorem dX1_addHold_9 : decode cX1_addHold 9 = .ok (.aload_n 0, 1) := by decide +kernel
theorem dX1_addHold_10 : decode cX1_addHold 10 = .ok (.getfield 21, 3) := by decide +kernel
theorem dX1_addHold_13 : decode cX1_addHold 13 = .ok (.iload_n 1, 1) := by decide +kernel
theorem dX1_addHold_14 : decode cX1_addHold 14 = .ok (.dup2, 1) := by decide +kernel
theorem dX1_addHold_15 : decode cX1_addHold 15 = .ok (.iaload, 1) := by decide +kernel
theorem dX1_addHold_16 : decode cX1_addHold 16 = .ok (.iload_n 2, 1) := by decide +kernel
theorem dX1_addHold_17 : decode cX1_addHold 17 = .ok (.iadd, 1) := by decide +kernel
theorem dX1_addHold_18 : decode cX1_addHold 18 = .ok (.iastore, 1) := by decide +kernel
theorem dX1_addHold_19 : decode cX1_addHold 19 = .ok (.aload_n 0, 1) := by decide +kernel
theorem dX1_addHold_20 : decode cX1_addHold 20 = .ok (.getfield 21, 3) := by decide +kernel
theorem dX1_addHold_23 : decode cX1_addHold 23 = .ok (.iload_n 1, 1) := by decide +kernel
theorem dX1_addHold_24 : decode cX1_addHold 24 = .ok (.iaload, 1) := by decide +kernel
theorem dX1_addHold_25 : decode cX1_addHold 25 = .ok (.ireturn, 1) := by decide +kernel
def wX1_addHold (a0 : Nat) (x1 : Int32) (x2 : Int32) (S : kp_S) (post : Int32 → kp_S → Prop) : Prop :=
  wX1_isLock x1 S (fun y2 T1 =>
  ((¬ y2 = 0 →
  ∃ b3 : Nat, kp_R T1 203 a0 = some b3 ∧
  vp_in x1 (kp_N T1 b3) ∧
  vp_in x1 (kp_N T1 b3) ∧ ∀ T4 : kp_S, T4 = kp_sA T1 b3 (upd (kp_A T1 b3) (x1.toNatClampNeg) ((kp_A T1 b3 x1.toNatClampNeg) + x2)) →
  vp_in x1 (kp_N T4 b3) ∧
  post (kp_A T4 b3 x1.toNatClampNeg) T4) ∧ (y2 = 0 →
  post (-1) T1)))
set_option maxHeartbeats 4000000 in
set_option maxRecDepth 100000 in
theorem c_X1_addHold (l : Launch) (D : va_G) (cy : Nat → ClassId) (ad : (Nat → Nat) × (Nat → Nat)) (S : kp_S) (a0 : Nat) (x1 : Int32) (x2 : Int32) (post : Int32 → kp_S → Prop) (hS : kp_ok S) (f_a0 : kp_is S a0 1) (hw : wX1_addHold a0 x1 x2 S post) : kp_M l yX1_addHold cX1_addHold 3 (some .int) { frames := 1, cells := 0, slots := 0, locals := 20 } D cy ad S [.ref a0, .int x1, .int x2] 0 0 (fun A => kp_Qi D cy A S post) := by
  refine kp_start (own := RX1) (by decide) rfl (Nat.le_of_ble_eq_true rfl) hS ?_
  intro p e s m below meth c A ls X hr hlocks hname h hl
  have hle : kp_le S S := kp_le.rf
  have hl : lv_has ls 3 [(0, .ref a0), (1, .int x1), (2, .int x2)] := hl
  unfold wX1_addHold at hw
  have h : kp_H D cy A S s.heap s.heap [] := h
  revert h
  intro h
  refine lv_iload_n X.1 X.2.1 dX1_addHold_0 rfl (lv_at hl 1 rfl) ?_
  refine kp_calli X h (kp_runS (rm := { frames := 0, cells := 0, slots := 0, locals := 0 }) (mc := 0) (ms := 0) (rest := []) (Qc := fun A => kp_Qi D cy A S _) X h (c_X1_isLock l D cy ad S x1 _ h.2.2.2  hw) cs_1_32 ⟨by decide, by decide, rfl, rfl, by decide, by decide⟩ rfl hl.1 rfl (by decide) dX1_addHold_1) (fun y2 T1 hw l_T1 H locs h => ?_)
  have f_a0 := l_T1.is f_a0
  have hle := hle.tr l_T1
  refine lv_if_ne (tgt := 9) X.1 X.2.1 dX1_addHold_4 (by decide) (fun c5 => ?_) (fun c5 => ?_)
  · have hw := hw.1 c5
    refine lv_aload_n X.1 X.2.1 dX1_addHold_9 rfl (lv_at hl 0 rfl) ?_
    obtain ⟨b3, e_b3, hw⟩ := hw
    have f_b3 := h.2.2.2.rf (c := 1) (k := 3) f_a0 (by decide) (by decide) e_b3 (t := 14) rfl
    refine kp_get X h f_a0 ff_1_21.l (v := .ref b3) (congrArg va_rf e_b3) dX1_addHold_10 ?_
    refine lv_iload_n X.1 X.2.1 dX1_addHold_13 rfl (lv_at hl 1 rfl) ?_
    refine lv_dup2_11 X.1 X.2.1 dX1_addHold_14 rfl rfl ?_
    obtain ⟨hi, hw⟩ := hw
    refine kp_iald X h f_b3 hi dX1_addHold_15 ?_
    refine lv_iload_n X.1 X.2.1 dX1_addHold_16 rfl (lv_at hl 2 rfl) ?_
    refine lv_iadd X.1 X.2.1 dX1_addHold_17 ?_
    obtain ⟨hi, hw⟩ := hw
    refine kp_iast X h f_b3 hi dX1_addHold_18 (fun T4 e_T4 l_T4 H locs h => ?_)
    have hw := hw T4 e_T4
    have f_a0 := l_T4.is f_a0
    have f_b3 := l_T4.is f_b3
    have hle := hle.tr l_T4
    have e_b3 : kp_R T4 203 a0 = some b3 := by rw [e_T4]; exact e_b3
    refine lv_aload_n X.1 X.2.1 dX1_addHold_19 rfl (lv_at hl 0 rfl) ?_
    refine kp_get X h f_a0 ff_1_21.l (v := .ref b3) (congrArg va_rf e_b3) dX1_addHold_20 ?_
    refine lv_iload_n X.1 X.2.1 dX1_addHold_23 rfl (lv_at hl 1 rfl) ?_
    obtain ⟨hi, hw⟩ := hw
    refine kp_iald X h f_b3 hi dX1_addHold_24 ?_
    exact kp_reti X hr hlocks h hle rfl hw dX1_addHold_25
  · have hw := hw.2 c5
    refine lv_iconst (v := (-1)) X.1 X.2.1 dX1_addHold_7 (by decide) ?_
    exact kp_reti X hr hlocks h hle rfl hw dX1_addHold_8
theorem dX1_dropHolds_0 : decode cX1_dropHolds 0 = .ok (.iconst 0, 1) := by decide +kernel
theorem dX1_dropHolds_1 : decode cX1_dropHolds 1 = .ok (.istore_n 1, 1) := by decide +kernel
theorem dX1_dropHolds_2 : decode cX1_dropHolds 2 = .ok (.iload_n 1, 1) := by decide +kernel
theorem dX1_dropHolds_3 : decode cX1_dropHolds 3 = .ok (.bipush 6, 2) := by decide +kernel
theorem dX1_dropHolds_5 : decode cX1_dropHolds 5 = .ok (.if_icmp .ge 16, 3) := by decide +kernel
theorem dX1_dropHolds_8 : decode cX1_dropHolds 8 = .ok (.aload_n 0, 1) := by decide +kernel
theorem dX1_dropHolds_9 : decode cX1_dropHolds 9 = .ok (.getfield 21, 3) := by decide +kernel
theorem dX1_dropHolds_12 : decode cX1_dropHolds 12 = .ok (.iload_n 1, 1) := by decide +kernel
theorem dX1_dropHolds_13 : decode cX1_dropHolds 13 = .ok (.iconst 0, 1) := by decide +kernel
theorem dX1_dropHolds_14 : decode cX1_dropHolds 14 = .ok (.iastore, 1) := by decide +kernel
theorem dX1_dropHolds_15 : decode cX1_dropHolds 15 = .ok (.iinc 1 1, 3) := by decide +kernel
theorem dX1_dropHolds_18 : decode cX1_dropHolds 18 = .ok (.goto (-16), 3) := by decide +kernel
theorem dX1_dropHolds_21 : decode cX1_dropHolds 21 = .ok (.return_, 1) := by decide +kernel
def wX1_dropHolds_L2 (a0 : Nat)  (post : kp_S → Prop) : Nat → Int32 → kp_S → Prop
  | 0, _, _ => False
  | n + 1, xn1, Sn =>
  ((6 ≤ xn1 →
  post Sn) ∧ (¬ 6 ≤ xn1 →
  ∃ b1001 : Nat, kp_R Sn 203 a0 = some b1001 ∧
  vp_in xn1 (kp_N Sn b1001) ∧ ∀ T1002 : kp_S, T1002 = kp_sA Sn b1001 (upd (kp_A Sn b1001) (xn1.toNatClampNeg) 0) →
  ∀ y1003 : Int32, y1003 = xn1 + 1 →
  wX1_dropHolds_L2 a0  post n y1003 T1002))
def wX1_dropHolds (a0 : Nat) (S : kp_S) (post : kp_S → Prop) : Prop :=
  ∃ n0 : Nat, wX1_dropHolds_L2 a0  post n0 0 S
set_option maxHeartbeats 4000000 in
set_option maxRecDepth 100000 in
theorem c_X1_dropHolds (l : Launch) (D : va_G) (cy : Nat → ClassId) (ad : (Nat → Nat) × (Nat → Nat)) (S : kp_S) (a0 : Nat) (post : kp_S → Prop) (hS : kp_ok S) (f_a0 : kp_is S a0 1) (hw : wX1_dropHolds a0 S post) : kp_M l yX1_dropHolds cX1_dropHolds 2 none { frames := 0, cells := 0, slots := 0, locals := 0 } D cy ad S [.ref a0] 0 0 (fun A => kp_Qv D cy A S post) := by
  refine kp_start (own := RX1) (by decide) rfl (Nat.le_of_ble_eq_true rfl) hS ?_
  intro p e s m below meth c A ls X hr hlocks hname h hl
  have hle : kp_le S S := kp_le.rf
  have hl : lv_has ls 2 [(0, .ref a0)] := hl
  have L2 : ∀ n2 : Nat, ∀ (xn1 : Int32) (Sn : kp_S) (H : Heap) (locs : List Loc) (ls : Array Slot), lv_has ls 2 [(0, .ref a0), (1, .int xn1)] → kp_H D cy A Sn s.heap H locs → kp_le S Sn → kp_is Sn a0 1 → wX1_dropHolds_L2 a0  post n2 xn1 Sn → W p l e { frames := 0, cells := 0, slots := 0, locals := 0 } s m ([.ref a0] : List Value).toArray below meth c H locs 0 0 (MQ below (kp_Qv D cy A S post) ([.ref a0] : List Value).toArray s 0 0 A) (F0 m 2 ls []) := by
    intro n2
    induction n2 with
    | zero => intro xn1 Sn H locs ls hl h hle f_a0 hw; exact hw.elim
    | succ n2 ih2 =>
      intro xn1 Sn H locs ls hl h hle f_a0 hw
      unfold wX1_dropHolds_L2 at hw
      refine lv_iload_n X.1 X.2.1 dX1_dropHolds_2 rfl (lv_at hl 1 rfl) ?_
      refine lv_bipush (v := 6) X.1 X.2.1 dX1_dropHolds_3 (by decide) ?_
      refine lv_icmp_ge (tgt := 21) X.1 X.2.1 dX1_dropHolds_5 (by decide) (fun c1004 => ?_) (fun c1004 => ?_)
      · have hw := hw.1 c1004
        exact kp_retv X hr hlocks h hle hw dX1_dropHolds_21
      · have hw := hw.2 c1004
        refine lv_aload_n X.1 X.2.1 dX1_dropHolds_8 rfl (lv_at hl 0 rfl) ?_
        obtain ⟨b1001, e_b1001, hw⟩ := hw
        have f_b1001 := h.2.2.2.rf (c := 1) (k := 3) f_a0 (by decide) (by decide) e_b1001 (t := 14) rfl
        refine kp_get X h f_a0 ff_1_21.l (v := .ref b1001) (congrArg va_rf e_b1001) dX1_dropHolds_9 ?_
        refine lv_iload_n X.1 X.2.1 dX1_dropHolds_12 rfl (lv_at hl 1 rfl) ?_
        refine lv_iconst (v := 0) X.1 X.2.1 dX1_dropHolds_13 (by decide) ?_
        obtain ⟨hi, hw⟩ := hw
        refine kp_iast X h f_b1001 hi dX1_dropHolds_14 (fun T1002 e_T1002 l_T1002 H locs h => ?_)
        have hw := hw T1002 e_T1002
        have f_a0 := l_T1002.is f_a0
        have f_b1001 := l_T1002.is f_b1001
        have hle := hle.tr l_T1002
        have e_b1001 : kp_R T1002 203 a0 = some b1001 := by rw [e_T1002]; exact e_b1001
        obtain ⟨y1003, e_y1003⟩ : ∃ y : Int32, y = xn1 + 1 := ⟨_, rfl⟩
        have hw := hw y1003 e_y1003
        refine lv_iinc (v := y1003) (lv' := [(1, .int y1003), (0, .ref a0)]) X.1 X.2.1 dX1_dropHolds_15 hl (k := 1) rfl (by rw [e_y1003]; rfl) (by decide) rfl (fun ls hl => ?_)
        refine lv_goto (tgt := 2) X.1 X.2.1 dX1_dropHolds_18 (by decide) ?_
        exact ih2 y1003 T1002 H locs ls (lv_sub hl [1, 0] rfl) h hle f_a0 hw
  unfold wX1_dropHolds at hw
  have h : kp_H D cy A S s.heap s.heap [] := h
  revert h
  intro h
  refine lv_iconst (v := 0) X.1 X.2.1 dX1_dropHolds_0 (by decide) ?_
  refine lv_istore_n (lv' := [(1, .int 0), (0, .ref a0)]) X.1 X.2.1 dX1_dropHolds_1 rfl hl (by decide) rfl (fun ls hl => ?_)
  obtain ⟨n0, hw⟩ := hw
  exact L2 n0 0 S _ _ ls (lv_sub hl [1, 0] rfl) h hle f_a0 hw
