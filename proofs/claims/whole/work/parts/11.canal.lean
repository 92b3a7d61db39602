theorem cs_1_27 : kp_CS RX1 27 yX1_isReach cX1_isReach 1 (some .boolean) 1 := ⟨⟨kp_mem 1177 (by decide +kernel) (by decide +kernel), kp_mem 214 (by decide +kernel) (by decide +kernel), by decide +kernel⟩, kp_mem 1175 (by decide +kernel) (by decide +kernel), kp_mem 1176 (by decide +kernel) (by decide +kernel)⟩
theorem kc_1_31 : Cond.constant RX1 31 100000 ∈ kp_tb := kp_mem 1178 (by decide +kernel) (by decide +kernel)
set_option maxRecDepth 100000 in
theorem cl_1 : kp_CL 1 RX1 TX1 5 := ⟨rfl, by decide, rfl, by decide +kernel, tyX1_ok, nmX1⟩
theorem ff_1_15 : kp_FF RX1 15 1 1 := ⟨RX1, TX1, 5, cl_1, by decide, kp_mem 450 (by decide +kernel) (by decide +kernel), rfl, rfl⟩
theorem cs_1_60 : kp_CS RX1 60 yX1_isGate cX1_isGate 2 (some .boolean) 2 := ⟨⟨kp_mem 1196 (by decide +kernel) (by decide +kernel), kp_mem 214 (by decide +kernel) (by decide +kernel), by decide +kernel⟩, kp_mem 1194 (by decide +kernel) (by decide +kernel), kp_mem 1195 (by decide +kernel) (by decide +kernel)⟩
theorem ff_1_18 : kp_FF RX1 18 1 2 := ⟨RX1, TX1, 5, cl_1, by decide, kp_mem 451 (by decide +kernel) (by decide +kernel), rfl, rfl⟩
theorem cs_1_32 : kp_CS RX1 32 yX1_isLock cX1_isLock 1 (some .boolean) 1 := ⟨⟨kp_mem 1189 (by decide +kernel) (by decide +kernel), kp_mem 214 (by decide +kernel) (by decide +kernel), by decide +kernel⟩, kp_mem 1187 (by decide +kernel) (by decide +kernel), kp_mem 1188 (by decide +kernel) (by decide +kernel)⟩
theorem cv_1_35 : kp_CV RX1 35 yX1_gateOf cX1_gateOf 3 (some .int) 2 1 := ⟨⟨kp_mem 1193 (by decide +kernel) (by decide +kernel), kp_mem 214 (by decide +kernel) (by decide +kernel), by decide +kernel⟩, kp_mem 1190 (by decide +kernel) (by decide +kernel), kp_mem 1191 (by decide +kernel) (by decide +kernel), kp_mem 1192 (by decide +kernel) (by decide +kernel), by decide, TX1, 5, rfl⟩
theorem ff_1_11 : kp_FF RX1 11 1 0 := ⟨RX1, TX1, 5, cl_1, by decide, kp_mem 449 (by decide +kernel) (by decide +kernel), rfl, rfl⟩
theorem ff_1_24 : kp_FF RX1 24 1 4 := ⟨RX1, TX1, 5, cl_1, by decide, kp_mem 453 (by decide +kernel) (by decide +kernel), rfl, rfl⟩
theorem cs_1_39 : kp_CS RX1 39 yX1_isShip cX1_isShip 1 (some .boolean) 1 := ⟨⟨kp_mem 1207 (by decide +kernel) (by decide +kernel), kp_mem 214 (by decide +kernel) (by decide +kernel), by decide +kernel⟩, kp_mem 1205 (by decide +kernel) (by decide +kernel), kp_mem 1206 (by decide +kernel) (by decide +kernel)⟩
theorem cv_1_42 : kp_CV RX1 42 yX1_isTaken cX1_isTaken 4 (some .boolean) 2 1 := ⟨⟨kp_mem 1211 (by decide +kernel) (by decide +kernel), kp_mem 214 (by decide +kernel) (by decide +kernel), by decide +kernel⟩, kp_mem 1208 (by decide +kernel) (by decide +kernel), kp_mem 1210 (by decide +kernel) (by decide +kernel), kp_mem 57 (by decide +kernel) (by decide +kernel), by decide, TX1, 5, rfl⟩
theorem ff_1_21 : kp_FF RX1 21 1 3 := ⟨RX1, TX1, 5, cl_1, by decide, kp_mem 452 (by decide +kernel) (by decide +kernel), rfl, rfl⟩
theorem cv_1_46 : kp_CV RX1 46 yX1_levelOf cX1_levelOf 2 (some .int) 1 1 := ⟨⟨kp_mem 1239 (by decide +kernel) (by decide +kernel), kp_mem 214 (by decide +kernel) (by decide +kernel), by decide +kernel⟩, kp_mem 1236 (by decide +kernel) (by decide +kernel), kp_mem 1237 (by decide +kernel) (by decide +kernel), kp_mem 1238 (by decide +kernel) (by decide +kernel), by decide, TX1, 5, rfl⟩
theorem cv_1_50 : kp_CV RX1 50 yX1_holdsOf cX1_holdsOf 2 (some .int) 1 1 := ⟨⟨kp_mem 1243 (by decide +kernel) (by decide +kernel), kp_mem 214 (by decide +kernel) (by decide +kernel), by decide +kernel⟩, kp_mem 1240 (by decide +kernel) (by decide +kernel), kp_mem 1241 (by decide +kernel) (by decide +kernel), kp_mem 1242 (by decide +kernel) (by decide +kernel), by decide, TX1, 5, rfl⟩
theorem cv_1_53 : kp_CV RX1 53 yX1_placeOf cX1_placeOf 2 (some .int) 1 1 := ⟨⟨kp_mem 1247 (by decide +kernel) (by decide +kernel), kp_mem 214 (by decide +kernel) (by decide +kernel), by decide +kernel⟩, kp_mem 1244 (by decide +kernel) (by decide +kernel), kp_mem 1245 (by decide +kernel) (by decide +kernel), kp_mem 1246 (by decide +kernel) (by decide +kernel), by decide, TX1, 5, rfl⟩
theorem cv_1_56 : kp_CV RX1 56 yX1_allWater cX1_allWater 3 (some .int) 0 1 := ⟨⟨kp_mem 1251 (by decide +kernel) (by decide +kernel), kp_mem 214 (by decide +kernel) (by decide +kernel), by decide +kernel⟩, kp_mem 1248 (by decide +kernel) (by decide +kernel), kp_mem 1250 (by decide +kernel) (by decide +kernel), kp_mem 58 (by decide +kernel) (by decide +kernel), by decide, TX1, 5, rfl⟩
theorem cv_1_63 : kp_CV RX1 63 yX1_troubleToShut cX1_troubleToShut 3 (some .int) 2 1 := ⟨⟨kp_mem 1492 (by decide +kernel) (by decide +kernel), kp_mem 214 (by decide +kernel) (by decide +kernel), by decide +kernel⟩, kp_mem 1489 (by decide +kernel) (by decide +kernel), kp_mem 1490 (by decide +kernel) (by decide +kernel), kp_mem 1491 (by decide +kernel) (by decide +kernel), by decide, TX1, 5, rfl⟩
theorem cv_1_66 : kp_CV RX1 66 yX1_headOf cX1_headOf 3 (some .int) 2 1 := ⟨⟨kp_mem 1496 (by decide +kernel) (by decide +kernel), kp_mem 214 (by decide +kernel) (by decide +kernel), by decide +kernel⟩, kp_mem 1493 (by decide +kernel) (by decide +kernel), kp_mem 1494 (by decide +kernel) (by decide +kernel), kp_mem 1495 (by decide +kernel) (by decide +kernel), by decide, TX1, 5, rfl⟩
theorem cs_1_69 : kp_CS RX1 69 yX1_placeBeyond cX1_placeBeyond 2 (some .int) 2 := ⟨⟨kp_mem 1525 (by decide +kernel) (by decide +kernel), kp_mem 214 (by decide +kernel) (by decide +kernel), by decide +kernel⟩, kp_mem 1523 (by decide +kernel) (by decide +kernel), kp_mem 1524 (by decide +kernel) (by decide +kernel)⟩
theorem mm_1_72 : Cond.methodLink RX1 72 Lib.Math.min.name ∈ kp_tb := kp_mem 1526 (by decide +kernel) (by decide +kernel)
theorem dX1_isLock_0 : decode cX1_isLock 0 = .ok (.iload_n 0, 1) := by decide +kernel
theorem dX1_isLock_1 : decode cX1_isLock 1 = .ok (.ifCond .lt 13, 3) := by decide +kernel
theorem dX1_isLock_4 : decode cX1_isLock 4 = .ok (.iload_n 0, 1) := by decide +kernel
theorem dX1_isLock_5 : decode cX1_isLock 5 = .ok (.bipush 6, 2) := by decide +kernel
theorem dX1_isLock_7 : decode cX1_isLock 7 = .ok (.if_icmp .ge 7, 3) := by decide +kernel
theorem dX1_isLock_10 : decode cX1_isLock 10 = .ok (.iconst 1, 1) := by decide +kernel
theorem dX1_isLock_11 : decode cX1_isLock 11 = .ok (.goto 4, 3) := by decide +kernel
theorem dX1_isLock_14 : decode cX1_isLock 14 = .ok (.iconst 0, 1) := by decide +kernel
theorem dX1_isLock_15 : decode cX1_isLock 15 = .ok (.ireturn, 1) := by decide +kernel
def wX1_isLock_b15 (x0 : Int32) (xt0 : Int32)  (Sn : kp_S) (post : Int32 → kp_S → Prop) : Prop :=
  kp_b xt0 ∧ post xt0 Sn
def wX1_isLock_b14 (x0 : Int32)  (Sn : kp_S) (post : Int32 → kp_S → Prop) : Prop :=
  wX1_isLock_b15 x0 0  Sn post
def wX1_isLock (x0 : Int32) (S : kp_S) (post : Int32 → kp_S → Prop) : Prop :=
  ((x0 < 0 →
  wX1_isLock_b14 x0   S post) ∧ (¬ x0 < 0 →
  ((6 ≤ x0 →
  wX1_isLock_b14 x0   S post) ∧ (¬ 6 ≤ x0 →
  wX1_isLock_b15 x0 1  S post))))
set_option maxHeartbeats 4000000 in
set_option maxRecDepth 100000 in
theorem c_X1_isLock (l : Launch) (D : va_G) (cy : Nat → ClassId) (ad : (Nat → Nat) × (Nat → Nat)) (S : kp_S) (x0 : Int32) (post : Int32 → kp_S → Prop) (hS : kp_ok S)  (hw : wX1_isLock x0 S post) : kp_M l yX1_isLock cX1_isLock 1 (some .boolean) { frames := 0, cells := 0, slots := 0, locals := 0 } D cy ad S [.int x0] 0 0 (fun A => kp_Qi D cy A S post) := by
  refine kp_start (own := RX1) (by decide) rfl (Nat.le_of_ble_eq_true rfl) hS ?_
  intro p e s m below meth c A ls X hr hlocks hname h hl
  have hle : kp_le S S := kp_le.rf
  have hl : lv_has ls 1 [(0, .int x0)] := hl
  have j15 : ∀ (xt0 : Int32) (Sn : kp_S) (H : Heap) (locs : List Loc) (ls : Array Slot), lv_has ls 1 [] → kp_H D cy A Sn s.heap H locs → kp_le S Sn → wX1_isLock_b15 x0 xt0  Sn post → W p l e { frames := 0, cells := 0, slots := 0, locals := 0 } s m ([.int x0] : List Value).toArray below meth c H locs 0 0 (MQ below (kp_Qi D cy A S post) ([.int x0] : List Value).toArray s 0 0 A) (F0 m 15 ls [.int xt0]) := by
    intro xt0 Sn H locs ls hl h hle  hw
    unfold wX1_isLock_b15 at hw
    exact kp_reti X hr hlocks h hle (kp_bz hw.1).1 hw.2 dX1_isLock_15
  have j14 : ∀  (Sn : kp_S) (H : Heap) (locs : List Loc) (ls : Array Slot), lv_has ls 1 [] → kp_H D cy A Sn s.heap H locs → kp_le S Sn → wX1_isLock_b14 x0   Sn post → W p l e { frames := 0, cells := 0, slots := 0, locals := 0 } s m ([.int x0] : List Value).toArray below meth c H locs 0 0 (MQ below (kp_Qi D cy A S post) ([.int x0] : List Value).toArray s 0 0 A) (F0 m 14 ls []) := by
    intro  Sn H locs ls hl h hle  hw
    unfold wX1_isLock_b14 at hw
    refine lv_iconst (v := 0) X.1 X.2.1 dX1_isLock_14 (by decide) ?_
    exact j15 0 Sn H locs ls (lv_sub hl [] rfl) h hle  hw
  unfold wX1_isLock at hw
  have h : kp_H D cy A S s.heap s.heap [] := h
  revert h
  intro h
  refine lv_iload_n X.1 X.2.1 dX1_isLock_0 rfl (lv_at hl 0 rfl) ?_
  refine lv_if_lt (tgt := 14) X.1 X.2.1 dX1_isLock_1 (by decide) (fun c2 => ?_) (fun c2 => ?_)
  · have hw := hw.1 c2
    exact j14  S _ _ ls (lv_sub hl [] rfl) h hle  hw
  · have hw := hw.2 c2
    refine lv_iload_n X.1 X.2.1 dX1_isLock_4 rfl (lv_at hl 0 rfl) ?_
    refine lv_bipush (v := 6) X.1 X.2.1 dX1_isLock_5 (by decide) ?_
    refine lv_icmp_ge (tgt := 14) X.1 X.2.1 dX1_isLock_7 (by decide) (fun c1 => ?_) (fun c1 => ?_)
    · have hw := hw.1 c1
      exact j14  S _ _ ls (lv_sub hl [] rfl) h hle  hw
    · have hw := hw.2 c1
      refine lv_iconst (v := 1) X.1 X.2.1 dX1_isLock_10 (by decide) ?_
      refine lv_goto (tgt := 15) X.1 X.2.1 dX1_isLock_11 (by decide) ?_
      exact j15 1 S _ _ ls (lv_sub hl [] rfl) h hle  hw
theorem dX1_isReach_0 : decode cX1_isReach 0 = .ok (.iload_n 0, 1) := by decide +kernel
theorem dX1_isReach_1 : decode cX1_isReach 1 = .ok (.ifCond .lt 13, 3) := by decide +kernel
theorem dX1_isReach_4 : decode cX1_isReach 4 = .ok (.iload_n 0, 1) := by decide +kernel
theorem dX1_isReach_5 : decode cX1_isReach 5 = .ok (.bipush 7, 2) := by decide +kernel
theorem dX1_isReach_7 : decode cX1_isReach 7 = .ok (.if_icmp .ge 7, 3) := by decide +kernel
theorem dX1_isReach_10 : decode cX1_isReach 10 = .ok (.iconst 1, 1) := by decide +kernel
theorem dX1_isReach_11 : decode cX1_isReach 11 = .ok (.goto 4, 3) := by decide +kernel
theorem dX1_isReach_14 : decode cX1_isReach 14 = .ok (.iconst 0, 1) := by decide +kernel
theorem dX1_isReach_15 : decode cX1_isReach 15 = .ok (.ireturn, 1) := by decide +kernel
def wX1_isReach_b15 (x0 : Int32) (xt0 : Int32)  (Sn : kp_S) (post : Int32 → kp_S → Prop) : Prop :=
  kp_b xt0 ∧ post xt0 Sn
def wX1_isReach_b14 (x0 : Int32)  (Sn : kp_S) (post : Int32 → kp_S → Prop) : Prop :=
  wX1_isReach_b15 x0 0  Sn post
def wX1_isReach (x0 : Int32) (S : kp_S) (post : Int32 → kp_S → Prop) : Prop :=
  ((x0 < 0 →
  wX1_isReach_b14 x0   S post) ∧ (¬ x0 < 0 →
  ((7 ≤ x0 →
  wX1_isReach_b14 x0   S post) ∧ (¬ 7 ≤ x0 →
  wX1_isReach_b15 x0 1  S post))))
set_option maxHeartbeats 4000000 in
set_option maxRecDepth 100000 in
theorem c_X1_isReach (l : Launch) (D : va_G) (cy : Nat → ClassId) (ad : (Nat → Nat) × (Nat → Nat)) (S : kp_S) (x0 : Int32) (post : Int32 → kp_S → Prop) (hS : kp_ok S)  (hw : wX1_isReach x0 S post) : kp_M l yX1_isReach cX1_isReach 1 (some .boolean) { frames := 0, cells := 0, slots := 0, locals := 0 } D cy ad S [.int x0] 0 0 (fun A => kp_Qi D cy A S post) := by
  refine kp_start (own := RX1) (by decide) rfl (Nat.le_of_ble_eq_true rfl) hS ?_
  intro p e s m below meth c A ls X hr hlocks hname h hl
  have hle : kp_le S S := kp_le.rf
  have hl : lv_has ls 1 [(0, .int x0)] := hl
  have j15 : ∀ (xt0 : Int32) (Sn : kp_S) (H : Heap) (locs : List Loc) (ls : Array Slot), lv_has ls 1 [] → kp_H D cy A Sn s.heap H locs → kp_le S Sn → wX1_isReach_b15 x0 xt0  Sn post → W p l e { frames := 0, cells := 0, slots := 0, locals := 0 } s m ([.int x0] : List Value).toArray below meth c H locs 0 0 (MQ below (kp_Qi D cy A S post) ([.int x0] : List Value).toArray s 0 0 A) (F0 m 15 ls [.int xt0]) := by
    intro xt0 Sn H locs ls hl h hle  hw
    unfold wX1_isReach_b15 at hw
    exact kp_reti X hr hlocks h hle (kp_bz hw.1).1 hw.2 dX1_isReach_15
  have j14 : ∀  (Sn : kp_S) (H : Heap) (locs : List Loc) (ls : Array Slot), lv_has ls 1 [] → kp_H D cy A Sn s.heap H locs → kp_le S Sn → wX1_isReach_b14 x0   Sn post → W p l e { frames := 0, cells := 0, slots := 0, locals := 0 } s m ([.int x0] : List Value).toArray below meth c H locs 0 0 (MQ below (kp_Qi D cy A S post) ([.int x0] : List Value).toArray s 0 0 A) (F0 m 14 ls []) := by
    intro  Sn H locs ls hl h hle  hw
    unfold wX1_isReach_b14 at hw
    refine lv_iconst (v := 0) X.1 X.2.1 dX1_isReach_14 (by decide) ?_
    exact j15 0 Sn H locs ls (lv_sub hl [] rfl) h hle  hw
  unfold wX1_isReach at hw
  have h : kp_H D cy A S s.heap s.heap [] := h
  revert h
  intro h
  refine lv_iload_n X.1 X.2.1 dX1_isReach_0 rfl (lv_at hl 0 rfl) ?_
  refine lv_if_lt (tgt := 14) X.1 X.2.1 dX1_isReach_1 (by decide) (fun c2 => ?_) (fun c2 => ?_)
  · have hw := hw.1 c2
    exact j14  S _ _ ls (lv_sub hl [] rfl) h hle  hw
  · have hw := hw.2 c2
    refine lv_iload_n X.1 X.2.1 dX1_isReach_4 rfl (lv_at hl 0 rfl) ?_
    refine lv_bipush (v := 7) X.1 X.2.1 dX1_isReach_5 (by decide) ?_
    refine lv_icmp_ge (tgt := 14) X.1 X.2.1 dX1_isReach_7 (by decide) (fun c1 => ?_) (fun c1 => ?_)
    · have hw := hw.1 c1
      exact j14  S _ _ ls (lv_sub hl [] rfl) h hle  hw
    · have hw := hw.2 c1
      refine lv_iconst (v := 1) X.1 X.2.1 dX1_isReach_10 (by decide) ?_
      refine lv_goto (tgt := 15) X.1 X.2.1 dX1_isReach_11 (by decide) ?_
      exact j15 1 S _ _ ls (lv_sub hl [] rfl) h hle  hw
theorem dX1_isShip_0 : decode cX1_isShip 0 = .ok (.iload_n 0, 1) := by decide +kernel
theorem dX1_isShip_1 : decode cX1_isShip 1 = .ok (.ifCond .lt 13, 3) := by decide +kernel
theorem dX1_isShip_4 : decode cX1_isShip 4 = .ok (.iload_n 0, 1) := by decide +kernel
theorem dX1_isShip_5 : decode cX1_isShip 5 = .ok (.bipush 8, 2) := by decide +kernel
theorem dX1_isShip_7 : decode cX1_isShip 7 = .ok (.if_icmp .ge 7, 3) := by decide +kernel
theorem dX1_isShip_10 : decode cX1_isShip 10 = .ok (.iconst 1, 1) := by decide +kernel
theorem dX1_isShip_11 : decode cX1_isShip 11 = .ok (.goto 4, 3) := by decide +kernel
theorem dX1_isShip_14 : decode cX1_isShip 14 = .ok (.iconst 0, 1) := by decide +kernel
theorem dX1_isShip_15 : decode cX1_isShip 15 = .ok (.ireturn, 1) := by decide +kernel
def wX1_isShip_b15 (x0 : Int32) (xt0 : Int32)  (Sn : kp_S) (post : Int32 → kp_S → Prop) : Prop :=
  kp_b xt0 ∧ post xt0 Sn
def wX1_isShip_b14 (x0 : Int32)  (Sn : kp_S) (post : Int32 → kp_S → Prop) : Prop :=
  wX1_isShip_b15 x0 0  Sn post
def wX1_isShip (x0 : Int32) (S : kp_S) (post : Int32 → kp_S → Prop) : Prop :=
  ((x0 < 0 →
  wX1_isShip_b14 x0   S post) ∧ (¬ x0 < 0 →
  ((8 ≤ x0 →
  wX1_isShip_b14 x0   S post) ∧ (¬ 8 ≤ x0 →
  wX1_isShip_b15 x0 1  S post))))
set_option maxHeartbeats 4000000 in
set_option maxRecDepth 100000 in
theorem c_X1_isShip (l : Launch) (D : va_G) (cy : Nat → ClassId) (ad : (Nat → Nat) × (Nat → Nat)) (S : kp_S) (x0 : Int32) (post : Int32 → kp_S → Prop) (hS : kp_ok S)  (hw : wX1_isShip x0 S post) : kp_M l yX1_isShip cX1_isShip 1 (some .boolean) { frames := 0, cells := 0, slots := 0, locals := 0 } D cy ad S [.int x0] 0 0 (fun A => kp_Qi D cy A S post) := by
  refine kp_start (own := RX1) (by decide) rfl (Nat.le_of_ble_eq_true rfl) hS ?_
  intro p e s m below meth c A ls X hr hlocks hname h hl
  have hle : kp_le S S := kp_le.rf
  have hl : lv_has ls 1 [(0, .int x0)] := hl
  have j15 : ∀ (xt0 : Int32) (Sn : kp_S) (H : Heap) (locs : List Loc) (ls : Array Slot), lv_has ls 1 [] → kp_H D cy A Sn s.heap H locs → kp_le S Sn → wX1_isShip_b15 x0 xt0  Sn post → W p l e { frames := 0, cells := 0, slots := 0, locals := 0 } s m ([.int x0] : List Value).toArray below meth c H locs 0 0 (MQ below (kp_Qi D cy A S post) ([.int x0] : List Value).toArray s 0 0 A) (F0 m 15 ls [.int xt0]) := by
    intro xt0 Sn H locs ls hl h hle  hw
    unfold wX1_isShip_b15 at hw
    exact kp_reti X hr hlocks h hle (kp_bz hw.1).1 hw.2 dX1_isShip_15
  have j14 : ∀  (Sn : kp_S) (H : Heap) (locs : List Loc) (ls : Array Slot), lv_has ls 1 [] → kp_H D cy A Sn s.heap H locs → kp_le S Sn → wX1_isShip_b14 x0   Sn post → W p l e { frames := 0, cells := 0, slots := 0, locals := 0 } s m ([.int x0] : List Value).toArray below meth c H locs 0 0 (MQ below (kp_Qi D cy A S post) ([.int x0] : List Value).toArray s 0 0 A) (F0 m 14 ls []) := by
    intro  Sn H locs ls hl h hle  hw
    unfold wX1_isShip_b14 at hw
    refine lv_iconst (v := 0) X.1 X.2.1 dX1_isShip_14 (by decide) ?_
    exact j15 0 Sn H locs ls (lv_sub hl [] rfl) h hle  hw
  unfold wX1_isShip at hw
  have h : kp_H D cy A S s.heap s.heap [] := h
  revert h
  intro h
  refine lv_iload_n X.1 X.2.1 dX1_isShip_0 rfl (lv_at hl 0 rfl) ?_
  refine lv_if_lt (tgt := 14) X.1 X.2.1 dX1_isShip_1 (by decide) (fun c2 => ?_) (fun c2 => ?_)
  · have hw := hw.1 c2
    exact j14  S _ _ ls (lv_sub hl [] rfl) h hle  hw
  · have hw := hw.2 c2
    refine lv_iload_n X.1 X.2.1 dX1_isShip_4 rfl (lv_at hl 0 rfl) ?_
    refine lv_bipush (v := 8) X.1 X.2.1 dX1_isShip_5 (by decide) ?_
    refine lv_icmp_ge (tgt := 14) X.1 X.2.1 dX1_isShip_7 (by decide) (fun c1 => ?_) (fun c1 => ?_)
    · have hw := hw.1 c1
      exact j14  S _ _ ls (lv_sub hl [] rfl) h hle  hw
    · have hw := hw.2 c1
      refine lv_iconst (v := 1) X.1 X.2.1 dX1_isShip_10 (by decide) ?_
      refine lv_goto (tgt := 15) X.1 X.2.1 dX1_isShip_11 (by decide) ?_
      exact j15 1 S _ _ ls (lv_sub hl [] rfl) h hle  hw
theorem dX1_isGate_0 : decode cX1_isGate 0 = .ok (.iload_n 0, 1) := by decide +kernel
theorem dX1_isGate_1 : decode cX1_isGate 1 = .ok (.ifCond .lt 22, 3) := by decide +kernel
theorem dX1_isGate_4 : decode cX1_isGate 4 = .ok (.iload_n 0, 1) := by decide +kernel
theorem dX1_isGate_5 : decode cX1_isGate 5 = .ok (.bipush 6, 2) := by decide +kernel
theorem dX1_isGate_7 : decode cX1_isGate 7 = .ok (.if_icmp .ge 16, 3) := by decide +kernel
theorem dX1_isGate_10 : decode cX1_isGate 10 = .ok (.iload_n 1, 1) := by decide +kernel
theorem dX1_isGate_11 : decode cX1_isGate 11 = .ok (.ifCond .eq 8, 3) := by decide +kernel
theorem dX1_isGate_14 : decode cX1_isGate 14 = .ok (.iload_n 1, 1) := by decide +kernel
theorem dX1_isGate_15 : decode cX1_isGate 15 = .ok (.iconst 1, 1) := by decide +kernel
theorem dX1_isGate_16 : decode cX1_isGate 16 = .ok (.if_icmp .ne 7, 3) := by decide +kernel
theorem dX1_isGate_19 : decode cX1_isGate 19 = .ok (.iconst 1, 1) := by decide +kernel
theorem dX1_isGate_20 : decode cX1_isGate 20 = .ok (.goto 4, 3) := by decide +kernel
theorem dX1_isGate_23 : decode cX1_isGate 23 = .ok (.iconst 0, 1) := by decide +kernel
theorem dX1_isGate_24 : decode cX1_isGate 24 = .ok (.ireturn, 1) := by decide +kernel
def wX1_isGate_b24 (x0 : Int32) (x1 : Int32) (xt0 : Int32)  (Sn : kp_S) (post : Int32 → kp_S → Prop) : Prop :=
  kp_b xt0 ∧ post xt0 Sn
def wX1_isGate_b23 (x0 : Int32) (x1 : Int32)  (Sn : kp_S) (post : Int32 → kp_S → Prop) : Prop :=
  wX1_isGate_b24 x0 x1 0  Sn post
def wX1_isGate_b19 (x0 : Int32) (x1 : Int32)  (Sn : kp_S) (post : Int32 → kp_S → Prop) : Prop :=
  wX1_isGate_b24 x0 x1 1  Sn post
def wX1_isGate (x0 : Int32) (x1 : Int32) (S : kp_S) (post : Int32 → kp_S → Prop) : Prop :=
  ((x0 < 0 →
  wX1_isGate_b23 x0 x1   S post) ∧ (¬ x0 < 0 →
  ((6 ≤ x0 →
  wX1_isGate_b23 x0 x1   S post) ∧ (¬ 6 ≤ x0 →
  ((x1 = 0 →
  wX1_isGate_b19 x0 x1   S post) ∧ (¬ x1 = 0 →
  ((¬ x1 = 1 →
  wX1_isGate_b23 x0 x1   S post) ∧ (x1 = 1 →
  wX1_isGate_b19 x0 x1   S post))))))))
set_option maxHeartbeats 4000000 in
set_option maxRecDepth 100000 in
theorem c_X1_isGate (l : Launch) (D : va_G) (cy : Nat → ClassId) (ad : (Nat → Nat) × (Nat → Nat)) (S : kp_S) (x0 : Int32) (x1 : Int32) (post : Int32 → kp_S → Prop) (hS : kp_ok S)  (hw : wX1_isGate x0 x1 S post) : kp_M l yX1_isGate cX1_isGate 2 (some .boolean) { frames := 0, cells := 0, slots := 0, locals := 0 } D cy ad S [.int x0, .int x1] 0 0 (fun A => kp_Qi D cy A S post) := by
  refine kp_start (own := RX1) (by decide) rfl (Nat.le_of_ble_eq_true rfl) hS ?_
  intro p e s m below meth c A ls X hr hlocks hname h hl
  have hle : kp_le S S := kp_le.rf
  have hl : lv_has ls 2 [(0, .int x0), (1, .int x1)] := hl
  have j24 : ∀ (xt0 : Int32) (Sn : kp_S) (H : Heap) (locs : List Loc) (ls : Array Slot), lv_has ls 2 [] → kp_H D cy A Sn s.heap H locs → kp_le S Sn → wX1_isGate_b24 x0 x1 xt0  Sn post → W p l e { frames := 0, cells := 0, slots := 0, locals := 0 } s m ([.int x0, .int x1] : List Value).toArray below meth c H locs 0 0 (MQ below (kp_Qi D cy A S post) ([.int x0, .int x1] : List Value).toArray s 0 0 A) (F0 m 24 ls [.int xt0]) := by
    intro xt0 Sn H locs ls hl h hle  hw
    unfold wX1_isGate_b24 at hw
    exact kp_reti X hr hlocks h hle (kp_bz hw.1).1 hw.2 dX1_isGate_24
  have j23 : ∀  (Sn : kp_S) (H : Heap) (locs : List Loc) (ls : Array Slot), lv_has ls 2 [] → kp_H D cy A Sn s.heap H locs → kp_le S Sn → wX1_isGate_b23 x0 x1   Sn post → W p l e { frames := 0, cells := 0, slots := 0, locals := 0 } s m ([.int x0, .int x1] : List Value).toArray below meth c H locs 0 0 (MQ below (kp_Qi D cy A S post) ([.int x0, .int x1] : List Value).toArray s 0 0 A) (F0 m 23 ls []) := by
    intro  Sn H locs ls hl h hle  hw
    unfold wX1_isGate_b23 at hw
    refine lv_iconst (v := 0) X.1 X.2.1 dX1_isGate_23 (by decide) ?_
    exact j24 0 Sn H locs ls (lv_sub hl [] rfl) h hle  hw
  have j19 : ∀  (Sn : kp_S) (H : Heap) (locs : List Loc) (ls : Array Slot), lv_has ls 2 [] → kp_H D cy A Sn s.heap H locs → kp_le S Sn → wX1_isGate_b19 x0 x1   Sn post → W p l e { frames := 0, cells := 0, slots := 0, locals := 0 } s m ([.int x0, .int x1] : List Value).toArray below meth c H locs 0 0 (MQ below (kp_Qi D cy A S post) ([.int x0, .int x1] : List Value).toArray s 0 0 A) (F0 m 19 ls []) := by
    intro  Sn H locs ls hl h hle  hw
    unfold wX1_isGate_b19 at hw
    refine lv_iconst (v := 1) X.1 X.2.1 dX1_isGate_19 (by decide) ?_
    refine lv_goto (tgt := 24) X.1 X.2.1 dX1_isGate_20 (by decide) ?_
    exact j24 1 Sn H locs ls (lv_sub hl [] rfl) h hle  hw
  unfold wX1_isGate at hw
  have h : kp_H D cy A S s.heap s.heap [] := h
  revert h
  intro h
  refine lv_iload_n X.1 X.2.1 dX1_isGate_0 rfl (lv_at hl 0 rfl) ?_
  refine lv_if_lt (tgt := 23) X.1 X.2.1 dX1_isGate_1 (by decide) (fun c4 => ?_) (fun c4 => ?_)
  · have hw := hw.1 c4
    exact j23  S _ _ ls (lv_sub hl [] rfl) h hle  hw
  · have hw := hw.2 c4
    refine lv_iload_n X.1 X.2.1 dX1_isGate_4 rfl (lv_at hl 0 rfl) ?_
    refine lv_bipush (v := 6) X.1 X.2.1 dX1_isGate_5 (by decide) ?_
    refine lv_icmp_ge (tgt := 23) X.1 X.2.1 dX1_isGate_7 (by decide) (fun c3 => ?_) (fun c3 => ?_)
    · have hw := hw.1 c3
      exact j23  S _ _ ls (lv_sub hl [] rfl) h hle  hw
    · have hw := hw.2 c3
      refine lv_iload_n X.1 X.2.1 dX1_isGate_10 rfl (lv_at hl 1 rfl) ?_
      refine lv_if_eq (tgt := 19) X.1 X.2.1 dX1_isGate_11 (by decide) (fun c2 => ?_) (fun c2 => ?_)
      · have hw := hw.1 c2
        exact j19  S _ _ ls (lv_sub hl [] rfl) h hle  hw
      · have hw := hw.2 c2
        refine lv_iload_n X.1 X.2.1 dX1_isGate_14 rfl (lv_at hl 1 rfl) ?_
        refine lv_iconst (v := 1) X.1 X.2.1 dX1_isGate_15 (by decide) ?_
        refine lv_icmp_ne (tgt := 23) X.1 X.2.1 dX1_isGate_16 (by decide) (fun c1 => ?_) (fun c1 => ?_)
        · have hw := hw.1 c1
          exact j23  S _ _ ls (lv_sub hl [] rfl) h hle  hw
        · have hw := hw.2 c1
          exact j19  S _ _ ls (lv_sub hl [] rfl) h hle  hw
theorem dX1_fillReach_0 : decode cX1_fillReach 0 = .ok (.iload_n 1, 1) := by decide +kernel
theorem dX1_fillReach_1 : decode cX1_fillReach 1 = .ok (.invokestatic 27, 3) := by decide +kernel
theorem dX1_fillReach_4 : decode cX1_fillReach 4 = .ok (.ifCond .eq 13, 3) := by decide +kernel
theorem dX1_fillReach_7 : decode cX1_fillReach 7 = .ok (.iload_n 2, 1) := by decide +kernel
theorem dX1_fillReach_8 : decode cX1_fillReach 8 = .ok (.ifCond .lt 9, 3) := by decide +kernel
theorem dX1_fillReach_11 : decode cX1_fillReach 11 = .ok (.iload_n 2, 1) := by decide +kernel
theorem dX1_fillReach_12 : decode cX1_fillReach 12 = .ok (.ldc 31, 2) := by decide +kernel
theorem dX1_fillReach_14 : decode cX1_fillReach 14 = .ok (.if_icmp .le 5, 3) := by decide +kernel
theorem dX1_fillReach_17 : decode cX1_fillReach 17 = .ok (.iconst 0, 1) := by decide +kernel
theorem dX1_fillReach_18 : decode cX1_fillReach 18 = .ok (.ireturn, 1) := by decide +kernel
theorem dX1_fillReach_19 : decode cX1_fillReach 19 = .ok (.aload_n 0, 1) := by decide +kernel
theorem dX1_fillReach_20 : decode cX1_fillReach 20 = .ok (.getfield 15, 3) := by decide +kernel
theorem dX1_fillReach_23 : decode cX1_fillReach 23 = .ok (.iload_n 1, 1) := by decide +kernel
theorem dX1_fillReach_24 : decode cX1_fillReach 24 = .ok (.iload_n 2, 1) := by decide +kernel
theorem dX1_fillReach_25 : decode cX1_fillReach 25 = .ok (.iastore, 1) := by decide +kernel
theorem dX1_fillReach_26 : decode cX1_fillReach 26 = .ok (.iconst 1, 1) := by decide +kernel
theorem dX1_fillReach_27 : decode cX1_fillReach 27 = .ok (.ireturn, 1) := by decide +kernel
def wX1_fillReach_b17 (a0 : Nat) (x1 : Int32) (x2 : Int32)  (Sn : kp_S) (post : Int32 → kp_S → Prop) : Prop :=
  post 0 Sn
def wX1_fillReach (a0 : Nat) (x1 : Int32) (x2 : Int32) (S : kp_S) (post : Int32 → kp_S → Prop) : Prop :=
  wX1_isReach x1 S (fun y2 T1 =>
  ((y2 = 0 →
  wX1_fillReach_b17 a0 x1 x2   T1 post) ∧ (¬ y2 = 0 →
  ((x2 < 0 →
  wX1_fillReach_b17 a0 x1 x2   T1 post) ∧ (¬ x2 < 0 →
  ((x2 ≤ 100000 →
  ∃ b3 : Nat, kp_R T1 201 a0 = some b3 ∧
  vp_in x1 (kp_N T1 b3) ∧ ∀ T4 : kp_S, T4 = kp_sA T1 b3 (upd (kp_A T1 b3) (x1.toNatClampNeg) x2) →
  post 1 T4) ∧ (¬ x2 ≤ 100000 →
  wX1_fillReach_b17 a0 x1 x2   T1 post)))))))
set_option maxHeartbeats 4000000 in
set_option maxRecDepth 100000 in
theorem c_X1_fillReach (l : Launch) (D : va_G) (cy : Nat → ClassId) (ad : (Nat → Nat) × (Nat → Nat)) (S : kp_S) (a0 : Nat) (x1 : Int32) (x2 : Int32) (post : Int32 → kp_S → Prop) (hS : kp_ok S) (f_a0 : kp_is S a0 1) (hw : wX1_fillReach a0 x1 x2 S post) : kp_M l yX1_fillReach cX1_fillReach 3 (some .boolean) { frames := 1, cells := 0, slots := 0, locals := 20 } D cy ad S [.ref a0, .int x1, .int x2] 0 0 (fun A => kp_Qi D cy A S post) := by
  refine kp_start (own := RX1) (by decide) rfl (Nat.le_of_ble_eq_true rfl) hS ?_
  intro p e s m below meth c A ls X hr hlocks hname h hl
  have hle : kp_le S S := kp_le.rf
  have hl : lv_has ls 3 [(0, .ref a0), (1, .int x1), (2, .int x2)] := hl
  have j17 : ∀  (Sn : kp_S) (H : Heap) (locs : List Loc) (ls : Array Slot), lv_has ls 3 [] → kp_H D cy A Sn s.heap H locs → kp_le S Sn → kp_is Sn a0 1 → wX1_fillReach_b17 a0 x1 x2   Sn post → W p l e { frames := 1, cells := 0, slots := 0, locals := 20 } s m ([.ref a0, .int x1, .int x2] : List Value).toArray below meth c H locs 0 0 (MQ below (kp_Qi D cy A S post) ([.ref a0, .int x1, .int x2] : List Value).toArray s 0 0 A) (F0 m 17 ls []) := by
    intro  Sn H locs ls hl h hle f_a0 hw
    unfold wX1_fillReach_b17 at hw
    refine lv_iconst (v := 0) X.1 X.2.1 dX1_fillReach_17 (by decide) ?_
    exact kp_reti X hr hlocks h hle (by decide) hw dX1_fillReach_18
  unfold wX1_fillReach at hw
  have h : kp_H D cy A S s.heap s.heap [] := h
  revert h
  intro h
  refine lv_iload_n X.1 X.2.1 dX1_fillReach_0 rfl (lv_at hl 1 rfl) ?_
  refine kp_calli X h (kp_runS (rm := { frames := 0, cells := 0, slots := 0, locals := 0 }) (mc := 0) (ms := 0) (rest := []) (Qc := fun A => kp_Qi D cy A S _) X h (c_X1_isReach l D cy ad S x1 _ h.2.2.2  hw) cs_1_27 ⟨by decide, by decide, rfl, rfl, by decide, by decide⟩ rfl hl.1 rfl (Nat.le_of_ble_eq_true rfl) dX1_fillReach_1) (fun y2 T1 hw l_T1 H locs h => ?_)
  have f_a0 := l_T1.is f_a0
  have hle := hle.tr l_T1
  refine lv_if_eq (tgt := 17) X.1 X.2.1 dX1_fillReach_4 (by decide) (fun c7 => ?_) (fun c7 => ?_)
  · have hw := hw.1 c7
    exact j17  T1 _ _ ls (lv_sub hl [] rfl) h hle f_a0 hw
  · have hw := hw.2 c7
    refine lv_iload_n X.1 X.2.1 dX1_fillReach_7 rfl (lv_at hl 2 rfl) ?_
    refine lv_if_lt (tgt := 17) X.1 X.2.1 dX1_fillReach_8 (by decide) (fun c6 => ?_) (fun c6 => ?_)
    · have hw := hw.1 c6
      exact j17  T1 _ _ ls (lv_sub hl [] rfl) h hle f_a0 hw
    · have hw := hw.2 c6
      refine lv_iload_n X.1 X.2.1 dX1_fillReach_11 rfl (lv_at hl 2 rfl) ?_
      refine lv_ldc (v := 100000) X.1 X.2.1 X.2.2.2.1 (X.2.2.2.2.1 _ kc_1_31) dX1_fillReach_12 ?_
      refine lv_icmp_le (tgt := 19) X.1 X.2.1 dX1_fillReach_14 (by decide) (fun c5 => ?_) (fun c5 => ?_)
      · have hw := hw.1 c5
        refine lv_aload_n X.1 X.2.1 dX1_fillReach_19 rfl (lv_at hl 0 rfl) ?_
        obtain ⟨b3, e_b3, hw⟩ := hw
        have f_b3 := h.2.2.2.rf (c := 1) (k := 1) f_a0 (by decide) (by decide) e_b3 (t := 14) rfl
        refine kp_get X h f_a0 ff_1_15.l (v := .ref b3) (congrArg va_rf e_b3) dX1_fillReach_20 ?_
        refine lv_iload_n X.1 X.2.1 dX1_fillReach_23 rfl (lv_at hl 1 rfl) ?_
        refine lv_iload_n X.1 X.2.1 dX1_fillReach_24 rfl (lv_at hl 2 rfl) ?_
        obtain ⟨hi, hw⟩ := hw
        refine kp_iast X h f_b3 hi dX1_fillReach_25 (fun T4 e_T4 l_T4 H locs h => ?_)
        have hw := hw T4 e_T4
        have f_a0 := l_T4.is f_a0
        have f_b3 := l_T4.is f_b3
        have hle := hle.tr l_T4
        have e_b3 : kp_R T4 201 a0 = some b3 := by rw [e_T4]; exact e_b3
        refine lv_iconst (v := 1) X.1 X.2.1 dX1_fillReach_26 (by decide) ?_
        exact kp_reti X hr hlocks h hle (by decide) hw dX1_fillReach_27
      · have hw := hw.2 c5
        exact j17  T1 _ _ ls (lv_sub hl [] rfl) h hle f_a0 hw
theorem dX1_gateOf_0 : decode cX1_gateOf 0 = .ok (.iload_n 1, 1) := by decide +kernel
theorem dX1_gateOf_1 : decode cX1_gateOf 1 = .ok (.iload_n 2, 1) := by decide +kernel
theorem dX1_gateOf_2 : decode cX1_gateOf 2 = .ok (.invokestatic 60, 3) := by decide +kernel
theorem dX1_gateOf_5 : decode cX1_gateOf 5 = .ok (.ifCond .eq 16, 3) := by decide +kernel
theorem dX1_gateOf_8 : decode cX1_gateOf 8 = .ok (.aload_n 0, 1) := by decide +kernel
theorem dX1_gateOf_9 : decode cX1_gateOf 9 = .ok (.getfield 18, 3) := by decide +kernel
theorem dX1_gateOf_12 : decode cX1_gateOf 12 = .ok (.iconst 2, 1) := by decide +kernel
theorem dX1_gateOf_13 : decode cX1_gateOf 13 = .ok (.iload_n 1, 1) := by decide +kernel
theorem dX1_gateOf_14 : decode cX1_gateOf 14 = .ok (.imul, 1) := by decide +kernel
theorem dX1_gateOf_15 : decode cX1_gateOf 15 = .ok (.iload_n 2, 1) := by decide +kernel
theorem dX1_gateOf_16 : decode cX1_gateOf 16 = .ok (.iadd, 1) := by decide +kernel
theorem dX1_gateOf_17 : decode cX1_gateOf 17 = .ok (.iaload, 1) := by decide +kernel
theorem dX1_gateOf_18 : decode cX1_gateOf 18 = .ok (.goto 4, 3) := by decide +kernel
theorem dX1_gateOf_21 : decode cX1_gateOf 21 = .ok (.iconst (-1), 1) := by decide +kernel
theorem dX1_gateOf_22 : decode cX1_gateOf 22 = .ok (.ireturn, 1) := by decide +kernel
def wX1_gateOf_b22 (a0 : Nat) (x1 : Int32) (x2 : Int32) (xt0 : Int32)  (Sn : kp_S) (post : Int32 → kp_S → Prop) : Prop :=
  post xt0 Sn
def wX1_gateOf (a0 : Nat) (x1 : Int32) (x2 : Int32) (S : kp_S) (post : Int32 → kp_S → Prop) : Prop :=
  wX1_isGate x1 x2 S (fun y2 T1 =>
  ((y2 = 0 →
  wX1_gateOf_b22 a0 x1 x2 (-1)  T1 post) ∧ (¬ y2 = 0 →
  ∃ b3 : Nat, kp_R T1 202 a0 = some b3 ∧
  vp_in ((2 * x1) + x2) (kp_N T1 b3) ∧
  wX1_gateOf_b22 a0 x1 x2 (kp_A T1 b3 ((2 * x1) + x2).toNatClampNeg)  T1 post)))
set_option maxHeartbeats 4000000 in
set_option maxRecDepth 100000 in
theorem c_X1_gateOf (l : Launch) (D : va_G) (cy : Nat → ClassId) (ad : (Nat → Nat) × (Nat → Nat)) (S : kp_S) (a0 : Nat) (x1 : Int32) (x2 : Int32) (post : Int32 → kp_S → Prop) (hS : kp_ok S) (f_a0 : kp_is S a0 1) (hw : wX1_gateOf a0 x1 x2 S post) : kp_M l yX1_gateOf cX1_gateOf 3 (some .int) { frames := 1, cells := 0, slots := 0, locals := 21 } D cy ad S [.ref a0, .int x1, .int x2] 0 0 (fun A => kp_Qi D cy A S post) := by
  refine kp_start (own := RX1) (by decide) rfl (Nat.le_of_ble_eq_true rfl) hS ?_
  intro p e s m below meth c A ls X hr hlocks hname h hl
  have hle : kp_le S S := kp_le.rf
  have hl : lv_has ls 3 [(0, .ref a0), (1, .int x1), (2, .int x2)] := hl
  have j22 : ∀ (xt0 : Int32) (Sn : kp_S) (H : Heap) (locs : List Loc) (ls : Array Slot), lv_has ls 3 [] → kp_H D cy A Sn s.heap H locs → kp_le S Sn → kp_is Sn a0 1 → wX1_gateOf_b22 a0 x1 x2 xt0  Sn post → W p l e { frames := 1, cells := 0, slots := 0, locals := 21 } s m ([.ref a0, .int x1, .int x2] : List Value).toArray below meth c H locs 0 0 (MQ below (kp_Qi D cy A S post) ([.ref a0, .int x1, .int x2] : List Value).toArray s 0 0 A) (F0 m 22 ls [.int xt0]) := by
    intro xt0 Sn H locs ls hl h hle f_a0 hw
    unfold wX1_gateOf_b22 at hw
    exact kp_reti X hr hlocks h hle rfl hw dX1_gateOf_22
  unfold wX1_gateOf at hw
  have h : kp_H D cy A S s.heap s.heap [] := h
  revert h
  intro h
  refine lv_iload_n X.1 X.2.1 dX1_gateOf_0 rfl (lv_at hl 1 rfl) ?_
  refine lv_iload_n X.1 X.2.1 dX1_gateOf_1 rfl (lv_at hl 2 rfl) ?_
  refine kp_calli X h (kp_runS (rm := { frames := 0, cells := 0, slots := 0, locals := 0 }) (mc := 0) (ms := 0) (rest := []) (Qc := fun A => kp_Qi D cy A S _) X h (c_X1_isGate l D cy ad S x1 x2 _ h.2.2.2  hw) cs_1_60 ⟨by decide, by decide, rfl, rfl, by decide, by decide⟩ rfl hl.1 rfl (Nat.le_of_ble_eq_true rfl) dX1_gateOf_2) (fun y2 T1 hw l_T1 H locs h => ?_)
  have f_a0 := l_T1.is f_a0
  have hle := hle.tr l_T1
  refine lv_if_eq (tgt := 21) X.1 X.2.1 dX1_gateOf_5 (by decide) (fun c4 => ?_) (fun c4 => ?_)
  · have hw := hw.1 c4
    refine lv_iconst (v := (-1)) X.1 X.2.1 dX1_gateOf_21 (by decide) ?_
    exact j22 (-1) T1 _ _ ls (lv_sub hl [] rfl) h hle f_a0 hw
  · have hw := hw.2 c4
    refine lv_aload_n X.1 X.2.1 dX1_gateOf_8 rfl (lv_at hl 0 rfl) ?_
    obtain ⟨b3, e_b3, hw⟩ := hw
    have f_b3 := h.2.2.2.rf (c := 1) (k := 2) f_a0 (by decide) (by decide) e_b3 (t := 14) rfl
    refine kp_get X h f_a0 ff_1_18.l (v := .ref b3) (congrArg va_rf e_b3) dX1_gateOf_9 ?_
    refine lv_iconst (v := 2) X.1 X.2.1 dX1_gateOf_12 (by decide) ?_
    refine lv_iload_n X.1 X.2.1 dX1_gateOf_13 rfl (lv_at hl 1 rfl) ?_
    refine lv_imul X.1 X.2.1 dX1_gateOf_14 ?_
    refine lv_iload_n X.1 X.2.1 dX1_gateOf_15 rfl (lv_at hl 2 rfl) ?_
    refine lv_iadd X.1 X.2.1 dX1_gateOf_16 ?_
    obtain ⟨hi, hw⟩ := hw
    refine kp_iald X h f_b3 hi dX1_gateOf_17 ?_
    refine lv_goto (tgt := 22) X.1 X.2.1 dX1_gateOf_18 (by decide) ?_
    exact j22 (kp_A T1 b3 ((2 * x1) + x2).toNatClampNeg) T1 _ _ ls (lv_sub hl [] rfl) h hle f_a0 hw
theorem dX1_fillChamber_0 : decode cX1_fillChamber 0 = .ok (.iload_n 1, 1) := by decide +kernel
theorem dX1_fillChamber_1 : decode cX1_fillChamber 1 = .ok (.invokestatic 32, 3) := by decide +kernel
theorem dX1_fillChamber_4 : decode cX1_fillChamber 4 = .ok (.ifCond .eq 34, 3) := by decide +kernel
theorem dX1_fillChamber_7 : decode cX1_fillChamber 7 = .ok (.iload_n 2, 1) := by decide +kernel
theorem dX1_fillChamber_8 : decode cX1_fillChamber 8 = .ok (.ifCond .lt 30, 3) := by decide +kernel
theorem dX1_fillChamber_11 : decode cX1_fillChamber 11 = .ok (.iload_n 2, 1) := by decide +kernel
theorem dX1_fillChamber_12 : decode cX1_fillChamber 12 = .ok (.sipush 10000, 3) := by decide +kernel
theorem dX1_fillChamber_15 : decode cX1_fillChamber 15 = .ok (.if_icmp .gt 23, 3) := by decide +kernel
theorem dX1_fillChamber_18 : decode cX1_fillChamber 18 = .ok (.aload_n 0, 1) := by decide +kernel
theorem dX1_fillChamber_19 : decode cX1_fillChamber 19 = .ok (.iload_n 1, 1) := by decide +kernel
theorem dX1_fillChamber_20 : decode cX1_fillChamber 20 = .ok (.iconst 0, 1) := by decide +kernel
theorem dX1_fillChamber_21 : decode cX1_fillChamber 21 = .ok (.invokevirtual 35, 3) := by decide +kernel
theorem dX1_fillChamber_24 : decode cX1_fillChamber 24 = .ok (.iconst 1, 1) := by decide +kernel
theorem dX1_fillChamber_25 : decode cX1_fillChamber 25 = .ok (.if_icmp .eq 13, 3) := by decide +kernel
theorem dX1_fillChamber_28 : decode cX1_fillChamber 28 = .ok (.aload_n 0, 1) := by decide +kernel
theorem dX1_fillChamber_29 : decode cX1_fillChamber 29 = .ok (.iload_n 1, 1) := by decide +kernel
theorem dX1_fillChamber_30 : decode cX1_fillChamber 30 = .ok (.iconst 1, 1) := by decide +kernel
theorem dX1_fillChamber_31 : decode cX1_fillChamber 31 = .ok (.invokevirtual 35, 3) := by decide +kernel
theorem dX1_fillChamber_34 : decode cX1_fillChamber 34 = .ok (.iconst 1, 1) := by decide +kernel
theorem dX1_fillChamber_35 : decode cX1_fillChamber 35 = .ok (.if_icmp .ne 5, 3) := by decide +kernel
theorem dX1_fillChamber_38 : decode cX1_fillChamber 38 = .ok (.iconst 0, 1) := by decide +kernel
theorem dX1_fillChamber_39 : decode cX1_fillChamber 39 = .ok (.ireturn, 1) := by decide +kernel
theorem dX1_fillChamber_40 : decode cX1_fillChamber 40 = .ok (.aload_n 0, 1) := by decide +kernel
theorem dX1_fillChamber_41 : decode cX1_fillChamber 41 = .ok (.getfield 11, 3) := by decide +kernel
theorem dX1_fillChamber_44 : decode cX1_fillChamber 44 = .ok (.iload_n 1, 1) := by decide +kernel
theorem dX1_fillChamber_45 : decode cX1_fillChamber 45 = .ok (.iload_n 2, 1) := by decide +kernel
theorem dX1_fillChamber_46 : decode cX1_fillChamber 46 = .ok (.iastore, 1) := by decide +kernel
theorem dX1_fillChamber_47 : decode cX1_fillChamber 47 = .ok (.iconst 1, 1) := by decide +kernel
theorem dX1_fillChamber_48 : decode cX1_fillChamber 48 = .ok (.ireturn, 1) := by decide +kernel
def wX1_fillChamber_b38 (a0 : Nat) (x1 : Int32) (x2 : Int32)  (Sn : kp_S) (post : Int32 → kp_S → Prop) : Prop :=
  post 0 Sn
def wX1_fillChamber (a0 : Nat) (x1 : Int32) (x2 : Int32) (S : kp_S) (post : Int32 → kp_S → Prop) : Prop :=
  wX1_isLock x1 S (fun y2 T1 =>
  ((y2 = 0 →
  wX1_fillChamber_b38 a0 x1 x2   T1 post) ∧ (¬ y2 = 0 →
  ((x2 < 0 →
  wX1_fillChamber_b38 a0 x1 x2   T1 post) ∧ (¬ x2 < 0 →
  ((10000 < x2 →
  wX1_fillChamber_b38 a0 x1 x2   T1 post) ∧ (¬ 10000 < x2 →
  wX1_gateOf a0 x1 0 T1 (fun y4 T3 =>
  ((y4 = 1 →
  wX1_fillChamber_b38 a0 x1 x2   T3 post) ∧ (¬ y4 = 1 →
  wX1_gateOf a0 x1 1 T3 (fun y6 T5 =>
  ((¬ y6 = 1 →
  ∃ b7 : Nat, kp_R T5 200 a0 = some b7 ∧
  vp_in x1 (kp_N T5 b7) ∧ ∀ T8 : kp_S, T8 = kp_sA T5 b7 (upd (kp_A T5 b7) (x1.toNatClampNeg) x2) →
  post 1 T8) ∧ (y6 = 1 →
  wX1_fillChamber_b38 a0 x1 x2   T5 post)))))))))))))
set_option maxHeartbeats 4000000 in
set_option maxRecDepth 100000 in
theorem c_X1_fillChamber (l : Launch) (D : va_G) (cy : Nat → ClassId) (ad : (Nat → Nat) × (Nat → Nat)) (S : kp_S) (a0 : Nat) (x1 : Int32) (x2 : Int32) (post : Int32 → kp_S → Prop) (hS : kp_ok S) (f_a0 : kp_is S a0 1) (hw : wX1_fillChamber a0 x1 x2 S post) : kp_M l yX1_fillChamber cX1_fillChamber 3 (some .boolean) { frames := 2, cells := 0, slots := 0, locals := 43 } D cy ad S [.ref a0, .int x1, .int x2] 0 0 (fun A => kp_Qi D cy A S post) := by
  refine kp_start (own := RX1) (by decide) rfl (Nat.le_of_ble_eq_true rfl) hS ?_
  intro p e s m below meth c A ls X hr hlocks hname h hl
  have hle : kp_le S S := kp_le.rf
  have hl : lv_has ls 3 [(0, .ref a0), (1, .int x1), (2, .int x2)] := hl
  have j38 : ∀  (Sn : kp_S) (H : Heap) (locs : List Loc) (ls : Array Slot), lv_has ls 3 [] → kp_H D cy A Sn s.heap H locs → kp_le S Sn → kp_is Sn a0 1 → wX1_fillChamber_b38 a0 x1 x2   Sn post → W p l e { frames := 2, cells := 0, slots := 0, locals := 43 } s m ([.ref a0, .int x1, .int x2] : List Value).toArray below meth c H locs 0 0 (MQ below (kp_Qi D cy A S post) ([.ref a0, .int x1, .int x2] : List Value).toArray s 0 0 A) (F0 m 38 ls []) := by
    intro  Sn H locs ls hl h hle f_a0 hw
    unfold wX1_fillChamber_b38 at hw
    refine lv_iconst (v := 0) X.1 X.2.1 dX1_fillChamber_38 (by decide) ?_
    exact kp_reti X hr hlocks h hle (by decide) hw dX1_fillChamber_39
  unfold wX1_fillChamber at hw
  have h : kp_H D cy A S s.heap s.heap [] := h
  revert h
  intro h
  refine lv_iload_n X.1 X.2.1 dX1_fillChamber_0 rfl (lv_at hl 1 rfl) ?_
  refine kp_calli X h (kp_runS (rm := { frames := 0, cells := 0, slots := 0, locals := 0 }) (mc := 0) (ms := 0) (rest := []) (Qc := fun A => kp_Qi D cy A S _) X h (c_X1_isLock l D cy ad S x1 _ h.2.2.2  hw) cs_1_32 ⟨by decide, by decide, rfl, rfl, by decide, by decide⟩ rfl hl.1 rfl (Nat.le_of_ble_eq_true rfl) dX1_fillChamber_1) (fun y2 T1 hw l_T1 H locs h => ?_)
  have f_a0 := l_T1.is f_a0
  have hle := hle.tr l_T1
  refine lv_if_eq (tgt := 38) X.1 X.2.1 dX1_fillChamber_4 (by decide) (fun c13 => ?_) (fun c13 => ?_)
  · have hw := hw.1 c13
    exact j38  T1 _ _ ls (lv_sub hl [] rfl) h hle f_a0 hw
  · have hw := hw.2 c13
    refine lv_iload_n X.1 X.2.1 dX1_fillChamber_7 rfl (lv_at hl 2 rfl) ?_
    refine lv_if_lt (tgt := 38) X.1 X.2.1 dX1_fillChamber_8 (by decide) (fun c12 => ?_) (fun c12 => ?_)
    · have hw := hw.1 c12
      exact j38  T1 _ _ ls (lv_sub hl [] rfl) h hle f_a0 hw
    · have hw := hw.2 c12
      refine lv_iload_n X.1 X.2.1 dX1_fillChamber_11 rfl (lv_at hl 2 rfl) ?_
      refine lv_sipush (v := 10000) X.1 X.2.1 dX1_fillChamber_12 (by decide) ?_
      refine lv_icmp_gt (tgt := 38) X.1 X.2.1 dX1_fillChamber_15 (by decide) (fun c11 => ?_) (fun c11 => ?_)
      · have hw := hw.1 c11
        exact j38  T1 _ _ ls (lv_sub hl [] rfl) h hle f_a0 hw
      · have hw := hw.2 c11
        refine lv_aload_n X.1 X.2.1 dX1_fillChamber_18 rfl (lv_at hl 0 rfl) ?_
        refine lv_iload_n X.1 X.2.1 dX1_fillChamber_19 rfl (lv_at hl 1 rfl) ?_
        refine lv_iconst (v := 0) X.1 X.2.1 dX1_fillChamber_20 (by decide) ?_
        refine kp_calli X h (kp_runV (rm := { frames := 1, cells := 0, slots := 0, locals := 21 }) (mc := 0) (ms := 0) (rest := []) (Qc := fun A => kp_Qi D cy A T1 _) X h (c_X1_gateOf l D cy ad T1 a0 x1 0 _ h.2.2.2 f_a0 hw) f_a0 cv_1_35 ⟨by decide, by decide, rfl, rfl, by decide, by decide⟩ rfl hl.1 rfl (Nat.le_of_ble_eq_true rfl) dX1_fillChamber_21) (fun y4 T3 hw l_T3 H locs h => ?_)
        have f_a0 := l_T3.is f_a0
        have hle := hle.tr l_T3
        refine lv_iconst (v := 1) X.1 X.2.1 dX1_fillChamber_24 (by decide) ?_
        refine lv_icmp_eq (tgt := 38) X.1 X.2.1 dX1_fillChamber_25 (by decide) (fun c10 => ?_) (fun c10 => ?_)
        · have hw := hw.1 c10
          exact j38  T3 _ _ ls (lv_sub hl [] rfl) h hle f_a0 hw
        · have hw := hw.2 c10
          refine lv_aload_n X.1 X.2.1 dX1_fillChamber_28 rfl (lv_at hl 0 rfl) ?_
          refine lv_iload_n X.1 X.2.1 dX1_fillChamber_29 rfl (lv_at hl 1 rfl) ?_
          refine lv_iconst (v := 1) X.1 X.2.1 dX1_fillChamber_30 (by decide) ?_
          refine kp_calli X h (kp_runV (rm := { frames := 1, cells := 0, slots := 0, locals := 21 }) (mc := 0) (ms := 0) (rest := []) (Qc := fun A => kp_Qi D cy A T3 _) X h (c_X1_gateOf l D cy ad T3 a0 x1 1 _ h.2.2.2 f_a0 hw) f_a0 cv_1_35 ⟨by decide, by decide, rfl, rfl, by decide, by decide⟩ rfl hl.1 rfl (Nat.le_of_ble_eq_true rfl) dX1_fillChamber_31) (fun y6 T5 hw l_T5 H locs h => ?_)
          have f_a0 := l_T5.is f_a0
          have hle := hle.tr l_T5
          refine lv_iconst (v := 1) X.1 X.2.1 dX1_fillChamber_34 (by decide) ?_
          refine lv_icmp_ne (tgt := 40) X.1 X.2.1 dX1_fillChamber_35 (by decide) (fun c9 => ?_) (fun c9 => ?_)
          · have hw := hw.1 c9
            refine lv_aload_n X.1 X.2.1 dX1_fillChamber_40 rfl (lv_at hl 0 rfl) ?_
            obtain ⟨b7, e_b7, hw⟩ := hw
            have f_b7 := h.2.2.2.rf (c := 1) (k := 0) f_a0 (by decide) (by decide) e_b7 (t := 14) rfl
            refine kp_get X h f_a0 ff_1_11.l (v := .ref b7) (congrArg va_rf e_b7) dX1_fillChamber_41 ?_
            refine lv_iload_n X.1 X.2.1 dX1_fillChamber_44 rfl (lv_at hl 1 rfl) ?_
            refine lv_iload_n X.1 X.2.1 dX1_fillChamber_45 rfl (lv_at hl 2 rfl) ?_
            obtain ⟨hi, hw⟩ := hw
            refine kp_iast X h f_b7 hi dX1_fillChamber_46 (fun T8 e_T8 l_T8 H locs h => ?_)
            have hw := hw T8 e_T8
            have f_a0 := l_T8.is f_a0
            have f_b7 := l_T8.is f_b7
            have hle := hle.tr l_T8
            have e_b7 : kp_R T8 200 a0 = some b7 := by rw [e_T8]; exact e_b7
            refine lv_iconst (v := 1) X.1 X.2.1 dX1_fillChamber_47 (by decide) ?_
            exact kp_reti X hr hlocks h hle (by decide) hw dX1_fillChamber_48
          · have hw := hw.2 c9
            exact j38  T5 _ _ ls (lv_sub hl [] rfl) h hle f_a0 hw
theorem dX1_isTaken_0 : decode cX1_isTaken 0 = .ok (.iload_n 1, 1) := by decide +kernel
theorem dX1_isTaken_1 : decode cX1_isTaken 1 = .ok (.iconst 2, 1) := by decide +kernel
theorem dX1_isTaken_2 : decode cX1_isTaken 2 = .ok (.irem, 1) := by decide +kernel
theorem dX1_isTaken_3 : decode cX1_isTaken 3 = .ok (.ifCond .ne 5, 3) := by decide +kernel
theorem dX1_isTaken_6 : decode cX1_isTaken 6 = .ok (.iconst 0, 1) := by decide +kernel
theorem dX1_isTaken_7 : decode cX1_isTaken 7 = .ok (.ireturn, 1) := by decide +kernel
theorem dX1_isTaken_8 : decode cX1_isTaken 8 = .ok (.iconst 0, 1) := by decide +kernel
theorem dX1_isTaken_9 : decode cX1_isTaken 9 = .ok (.istore_n 3, 1) := by decide +kernel
theorem dX1_isTaken_10 : decode cX1_isTaken 10 = .ok (.iload_n 3, 1) := by decide +kernel
theorem dX1_isTaken_11 : decode cX1_isTaken 11 = .ok (.bipush 8, 2) := by decide +kernel
theorem dX1_isTaken_13 : decode cX1_isTaken 13 = .ok (.if_icmp .ge 26, 3) := by decide +kernel
theorem dX1_isTaken_16 : decode cX1_isTaken 16 = .ok (.iload_n 3, 1) := by decide +kernel
theorem dX1_isTaken_17 : decode cX1_isTaken 17 = .ok (.iload_n 2, 1) := by decide +kernel
theorem dX1_isTaken_18 : decode cX1_isTaken 18 = .ok (.if_icmp .eq 15, 3) := by decide +kernel
theorem dX1_isTaken_21 : decode cX1_isTaken 21 = .ok (.aload_n 0, 1) := by decide +kernel
theorem dX1_isTaken_22 : decode cX1_isTaken 22 = .ok (.getfield 24, 3) := by decide +kernel
theorem dX1_isTaken_25 : decode cX1_isTaken 25 = .ok (.iload_n 3, 1) := by decide +kernel
theorem dX1_isTaken_26 : decode cX1_isTaken 26 = .ok (.iaload, 1) := by decide +kernel
theorem dX1_isTaken_27 : decode cX1_isTaken 27 = .ok (.iload_n 1, 1) := by decide +kernel
theorem dX1_isTaken_28 : decode cX1_isTaken 28 = .ok (.if_icmp .ne 5, 3) := by decide +kernel
theorem dX1_isTaken_31 : decode cX1_isTaken 31 = .ok (.iconst 1, 1) := by decide +kernel
theorem dX1_isTaken_32 : decode cX1_isTaken 32 = .ok (.ireturn, 1) := by decide +kernel
theorem dX1_isTaken_33 : decode cX1_isTaken 33 = .ok (.iinc 3 1, 3) := by decide +kernel
theorem dX1_isTaken_36 : decode cX1_isTaken 36 = .ok (.goto (-26), 3) := by decide +kernel
theorem dX1_isTaken_39 : decode cX1_isTaken 39 = .ok (.iconst 0, 1) := by decide +kernel
theorem dX1_isTaken_40 : decode cX1_isTaken 40 = .ok (.ireturn, 1) := by decide +kernel
def wX1_isTaken_b33 (a0 : Nat) (x1 : Int32) (x2 : Int32) (xn3 : Int32) (K10 : Int32 → kp_S → Prop) (Sn : kp_S) (post : Int32 → kp_S → Prop) : Prop :=
  ∀ y1001 : Int32, y1001 = xn3 + 1 →
  K10 y1001 Sn
def wX1_isTaken_L10 (a0 : Nat) (x1 : Int32) (x2 : Int32)  (post : Int32 → kp_S → Prop) : Nat → Int32 → kp_S → Prop
  | 0, _, _ => False
  | n + 1, xn3, Sn =>
  ((8 ≤ xn3 →
  post 0 Sn) ∧ (¬ 8 ≤ xn3 →
  ((xn3 = x2 →
  wX1_isTaken_b33 a0 x1 x2 xn3 (fun xn3_ S_ => wX1_isTaken_L10 a0 x1 x2  post n xn3_ S_) Sn post) ∧ (¬ xn3 = x2 →
  ∃ b2001 : Nat, kp_R Sn 204 a0 = some b2001 ∧
  vp_in xn3 (kp_N Sn b2001) ∧
  ((¬ (kp_A Sn b2001 xn3.toNatClampNeg) = x1 →
  wX1_isTaken_b33 a0 x1 x2 xn3 (fun xn3_ S_ => wX1_isTaken_L10 a0 x1 x2  post n xn3_ S_) Sn post) ∧ ((kp_A Sn b2001 xn3.toNatClampNeg) = x1 →
  post 1 Sn))))))
def wX1_isTaken (a0 : Nat) (x1 : Int32) (x2 : Int32) (S : kp_S) (post : Int32 → kp_S → Prop) : Prop :=
  ((¬ (x1 - x1 / 2 * 2) = 0 →
  ∃ n0 : Nat, wX1_isTaken_L10 a0 x1 x2  post n0 0 S) ∧ ((x1 - x1 / 2 * 2) = 0 →
  post 0 S))
set_option maxHeartbeats 4000000 in
set_option maxRecDepth 100000 in
theorem c_X1_isTaken (l : Launch) (D : va_G) (cy : Nat → ClassId) (ad : (Nat → Nat) × (Nat → Nat)) (S : kp_S) (a0 : Nat) (x1 : Int32) (x2 : Int32) (post : Int32 → kp_S → Prop) (hS : kp_ok S) (f_a0 : kp_is S a0 1) (hw : wX1_isTaken a0 x1 x2 S post) : kp_M l yX1_isTaken cX1_isTaken 4 (some .boolean) { frames := 0, cells := 0, slots := 0, locals := 0 } D cy ad S [.ref a0, .int x1, .int x2] 0 0 (fun A => kp_Qi D cy A S post) := by
  refine kp_start (own := RX1) (by decide) rfl (Nat.le_of_ble_eq_true rfl) hS ?_
  intro p e s m below meth c A ls X hr hlocks hname h hl
  have hle : kp_le S S := kp_le.rf
  have hl : lv_has ls 4 [(0, .ref a0), (1, .int x1), (2, .int x2)] := hl
  have L10 : ∀ n10 : Nat, ∀ (xn3 : Int32) (Sn : kp_S) (H : Heap) (locs : List Loc) (ls : Array Slot), lv_has ls 4 [(0, .ref a0), (1, .int x1), (2, .int x2), (3, .int xn3)] → kp_H D cy A Sn s.heap H locs → kp_le S Sn → kp_is Sn a0 1 → wX1_isTaken_L10 a0 x1 x2  post n10 xn3 Sn → W p l e { frames := 0, cells := 0, slots := 0, locals := 0 } s m ([.ref a0, .int x1, .int x2] : List Value).toArray below meth c H locs 0 0 (MQ below (kp_Qi D cy A S post) ([.ref a0, .int x1, .int x2] : List Value).toArray s 0 0 A) (F0 m 10 ls []) := by
    intro n10
    induction n10 with
    | zero => intro xn3 Sn H locs ls hl h hle f_a0 hw; exact hw.elim
    | succ n10 ih10 =>
      have j33 : ∀ (xn3 : Int32) (Sn : kp_S) (H : Heap) (locs : List Loc) (ls : Array Slot), lv_has ls 4 [(0, .ref a0), (1, .int x1), (2, .int x2), (3, .int xn3)] → kp_H D cy A Sn s.heap H locs → kp_le S Sn → kp_is Sn a0 1 → wX1_isTaken_b33 a0 x1 x2 xn3 (fun xn3_ S_ => wX1_isTaken_L10 a0 x1 x2  post n10 xn3_ S_) Sn post → W p l e { frames := 0, cells := 0, slots := 0, locals := 0 } s m ([.ref a0, .int x1, .int x2] : List Value).toArray below meth c H locs 0 0 (MQ below (kp_Qi D cy A S post) ([.ref a0, .int x1, .int x2] : List Value).toArray s 0 0 A) (F0 m 33 ls []) := by
        intro xn3 Sn H locs ls hl h hle f_a0 hw
        unfold wX1_isTaken_b33 at hw
        obtain ⟨y1001, e_y1001⟩ : ∃ y : Int32, y = xn3 + 1 := ⟨_, rfl⟩
        have hw := hw y1001 e_y1001
        refine lv_iinc (v := y1001) (lv' := [(3, .int y1001), (0, .ref a0), (1, .int x1), (2, .int x2)]) X.1 X.2.1 dX1_isTaken_33 hl (k := 3) rfl (by rw [e_y1001]; rfl) (by decide) rfl (fun ls hl => ?_)
        refine lv_goto (tgt := 10) X.1 X.2.1 dX1_isTaken_36 (by decide) ?_
        exact ih10 y1001 Sn H locs ls (lv_sub hl [1, 2, 3, 0] rfl) h hle f_a0 hw
      intro xn3 Sn H locs ls hl h hle f_a0 hw
      unfold wX1_isTaken_L10 at hw
      refine lv_iload_n X.1 X.2.1 dX1_isTaken_10 rfl (lv_at hl 3 rfl) ?_
      refine lv_bipush (v := 8) X.1 X.2.1 dX1_isTaken_11 (by decide) ?_
      refine lv_icmp_ge (tgt := 39) X.1 X.2.1 dX1_isTaken_13 (by decide) (fun c2004 => ?_) (fun c2004 => ?_)
      · have hw := hw.1 c2004
        refine lv_iconst (v := 0) X.1 X.2.1 dX1_isTaken_39 (by decide) ?_
        exact kp_reti X hr hlocks h hle (by decide) hw dX1_isTaken_40
      · have hw := hw.2 c2004
        refine lv_iload_n X.1 X.2.1 dX1_isTaken_16 rfl (lv_at hl 3 rfl) ?_
        refine lv_iload_n X.1 X.2.1 dX1_isTaken_17 rfl (lv_at hl 2 rfl) ?_
        refine lv_icmp_eq (tgt := 33) X.1 X.2.1 dX1_isTaken_18 (by decide) (fun c2003 => ?_) (fun c2003 => ?_)
        · have hw := hw.1 c2003
          exact j33 xn3 Sn H locs ls (lv_sub hl [0, 1, 2, 3] rfl) h hle f_a0 hw
        · have hw := hw.2 c2003
          refine lv_aload_n X.1 X.2.1 dX1_isTaken_21 rfl (lv_at hl 0 rfl) ?_
          obtain ⟨b2001, e_b2001, hw⟩ := hw
          have f_b2001 := h.2.2.2.rf (c := 1) (k := 4) f_a0 (by decide) (by decide) e_b2001 (t := 14) rfl
          refine kp_get X h f_a0 ff_1_24.l (v := .ref b2001) (congrArg va_rf e_b2001) dX1_isTaken_22 ?_
          refine lv_iload_n X.1 X.2.1 dX1_isTaken_25 rfl (lv_at hl 3 rfl) ?_
          obtain ⟨hi, hw⟩ := hw
          refine kp_iald X h f_b2001 hi dX1_isTaken_26 ?_
          refine lv_iload_n X.1 X.2.1 dX1_isTaken_27 rfl (lv_at hl 1 rfl) ?_
          refine lv_icmp_ne (tgt := 33) X.1 X.2.1 dX1_isTaken_28 (by decide) (fun c2002 => ?_) (fun c2002 => ?_)
          · have hw := hw.1 c2002
            exact j33 xn3 Sn H locs ls (lv_sub hl [0, 1, 2, 3] rfl) h hle f_a0 hw
          · have hw := hw.2 c2002
            refine lv_iconst (v := 1) X.1 X.2.1 dX1_isTaken_31 (by decide) ?_
            exact kp_reti X hr hlocks h hle (by decide) hw dX1_isTaken_32
  unfold wX1_isTaken at hw
  have h : kp_H D cy A S s.heap s.heap [] := h
  revert h
  intro h
  refine lv_iload_n X.1 X.2.1 dX1_isTaken_0 rfl (lv_at hl 1 rfl) ?_
  refine lv_iconst (v := 2) X.1 X.2.1 dX1_isTaken_1 (by decide) ?_
  refine lv_irem X.1 X.2.1 dX1_isTaken_2 (by decide) ?_
  refine lv_if_ne (tgt := 8) X.1 X.2.1 dX1_isTaken_3 (by decide) (fun c1 => ?_) (fun c1 => ?_)
  · have hw := hw.1 c1
    refine lv_iconst (v := 0) X.1 X.2.1 dX1_isTaken_8 (by decide) ?_
    refine lv_istore_n (lv' := [(3, .int 0), (0, .ref a0), (1, .int x1), (2, .int x2)]) X.1 X.2.1 dX1_isTaken_9 rfl hl (by decide) rfl (fun ls hl => ?_)
    obtain ⟨n0, hw⟩ := hw
    exact L10 n0 0 S _ _ ls (lv_sub hl [1, 2, 3, 0] rfl) h hle f_a0 hw
  · have hw := hw.2 c1
    refine lv_iconst (v := 0) X.1 X.2.1 dX1_isTaken_6 (by decide) ?_
    exact kp_reti X hr hlocks h hle (by decide) hw dX1_isTaken_7
theorem dX1_layShip_0 : decode cX1_layShip 0 = .ok (.iload_n 1, 1) := by decide +kernel
theorem dX1_layShip_1 : decode cX1_layShip 1 = .ok (.invokestatic 39, 3) := by decide +kernel
theorem dX1_layShip_4 : decode cX1_layShip 4 = .ok (.ifCond .eq 22, 3) := by decide +kernel
theorem dX1_layShip_7 : decode cX1_layShip 7 = .ok (.iload_n 2, 1) := by decide +kernel
theorem dX1_layShip_8 : decode cX1_layShip 8 = .ok (.ifCond .lt 18, 3) := by decide +kernel
theorem dX1_layShip_11 : decode cX1_layShip 11 = .ok (.iload_n 2, 1) := by decide +kernel
theorem dX1_layShip_12 : decode cX1_layShip 12 = .ok (.bipush 12, 2) := by decide +kernel
theorem dX1_layShip_14 : decode cX1_layShip 14 = .ok (.if_icmp .gt 12, 3) := by decide +kernel
theorem dX1_layShip_17 : decode cX1_layShip 17 = .ok (.aload_n 0, 1) := by decide +kernel
theorem dX1_layShip_18 : decode cX1_layShip 18 = .ok (.iload_n 2, 1) := by decide +kernel
theorem dX1_layShip_19 : decode cX1_layShip 19 = .ok (.iload_n 1, 1) := by decide +kernel
theorem dX1_layShip_20 : decode cX1_layShip 20 = .ok (.invokevirtual 42, 3) := by decide +kernel
theorem dX1_layShip_23 : decode cX1_layShip 23 = .ok (.ifCond .eq 5, 3) := by decide +kernel
theorem dX1_layShip_26 : decode cX1_layShip 26 = .ok (.iconst 0, 1) := by decide +kernel
theorem dX1_layShip_27 : decode cX1_layShip 27 = .ok (.ireturn, 1) := by decide +kernel
theorem dX1_layShip_28 : decode cX1_layShip 28 = .ok (.aload_n 0, 1) := by decide +kernel
theorem dX1_layShip_29 : decode cX1_layShip 29 = .ok (.getfield 24, 3) := by decide +kernel
theorem dX1_layShip_32 : decode cX1_layShip 32 = .ok (.iload_n 1, 1) := by decide +kernel
theorem dX1_layShip_33 : decode cX1_layShip 33 = .ok (.iload_n 2, 1) := by decide +kernel
theorem dX1_layShip_34 : decode cX1_layShip 34 = .ok (.iastore, 1) := by decide +kernel
theorem dX1_layShip_35 : decode cX1_layShip 35 = .ok (.iconst 1, 1) := by decide +kernel
theorem dX1_layShip_36 : decode cX1_layShip 36 = .ok (.ireturn, 1) := by decide +kernel
def wX1_layShip_b26 (a0 : Nat) (x1 : Int32) (x2 : Int32)  (Sn : kp_S) (post : Int32 → kp_S → Prop) : Prop :=
  post 0 Sn
def wX1_layShip (a0 : Nat) (x1 : Int32) (x2 : Int32) (S : kp_S) (post : Int32 → kp_S → Prop) : Prop :=
  wX1_isShip x1 S (fun y2 T1 =>
  ((y2 = 0 →
  wX1_layShip_b26 a0 x1 x2   T1 post) ∧ (¬ y2 = 0 →
  ((x2 < 0 →
  wX1_layShip_b26 a0 x1 x2   T1 post) ∧ (¬ x2 < 0 →
  ((12 < x2 →
  wX1_layShip_b26 a0 x1 x2   T1 post) ∧ (¬ 12 < x2 →
  wX1_isTaken a0 x2 x1 T1 (fun y4 T3 =>
  ((y4 = 0 →
  ∃ b5 : Nat, kp_R T3 204 a0 = some b5 ∧
  vp_in x1 (kp_N T3 b5) ∧ ∀ T6 : kp_S, T6 = kp_sA T3 b5 (upd (kp_A T3 b5) (x1.toNatClampNeg) x2) →
  post 1 T6) ∧ (¬ y4 = 0 →
  wX1_layShip_b26 a0 x1 x2   T3 post))))))))))
set_option maxHeartbeats 4000000 in
set_option maxRecDepth 100000 in
theorem c_X1_layShip (l : Launch) (D : va_G) (cy : Nat → ClassId) (ad : (Nat → Nat) × (Nat → Nat)) (S : kp_S) (a0 : Nat) (x1 : Int32) (x2 : Int32) (post : Int32 → kp_S → Prop) (hS : kp_ok S) (f_a0 : kp_is S a0 1) (hw : wX1_layShip a0 x1 x2 S post) : kp_M l yX1_layShip cX1_layShip 3 (some .boolean) { frames := 1, cells := 0, slots := 0, locals := 23 } D cy ad S [.ref a0, .int x1, .int x2] 0 0 (fun A => kp_Qi D cy A S post) := by
  refine kp_start (own := RX1) (by decide) rfl (Nat.le_of_ble_eq_true rfl) hS ?_
  intro p e s m below meth c A ls X hr hlocks hname h hl
  have hle : kp_le S S := kp_le.rf
  have hl : lv_has ls 3 [(0, .ref a0), (1, .int x1), (2, .int x2)] := hl
  have j26 : ∀  (Sn : kp_S) (H : Heap) (locs : List Loc) (ls : Array Slot), lv_has ls 3 [] → kp_H D cy A Sn s.heap H locs → kp_le S Sn → kp_is Sn a0 1 → wX1_layShip_b26 a0 x1 x2   Sn post → W p l e { frames := 1, cells := 0, slots := 0, locals := 23 } s m ([.ref a0, .int x1, .int x2] : List Value).toArray below meth c H locs 0 0 (MQ below (kp_Qi D cy A S post) ([.ref a0, .int x1, .int x2] : List Value).toArray s 0 0 A) (F0 m 26 ls []) := by
    intro  Sn H locs ls hl h hle f_a0 hw
    unfold wX1_layShip_b26 at hw
    refine lv_iconst (v := 0) X.1 X.2.1 dX1_layShip_26 (by decide) ?_
    exact kp_reti X hr hlocks h hle (by decide) hw dX1_layShip_27
  unfold wX1_layShip at hw
  have h : kp_H D cy A S s.heap s.heap [] := h
  revert h
  intro h
  refine lv_iload_n X.1 X.2.1 dX1_layShip_0 rfl (lv_at hl 1 rfl) ?_
  refine kp_calli X h (kp_runS (rm := { frames := 0, cells := 0, slots := 0, locals := 0 }) (mc := 0) (ms := 0) (rest := []) (Qc := fun A => kp_Qi D cy A S _) X h (c_X1_isShip l D cy ad S x1 _ h.2.2.2  hw) cs_1_39 ⟨by decide, by decide, rfl, rfl, by decide, by decide⟩ rfl hl.1 rfl (Nat.le_of_ble_eq_true rfl) dX1_layShip_1) (fun y2 T1 hw l_T1 H locs h => ?_)
  have f_a0 := l_T1.is f_a0
  have hle := hle.tr l_T1
  refine lv_if_eq (tgt := 26) X.1 X.2.1 dX1_layShip_4 (by decide) (fun c10 => ?_) (fun c10 => ?_)
  · have hw := hw.1 c10
    exact j26  T1 _ _ ls (lv_sub hl [] rfl) h hle f_a0 hw
  · have hw := hw.2 c10
    refine lv_iload_n X.1 X.2.1 dX1_layShip_7 rfl (lv_at hl 2 rfl) ?_
    refine lv_if_lt (tgt := 26) X.1 X.2.1 dX1_layShip_8 (by decide) (fun c9 => ?_) (fun c9 => ?_)
    · have hw := hw.1 c9
      exact j26  T1 _ _ ls (lv_sub hl [] rfl) h hle f_a0 hw
    · have hw := hw.2 c9
      refine lv_iload_n X.1 X.2.1 dX1_layShip_11 rfl (lv_at hl 2 rfl) ?_
      refine lv_bipush (v := 12) X.1 X.2.1 dX1_layShip_12 (by decide) ?_
      refine lv_icmp_gt (tgt := 26) X.1 X.2.1 dX1_layShip_14 (by decide) (fun c8 => ?_) (fun c8 => ?_)
      · have hw := hw.1 c8
        exact j26  T1 _ _ ls (lv_sub hl [] rfl) h hle f_a0 hw
      · have hw := hw.2 c8
        refine lv_aload_n X.1 X.2.1 dX1_layShip_17 rfl (lv_at hl 0 rfl) ?_
        refine lv_iload_n X.1 X.2.1 dX1_layShip_18 rfl (lv_at hl 2 rfl) ?_
        refine lv_iload_n X.1 X.2.1 dX1_layShip_19 rfl (lv_at hl 1 rfl) ?_
        refine kp_calli X h (kp_runV (rm := { frames := 0, cells := 0, slots := 0, locals := 0 }) (mc := 0) (ms := 0) (rest := []) (Qc := fun A => kp_Qi D cy A T1 _) X h (c_X1_isTaken l D cy ad T1 a0 x2 x1 _ h.2.2.2 f_a0 hw) f_a0 cv_1_42 ⟨by decide, by decide, rfl, rfl, by decide, by decide⟩ rfl hl.1 rfl (Nat.le_of_ble_eq_true rfl) dX1_layShip_20) (fun y4 T3 hw l_T3 H locs h => ?_)
        have f_a0 := l_T3.is f_a0
        have hle := hle.tr l_T3
        refine lv_if_eq (tgt := 28) X.1 X.2.1 dX1_layShip_23 (by decide) (fun c7 => ?_) (fun c7 => ?_)
        · have hw := hw.1 c7
          refine lv_aload_n X.1 X.2.1 dX1_layShip_28 rfl (lv_at hl 0 rfl) ?_
          obtain ⟨b5, e_b5, hw⟩ := hw
          have f_b5 := h.2.2.2.rf (c := 1) (k := 4) f_a0 (by decide) (by decide) e_b5 (t := 14) rfl
          refine kp_get X h f_a0 ff_1_24.l (v := .ref b5) (congrArg va_rf e_b5) dX1_layShip_29 ?_
          refine lv_iload_n X.1 X.2.1 dX1_layShip_32 rfl (lv_at hl 1 rfl) ?_
          refine lv_iload_n X.1 X.2.1 dX1_layShip_33 rfl (lv_at hl 2 rfl) ?_
          obtain ⟨hi, hw⟩ := hw
          refine kp_iast X h f_b5 hi dX1_layShip_34 (fun T6 e_T6 l_T6 H locs h => ?_)
          have hw := hw T6 e_T6
          have f_a0 := l_T6.is f_a0
          have f_b5 := l_T6.is f_b5
          have hle := hle.tr l_T6
          have e_b5 : kp_R T6 204 a0 = some b5 := by rw [e_T6]; exact e_b5
          refine lv_iconst (v := 1) X.1 X.2.1 dX1_layShip_35 (by decide) ?_
          exact kp_reti X hr hlocks h hle (by decide) hw dX1_layShip_36
        · have hw := hw.2 c7
          exact j26  T3 _ _ ls (lv_sub hl [] rfl) h hle f_a0 hw
theorem dX1_levelOf_0 : decode cX1_levelOf 0 = .ok (.iload_n 1, 1) := by decide +kernel
theorem dX1_levelOf_1 : decode cX1_levelOf 1 = .ok (.invokestatic 32, 3) := by decide +kernel
theorem dX1_levelOf_4 : decode cX1_levelOf 4 = .ok (.ifCond .eq 12, 3) := by decide +kernel
theorem dX1_levelOf_7 : decode cX1_levelOf 7 = .ok (.aload_n 0, 1) := by decide +kernel
theorem dX1_levelOf_8 : decode cX1_levelOf 8 = .ok (.getfield 11, 3) := by decide +kernel
theorem dX1_levelOf_11 : decode cX1_levelOf 11 = .ok (.iload_n 1, 1) := by decide +kernel
theorem dX1_levelOf_12 : decode cX1_levelOf 12 = .ok (.iaload, 1) := by decide +kernel
theorem dX1_levelOf_13 : decode cX1_levelOf 13 = .ok (.goto 4, 3) := by decide +kernel
theorem dX1_levelOf_16 : decode cX1_levelOf 16 = .ok (.iconst (-1), 1) := by decide +kernel
theorem dX1_levelOf_17 : decode cX1_levelOf 17 = .ok (.ireturn, 1) := by decide +kernel
def wX1_levelOf_b17 (a0 : Nat) (x1 : Int32) (xt0 : Int32)  (Sn : kp_S) (post : Int32 → kp_S → Prop) : Prop :=
  post xt0 Sn
def wX1_levelOf (a0 : Nat) (x1 : Int32) (S : kp_S) (post : Int32 → kp_S → Prop) : Prop :=
  wX1_isLock x1 S (fun y2 T1 =>
  ((y2 = 0 →
  wX1_levelOf_b17 a0 x1 (-1)  T1 post) ∧ (¬ y2 = 0 →
  ∃ b3 : Nat, kp_R T1 200 a0 = some b3 ∧
  vp_in x1 (kp_N T1 b3) ∧
  wX1_levelOf_b17 a0 x1 (kp_A T1 b3 x1.toNatClampNeg)  T1 post)))
set_option maxHeartbeats 4000000 in
set_option maxRecDepth 100000 in
theorem c_X1_levelOf (l : Launch) (D : va_G) (cy : Nat → ClassId) (ad : (Nat → Nat) × (Nat → Nat)) (S : kp_S) (a0 : Nat) (x1 : Int32) (post : Int32 → kp_S → Prop) (hS : kp_ok S) (f_a0 : kp_is S a0 1) (hw : wX1_levelOf a0 x1 S post) : kp_M l yX1_levelOf cX1_levelOf 2 (some .int) { frames := 1, cells := 0, slots := 0, locals := 20 } D cy ad S [.ref a0, .int x1] 0 0 (fun A => kp_Qi D cy A S post) := by
  refine kp_start (own := RX1) (by decide) rfl (Nat.le_of_ble_eq_true rfl) hS ?_
  intro p e s m below meth c A ls X hr hlocks hname h hl
  have hle : kp_le S S := kp_le.rf
  have hl : lv_has ls 2 [(0, .ref a0), (1, .int x1)] := hl
  have j17 : ∀ (xt0 : Int32) (Sn : kp_S) (H : Heap) (locs : List Loc) (ls : Array Slot), lv_has ls 2 [] → kp_H D cy A Sn s.heap H locs → kp_le S Sn → kp_is Sn a0 1 → wX1_levelOf_b17 a0 x1 xt0  Sn post → W p l e { frames := 1, cells := 0, slots := 0, locals := 20 } s m ([.ref a0, .int x1] : List Value).toArray below meth c H locs 0 0 (MQ below (kp_Qi D cy A S post) ([.ref a0, .int x1] : List Value).toArray s 0 0 A) (F0 m 17 ls [.int xt0]) := by
    intro xt0 Sn H locs ls hl h hle f_a0 hw
    unfold wX1_levelOf_b17 at hw
    exact kp_reti X hr hlocks h hle rfl hw dX1_levelOf_17
  unfold wX1_levelOf at hw
  have h : kp_H D cy A S s.heap s.heap [] := h
  revert h
  intro h
  refine lv_iload_n X.1 X.2.1 dX1_levelOf_0 rfl (lv_at hl 1 rfl) ?_
  refine kp_calli X h (kp_runS (rm := { frames := 0, cells := 0, slots := 0, locals := 0 }) (mc := 0) (ms := 0) (rest := []) (Qc := fun A => kp_Qi D cy A S _) X h (c_X1_isLock l D cy ad S x1 _ h.2.2.2  hw) cs_1_32 ⟨by decide, by decide, rfl, rfl, by decide, by decide⟩ rfl hl.1 rfl (Nat.le_of_ble_eq_true rfl) dX1_levelOf_1) (fun y2 T1 hw l_T1 H locs h => ?_)
  have f_a0 := l_T1.is f_a0
  have hle := hle.tr l_T1
  refine lv_if_eq (tgt := 16) X.1 X.2.1 dX1_levelOf_4 (by decide) (fun c4 => ?_) (fun c4 => ?_)
  · have hw := hw.1 c4
    refine lv_iconst (v := (-1)) X.1 X.2.1 dX1_levelOf_16 (by decide) ?_
    exact j17 (-1) T1 _ _ ls (lv_sub hl [] rfl) h hle f_a0 hw
  · have hw := hw.2 c4
    refine lv_aload_n X.1 X.2.1 dX1_levelOf_7 rfl (lv_at hl 0 rfl) ?_
    obtain ⟨b3, e_b3, hw⟩ := hw
    have f_b3 := h.2.2.2.rf (c := 1) (k := 0) f_a0 (by decide) (by decide) e_b3 (t := 14) rfl
    refine kp_get X h f_a0 ff_1_11.l (v := .ref b3) (congrArg va_rf e_b3) dX1_levelOf_8 ?_
    refine lv_iload_n X.1 X.2.1 dX1_levelOf_11 rfl (lv_at hl 1 rfl) ?_
    obtain ⟨hi, hw⟩ := hw
    refine kp_iald X h f_b3 hi dX1_levelOf_12 ?_
    refine lv_goto (tgt := 17) X.1 X.2.1 dX1_levelOf_13 (by decide) ?_
    exact j17 (kp_A T1 b3 x1.toNatClampNeg) T1 _ _ ls (lv_sub hl [] rfl) h hle f_a0 hw
theorem dX1_reachLevelOf_0 : decode cX1_reachLevelOf 0 = .ok (.iload_n 1, 1) := by decide +kernel
theorem dX1_reachLevelOf_1 : decode cX1_reachLevelOf 1 = .ok (.invokestatic 27, 3) := by decide +kernel
theorem dX1_reachLevelOf_4 : decode cX1_reachLevelOf 4 = .ok (.ifCond .eq 15, 3) := by decide +kernel
theorem dX1_reachLevelOf_7 : decode cX1_reachLevelOf 7 = .ok (.aload_n 0, 1) := by decide +kernel
theorem dX1_reachLevelOf_8 : decode cX1_reachLevelOf 8 = .ok (.getfield 15, 3) := by decide +kernel
theorem dX1_reachLevelOf_11 : decode cX1_reachLevelOf 11 = .ok (.iload_n 1, 1) := by decide +kernel
theorem dX1_reachLevelOf_12 : decode cX1_reachLevelOf 12 = .ok (.iaload, 1) := by decide +kernel
theorem dX1_reachLevelOf_13 : decode cX1_reachLevelOf 13 = .ok (.bipush 10, 2) := by decide +kernel
theorem dX1_reachLevelOf_15 : decode cX1_reachLevelOf 15 = .ok (.idiv, 1) := by decide +kernel
theorem dX1_reachLevelOf_16 : decode cX1_reachLevelOf 16 = .ok (.goto 4, 3) := by decide +kernel
theorem dX1_reachLevelOf_19 : decode cX1_reachLevelOf 19 = .ok (.iconst (-1), 1) := by decide +kernel
theorem dX1_reachLevelOf_20 : decode cX1_reachLevelOf 20 = .ok (.ireturn, 1) := by decide +kernel
def wX1_reachLevelOf_b20 (a0 : Nat) (x1 : Int32) (xt0 : Int32)  (Sn : kp_S) (post : Int32 → kp_S → Prop) : Prop :=
  post xt0 Sn
def wX1_reachLevelOf (a0 : Nat) (x1 : Int32) (S : kp_S) (post : Int32 → kp_S → Prop) : Prop :=
  wX1_isReach x1 S (fun y2 T1 =>
  ((y2 = 0 →
  wX1_reachLevelOf_b20 a0 x1 (-1)  T1 post) ∧ (¬ y2 = 0 →
  ∃ b3 : Nat, kp_R T1 201 a0 = some b3 ∧
  vp_in x1 (kp_N T1 b3) ∧
  wX1_reachLevelOf_b20 a0 x1 ((kp_A T1 b3 x1.toNatClampNeg) / 10)  T1 post)))
set_option maxHeartbeats 4000000 in
set_option maxRecDepth 100000 in
theorem c_X1_reachLevelOf (l : Launch) (D : va_G) (cy : Nat → ClassId) (ad : (Nat → Nat) × (Nat → Nat)) (S : kp_S) (a0 : Nat) (x1 : Int32) (post : Int32 → kp_S → Prop) (hS : kp_ok S) (f_a0 : kp_is S a0 1) (hw : wX1_reachLevelOf a0 x1 S post) : kp_M l yX1_reachLevelOf cX1_reachLevelOf 2 (some .int) { frames := 1, cells := 0, slots := 0, locals := 20 } D cy ad S [.ref a0, .int x1] 0 0 (fun A => kp_Qi D cy A S post) := by
  refine kp_start (own := RX1) (by decide) rfl (Nat.le_of_ble_eq_true rfl) hS ?_
  intro p e s m below meth c A ls X hr hlocks hname h hl
  have hle : kp_le S S := kp_le.rf
  have hl : lv_has ls 2 [(0, .ref a0), (1, .int x1)] := hl
  have j20 : ∀ (xt0 : Int32) (Sn : kp_S) (H : Heap) (locs : List Loc) (ls : Array Slot), lv_has ls 2 [] → kp_H D cy A Sn s.heap H locs → kp_le S Sn → kp_is Sn a0 1 → wX1_reachLevelOf_b20 a0 x1 xt0  Sn post → W p l e { frames := 1, cells := 0, slots := 0, locals := 20 } s m ([.ref a0, .int x1] : List Value).toArray below meth c H locs 0 0 (MQ below (kp_Qi D cy A S post) ([.ref a0, .int x1] : List Value).toArray s 0 0 A) (F0 m 20 ls [.int xt0]) := by
    intro xt0 Sn H locs ls hl h hle f_a0 hw
    unfold wX1_reachLevelOf_b20 at hw
    exact kp_reti X hr hlocks h hle rfl hw dX1_reachLevelOf_20
  unfold wX1_reachLevelOf at hw
  have h : kp_H D cy A S s.heap s.heap [] := h
  revert h
  intro h
  refine lv_iload_n X.1 X.2.1 dX1_reachLevelOf_0 rfl (lv_at hl 1 rfl) ?_
  refine kp_calli X h (kp_runS (rm := { frames := 0, cells := 0, slots := 0, locals := 0 }) (mc := 0) (ms := 0) (rest := []) (Qc := fun A => kp_Qi D cy A S _) X h (c_X1_isReach l D cy ad S x1 _ h.2.2.2  hw) cs_1_27 ⟨by decide, by decide, rfl, rfl, by decide, by decide⟩ rfl hl.1 rfl (Nat.le_of_ble_eq_true rfl) dX1_reachLevelOf_1) (fun y2 T1 hw l_T1 H locs h => ?_)
  have f_a0 := l_T1.is f_a0
  have hle := hle.tr l_T1
  refine lv_if_eq (tgt := 19) X.1 X.2.1 dX1_reachLevelOf_4 (by decide) (fun c4 => ?_) (fun c4 => ?_)
  · have hw := hw.1 c4
    refine lv_iconst (v := (-1)) X.1 X.2.1 dX1_reachLevelOf_19 (by decide) ?_
    exact j20 (-1) T1 _ _ ls (lv_sub hl [] rfl) h hle f_a0 hw
  · have hw := hw.2 c4
    refine lv_aload_n X.1 X.2.1 dX1_reachLevelOf_7 rfl (lv_at hl 0 rfl) ?_
    obtain ⟨b3, e_b3, hw⟩ := hw
    have f_b3 := h.2.2.2.rf (c := 1) (k := 1) f_a0 (by decide) (by decide) e_b3 (t := 14) rfl
    refine kp_get X h f_a0 ff_1_15.l (v := .ref b3) (congrArg va_rf e_b3) dX1_reachLevelOf_8 ?_
    refine lv_iload_n X.1 X.2.1 dX1_reachLevelOf_11 rfl (lv_at hl 1 rfl) ?_
    obtain ⟨hi, hw⟩ := hw
    refine kp_iald X h f_b3 hi dX1_reachLevelOf_12 ?_
    refine lv_bipush (v := 10) X.1 X.2.1 dX1_reachLevelOf_13 (by decide) ?_
    refine lv_idiv X.1 X.2.1 dX1_reachLevelOf_15 (by decide) ?_
    refine lv_goto (tgt := 20) X.1 X.2.1 dX1_reachLevelOf_16 (by decide) ?_
    exact j20 ((kp_A T1 b3 x1.toNatClampNeg) / 10) T1 _ _ ls (lv_sub hl [] rfl) h hle f_a0 hw
theorem dX1_holdsOf_0 : decode cX1_holdsOf 0 = .ok (.iload_n 1, 1) := by decide +kernel
theorem dX1_holdsOf_1 : decode cX1_holdsOf 1 = .ok (.invokestatic 32, 3) := by decide +kernel
theorem dX1_holdsOf_4 : decode cX1_holdsOf 4 = .ok (.ifCond .eq 12, 3) := by decide +kernel
theorem dX1_holdsOf_7 : decode cX1_holdsOf 7 = .ok (.aload_n 0, 1) := by decide +kernel
theorem dX1_holdsOf_8 : decode cX1_holdsOf 8 = .ok (.getfield 21, 3) := by decide +kernel
theorem dX1_holdsOf_11 : decode cX1_holdsOf 11 = .ok (.iload_n 1, 1) := by decide +kernel
theorem dX1_holdsOf_12 : decode cX1_holdsOf 12 = .ok (.iaload, 1) := by decide +kernel
theorem dX1_holdsOf_13 : decode cX1_holdsOf 13 = .ok (.goto 4, 3) := by decide +kernel
theorem dX1_holdsOf_16 : decode cX1_holdsOf 16 = .ok (.iconst (-1), 1) := by decide +kernel
theorem dX1_holdsOf_17 : decode cX1_holdsOf 17 = .ok (.ireturn, 1) := by decide +kernel
def wX1_holdsOf_b17 (a0 : Nat) (x1 : Int32) (xt0 : Int32)  (Sn : kp_S) (post : Int32 → kp_S → Prop) : Prop :=
  post xt0 Sn
def wX1_holdsOf (a0 : Nat) (x1 : Int32) (S : kp_S) (post : Int32 → kp_S → Prop) : Prop :=
  wX1_isLock x1 S (fun y2 T1 =>
  ((y2 = 0 →
  wX1_holdsOf_b17 a0 x1 (-1)  T1 post) ∧ (¬ y2 = 0 →
  ∃ b3 : Nat, kp_R T1 203 a0 = some b3 ∧
  vp_in x1 (kp_N T1 b3) ∧
  wX1_holdsOf_b17 a0 x1 (kp_A T1 b3 x1.toNatClampNeg)  T1 post)))
set_option maxHeartbeats 4000000 in
set_option maxRecDepth 100000 in
theorem c_X1_holdsOf (l : Launch) (D : va_G) (cy : Nat → ClassId) (ad : (Nat → Nat) × (Nat → Nat)) (S : kp_S) (a0 : Nat) (x1 : Int32) (post : Int32 → kp_S → Prop) (hS : kp_ok S) (f_a0 : kp_is S a0 1) (hw : wX1_holdsOf a0 x1 S post) : kp_M l yX1_holdsOf cX1_holdsOf 2 (some .int) { frames := 1, cells := 0, slots := 0, locals := 20 } D cy ad S [.ref a0, .int x1] 0 0 (fun A => kp_Qi D cy A S post) := by
  refine kp_start (own := RX1) (by decide) rfl (Nat.le_of_ble_eq_true rfl) hS ?_
  intro p e s m below meth c A ls X hr hlocks hname h hl
  have hle : kp_le S S := kp_le.rf
  have hl : lv_has ls 2 [(0, .ref a0), (1, .int x1)] := hl
  have j17 : ∀ (xt0 : Int32) (Sn : kp_S) (H : Heap) (locs : List Loc) (ls : Array Slot), lv_has ls 2 [] → kp_H D cy A Sn s.heap H locs → kp_le S Sn → kp_is Sn a0 1 → wX1_holdsOf_b17 a0 x1 xt0  Sn post → W p l e { frames := 1, cells := 0, slots := 0, locals := 20 } s m ([.ref a0, .int x1] : List Value).toArray below meth c H locs 0 0 (MQ below (kp_Qi D cy A S post) ([.ref a0, .int x1] : List Value).toArray s 0 0 A) (F0 m 17 ls [.int xt0]) := by
    intro xt0 Sn H locs ls hl h hle f_a0 hw
    unfold wX1_holdsOf_b17 at hw
    exact kp_reti X hr hlocks h hle rfl hw dX1_holdsOf_17
  unfold wX1_holdsOf at hw
  have h : kp_H D cy A S s.heap s.heap [] := h
  revert h
  intro h
  refine lv_iload_n X.1 X.2.1 dX1_holdsOf_0 rfl (lv_at hl 1 rfl) ?_
  refine kp_calli X h (kp_runS (rm := { frames := 0, cells := 0, slots := 0, locals := 0 }) (mc := 0) (ms := 0) (rest := []) (Qc := fun A => kp_Qi D cy A S _) X h (c_X1_isLock l D cy ad S x1 _ h.2.2.2  hw) cs_1_32 ⟨by decide, by decide, rfl, rfl, by decide, by decide⟩ rfl hl.1 rfl (Nat.le_of_ble_eq_true rfl) dX1_holdsOf_1) (fun y2 T1 hw l_T1 H locs h => ?_)
  have f_a0 := l_T1.is f_a0
  have hle := hle.tr l_T1
  refine lv_if_eq (tgt := 16) X.1 X.2.1 dX1_holdsOf_4 (by decide) (fun c4 => ?_) (fun c4 => ?_)
  · have hw := hw.1 c4
    refine lv_iconst (v := (-1)) X.1 X.2.1 dX1_holdsOf_16 (by decide) ?_
    exact j17 (-1) T1 _ _ ls (lv_sub hl [] rfl) h hle f_a0 hw
  · have hw := hw.2 c4
    refine lv_aload_n X.1 X.2.1 dX1_holdsOf_7 rfl (lv_at hl 0 rfl) ?_
    obtain ⟨b3, e_b3, hw⟩ := hw
    have f_b3 := h.2.2.2.rf (c := 1) (k := 3) f_a0 (by decide) (by decide) e_b3 (t := 14) rfl
    refine kp_get X h f_a0 ff_1_21.l (v := .ref b3) (congrArg va_rf e_b3) dX1_holdsOf_8 ?_
    refine lv_iload_n X.1 X.2.1 dX1_holdsOf_11 rfl (lv_at hl 1 rfl) ?_
    obtain ⟨hi, hw⟩ := hw
    refine kp_iald X h f_b3 hi dX1_holdsOf_12 ?_
    refine lv_goto (tgt := 17) X.1 X.2.1 dX1_holdsOf_13 (by decide) ?_
    exact j17 (kp_A T1 b3 x1.toNatClampNeg) T1 _ _ ls (lv_sub hl [] rfl) h hle f_a0 hw
theorem dX1_placeOf_0 : decode cX1_placeOf 0 = .ok (.iload_n 1, 1) := by decide +kernel
theorem dX1_placeOf_1 : decode cX1_placeOf 1 = .ok (.invokestatic 39, 3) := by decide +kernel
theorem dX1_placeOf_4 : decode cX1_placeOf 4 = .ok (.ifCond .eq 12, 3) := by decide +kernel
theorem dX1_placeOf_7 : decode cX1_placeOf 7 = .ok (.aload_n 0, 1) := by decide +kernel
theorem dX1_placeOf_8 : decode cX1_placeOf 8 = .ok (.getfield 24, 3) := by decide +kernel
theorem dX1_placeOf_11 : decode cX1_placeOf 11 = .ok (.iload_n 1, 1) := by decide +kernel
theorem dX1_placeOf_12 : decode cX1_placeOf 12 = .ok (.iaload, 1) := by decide +kernel
theorem dX1_placeOf_13 : decode cX1_placeOf 13 = .ok (.goto 4, 3) := by decide +kernel
theorem dX1_placeOf_16 : decode cX1_placeOf 16 = .ok (.iconst (-1), 1) := by decide +kernel
theorem dX1_placeOf_17 : decode cX1_placeOf 17 = .ok (.ireturn, 1) := by decide +kernel
def wX1_placeOf_b17 (a0 : Nat) (x1 : Int32) (xt0 : Int32)  (Sn : kp_S) (post : Int32 → kp_S → Prop) : Prop :=
  post xt0 Sn
def wX1_placeOf (a0 : Nat) (x1 : Int32) (S : kp_S) (post : Int32 → kp_S → Prop) : Prop :=
  wX1_isShip x1 S (fun y2 T1 =>
  ((y2 = 0 →
  wX1_placeOf_b17 a0 x1 (-1)  T1 post) ∧ (¬ y2 = 0 →
  ∃ b3 : Nat, kp_R T1 204 a0 = some b3 ∧
  vp_in x1 (kp_N T1 b3) ∧
  wX1_placeOf_b17 a0 x1 (kp_A T1 b3 x1.toNatClampNeg)  T1 post)))
set_option maxHeartbeats 4000000 in
set_option maxRecDepth 100000 in
theorem c_X1_placeOf (l : Launch) (D : va_G) (cy : Nat → ClassId) (ad : (Nat → Nat) × (Nat → Nat)) (S : kp_S) (a0 : Nat) (x1 : Int32) (post : Int32 → kp_S → Prop) (hS : kp_ok S) (f_a0 : kp_is S a0 1) (hw : wX1_placeOf a0 x1 S post) : kp_M l yX1_placeOf cX1_placeOf 2 (some .int) { frames := 1, cells := 0, slots := 0, locals := 20 } D cy ad S [.ref a0, .int x1] 0 0 (fun A => kp_Qi D cy A S post) := by
  refine kp_start (own := RX1) (by decide) rfl (Nat.le_of_ble_eq_true rfl) hS ?_
  intro p e s m below meth c A ls X hr hlocks hname h hl
  have hle : kp_le S S := kp_le.rf
  have hl : lv_has ls 2 [(0, .ref a0), (1, .int x1)] := hl
  have j17 : ∀ (xt0 : Int32) (Sn : kp_S) (H : Heap) (locs : List Loc) (ls : Array Slot), lv_has ls 2 [] → kp_H D cy A Sn s.heap H locs → kp_le S Sn → kp_is Sn a0 1 → wX1_placeOf_b17 a0 x1 xt0  Sn post → W p l e { frames := 1, cells := 0, slots := 0, locals := 20 } s m ([.ref a0, .int x1] : List Value).toArray below meth c H locs 0 0 (MQ below (kp_Qi D cy A S post) ([.ref a0, .int x1] : List Value).toArray s 0 0 A) (F0 m 17 ls [.int xt0]) := by
    intro xt0 Sn H locs ls hl h hle f_a0 hw
    unfold wX1_placeOf_b17 at hw
    exact kp_reti X hr hlocks h hle rfl hw dX1_placeOf_17
  unfold wX1_placeOf at hw
  have h : kp_H D cy A S s.heap s.heap [] := h
  revert h
  intro h
  refine lv_iload_n X.1 X.2.1 dX1_placeOf_0 rfl (lv_at hl 1 rfl) ?_
  refine kp_calli X h (kp_runS (rm := { frames := 0, cells := 0, slots := 0, locals := 0 }) (mc := 0) (ms := 0) (rest := []) (Qc := fun A => kp_Qi D cy A S _) X h (c_X1_isShip l D cy ad S x1 _ h.2.2.2  hw) cs_1_39 ⟨by decide, by decide, rfl, rfl, by decide, by decide⟩ rfl hl.1 rfl (Nat.le_of_ble_eq_true rfl) dX1_placeOf_1) (fun y2 T1 hw l_T1 H locs h => ?_)
  have f_a0 := l_T1.is f_a0
  have hle := hle.tr l_T1
  refine lv_if_eq (tgt := 16) X.1 X.2.1 dX1_placeOf_4 (by decide) (fun c4 => ?_) (fun c4 => ?_)
  · have hw := hw.1 c4
    refine lv_iconst (v := (-1)) X.1 X.2.1 dX1_placeOf_16 (by decide) ?_
    exact j17 (-1) T1 _ _ ls (lv_sub hl [] rfl) h hle f_a0 hw
  · have hw := hw.2 c4
    refine lv_aload_n X.1 X.2.1 dX1_placeOf_7 rfl (lv_at hl 0 rfl) ?_
    obtain ⟨b3, e_b3, hw⟩ := hw
    have f_b3 := h.2.2.2.rf (c := 1) (k := 4) f_a0 (by decide) (by decide) e_b3 (t := 14) rfl
    refine kp_get X h f_a0 ff_1_24.l (v := .ref b3) (congrArg va_rf e_b3) dX1_placeOf_8 ?_
    refine lv_iload_n X.1 X.2.1 dX1_placeOf_11 rfl (lv_at hl 1 rfl) ?_
    obtain ⟨hi, hw⟩ := hw
    refine kp_iald X h f_b3 hi dX1_placeOf_12 ?_
    refine lv_goto (tgt := 17) X.1 X.2.1 dX1_placeOf_13 (by decide) ?_
    exact j17 (kp_A T1 b3 x1.toNatClampNeg) T1 _ _ ls (lv_sub hl [] rfl) h hle f_a0 hw
theorem dX1_allWater_0 : decode cX1_allWater 0 = .ok (.iconst 0, 1) := by decide +kernel
theorem dX1_allWater_1 : decode cX1_allWater 1 = .ok (.istore_n 1, 1) := by decide +kernel
theorem dX1_allWater_2 : decode cX1_allWater 2 = .ok (.iconst 0, 1) := by decide +kernel
theorem dX1_allWater_3 : decode cX1_allWater 3 = .ok (.istore_n 2, 1) := by decide +kernel
theorem dX1_allWater_4 : decode cX1_allWater 4 = .ok (.iload_n 2, 1) := by decide +kernel
theorem dX1_allWater_5 : decode cX1_allWater 5 = .ok (.bipush 6, 2) := by decide +kernel
theorem dX1_allWater_7 : decode cX1_allWater 7 = .ok (.if_icmp .ge 18, 3) := by decide +kernel
theorem dX1_allWater_10 : decode cX1_allWater 10 = .ok (.iload_n 1, 1) := by decide +kernel
theorem dX1_allWater_11 : decode cX1_allWater 11 = .ok (.aload_n 0, 1) := by decide +kernel
theorem dX1_allWater_12 : decode cX1_allWater 12 = .ok (.getfield 11, 3) := by decide +kernel
theorem dX1_allWater_15 : decode cX1_allWater 15 = .ok (.iload_n 2, 1) := by decide +kernel
theorem dX1_allWater_16 : decode cX1_allWater 16 = .ok (.iaload, 1) := by decide +kernel
theorem dX1_allWater_17 : decode cX1_allWater 17 = .ok (.iadd, 1) := by decide +kernel
theorem dX1_allWater_18 : decode cX1_allWater 18 = .ok (.istore_n 1, 1) := by decide +kernel
theorem dX1_allWater_19 : decode cX1_allWater 19 = .ok (.iinc 2 1, 3) := by decide +kernel
theorem dX1_allWater_22 : decode cX1_allWater 22 = .ok (.goto (-18), 3) := by decide +kernel
theorem dX1_allWater_25 : decode cX1_allWater 25 = .ok (.iconst 0, 1) := by decide +kernel
theorem dX1_allWater_26 : decode cX1_allWater 26 = .ok (.istore_n 2, 1) := by decide +kernel
theorem dX1_allWater_27 : decode cX1_allWater 27 = .ok (.iload_n 2, 1) := by decide +kernel
theorem dX1_allWater_28 : decode cX1_allWater 28 = .ok (.bipush 7, 2) := by decide +kernel
theorem dX1_allWater_30 : decode cX1_allWater 30 = .ok (.if_icmp .ge 18, 3) := by decide +kernel
theorem dX1_allWater_33 : decode cX1_allWater 33 = .ok (.iload_n 1, 1) := by decide +kernel
theorem dX1_allWater_34 : decode cX1_allWater 34 = .ok (.aload_n 0, 1) := by decide +kernel
theorem dX1_allWater_35 : decode cX1_allWater 35 = .ok (.getfield 15, 3) := by decide +kernel
theorem dX1_allWater_38 : decode cX1_allWater 38 = .ok (.iload_n 2, 1) := by decide +kernel
theorem dX1_allWater_39 : decode cX1_allWater 39 = .ok (.iaload, 1) := by decide +kernel
theorem dX1_allWater_40 : decode cX1_allWater 40 = .ok (.iadd, 1) := by decide +kernel
theorem dX1_allWater_41 : decode cX1_allWater 41 = .ok (.istore_n 1, 1) := by decide +kernel
theorem dX1_allWater_42 : decode cX1_allWater 42 = .ok (.iinc 2 1, 3) := by decide +kernel
theorem dX1_allWater_45 : decode cX1_allWater 45 = .ok (.goto (-18), 3) := by decide +kernel
theorem dX1_allWater_48 : decode cX1_allWater 48 = .ok (.iload_n 1, 1) := by decide +kernel
theorem dX1_allWater_49 : decode cX1_allWater 49 = .ok (.ireturn, 1) := by decide +kernel
def wX1_allWater_L27 (a0 : Nat)  (post : Int32 → kp_S → Prop) : Nat → Int32 → Int32 → kp_S → Prop
  | 0, _, _, _ => False
  | n + 1, xn1, xn2, Sn =>
  ((7 ≤ xn2 →
  post xn1 Sn) ∧ (¬ 7 ≤ xn2 →
  ∃ b1001 : Nat, kp_R Sn 201 a0 = some b1001 ∧
  vp_in xn2 (kp_N Sn b1001) ∧
  ∀ y1002 : Int32, y1002 = (xn1 + (kp_A Sn b1001 xn2.toNatClampNeg)) →
  ∀ y1003 : Int32, y1003 = xn2 + 1 →
  wX1_allWater_L27 a0  post n y1002 y1003 Sn))
def wX1_allWater_L4 (a0 : Nat)  (post : Int32 → kp_S → Prop) : Nat → Int32 → Int32 → kp_S → Prop
  | 0, _, _, _ => False
  | n + 1, xn1, xn2, Sn =>
  ((6 ≤ xn2 →
  ∃ n0 : Nat, wX1_allWater_L27 a0  post n0 xn1 0 Sn) ∧ (¬ 6 ≤ xn2 →
  ∃ b2001 : Nat, kp_R Sn 200 a0 = some b2001 ∧
  vp_in xn2 (kp_N Sn b2001) ∧
  ∀ y2002 : Int32, y2002 = (xn1 + (kp_A Sn b2001 xn2.toNatClampNeg)) →
  ∀ y2003 : Int32, y2003 = xn2 + 1 →
  wX1_allWater_L4 a0  post n y2002 y2003 Sn))
def wX1_allWater (a0 : Nat) (S : kp_S) (post : Int32 → kp_S → Prop) : Prop :=
  ∃ n0 : Nat, wX1_allWater_L4 a0  post n0 0 0 S
set_option maxHeartbeats 4000000 in
set_option maxRecDepth 100000 in
theorem c_X1_allWater (l : Launch) (D : va_G) (cy : Nat → ClassId) (ad : (Nat → Nat) × (Nat → Nat)) (S : kp_S) (a0 : Nat) (post : Int32 → kp_S → Prop) (hS : kp_ok S) (f_a0 : kp_is S a0 1) (hw : wX1_allWater a0 S post) : kp_M l yX1_allWater cX1_allWater 3 (some .int) { frames := 0, cells := 0, slots := 0, locals := 0 } D cy ad S [.ref a0] 0 0 (fun A => kp_Qi D cy A S post) := by
  refine kp_start (own := RX1) (by decide) rfl (Nat.le_of_ble_eq_true rfl) hS ?_
  intro p e s m below meth c A ls X hr hlocks hname h hl
  have hle : kp_le S S := kp_le.rf
  have hl : lv_has ls 3 [(0, .ref a0)] := hl
  have L27 : ∀ n27 : Nat, ∀ (xn1 : Int32) (xn2 : Int32) (Sn : kp_S) (H : Heap) (locs : List Loc) (ls : Array Slot), lv_has ls 3 [(0, .ref a0), (1, .int xn1), (2, .int xn2)] → kp_H D cy A Sn s.heap H locs → kp_le S Sn → kp_is Sn a0 1 → wX1_allWater_L27 a0  post n27 xn1 xn2 Sn → W p l e { frames := 0, cells := 0, slots := 0, locals := 0 } s m ([.ref a0] : List Value).toArray below meth c H locs 0 0 (MQ below (kp_Qi D cy A S post) ([.ref a0] : List Value).toArray s 0 0 A) (F0 m 27 ls []) := by
    intro n27
    induction n27 with
    | zero => intro xn1 xn2 Sn H locs ls hl h hle f_a0 hw; exact hw.elim
    | succ n27 ih27 =>
      intro xn1 xn2 Sn H locs ls hl h hle f_a0 hw
      unfold wX1_allWater_L27 at hw
      refine lv_iload_n X.1 X.2.1 dX1_allWater_27 rfl (lv_at hl 2 rfl) ?_
      refine lv_bipush (v := 7) X.1 X.2.1 dX1_allWater_28 (by decide) ?_
      refine lv_icmp_ge (tgt := 48) X.1 X.2.1 dX1_allWater_30 (by decide) (fun c1004 => ?_) (fun c1004 => ?_)
      · have hw := hw.1 c1004
        refine lv_iload_n X.1 X.2.1 dX1_allWater_48 rfl (lv_at hl 1 rfl) ?_
        exact kp_reti X hr hlocks h hle rfl hw dX1_allWater_49
      · have hw := hw.2 c1004
        refine lv_iload_n X.1 X.2.1 dX1_allWater_33 rfl (lv_at hl 1 rfl) ?_
        refine lv_aload_n X.1 X.2.1 dX1_allWater_34 rfl (lv_at hl 0 rfl) ?_
        obtain ⟨b1001, e_b1001, hw⟩ := hw
        have f_b1001 := h.2.2.2.rf (c := 1) (k := 1) f_a0 (by decide) (by decide) e_b1001 (t := 14) rfl
        refine kp_get X h f_a0 ff_1_15.l (v := .ref b1001) (congrArg va_rf e_b1001) dX1_allWater_35 ?_
        refine lv_iload_n X.1 X.2.1 dX1_allWater_38 rfl (lv_at hl 2 rfl) ?_
        obtain ⟨hi, hw⟩ := hw
        refine kp_iald X h f_b1001 hi dX1_allWater_39 ?_
        refine lv_iadd X.1 X.2.1 dX1_allWater_40 ?_
        refine lv_topi (fun y1002 e_y1002 => ?_)
        have hw := hw y1002 e_y1002
        refine lv_istore_n (lv' := [(1, .int y1002), (0, .ref a0), (2, .int xn2)]) X.1 X.2.1 dX1_allWater_41 rfl hl (by decide) rfl (fun ls hl => ?_)
        obtain ⟨y1003, e_y1003⟩ : ∃ y : Int32, y = xn2 + 1 := ⟨_, rfl⟩
        have hw := hw y1003 e_y1003
        refine lv_iinc (v := y1003) (lv' := [(2, .int y1003), (1, .int y1002), (0, .ref a0)]) X.1 X.2.1 dX1_allWater_42 hl (k := 2) rfl (by rw [e_y1003]; rfl) (by decide) rfl (fun ls hl => ?_)
        refine lv_goto (tgt := 27) X.1 X.2.1 dX1_allWater_45 (by decide) ?_
        exact ih27 y1002 y1003 Sn H locs ls (lv_sub hl [2, 1, 0] rfl) h hle f_a0 hw
  have L4 : ∀ n4 : Nat, ∀ (xn1 : Int32) (xn2 : Int32) (Sn : kp_S) (H : Heap) (locs : List Loc) (ls : Array Slot), lv_has ls 3 [(0, .ref a0), (1, .int xn1), (2, .int xn2)] → kp_H D cy A Sn s.heap H locs → kp_le S Sn → kp_is Sn a0 1 → wX1_allWater_L4 a0  post n4 xn1 xn2 Sn → W p l e { frames := 0, cells := 0, slots := 0, locals := 0 } s m ([.ref a0] : List Value).toArray below meth c H locs 0 0 (MQ below (kp_Qi D cy A S post) ([.ref a0] : List Value).toArray s 0 0 A) (F0 m 4 ls []) := by
    intro n4
    induction n4 with
    | zero => intro xn1 xn2 Sn H locs ls hl h hle f_a0 hw; exact hw.elim
    | succ n4 ih4 =>
      intro xn1 xn2 Sn H locs ls hl h hle f_a0 hw
      unfold wX1_allWater_L4 at hw
      refine lv_iload_n X.1 X.2.1 dX1_allWater_4 rfl (lv_at hl 2 rfl) ?_
      refine lv_bipush (v := 6) X.1 X.2.1 dX1_allWater_5 (by decide) ?_
      refine lv_icmp_ge (tgt := 25) X.1 X.2.1 dX1_allWater_7 (by decide) (fun c2004 => ?_) (fun c2004 => ?_)
      · have hw := hw.1 c2004
        refine lv_iconst (v := 0) X.1 X.2.1 dX1_allWater_25 (by decide) ?_
        refine lv_istore_n (lv' := [(2, .int 0), (0, .ref a0), (1, .int xn1)]) X.1 X.2.1 dX1_allWater_26 rfl hl (by decide) rfl (fun ls hl => ?_)
        obtain ⟨n0, hw⟩ := hw
        exact L27 n0 xn1 0 Sn H locs ls (lv_sub hl [1, 2, 0] rfl) h hle f_a0 hw
      · have hw := hw.2 c2004
        refine lv_iload_n X.1 X.2.1 dX1_allWater_10 rfl (lv_at hl 1 rfl) ?_
        refine lv_aload_n X.1 X.2.1 dX1_allWater_11 rfl (lv_at hl 0 rfl) ?_
        obtain ⟨b2001, e_b2001, hw⟩ := hw
        have f_b2001 := h.2.2.2.rf (c := 1) (k := 0) f_a0 (by decide) (by decide) e_b2001 (t := 14) rfl
        refine kp_get X h f_a0 ff_1_11.l (v := .ref b2001) (congrArg va_rf e_b2001) dX1_allWater_12 ?_
        refine lv_iload_n X.1 X.2.1 dX1_allWater_15 rfl (lv_at hl 2 rfl) ?_
        obtain ⟨hi, hw⟩ := hw
        refine kp_iald X h f_b2001 hi dX1_allWater_16 ?_
        refine lv_iadd X.1 X.2.1 dX1_allWater_17 ?_
        refine lv_topi (fun y2002 e_y2002 => ?_)
        have hw := hw y2002 e_y2002
        refine lv_istore_n (lv' := [(1, .int y2002), (0, .ref a0), (2, .int xn2)]) X.1 X.2.1 dX1_allWater_18 rfl hl (by decide) rfl (fun ls hl => ?_)
        obtain ⟨y2003, e_y2003⟩ : ∃ y : Int32, y = xn2 + 1 := ⟨_, rfl⟩
        have hw := hw y2003 e_y2003
        refine lv_iinc (v := y2003) (lv' := [(2, .int y2003), (1, .int y2002), (0, .ref a0)]) X.1 X.2.1 dX1_allWater_19 hl (k := 2) rfl (by rw [e_y2003]; rfl) (by decide) rfl (fun ls hl => ?_)
        refine lv_goto (tgt := 4) X.1 X.2.1 dX1_allWater_22 (by decide) ?_
        exact ih4 y2002 y2003 Sn H locs ls (lv_sub hl [2, 1, 0] rfl) h hle f_a0 hw
  unfold wX1_allWater at hw
  have h : kp_H D cy A S s.heap s.heap [] := h
  revert h
  intro h
  refine lv_iconst (v := 0) X.1 X.2.1 dX1_allWater_0 (by decide) ?_
  refine lv_istore_n (lv' := [(1, .int 0), (0, .ref a0)]) X.1 X.2.1 dX1_allWater_1 rfl hl (by decide) rfl (fun ls hl => ?_)
  refine lv_iconst (v := 0) X.1 X.2.1 dX1_allWater_2 (by decide) ?_
  refine lv_istore_n (lv' := [(2, .int 0), (1, .int 0), (0, .ref a0)]) X.1 X.2.1 dX1_allWater_3 rfl hl (by decide) rfl (fun ls hl => ?_)
  obtain ⟨n0, hw⟩ := hw
  exact L4 n0 0 0 S _ _ ls (lv_sub hl [2, 1, 0] rfl) h hle f_a0 hw
theorem dX1_fact_0 : decode cX1_fact 0 = .ok (.iload_n 1, 1) := by decide +kernel
theorem dX1_fact_1 : decode cX1_fact 1 = .ok (.tableswitch 98 0 6 #[43, 49, 56, 63, 69, 87, 93], 43) := by decide +kernel
theorem dX1_fact_44 : decode cX1_fact 44 = .ok (.aload_n 0, 1) := by decide +kernel
theorem dX1_fact_45 : decode cX1_fact 45 = .ok (.iload_n 2, 1) := by decide +kernel
theorem dX1_fact_46 : decode cX1_fact 46 = .ok (.invokevirtual 46, 3) := by decide +kernel
theorem dX1_fact_49 : decode cX1_fact 49 = .ok (.ireturn, 1) := by decide +kernel
theorem dX1_fact_50 : decode cX1_fact 50 = .ok (.aload_n 0, 1) := by decide +kernel
theorem dX1_fact_51 : decode cX1_fact 51 = .ok (.iload_n 2, 1) := by decide +kernel
theorem dX1_fact_52 : decode cX1_fact 52 = .ok (.iconst 0, 1) := by decide +kernel
theorem dX1_fact_53 : decode cX1_fact 53 = .ok (.invokevirtual 35, 3) := by decide +kernel
theorem dX1_fact_56 : decode cX1_fact 56 = .ok (.ireturn, 1) := by decide +kernel
theorem dX1_fact_57 : decode cX1_fact 57 = .ok (.aload_n 0, 1) := by decide +kernel
theorem dX1_fact_58 : decode cX1_fact 58 = .ok (.iload_n 2, 1) := by decide +kernel
theorem dX1_fact_59 : decode cX1_fact 59 = .ok (.iconst 1, 1) := by decide +kernel
theorem dX1_fact_60 : decode cX1_fact 60 = .ok (.invokevirtual 35, 3) := by decide +kernel
theorem dX1_fact_63 : decode cX1_fact 63 = .ok (.ireturn, 1) := by decide +kernel
theorem dX1_fact_64 : decode cX1_fact 64 = .ok (.aload_n 0, 1) := by decide +kernel
theorem dX1_fact_65 : decode cX1_fact 65 = .ok (.iload_n 2, 1) := by decide +kernel
theorem dX1_fact_66 : decode cX1_fact 66 = .ok (.invokevirtual 50, 3) := by decide +kernel
theorem dX1_fact_69 : decode cX1_fact 69 = .ok (.ireturn, 1) := by decide +kernel
theorem dX1_fact_70 : decode cX1_fact 70 = .ok (.iload_n 2, 1) := by decide +kernel
theorem dX1_fact_71 : decode cX1_fact 71 = .ok (.invokestatic 27, 3) := by decide +kernel
theorem dX1_fact_74 : decode cX1_fact 74 = .ok (.ifCond .eq 12, 3) := by decide +kernel
theorem dX1_fact_77 : decode cX1_fact 77 = .ok (.aload_n 0, 1) := by decide +kernel
theorem dX1_fact_78 : decode cX1_fact 78 = .ok (.getfield 15, 3) := by decide +kernel
theorem dX1_fact_81 : decode cX1_fact 81 = .ok (.iload_n 2, 1) := by decide +kernel
theorem dX1_fact_82 : decode cX1_fact 82 = .ok (.iaload, 1) := by decide +kernel
theorem dX1_fact_83 : decode cX1_fact 83 = .ok (.goto 4, 3) := by decide +kernel
theorem dX1_fact_86 : decode cX1_fact 86 = .ok (.iconst (-1), 1) := by decide +kernel
theorem dX1_fact_87 : decode cX1_fact 87 = .ok (.ireturn, 1) := by decide +kernel
theorem dX1_fact_88 : decode cX1_fact 88 = .ok (.aload_n 0, 1) := by decide +kernel
theorem dX1_fact_89 : decode cX1_fact 89 = .ok (.iload_n 2, 1) := by decide +kernel
theorem dX1_fact_90 : decode cX1_fact 90 = .ok (.invokevirtual 53, 3) := by decide +kernel
theorem dX1_fact_93 : decode cX1_fact 93 = .ok (.ireturn, 1) := by decide +kernel
theorem dX1_fact_94 : decode cX1_fact 94 = .ok (.aload_n 0, 1) := by decide +kernel
theorem dX1_fact_95 : decode cX1_fact 95 = .ok (.invokevirtual 56, 3) := by decide +kernel
theorem dX1_fact_98 : decode cX1_fact 98 = .ok (.ireturn, 1) := by decide +kernel
theorem dX1_fact_99 : decode cX1_fact 99 = .ok (.iconst (-1), 1) := by decide +kernel
theorem dX1_fact_100 : decode cX1_fact 100 = .ok (.ireturn, 1) := by decide +kernel
def wX1_fact_b87 (a0 : Nat) (x1 : Int32) (x2 : Int32) (xt0 : Int32)  (Sn : kp_S) (post : Int32 → kp_S → Prop) : Prop :=
  post xt0 Sn
def wX1_fact (a0 : Nat) (x1 : Int32) (x2 : Int32) (S : kp_S) (post : Int32 → kp_S → Prop) : Prop :=
  ((x1 = 0 →
  wX1_levelOf a0 x2 S (fun y3 T2 =>
  post y3 T2)) ∧ (¬ x1 = 0 →
  ((x1 = 1 →
  wX1_gateOf a0 x2 0 S (fun y6 T5 =>
  post y6 T5)) ∧ (¬ x1 = 1 →
  ((x1 = 2 →
  wX1_gateOf a0 x2 1 S (fun y9 T8 =>
  post y9 T8)) ∧ (¬ x1 = 2 →
  ((x1 = 3 →
  wX1_holdsOf a0 x2 S (fun y12 T11 =>
  post y12 T11)) ∧ (¬ x1 = 3 →
  ((x1 = 4 →
  wX1_isReach x2 S (fun y15 T14 =>
  ((y15 = 0 →
  wX1_fact_b87 a0 x1 x2 (-1)  T14 post) ∧ (¬ y15 = 0 →
  ∃ b16 : Nat, kp_R T14 201 a0 = some b16 ∧
  vp_in x2 (kp_N T14 b16) ∧
  wX1_fact_b87 a0 x1 x2 (kp_A T14 b16 x2.toNatClampNeg)  T14 post)))) ∧ (¬ x1 = 4 →
  ((x1 = 5 →
  wX1_placeOf a0 x2 S (fun y20 T19 =>
  post y20 T19)) ∧ (¬ x1 = 5 →
  ((x1 = 6 →
  wX1_allWater a0 S (fun y23 T22 =>
  post y23 T22)) ∧ (¬ x1 = 6 →
  post (-1) S))))))))))))))
set_option maxHeartbeats 4000000 in
set_option maxRecDepth 100000 in
theorem c_X1_fact (l : Launch) (D : va_G) (cy : Nat → ClassId) (ad : (Nat → Nat) × (Nat → Nat)) (S : kp_S) (a0 : Nat) (x1 : Int32) (x2 : Int32) (post : Int32 → kp_S → Prop) (hS : kp_ok S) (f_a0 : kp_is S a0 1) (hw : wX1_fact a0 x1 x2 S post) : kp_M l yX1_fact cX1_fact 3 (some .int) { frames := 2, cells := 0, slots := 0, locals := 43 } D cy ad S [.ref a0, .int x1, .int x2] 0 0 (fun A => kp_Qi D cy A S post) := by
  refine kp_start (own := RX1) (by decide) rfl (Nat.le_of_ble_eq_true rfl) hS ?_
  intro p e s m below meth c A ls X hr hlocks hname h hl
  have hle : kp_le S S := kp_le.rf
  have hl : lv_has ls 3 [(0, .ref a0), (1, .int x1), (2, .int x2)] := hl
  have j87 : ∀ (xt0 : Int32) (Sn : kp_S) (H : Heap) (locs : List Loc) (ls : Array Slot), lv_has ls 3 [] → kp_H D cy A Sn s.heap H locs → kp_le S Sn → kp_is Sn a0 1 → wX1_fact_b87 a0 x1 x2 xt0  Sn post → W p l e { frames := 2, cells := 0, slots := 0, locals := 43 } s m ([.ref a0, .int x1, .int x2] : List Value).toArray below meth c H locs 0 0 (MQ below (kp_Qi D cy A S post) ([.ref a0, .int x1, .int x2] : List Value).toArray s 0 0 A) (F0 m 87 ls [.int xt0]) := by
    intro xt0 Sn H locs ls hl h hle f_a0 hw
    unfold wX1_fact_b87 at hw
    exact kp_reti X hr hlocks h hle rfl hw dX1_fact_87
  unfold wX1_fact at hw
  have h : kp_H D cy A S s.heap s.heap [] := h
  revert h
  intro h
  refine lv_iload_n X.1 X.2.1 dX1_fact_0 rfl (lv_at hl 1 rfl) ?_
  by_cases c1 : x1 = 0
  · have hw := hw.1 c1
    refine lv_tableIn (off := 43) (tgt := 44) X.1 X.2.1 dX1_fact_1 (by rw [c1]; decide) (by rw [c1]; decide) (by rw [c1]; decide) (by decide) ?_
    refine lv_aload_n X.1 X.2.1 dX1_fact_44 rfl (lv_at hl 0 rfl) ?_
    refine lv_iload_n X.1 X.2.1 dX1_fact_45 rfl (lv_at hl 2 rfl) ?_
    refine kp_calli X h (kp_runV (rm := { frames := 1, cells := 0, slots := 0, locals := 20 }) (mc := 0) (ms := 0) (rest := []) (Qc := fun A => kp_Qi D cy A S _) X h (c_X1_levelOf l D cy ad S a0 x2 _ h.2.2.2 f_a0 hw) f_a0 cv_1_46 ⟨by decide, by decide, rfl, rfl, by decide, by decide⟩ rfl hl.1 rfl (Nat.le_of_ble_eq_true rfl) dX1_fact_46) (fun y3 T2 hw l_T2 H locs h => ?_)
    have f_a0 := l_T2.is f_a0
    have hle := hle.tr l_T2
    exact kp_reti X hr hlocks h hle rfl hw dX1_fact_49
  have hw := hw.2 c1
  by_cases c4 : x1 = 1
  · have hw := hw.1 c4
    refine lv_tableIn (off := 49) (tgt := 50) X.1 X.2.1 dX1_fact_1 (by rw [c4]; decide) (by rw [c4]; decide) (by rw [c4]; decide) (by decide) ?_
    refine lv_aload_n X.1 X.2.1 dX1_fact_50 rfl (lv_at hl 0 rfl) ?_
    refine lv_iload_n X.1 X.2.1 dX1_fact_51 rfl (lv_at hl 2 rfl) ?_
    refine lv_iconst (v := 0) X.1 X.2.1 dX1_fact_52 (by decide) ?_
    refine kp_calli X h (kp_runV (rm := { frames := 1, cells := 0, slots := 0, locals := 21 }) (mc := 0) (ms := 0) (rest := []) (Qc := fun A => kp_Qi D cy A S _) X h (c_X1_gateOf l D cy ad S a0 x2 0 _ h.2.2.2 f_a0 hw) f_a0 cv_1_35 ⟨by decide, by decide, rfl, rfl, by decide, by decide⟩ rfl hl.1 rfl (Nat.le_of_ble_eq_true rfl) dX1_fact_53) (fun y6 T5 hw l_T5 H locs h => ?_)
    have f_a0 := l_T5.is f_a0
    have hle := hle.tr l_T5
    exact kp_reti X hr hlocks h hle rfl hw dX1_fact_56
  have hw := hw.2 c4
  by_cases c7 : x1 = 2
  · have hw := hw.1 c7
    refine lv_tableIn (off := 56) (tgt := 57) X.1 X.2.1 dX1_fact_1 (by rw [c7]; decide) (by rw [c7]; decide) (by rw [c7]; decide) (by decide) ?_
    refine lv_aload_n X.1 X.2.1 dX1_fact_57 rfl (lv_at hl 0 rfl) ?_
    refine lv_iload_n X.1 X.2.1 dX1_fact_58 rfl (lv_at hl 2 rfl) ?_
    refine lv_iconst (v := 1) X.1 X.2.1 dX1_fact_59 (by decide) ?_
    refine kp_calli X h (kp_runV (rm := { frames := 1, cells := 0, slots := 0, locals := 21 }) (mc := 0) (ms := 0) (rest := []) (Qc := fun A => kp_Qi D cy A S _) X h (c_X1_gateOf l D cy ad S a0 x2 1 _ h.2.2.2 f_a0 hw) f_a0 cv_1_35 ⟨by decide, by decide, rfl, rfl, by decide, by decide⟩ rfl hl.1 rfl (Nat.le_of_ble_eq_true rfl) dX1_fact_60) (fun y9 T8 hw l_T8 H locs h => ?_)
    have f_a0 := l_T8.is f_a0
    have hle := hle.tr l_T8
    exact kp_reti X hr hlocks h hle rfl hw dX1_fact_63
  have hw := hw.2 c7
  by_cases c10 : x1 = 3
  · have hw := hw.1 c10
    refine lv_tableIn (off := 63) (tgt := 64) X.1 X.2.1 dX1_fact_1 (by rw [c10]; decide) (by rw [c10]; decide) (by rw [c10]; decide) (by decide) ?_
    refine lv_aload_n X.1 X.2.1 dX1_fact_64 rfl (lv_at hl 0 rfl) ?_
    refine lv_iload_n X.1 X.2.1 dX1_fact_65 rfl (lv_at hl 2 rfl) ?_
    refine kp_calli X h (kp_runV (rm := { frames := 1, cells := 0, slots := 0, locals := 20 }) (mc := 0) (ms := 0) (rest := []) (Qc := fun A => kp_Qi D cy A S _) X h (c_X1_holdsOf l D cy ad S a0 x2 _ h.2.2.2 f_a0 hw) f_a0 cv_1_50 ⟨by decide, by decide, rfl, rfl, by decide, by decide⟩ rfl hl.1 rfl (Nat.le_of_ble_eq_true rfl) dX1_fact_66) (fun y12 T11 hw l_T11 H locs h => ?_)
    have f_a0 := l_T11.is f_a0
    have hle := hle.tr l_T11
    exact kp_reti X hr hlocks h hle rfl hw dX1_fact_69
  have hw := hw.2 c10
  by_cases c13 : x1 = 4
  · have hw := hw.1 c13
    refine lv_tableIn (off := 69) (tgt := 70) X.1 X.2.1 dX1_fact_1 (by rw [c13]; decide) (by rw [c13]; decide) (by rw [c13]; decide) (by decide) ?_
    refine lv_iload_n X.1 X.2.1 dX1_fact_70 rfl (lv_at hl 2 rfl) ?_
    refine kp_calli X h (kp_runS (rm := { frames := 0, cells := 0, slots := 0, locals := 0 }) (mc := 0) (ms := 0) (rest := []) (Qc := fun A => kp_Qi D cy A S _) X h (c_X1_isReach l D cy ad S x2 _ h.2.2.2  hw) cs_1_27 ⟨by decide, by decide, rfl, rfl, by decide, by decide⟩ rfl hl.1 rfl (Nat.le_of_ble_eq_true rfl) dX1_fact_71) (fun y15 T14 hw l_T14 H locs h => ?_)
    have f_a0 := l_T14.is f_a0
    have hle := hle.tr l_T14
    refine lv_if_eq (tgt := 86) X.1 X.2.1 dX1_fact_74 (by decide) (fun c17 => ?_) (fun c17 => ?_)
    · have hw := hw.1 c17
      refine lv_iconst (v := (-1)) X.1 X.2.1 dX1_fact_86 (by decide) ?_
      exact j87 (-1) T14 _ _ ls (lv_sub hl [] rfl) h hle f_a0 hw
    · have hw := hw.2 c17
      refine lv_aload_n X.1 X.2.1 dX1_fact_77 rfl (lv_at hl 0 rfl) ?_
      obtain ⟨b16, e_b16, hw⟩ := hw
      have f_b16 := h.2.2.2.rf (c := 1) (k := 1) f_a0 (by decide) (by decide) e_b16 (t := 14) rfl
      refine kp_get X h f_a0 ff_1_15.l (v := .ref b16) (congrArg va_rf e_b16) dX1_fact_78 ?_
      refine lv_iload_n X.1 X.2.1 dX1_fact_81 rfl (lv_at hl 2 rfl) ?_
      obtain ⟨hi, hw⟩ := hw
      refine kp_iald X h f_b16 hi dX1_fact_82 ?_
      refine lv_goto (tgt := 87) X.1 X.2.1 dX1_fact_83 (by decide) ?_
      exact j87 (kp_A T14 b16 x2.toNatClampNeg) T14 _ _ ls (lv_sub hl [] rfl) h hle f_a0 hw
  have hw := hw.2 c13
  by_cases c18 : x1 = 5
  · have hw := hw.1 c18
    refine lv_tableIn (off := 87) (tgt := 88) X.1 X.2.1 dX1_fact_1 (by rw [c18]; decide) (by rw [c18]; decide) (by rw [c18]; decide) (by decide) ?_
    refine lv_aload_n X.1 X.2.1 dX1_fact_88 rfl (lv_at hl 0 rfl) ?_
    refine lv_iload_n X.1 X.2.1 dX1_fact_89 rfl (lv_at hl 2 rfl) ?_
    refine kp_calli X h (kp_runV (rm := { frames := 1, cells := 0, slots := 0, locals := 20 }) (mc := 0) (ms := 0) (rest := []) (Qc := fun A => kp_Qi D cy A S _) X h (c_X1_placeOf l D cy ad S a0 x2 _ h.2.2.2 f_a0 hw) f_a0 cv_1_53 ⟨by decide, by decide, rfl, rfl, by decide, by decide⟩ rfl hl.1 rfl (Nat.le_of_ble_eq_true rfl) dX1_fact_90) (fun y20 T19 hw l_T19 H locs h => ?_)
    have f_a0 := l_T19.is f_a0
    have hle := hle.tr l_T19
    exact kp_reti X hr hlocks h hle rfl hw dX1_fact_93
  have hw := hw.2 c18
  by_cases c21 : x1 = 6
  · have hw := hw.1 c21
    refine lv_tableIn (off := 93) (tgt := 94) X.1 X.2.1 dX1_fact_1 (by rw [c21]; decide) (by rw [c21]; decide) (by rw [c21]; decide) (by decide) ?_
    refine lv_aload_n X.1 X.2.1 dX1_fact_94 rfl (lv_at hl 0 rfl) ?_
    refine kp_calli X h (kp_runV (rm := { frames := 0, cells := 0, slots := 0, locals := 0 }) (mc := 0) (ms := 0) (rest := []) (Qc := fun A => kp_Qi D cy A S _) X h (c_X1_allWater l D cy ad S a0 _ h.2.2.2 f_a0 hw) f_a0 cv_1_56 ⟨by decide, by decide, rfl, rfl, by decide, by decide⟩ rfl hl.1 rfl (Nat.le_of_ble_eq_true rfl) dX1_fact_95) (fun y23 T22 hw l_T22 H locs h => ?_)
    have f_a0 := l_T22.is f_a0
    have hle := hle.tr l_T22
    exact kp_reti X hr hlocks h hle rfl hw dX1_fact_98
  have hw := hw.2 c21
  have t_c1 := lv_neT (a := 0) c1 (by decide)
  have t_c4 := lv_neT (a := 1) c4 (by decide)
  have t_c7 := lv_neT (a := 2) c7 (by decide)
  have t_c10 := lv_neT (a := 3) c10 (by decide)
  have t_c13 := lv_neT (a := 4) c13 (by decide)
  have t_c18 := lv_neT (a := 5) c18 (by decide)
  have t_c21 := lv_neT (a := 6) c21 (by decide)
  refine lv_tableOut (tgt := 99) X.1 X.2.1 dX1_fact_1 (by omega) (by decide) ?_
  refine lv_iconst (v := (-1)) X.1 X.2.1 dX1_fact_99 (by decide) ?_
  exact kp_reti X hr hlocks h hle rfl hw dX1_fact_100
theorem dX1_addHold_0 : decode cX1_addHold 0 = .ok (.iload_n 1, 1) := by decide +kernel
theorem dX1_addHold_1 : decode cX1_addHold 1 = .ok (.invokestatic 32, 3) := by decide +kernel
theorem dX1_addHold_4 : decode cX1_addHold 4 = .ok (.ifCond .ne 5, 3) := by decide +kernel
theorem dX1_addHold_7 : decode cX1_addHold 7 = .ok (.iconst (-1), 1) := by decide +kernel
theorem dX1_addHold_8 : decode cX1_addHold 8 = .ok (.ireturn, 1) := by decide +kernel
theorem dX1_addHold_9 : decode cX1_addHold 9 = .ok (.aload_n 0, 1) := by decide +kernel
theorem dX1_addHold_10 : decode cX1_addHold 10 = .ok (.getfield 21, 3) := by decide +kernel
theorem dX1_addHold_13 : decode cX1_addHold 13 = .ok (.iload_n 1, 1) := by decide +kernel
theorem dX1_addHold_14 : decode cX1_addHold 14 = .ok (.dup2, 1) := by decide +kernel
theorem dX1_addHold_15 : decode cX1_addHold 15 = .ok (.iaload, 1) := by decide +kernel
theorem dX1_addHold_16 : decode cX1_addHold 16 = .ok (.iload_n 2, 1) := by decide +kernel
theorem dX1_addHold_17 : decode cX1_addHold 17 = .ok (.iadd, 1) := by decide +kernel
theorem dX1_addHold_18 : decode cX1_addHold 18 = .ok (.iastore, 1) := by decide +kernel
theorem dX1_addHold_19 : decode cX1_addHold 19 = .ok (.aload_n 0, 1) := by decide +kernel
theorem dX1_addHold_20 : decode cX1_addHold 20 = .ok (.getfield 21, 3) := by decide +kernel
theorem dX1_addHold_23 : decode cX1_addHold 23 = .ok (.iload_n 1, 1) := by decide +kernel
theorem dX1_addHold_24 : decode cX1_addHold 24 = .ok (.iaload, 1) := by decide +kernel
theorem dX1_addHold_25 : decode cX1_addHold 25 = .ok (.ireturn, 1) := by decide +kernel
def wX1_addHold (a0 : Nat) (x1 : Int32) (x2 : Int32) (S : kp_S) (post : Int32 → kp_S → Prop) : Prop :=
  wX1_isLock x1 S (fun y2 T1 =>
  ((¬ y2 = 0 →
  ∃ b3 : Nat, kp_R T1 203 a0 = some b3 ∧
  vp_in x1 (kp_N T1 b3) ∧
  vp_in x1 (kp_N T1 b3) ∧ ∀ T4 : kp_S, T4 = kp_sA T1 b3 (upd (kp_A T1 b3) (x1.toNatClampNeg) ((kp_A T1 b3 x1.toNatClampNeg) + x2)) →
  vp_in x1 (kp_N T4 b3) ∧
  post (kp_A T4 b3 x1.toNatClampNeg) T4) ∧ (y2 = 0 →
  post (-1) T1)))
set_option maxHeartbeats 4000000 in
set_option maxRecDepth 100000 in
theorem c_X1_addHold (l : Launch) (D : va_G) (cy : Nat → ClassId) (ad : (Nat → Nat) × (Nat → Nat)) (S : kp_S) (a0 : Nat) (x1 : Int32) (x2 : Int32) (post : Int32 → kp_S → Prop) (hS : kp_ok S) (f_a0 : kp_is S a0 1) (hw : wX1_addHold a0 x1 x2 S post) : kp_M l yX1_addHold cX1_addHold 3 (some .int) { frames := 1, cells := 0, slots := 0, locals := 20 } D cy ad S [.ref a0, .int x1, .int x2] 0 0 (fun A => kp_Qi D cy A S post) := by
  refine kp_start (own := RX1) (by decide) rfl (Nat.le_of_ble_eq_true rfl) hS ?_
  intro p e s m below meth c A ls X hr hlocks hname h hl
  have hle : kp_le S S := kp_le.rf
  have hl : lv_has ls 3 [(0, .ref a0), (1, .int x1), (2, .int x2)] := hl
  unfold wX1_addHold at hw
  have h : kp_H D cy A S s.heap s.heap [] := h
  revert h
  intro h
  refine lv_iload_n X.1 X.2.1 dX1_addHold_0 rfl (lv_at hl 1 rfl) ?_
  refine kp_calli X h (kp_runS (rm := { frames := 0, cells := 0, slots := 0, locals := 0 }) (mc := 0) (ms := 0) (rest := []) (Qc := fun A => kp_Qi D cy A S _) X h (c_X1_isLock l D cy ad S x1 _ h.2.2.2  hw) cs_1_32 ⟨by decide, by decide, rfl, rfl, by decide, by decide⟩ rfl hl.1 rfl (Nat.le_of_ble_eq_true rfl) dX1_addHold_1) (fun y2 T1 hw l_T1 H locs h => ?_)
  have f_a0 := l_T1.is f_a0
  have hle := hle.tr l_T1
  refine lv_if_ne (tgt := 9) X.1 X.2.1 dX1_addHold_4 (by decide) (fun c5 => ?_) (fun c5 => ?_)
  · have hw := hw.1 c5
    refine lv_aload_n X.1 X.2.1 dX1_addHold_9 rfl (lv_at hl 0 rfl) ?_
    obtain ⟨b3, e_b3, hw⟩ := hw
    have f_b3 := h.2.2.2.rf (c := 1) (k := 3) f_a0 (by decide) (by decide) e_b3 (t := 14) rfl
    refine kp_get X h f_a0 ff_1_21.l (v := .ref b3) (congrArg va_rf e_b3) dX1_addHold_10 ?_
    refine lv_iload_n X.1 X.2.1 dX1_addHold_13 rfl (lv_at hl 1 rfl) ?_
    refine lv_dup2_11 X.1 X.2.1 dX1_addHold_14 rfl rfl ?_
    obtain ⟨hi, hw⟩ := hw
    refine kp_iald X h f_b3 hi dX1_addHold_15 ?_
    refine lv_iload_n X.1 X.2.1 dX1_addHold_16 rfl (lv_at hl 2 rfl) ?_
    refine lv_iadd X.1 X.2.1 dX1_addHold_17 ?_
    obtain ⟨hi, hw⟩ := hw
    refine kp_iast X h f_b3 hi dX1_addHold_18 (fun T4 e_T4 l_T4 H locs h => ?_)
    have hw := hw T4 e_T4
    have f_a0 := l_T4.is f_a0
    have f_b3 := l_T4.is f_b3
    have hle := hle.tr l_T4
    have e_b3 : kp_R T4 203 a0 = some b3 := by rw [e_T4]; exact e_b3
    refine lv_aload_n X.1 X.2.1 dX1_addHold_19 rfl (lv_at hl 0 rfl) ?_
    refine kp_get X h f_a0 ff_1_21.l (v := .ref b3) (congrArg va_rf e_b3) dX1_addHold_20 ?_
    refine lv_iload_n X.1 X.2.1 dX1_addHold_23 rfl (lv_at hl 1 rfl) ?_
    obtain ⟨hi, hw⟩ := hw
    refine kp_iald X h f_b3 hi dX1_addHold_24 ?_
    exact kp_reti X hr hlocks h hle rfl hw dX1_addHold_25
  · have hw := hw.2 c5
    refine lv_iconst (v := (-1)) X.1 X.2.1 dX1_addHold_7 (by decide) ?_
    exact kp_reti X hr hlocks h hle rfl hw dX1_addHold_8
theorem dX1_dropHolds_0 : decode cX1_dropHolds 0 = .ok (.iconst 0, 1) := by decide +kernel
theorem dX1_dropHolds_1 : decode cX1_dropHolds 1 = .ok (.istore_n 1, 1) := by decide +kernel
theorem dX1_dropHolds_2 : decode cX1_dropHolds 2 = .ok (.iload_n 1, 1) := by decide +kernel
theorem dX1_dropHolds_3 : decode cX1_dropHolds 3 = .ok (.bipush 6, 2) := by decide +kernel
theorem dX1_dropHolds_5 : decode cX1_dropHolds 5 = .ok (.if_icmp .ge 16, 3) := by decide +kernel
theorem dX1_dropHolds_8 : decode cX1_dropHolds 8 = .ok (.aload_n 0, 1) := by decide +kernel
theorem dX1_dropHolds_9 : decode cX1_dropHolds 9 = .ok (.getfield 21, 3) := by decide +kernel
theorem dX1_dropHolds_12 : decode cX1_dropHolds 12 = .ok (.iload_n 1, 1) := by decide +kernel
theorem dX1_dropHolds_13 : decode cX1_dropHolds 13 = .ok (.iconst 0, 1) := by decide +kernel
theorem dX1_dropHolds_14 : decode cX1_dropHolds 14 = .ok (.iastore, 1) := by decide +kernel
theorem dX1_dropHolds_15 : decode cX1_dropHolds 15 = .ok (.iinc 1 1, 3) := by decide +kernel
theorem dX1_dropHolds_18 : decode cX1_dropHolds 18 = .ok (.goto (-16), 3) := by decide +kernel
theorem dX1_dropHolds_21 : decode cX1_dropHolds 21 = .ok (.return_, 1) := by decide +kernel
def wX1_dropHolds_L2 (a0 : Nat)  (post : kp_S → Prop) : Nat → Int32 → kp_S → Prop
  | 0, _, _ => False
  | n + 1, xn1, Sn =>
  ((6 ≤ xn1 →
  post Sn) ∧ (¬ 6 ≤ xn1 →
  ∃ b1001 : Nat, kp_R Sn 203 a0 = some b1001 ∧
  vp_in xn1 (kp_N Sn b1001) ∧ ∀ T1002 : kp_S, T1002 = kp_sA Sn b1001 (upd (kp_A Sn b1001) (xn1.toNatClampNeg) 0) →
  ∀ y1003 : Int32, y1003 = xn1 + 1 →
  wX1_dropHolds_L2 a0  post n y1003 T1002))
def wX1_dropHolds (a0 : Nat) (S : kp_S) (post : kp_S → Prop) : Prop :=
  ∃ n0 : Nat, wX1_dropHolds_L2 a0  post n0 0 S
set_option maxHeartbeats 4000000 in
set_option maxRecDepth 100000 in
theorem c_X1_dropHolds (l : Launch) (D : va_G) (cy : Nat → ClassId) (ad : (Nat → Nat) × (Nat → Nat)) (S : kp_S) (a0 : Nat) (post : kp_S → Prop) (hS : kp_ok S) (f_a0 : kp_is S a0 1) (hw : wX1_dropHolds a0 S post) : kp_M l yX1_dropHolds cX1_dropHolds 2 none { frames := 0, cells := 0, slots := 0, locals := 0 } D cy ad S [.ref a0] 0 0 (fun A => kp_Qv D cy A S post) := by
  refine kp_start (own := RX1) (by decide) rfl (Nat.le_of_ble_eq_true rfl) hS ?_
  intro p e s m below meth c A ls X hr hlocks hname h hl
  have hle : kp_le S S := kp_le.rf
  have hl : lv_has ls 2 [(0, .ref a0)] := hl
  have L2 : ∀ n2 : Nat, ∀ (xn1 : Int32) (Sn : kp_S) (H : Heap) (locs : List Loc) (ls : Array Slot), lv_has ls 2 [(0, .ref a0), (1, .int xn1)] → kp_H D cy A Sn s.heap H locs → kp_le S Sn → kp_is Sn a0 1 → wX1_dropHolds_L2 a0  post n2 xn1 Sn → W p l e { frames := 0, cells := 0, slots := 0, locals := 0 } s m ([.ref a0] : List Value).toArray below meth c H locs 0 0 (MQ below (kp_Qv D cy A S post) ([.ref a0] : List Value).toArray s 0 0 A) (F0 m 2 ls []) := by
    intro n2
    induction n2 with
    | zero => intro xn1 Sn H locs ls hl h hle f_a0 hw; exact hw.elim
    | succ n2 ih2 =>
      intro xn1 Sn H locs ls hl h hle f_a0 hw
      unfold wX1_dropHolds_L2 at hw
      refine lv_iload_n X.1 X.2.1 dX1_dropHolds_2 rfl (lv_at hl 1 rfl) ?_
      refine lv_bipush (v := 6) X.1 X.2.1 dX1_dropHolds_3 (by decide) ?_
      refine lv_icmp_ge (tgt := 21) X.1 X.2.1 dX1_dropHolds_5 (by decide) (fun c1004 => ?_) (fun c1004 => ?_)
      · have hw := hw.1 c1004
        exact kp_retv X hr hlocks h hle hw dX1_dropHolds_21
      · have hw := hw.2 c1004
        refine lv_aload_n X.1 X.2.1 dX1_dropHolds_8 rfl (lv_at hl 0 rfl) ?_
        obtain ⟨b1001, e_b1001, hw⟩ := hw
        have f_b1001 := h.2.2.2.rf (c := 1) (k := 3) f_a0 (by decide) (by decide) e_b1001 (t := 14) rfl
        refine kp_get X h f_a0 ff_1_21.l (v := .ref b1001) (congrArg va_rf e_b1001) dX1_dropHolds_9 ?_
        refine lv_iload_n X.1 X.2.1 dX1_dropHolds_12 rfl (lv_at hl 1 rfl) ?_
        refine lv_iconst (v := 0) X.1 X.2.1 dX1_dropHolds_13 (by decide) ?_
        obtain ⟨hi, hw⟩ := hw
        refine kp_iast X h f_b1001 hi dX1_dropHolds_14 (fun T1002 e_T1002 l_T1002 H locs h => ?_)
        have hw := hw T1002 e_T1002
        have f_a0 := l_T1002.is f_a0
        have f_b1001 := l_T1002.is f_b1001
        have hle := hle.tr l_T1002
        have e_b1001 : kp_R T1002 203 a0 = some b1001 := by rw [e_T1002]; exact e_b1001
        obtain ⟨y1003, e_y1003⟩ : ∃ y : Int32, y = xn1 + 1 := ⟨_, rfl⟩
        have hw := hw y1003 e_y1003
        refine lv_iinc (v := y1003) (lv' := [(1, .int y1003), (0, .ref a0)]) X.1 X.2.1 dX1_dropHolds_15 hl (k := 1) rfl (by rw [e_y1003]; rfl) (by decide) rfl (fun ls hl => ?_)
        refine lv_goto (tgt := 2) X.1 X.2.1 dX1_dropHolds_18 (by decide) ?_
        exact ih2 y1003 T1002 H locs ls (lv_sub hl [1, 0] rfl) h hle f_a0 hw
  unfold wX1_dropHolds at hw
  have h : kp_H D cy A S s.heap s.heap [] := h
  revert h
  intro h
  refine lv_iconst (v := 0) X.1 X.2.1 dX1_dropHolds_0 (by decide) ?_
  refine lv_istore_n (lv' := [(1, .int 0), (0, .ref a0)]) X.1 X.2.1 dX1_dropHolds_1 rfl hl (by decide) rfl (fun ls hl => ?_)
  obtain ⟨n0, hw⟩ := hw
  exact L2 n0 0 S _ _ ls (lv_sub hl [1, 0] rfl) h hle f_a0 hw
theorem dX1_troubleToShut_0 : decode cX1_troubleToShut 0 = .ok (.iload_n 1, 1) := by decide +kernel
theorem dX1_troubleToShut_1 : decode cX1_troubleToShut 1 = .ok (.iload_n 2, 1) := by decide +kernel
theorem dX1_troubleToShut_2 : decode cX1_troubleToShut 2 = .ok (.invokestatic 60, 3) := by decide +kernel
theorem dX1_troubleToShut_5 : decode cX1_troubleToShut 5 = .ok (.ifCond .ne 5, 3) := by decide +kernel
theorem dX1_troubleToShut_8 : decode cX1_troubleToShut 8 = .ok (.iconst 3, 1) := by decide +kernel
theorem dX1_troubleToShut_9 : decode cX1_troubleToShut 9 = .ok (.ireturn, 1) := by decide +kernel
theorem dX1_troubleToShut_10 : decode cX1_troubleToShut 10 = .ok (.aload_n 0, 1) := by decide +kernel
theorem dX1_troubleToShut_11 : decode cX1_troubleToShut 11 = .ok (.getfield 21, 3) := by decide +kernel
theorem dX1_troubleToShut_14 : decode cX1_troubleToShut 14 = .ok (.iload_n 1, 1) := by decide +kernel
theorem dX1_troubleToShut_15 : decode cX1_troubleToShut 15 = .ok (.iaload, 1) := by decide +kernel
theorem dX1_troubleToShut_16 : decode cX1_troubleToShut 16 = .ok (.ifCond .ne 7, 3) := by decide +kernel
theorem dX1_troubleToShut_19 : decode cX1_troubleToShut 19 = .ok (.iconst 4, 1) := by decide +kernel
theorem dX1_troubleToShut_20 : decode cX1_troubleToShut 20 = .ok (.goto 4, 3) := by decide +kernel
theorem dX1_troubleToShut_23 : decode cX1_troubleToShut 23 = .ok (.iconst 0, 1) := by decide +kernel
theorem dX1_troubleToShut_24 : decode cX1_troubleToShut 24 = .ok (.ireturn, 1) := by decide +kernel
def wX1_troubleToShut_b24 (a0 : Nat) (x1 : Int32) (x2 : Int32) (xt0 : Int32)  (Sn : kp_S) (post : Int32 → kp_S → Prop) : Prop :=
  post xt0 Sn
def wX1_troubleToShut (a0 : Nat) (x1 : Int32) (x2 : Int32) (S : kp_S) (post : Int32 → kp_S → Prop) : Prop :=
  wX1_isGate x1 x2 S (fun y2 T1 =>
  ((¬ y2 = 0 →
  ∃ b3 : Nat, kp_R T1 203 a0 = some b3 ∧
  vp_in x1 (kp_N T1 b3) ∧
  ((¬ (kp_A T1 b3 x1.toNatClampNeg) = 0 →
  wX1_troubleToShut_b24 a0 x1 x2 0  T1 post) ∧ ((kp_A T1 b3 x1.toNatClampNeg) = 0 →
  wX1_troubleToShut_b24 a0 x1 x2 4  T1 post))) ∧ (y2 = 0 →
  post 3 T1)))
set_option maxHeartbeats 4000000 in
set_option maxRecDepth 100000 in
theorem c_X1_troubleToShut (l : Launch) (D : va_G) (cy : Nat → ClassId) (ad : (Nat → Nat) × (Nat → Nat)) (S : kp_S) (a0 : Nat) (x1 : Int32) (x2 : Int32) (post : Int32 → kp_S → Prop) (hS : kp_ok S) (f_a0 : kp_is S a0 1) (hw : wX1_troubleToShut a0 x1 x2 S post) : kp_M l yX1_troubleToShut cX1_troubleToShut 3 (some .int) { frames := 1, cells := 0, slots := 0, locals := 21 } D cy ad S [.ref a0, .int x1, .int x2] 0 0 (fun A => kp_Qi D cy A S post) := by
  refine kp_start (own := RX1) (by decide) rfl (Nat.le_of_ble_eq_true rfl) hS ?_
  intro p e s m below meth c A ls X hr hlocks hname h hl
  have hle : kp_le S S := kp_le.rf
  have hl : lv_has ls 3 [(0, .ref a0), (1, .int x1), (2, .int x2)] := hl
  have j24 : ∀ (xt0 : Int32) (Sn : kp_S) (H : Heap) (locs : List Loc) (ls : Array Slot), lv_has ls 3 [] → kp_H D cy A Sn s.heap H locs → kp_le S Sn → kp_is Sn a0 1 → wX1_troubleToShut_b24 a0 x1 x2 xt0  Sn post → W p l e { frames := 1, cells := 0, slots := 0, locals := 21 } s m ([.ref a0, .int x1, .int x2] : List Value).toArray below meth c H locs 0 0 (MQ below (kp_Qi D cy A S post) ([.ref a0, .int x1, .int x2] : List Value).toArray s 0 0 A) (F0 m 24 ls [.int xt0]) := by
    intro xt0 Sn H locs ls hl h hle f_a0 hw
    unfold wX1_troubleToShut_b24 at hw
    exact kp_reti X hr hlocks h hle rfl hw dX1_troubleToShut_24
  unfold wX1_troubleToShut at hw
  have h : kp_H D cy A S s.heap s.heap [] := h
  revert h
  intro h
  refine lv_iload_n X.1 X.2.1 dX1_troubleToShut_0 rfl (lv_at hl 1 rfl) ?_
  refine lv_iload_n X.1 X.2.1 dX1_troubleToShut_1 rfl (lv_at hl 2 rfl) ?_
  refine kp_calli X h (kp_runS (rm := { frames := 0, cells := 0, slots := 0, locals := 0 }) (mc := 0) (ms := 0) (rest := []) (Qc := fun A => kp_Qi D cy A S _) X h (c_X1_isGate l D cy ad S x1 x2 _ h.2.2.2  hw) cs_1_60 ⟨by decide, by decide, rfl, rfl, by decide, by decide⟩ rfl hl.1 rfl (Nat.le_of_ble_eq_true rfl) dX1_troubleToShut_2) (fun y2 T1 hw l_T1 H locs h => ?_)
  have f_a0 := l_T1.is f_a0
  have hle := hle.tr l_T1
  refine lv_if_ne (tgt := 10) X.1 X.2.1 dX1_troubleToShut_5 (by decide) (fun c5 => ?_) (fun c5 => ?_)
  · have hw := hw.1 c5
    refine lv_aload_n X.1 X.2.1 dX1_troubleToShut_10 rfl (lv_at hl 0 rfl) ?_
    obtain ⟨b3, e_b3, hw⟩ := hw
    have f_b3 := h.2.2.2.rf (c := 1) (k := 3) f_a0 (by decide) (by decide) e_b3 (t := 14) rfl
    refine kp_get X h f_a0 ff_1_21.l (v := .ref b3) (congrArg va_rf e_b3) dX1_troubleToShut_11 ?_
    refine lv_iload_n X.1 X.2.1 dX1_troubleToShut_14 rfl (lv_at hl 1 rfl) ?_
    obtain ⟨hi, hw⟩ := hw
    refine kp_iald X h f_b3 hi dX1_troubleToShut_15 ?_
    refine lv_if_ne (tgt := 23) X.1 X.2.1 dX1_troubleToShut_16 (by decide) (fun c4 => ?_) (fun c4 => ?_)
    · have hw := hw.1 c4
      refine lv_iconst (v := 0) X.1 X.2.1 dX1_troubleToShut_23 (by decide) ?_
      exact j24 0 T1 _ _ ls (lv_sub hl [] rfl) h hle f_a0 hw
    · have hw := hw.2 c4
      refine lv_iconst (v := 4) X.1 X.2.1 dX1_troubleToShut_19 (by decide) ?_
      refine lv_goto (tgt := 24) X.1 X.2.1 dX1_troubleToShut_20 (by decide) ?_
      exact j24 4 T1 _ _ ls (lv_sub hl [] rfl) h hle f_a0 hw
  · have hw := hw.2 c5
    refine lv_iconst (v := 3) X.1 X.2.1 dX1_troubleToShut_8 (by decide) ?_
    exact kp_reti X hr hlocks h hle rfl hw dX1_troubleToShut_9
theorem dX1_headOf_0 : decode cX1_headOf 0 = .ok (.iload_n 1, 1) := by decide +kernel
theorem dX1_headOf_1 : decode cX1_headOf 1 = .ok (.invokestatic 32, 3) := by decide +kernel
theorem dX1_headOf_4 : decode cX1_headOf 4 = .ok (.ifCond .eq 33, 3) := by decide +kernel
theorem dX1_headOf_7 : decode cX1_headOf 7 = .ok (.iload_n 1, 1) := by decide +kernel
theorem dX1_headOf_8 : decode cX1_headOf 8 = .ok (.iload_n 2, 1) := by decide +kernel
theorem dX1_headOf_9 : decode cX1_headOf 9 = .ok (.iadd, 1) := by decide +kernel
theorem dX1_headOf_10 : decode cX1_headOf 10 = .ok (.invokestatic 27, 3) := by decide +kernel
theorem dX1_headOf_13 : decode cX1_headOf 13 = .ok (.ifCond .eq 24, 3) := by decide +kernel
theorem dX1_headOf_16 : decode cX1_headOf 16 = .ok (.aload_n 0, 1) := by decide +kernel
theorem dX1_headOf_17 : decode cX1_headOf 17 = .ok (.getfield 11, 3) := by decide +kernel
theorem dX1_headOf_20 : decode cX1_headOf 20 = .ok (.iload_n 1, 1) := by decide +kernel
theorem dX1_headOf_21 : decode cX1_headOf 21 = .ok (.iaload, 1) := by decide +kernel
theorem dX1_headOf_22 : decode cX1_headOf 22 = .ok (.aload_n 0, 1) := by decide +kernel
theorem dX1_headOf_23 : decode cX1_headOf 23 = .ok (.getfield 15, 3) := by decide +kernel
theorem dX1_headOf_26 : decode cX1_headOf 26 = .ok (.iload_n 1, 1) := by decide +kernel
theorem dX1_headOf_27 : decode cX1_headOf 27 = .ok (.iload_n 2, 1) := by decide +kernel
theorem dX1_headOf_28 : decode cX1_headOf 28 = .ok (.iadd, 1) := by decide +kernel
theorem dX1_headOf_29 : decode cX1_headOf 29 = .ok (.iaload, 1) := by decide +kernel
theorem dX1_headOf_30 : decode cX1_headOf 30 = .ok (.bipush 10, 2) := by decide +kernel
theorem dX1_headOf_32 : decode cX1_headOf 32 = .ok (.idiv, 1) := by decide +kernel
theorem dX1_headOf_33 : decode cX1_headOf 33 = .ok (.isub, 1) := by decide +kernel
theorem dX1_headOf_34 : decode cX1_headOf 34 = .ok (.goto 4, 3) := by decide +kernel
theorem dX1_headOf_37 : decode cX1_headOf 37 = .ok (.iconst 0, 1) := by decide +kernel
theorem dX1_headOf_38 : decode cX1_headOf 38 = .ok (.ireturn, 1) := by decide +kernel
def wX1_headOf_b38 (a0 : Nat) (x1 : Int32) (x2 : Int32) (xt0 : Int32)  (Sn : kp_S) (post : Int32 → kp_S → Prop) : Prop :=
  post xt0 Sn
def wX1_headOf_b37 (a0 : Nat) (x1 : Int32) (x2 : Int32)  (Sn : kp_S) (post : Int32 → kp_S → Prop) : Prop :=
  wX1_headOf_b38 a0 x1 x2 0  Sn post
def wX1_headOf (a0 : Nat) (x1 : Int32) (x2 : Int32) (S : kp_S) (post : Int32 → kp_S → Prop) : Prop :=
  wX1_isLock x1 S (fun y2 T1 =>
  ((y2 = 0 →
  wX1_headOf_b37 a0 x1 x2   T1 post) ∧ (¬ y2 = 0 →
  wX1_isReach (x1 + x2) T1 (fun y4 T3 =>
  ((y4 = 0 →
  wX1_headOf_b37 a0 x1 x2   T3 post) ∧ (¬ y4 = 0 →
  ∃ b5 : Nat, kp_R T3 200 a0 = some b5 ∧
  vp_in x1 (kp_N T3 b5) ∧
  ∃ b6 : Nat, kp_R T3 201 a0 = some b6 ∧
  vp_in (x1 + x2) (kp_N T3 b6) ∧
  wX1_headOf_b38 a0 x1 x2 ((kp_A T3 b5 x1.toNatClampNeg) - ((kp_A T3 b6 (x1 + x2).toNatClampNeg) / 10))  T3 post))))))
set_option maxHeartbeats 4000000 in
set_option maxRecDepth 100000 in
theorem c_X1_headOf (l : Launch) (D : va_G) (cy : Nat → ClassId) (ad : (Nat → Nat) × (Nat → Nat)) (S : kp_S) (a0 : Nat) (x1 : Int32) (x2 : Int32) (post : Int32 → kp_S → Prop) (hS : kp_ok S) (f_a0 : kp_is S a0 1) (hw : wX1_headOf a0 x1 x2 S post) : kp_M l yX1_headOf cX1_headOf 3 (some .int) { frames := 1, cells := 0, slots := 0, locals := 20 } D cy ad S [.ref a0, .int x1, .int x2] 0 0 (fun A => kp_Qi D cy A S post) := by
  refine kp_start (own := RX1) (by decide) rfl (Nat.le_of_ble_eq_true rfl) hS ?_
  intro p e s m below meth c A ls X hr hlocks hname h hl
  have hle : kp_le S S := kp_le.rf
  have hl : lv_has ls 3 [(0, .ref a0), (1, .int x1), (2, .int x2)] := hl
  have j38 : ∀ (xt0 : Int32) (Sn : kp_S) (H : Heap) (locs : List Loc) (ls : Array Slot), lv_has ls 3 [] → kp_H D cy A Sn s.heap H locs → kp_le S Sn → kp_is Sn a0 1 → wX1_headOf_b38 a0 x1 x2 xt0  Sn post → W p l e { frames := 1, cells := 0, slots := 0, locals := 20 } s m ([.ref a0, .int x1, .int x2] : List Value).toArray below meth c H locs 0 0 (MQ below (kp_Qi D cy A S post) ([.ref a0, .int x1, .int x2] : List Value).toArray s 0 0 A) (F0 m 38 ls [.int xt0]) := by
    intro xt0 Sn H locs ls hl h hle f_a0 hw
    unfold wX1_headOf_b38 at hw
    exact kp_reti X hr hlocks h hle rfl hw dX1_headOf_38
  have j37 : ∀  (Sn : kp_S) (H : Heap) (locs : List Loc) (ls : Array Slot), lv_has ls 3 [] → kp_H D cy A Sn s.heap H locs → kp_le S Sn → kp_is Sn a0 1 → wX1_headOf_b37 a0 x1 x2   Sn post → W p l e { frames := 1, cells := 0, slots := 0, locals := 20 } s m ([.ref a0, .int x1, .int x2] : List Value).toArray below meth c H locs 0 0 (MQ below (kp_Qi D cy A S post) ([.ref a0, .int x1, .int x2] : List Value).toArray s 0 0 A) (F0 m 37 ls []) := by
    intro  Sn H locs ls hl h hle f_a0 hw
    unfold wX1_headOf_b37 at hw
    refine lv_iconst (v := 0) X.1 X.2.1 dX1_headOf_37 (by decide) ?_
    exact j38 0 Sn H locs ls (lv_sub hl [] rfl) h hle f_a0 hw
  unfold wX1_headOf at hw
  have h : kp_H D cy A S s.heap s.heap [] := h
  revert h
  intro h
  refine lv_iload_n X.1 X.2.1 dX1_headOf_0 rfl (lv_at hl 1 rfl) ?_
  refine kp_calli X h (kp_runS (rm := { frames := 0, cells := 0, slots := 0, locals := 0 }) (mc := 0) (ms := 0) (rest := []) (Qc := fun A => kp_Qi D cy A S _) X h (c_X1_isLock l D cy ad S x1 _ h.2.2.2  hw) cs_1_32 ⟨by decide, by decide, rfl, rfl, by decide, by decide⟩ rfl hl.1 rfl (Nat.le_of_ble_eq_true rfl) dX1_headOf_1) (fun y2 T1 hw l_T1 H locs h => ?_)
  have f_a0 := l_T1.is f_a0
  have hle := hle.tr l_T1
  refine lv_if_eq (tgt := 37) X.1 X.2.1 dX1_headOf_4 (by decide) (fun c8 => ?_) (fun c8 => ?_)
  · have hw := hw.1 c8
    exact j37  T1 _ _ ls (lv_sub hl [] rfl) h hle f_a0 hw
  · have hw := hw.2 c8
    refine lv_iload_n X.1 X.2.1 dX1_headOf_7 rfl (lv_at hl 1 rfl) ?_
    refine lv_iload_n X.1 X.2.1 dX1_headOf_8 rfl (lv_at hl 2 rfl) ?_
    refine lv_iadd X.1 X.2.1 dX1_headOf_9 ?_
    refine kp_calli X h (kp_runS (rm := { frames := 0, cells := 0, slots := 0, locals := 0 }) (mc := 0) (ms := 0) (rest := []) (Qc := fun A => kp_Qi D cy A T1 _) X h (c_X1_isReach l D cy ad T1 (x1 + x2) _ h.2.2.2  hw) cs_1_27 ⟨by decide, by decide, rfl, rfl, by decide, by decide⟩ rfl hl.1 rfl (Nat.le_of_ble_eq_true rfl) dX1_headOf_10) (fun y4 T3 hw l_T3 H locs h => ?_)
    have f_a0 := l_T3.is f_a0
    have hle := hle.tr l_T3
    refine lv_if_eq (tgt := 37) X.1 X.2.1 dX1_headOf_13 (by decide) (fun c7 => ?_) (fun c7 => ?_)
    · have hw := hw.1 c7
      exact j37  T3 _ _ ls (lv_sub hl [] rfl) h hle f_a0 hw
    · have hw := hw.2 c7
      refine lv_aload_n X.1 X.2.1 dX1_headOf_16 rfl (lv_at hl 0 rfl) ?_
      obtain ⟨b5, e_b5, hw⟩ := hw
      have f_b5 := h.2.2.2.rf (c := 1) (k := 0) f_a0 (by decide) (by decide) e_b5 (t := 14) rfl
      refine kp_get X h f_a0 ff_1_11.l (v := .ref b5) (congrArg va_rf e_b5) dX1_headOf_17 ?_
      refine lv_iload_n X.1 X.2.1 dX1_headOf_20 rfl (lv_at hl 1 rfl) ?_
      obtain ⟨hi, hw⟩ := hw
      refine kp_iald X h f_b5 hi dX1_headOf_21 ?_
      refine lv_aload_n X.1 X.2.1 dX1_headOf_22 rfl (lv_at hl 0 rfl) ?_
      obtain ⟨b6, e_b6, hw⟩ := hw
      have f_b6 := h.2.2.2.rf (c := 1) (k := 1) f_a0 (by decide) (by decide) e_b6 (t := 14) rfl
      refine kp_get X h f_a0 ff_1_15.l (v := .ref b6) (congrArg va_rf e_b6) dX1_headOf_23 ?_
      refine lv_iload_n X.1 X.2.1 dX1_headOf_26 rfl (lv_at hl 1 rfl) ?_
      refine lv_iload_n X.1 X.2.1 dX1_headOf_27 rfl (lv_at hl 2 rfl) ?_
      refine lv_iadd X.1 X.2.1 dX1_headOf_28 ?_
      obtain ⟨hi, hw⟩ := hw
      refine kp_iald X h f_b6 hi dX1_headOf_29 ?_
      refine lv_bipush (v := 10) X.1 X.2.1 dX1_headOf_30 (by decide) ?_
      refine lv_idiv X.1 X.2.1 dX1_headOf_32 (by decide) ?_
      refine lv_isub X.1 X.2.1 dX1_headOf_33 ?_
      refine lv_goto (tgt := 38) X.1 X.2.1 dX1_headOf_34 (by decide) ?_
      exact j38 ((kp_A T3 b5 x1.toNatClampNeg) - ((kp_A T3 b6 (x1 + x2).toNatClampNeg) / 10)) T3 _ _ ls (lv_sub hl [] rfl) h hle f_a0 hw
theorem dX1_troubleToOpen_0 : decode cX1_troubleToOpen 0 = .ok (.aload_n 0, 1) := by decide +kernel
theorem dX1_troubleToOpen_1 : decode cX1_troubleToOpen 1 = .ok (.iload_n 1, 1) := by decide +kernel
theorem dX1_troubleToOpen_2 : decode cX1_troubleToOpen 2 = .ok (.iload_n 2, 1) := by decide +kernel
theorem dX1_troubleToOpen_3 : decode cX1_troubleToOpen 3 = .ok (.invokevirtual 63, 3) := by decide +kernel
theorem dX1_troubleToOpen_6 : decode cX1_troubleToOpen 6 = .ok (.istore_n 3, 1) := by decide +kernel
theorem dX1_troubleToOpen_7 : decode cX1_troubleToOpen 7 = .ok (.iload_n 3, 1) := by decide +kernel
theorem dX1_troubleToOpen_8 : decode cX1_troubleToOpen 8 = .ok (.ifCond .eq 5, 3) := by decide +kernel
theorem dX1_troubleToOpen_11 : decode cX1_troubleToOpen 11 = .ok (.iload_n 3, 1) := by decide +kernel
theorem dX1_troubleToOpen_12 : decode cX1_troubleToOpen 12 = .ok (.ireturn, 1) := by decide +kernel
theorem dX1_troubleToOpen_13 : decode cX1_troubleToOpen 13 = .ok (.aload_n 0, 1) := by decide +kernel
theorem dX1_troubleToOpen_14 : decode cX1_troubleToOpen 14 = .ok (.iload_n 1, 1) := by decide +kernel
theorem dX1_troubleToOpen_15 : decode cX1_troubleToOpen 15 = .ok (.iconst 1, 1) := by decide +kernel
theorem dX1_troubleToOpen_16 : decode cX1_troubleToOpen 16 = .ok (.iload_n 2, 1) := by decide +kernel
theorem dX1_troubleToOpen_17 : decode cX1_troubleToOpen 17 = .ok (.isub, 1) := by decide +kernel
theorem dX1_troubleToOpen_18 : decode cX1_troubleToOpen 18 = .ok (.invokevirtual 35, 3) := by decide +kernel
theorem dX1_troubleToOpen_21 : decode cX1_troubleToOpen 21 = .ok (.iconst 1, 1) := by decide +kernel
theorem dX1_troubleToOpen_22 : decode cX1_troubleToOpen 22 = .ok (.if_icmp .ne 6, 3) := by decide +kernel
theorem dX1_troubleToOpen_25 : decode cX1_troubleToOpen 25 = .ok (.bipush 6, 2) := by decide +kernel
theorem dX1_troubleToOpen_27 : decode cX1_troubleToOpen 27 = .ok (.ireturn, 1) := by decide +kernel
theorem dX1_troubleToOpen_28 : decode cX1_troubleToOpen 28 = .ok (.aload_n 0, 1) := by decide +kernel
theorem dX1_troubleToOpen_29 : decode cX1_troubleToOpen 29 = .ok (.iload_n 1, 1) := by decide +kernel
theorem dX1_troubleToOpen_30 : decode cX1_troubleToOpen 30 = .ok (.iload_n 2, 1) := by decide +kernel
theorem dX1_troubleToOpen_31 : decode cX1_troubleToOpen 31 = .ok (.invokevirtual 66, 3) := by decide +kernel
theorem dX1_troubleToOpen_34 : decode cX1_troubleToOpen 34 = .ok (.istore 4, 2) := by decide +kernel
theorem dX1_troubleToOpen_36 : decode cX1_troubleToOpen 36 = .ok (.iload 4, 2) := by decide +kernel
theorem dX1_troubleToOpen_38 : decode cX1_troubleToOpen 38 = .ok (.iconst 1, 1) := by decide +kernel
theorem dX1_troubleToOpen_39 : decode cX1_troubleToOpen 39 = .ok (.if_icmp .gt 9, 3) := by decide +kernel
theorem dX1_troubleToOpen_42 : decode cX1_troubleToOpen 42 = .ok (.iload 4, 2) := by decide +kernel
theorem dX1_troubleToOpen_44 : decode cX1_troubleToOpen 44 = .ok (.iconst (-1), 1) := by decide +kernel
theorem dX1_troubleToOpen_45 : decode cX1_troubleToOpen 45 = .ok (.if_icmp .ge 7, 3) := by decide +kernel
theorem dX1_troubleToOpen_48 : decode cX1_troubleToOpen 48 = .ok (.iconst 5, 1) := by decide +kernel
theorem dX1_troubleToOpen_49 : decode cX1_troubleToOpen 49 = .ok (.goto 4, 3) := by decide +kernel
theorem dX1_troubleToOpen_52 : decode cX1_troubleToOpen 52 = .ok (.iconst 0, 1) := by decide +kernel
theorem dX1_troubleToOpen_53 : decode cX1_troubleToOpen 53 = .ok (.ireturn, 1) := by decide +kernel
def wX1_troubleToOpen_b53 (a0 : Nat) (x1 : Int32) (x2 : Int32) (xt0 : Int32)  (Sn : kp_S) (post : Int32 → kp_S → Prop) : Prop :=
  post xt0 Sn
def wX1_troubleToOpen_b48 (a0 : Nat) (x1 : Int32) (x2 : Int32)  (Sn : kp_S) (post : Int32 → kp_S → Prop) : Prop :=
  wX1_troubleToOpen_b53 a0 x1 x2 5  Sn post
def wX1_troubleToOpen (a0 : Nat) (x1 : Int32) (x2 : Int32) (S : kp_S) (post : Int32 → kp_S → Prop) : Prop :=
  wX1_troubleToShut a0 x1 x2 S (fun y2 T1 =>
  ((y2 = 0 →
  wX1_gateOf a0 x1 (1 - x2) T1 (fun y4 T3 =>
  ((¬ y4 = 1 →
  wX1_headOf a0 x1 x2 T3 (fun y6 T5 =>
  ((1 < y6 →
  wX1_troubleToOpen_b48 a0 x1 x2   T5 post) ∧ (¬ 1 < y6 →
  (((-1) ≤ y6 →
  wX1_troubleToOpen_b53 a0 x1 x2 0  T5 post) ∧ (¬ (-1) ≤ y6 →
  wX1_troubleToOpen_b48 a0 x1 x2   T5 post)))))) ∧ (y4 = 1 →
  post 6 T3)))) ∧ (¬ y2 = 0 →
  post y2 T1)))
set_option maxHeartbeats 4000000 in
set_option maxRecDepth 100000 in
theorem c_X1_troubleToOpen (l : Launch) (D : va_G) (cy : Nat → ClassId) (ad : (Nat → Nat) × (Nat → Nat)) (S : kp_S) (a0 : Nat) (x1 : Int32) (x2 : Int32) (post : Int32 → kp_S → Prop) (hS : kp_ok S) (f_a0 : kp_is S a0 1) (hw : wX1_troubleToOpen a0 x1 x2 S post) : kp_M l yX1_troubleToOpen cX1_troubleToOpen 5 (some .int) { frames := 2, cells := 0, slots := 0, locals := 43 } D cy ad S [.ref a0, .int x1, .int x2] 0 0 (fun A => kp_Qi D cy A S post) := by
  refine kp_start (own := RX1) (by decide) rfl (Nat.le_of_ble_eq_true rfl) hS ?_
  intro p e s m below meth c A ls X hr hlocks hname h hl
  have hle : kp_le S S := kp_le.rf
  have hl : lv_has ls 5 [(0, .ref a0), (1, .int x1), (2, .int x2)] := hl
  have j53 : ∀ (xt0 : Int32) (Sn : kp_S) (H : Heap) (locs : List Loc) (ls : Array Slot), lv_has ls 5 [] → kp_H D cy A Sn s.heap H locs → kp_le S Sn → kp_is Sn a0 1 → wX1_troubleToOpen_b53 a0 x1 x2 xt0  Sn post → W p l e { frames := 2, cells := 0, slots := 0, locals := 43 } s m ([.ref a0, .int x1, .int x2] : List Value).toArray below meth c H locs 0 0 (MQ below (kp_Qi D cy A S post) ([.ref a0, .int x1, .int x2] : List Value).toArray s 0 0 A) (F0 m 53 ls [.int xt0]) := by
    intro xt0 Sn H locs ls hl h hle f_a0 hw
    unfold wX1_troubleToOpen_b53 at hw
    exact kp_reti X hr hlocks h hle rfl hw dX1_troubleToOpen_53
  have j48 : ∀  (Sn : kp_S) (H : Heap) (locs : List Loc) (ls : Array Slot), lv_has ls 5 [] → kp_H D cy A Sn s.heap H locs → kp_le S Sn → kp_is Sn a0 1 → wX1_troubleToOpen_b48 a0 x1 x2   Sn post → W p l e { frames := 2, cells := 0, slots := 0, locals := 43 } s m ([.ref a0, .int x1, .int x2] : List Value).toArray below meth c H locs 0 0 (MQ below (kp_Qi D cy A S post) ([.ref a0, .int x1, .int x2] : List Value).toArray s 0 0 A) (F0 m 48 ls []) := by
    intro  Sn H locs ls hl h hle f_a0 hw
    unfold wX1_troubleToOpen_b48 at hw
    refine lv_iconst (v := 5) X.1 X.2.1 dX1_troubleToOpen_48 (by decide) ?_
    refine lv_goto (tgt := 53) X.1 X.2.1 dX1_troubleToOpen_49 (by decide) ?_
    exact j53 5 Sn H locs ls (lv_sub hl [] rfl) h hle f_a0 hw
  unfold wX1_troubleToOpen at hw
  have h : kp_H D cy A S s.heap s.heap [] := h
  revert h
  intro h
  refine lv_aload_n X.1 X.2.1 dX1_troubleToOpen_0 rfl (lv_at hl 0 rfl) ?_
  refine lv_iload_n X.1 X.2.1 dX1_troubleToOpen_1 rfl (lv_at hl 1 rfl) ?_
  refine lv_iload_n X.1 X.2.1 dX1_troubleToOpen_2 rfl (lv_at hl 2 rfl) ?_
  refine kp_calli X h (kp_runV (rm := { frames := 1, cells := 0, slots := 0, locals := 21 }) (mc := 0) (ms := 0) (rest := []) (Qc := fun A => kp_Qi D cy A S _) X h (c_X1_troubleToShut l D cy ad S a0 x1 x2 _ h.2.2.2 f_a0 hw) f_a0 cv_1_63 ⟨by decide, by decide, rfl, rfl, by decide, by decide⟩ rfl hl.1 rfl (Nat.le_of_ble_eq_true rfl) dX1_troubleToOpen_3) (fun y2 T1 hw l_T1 H locs h => ?_)
  have f_a0 := l_T1.is f_a0
  have hle := hle.tr l_T1
  refine lv_istore_n (lv' := [(3, .int y2), (0, .ref a0), (1, .int x1), (2, .int x2)]) X.1 X.2.1 dX1_troubleToOpen_6 rfl hl (by decide) rfl (fun ls hl => ?_)
  refine lv_iload_n X.1 X.2.1 dX1_troubleToOpen_7 rfl (lv_at hl 0 rfl) ?_
  refine lv_if_eq (tgt := 13) X.1 X.2.1 dX1_troubleToOpen_8 (by decide) (fun c10 => ?_) (fun c10 => ?_)
  · have hw := hw.1 c10
    refine lv_aload_n X.1 X.2.1 dX1_troubleToOpen_13 rfl (lv_at hl 1 rfl) ?_
    refine lv_iload_n X.1 X.2.1 dX1_troubleToOpen_14 rfl (lv_at hl 2 rfl) ?_
    refine lv_iconst (v := 1) X.1 X.2.1 dX1_troubleToOpen_15 (by decide) ?_
    refine lv_iload_n X.1 X.2.1 dX1_troubleToOpen_16 rfl (lv_at hl 3 rfl) ?_
    refine lv_isub X.1 X.2.1 dX1_troubleToOpen_17 ?_
    refine kp_calli X h (kp_runV (rm := { frames := 1, cells := 0, slots := 0, locals := 21 }) (mc := 0) (ms := 0) (rest := []) (Qc := fun A => kp_Qi D cy A T1 _) X h (c_X1_gateOf l D cy ad T1 a0 x1 (1 - x2) _ h.2.2.2 f_a0 hw) f_a0 cv_1_35 ⟨by decide, by decide, rfl, rfl, by decide, by decide⟩ rfl hl.1 rfl (Nat.le_of_ble_eq_true rfl) dX1_troubleToOpen_18) (fun y4 T3 hw l_T3 H locs h => ?_)
    have f_a0 := l_T3.is f_a0
    have hle := hle.tr l_T3
    refine lv_iconst (v := 1) X.1 X.2.1 dX1_troubleToOpen_21 (by decide) ?_
    refine lv_icmp_ne (tgt := 28) X.1 X.2.1 dX1_troubleToOpen_22 (by decide) (fun c9 => ?_) (fun c9 => ?_)
    · have hw := hw.1 c9
      refine lv_aload_n X.1 X.2.1 dX1_troubleToOpen_28 rfl (lv_at hl 1 rfl) ?_
      refine lv_iload_n X.1 X.2.1 dX1_troubleToOpen_29 rfl (lv_at hl 2 rfl) ?_
      refine lv_iload_n X.1 X.2.1 dX1_troubleToOpen_30 rfl (lv_at hl 3 rfl) ?_
      refine kp_calli X h (kp_runV (rm := { frames := 1, cells := 0, slots := 0, locals := 20 }) (mc := 0) (ms := 0) (rest := []) (Qc := fun A => kp_Qi D cy A T3 _) X h (c_X1_headOf l D cy ad T3 a0 x1 x2 _ h.2.2.2 f_a0 hw) f_a0 cv_1_66 ⟨by decide, by decide, rfl, rfl, by decide, by decide⟩ rfl hl.1 rfl (Nat.le_of_ble_eq_true rfl) dX1_troubleToOpen_31) (fun y6 T5 hw l_T5 H locs h => ?_)
      have f_a0 := l_T5.is f_a0
      have hle := hle.tr l_T5
      refine lv_istore (lv' := [(4, .int y6), (3, .int y2), (0, .ref a0), (1, .int x1), (2, .int x2)]) X.1 X.2.1 dX1_troubleToOpen_34 hl (by decide) rfl (fun ls hl => ?_)
      refine lv_iload X.1 X.2.1 dX1_troubleToOpen_36 (lv_at hl 0 rfl) ?_
      refine lv_iconst (v := 1) X.1 X.2.1 dX1_troubleToOpen_38 (by decide) ?_
      refine lv_icmp_gt (tgt := 48) X.1 X.2.1 dX1_troubleToOpen_39 (by decide) (fun c8 => ?_) (fun c8 => ?_)
      · have hw := hw.1 c8
        exact j48  T5 _ _ ls (lv_sub hl [] rfl) h hle f_a0 hw
      · have hw := hw.2 c8
        refine lv_iload X.1 X.2.1 dX1_troubleToOpen_42 (lv_at hl 0 rfl) ?_
        refine lv_iconst (v := (-1)) X.1 X.2.1 dX1_troubleToOpen_44 (by decide) ?_
        refine lv_icmp_ge (tgt := 52) X.1 X.2.1 dX1_troubleToOpen_45 (by decide) (fun c7 => ?_) (fun c7 => ?_)
        · have hw := hw.1 c7
          refine lv_iconst (v := 0) X.1 X.2.1 dX1_troubleToOpen_52 (by decide) ?_
          exact j53 0 T5 _ _ ls (lv_sub hl [] rfl) h hle f_a0 hw
        · have hw := hw.2 c7
          exact j48  T5 _ _ ls (lv_sub hl [] rfl) h hle f_a0 hw
    · have hw := hw.2 c9
      refine lv_bipush (v := 6) X.1 X.2.1 dX1_troubleToOpen_25 (by decide) ?_
      exact kp_reti X hr hlocks h hle rfl hw dX1_troubleToOpen_27
  · have hw := hw.2 c10
    refine lv_iload_n X.1 X.2.1 dX1_troubleToOpen_11 rfl (lv_at hl 0 rfl) ?_
    exact kp_reti X hr hlocks h hle rfl hw dX1_troubleToOpen_12
theorem dX1_troubleToSluice_0 : decode cX1_troubleToSluice 0 = .ok (.iload_n 3, 1) := by decide +kernel
theorem dX1_troubleToSluice_1 : decode cX1_troubleToSluice 1 = .ok (.ifCond .lt 10, 3) := by decide +kernel
theorem dX1_troubleToSluice_4 : decode cX1_troubleToSluice 4 = .ok (.iload_n 3, 1) := by decide +kernel
theorem dX1_troubleToSluice_5 : decode cX1_troubleToSluice 5 = .ok (.sipush 1000, 3) := by decide +kernel
theorem dX1_troubleToSluice_8 : decode cX1_troubleToSluice 8 = .ok (.if_icmp .le 5, 3) := by decide +kernel
theorem dX1_troubleToSluice_11 : decode cX1_troubleToSluice 11 = .ok (.iconst 3, 1) := by decide +kernel
theorem dX1_troubleToSluice_12 : decode cX1_troubleToSluice 12 = .ok (.ireturn, 1) := by decide +kernel
theorem dX1_troubleToSluice_13 : decode cX1_troubleToSluice 13 = .ok (.aload_n 0, 1) := by decide +kernel
theorem dX1_troubleToSluice_14 : decode cX1_troubleToSluice 14 = .ok (.iload_n 1, 1) := by decide +kernel
theorem dX1_troubleToSluice_15 : decode cX1_troubleToSluice 15 = .ok (.iload_n 2, 1) := by decide +kernel
theorem dX1_troubleToSluice_16 : decode cX1_troubleToSluice 16 = .ok (.invokevirtual 63, 3) := by decide +kernel
theorem dX1_troubleToSluice_19 : decode cX1_troubleToSluice 19 = .ok (.istore 4, 2) := by decide +kernel
theorem dX1_troubleToSluice_21 : decode cX1_troubleToSluice 21 = .ok (.iload 4, 2) := by decide +kernel
theorem dX1_troubleToSluice_23 : decode cX1_troubleToSluice 23 = .ok (.ifCond .eq 6, 3) := by decide +kernel
theorem dX1_troubleToSluice_26 : decode cX1_troubleToSluice 26 = .ok (.iload 4, 2) := by decide +kernel
theorem dX1_troubleToSluice_28 : decode cX1_troubleToSluice 28 = .ok (.ireturn, 1) := by decide +kernel
theorem dX1_troubleToSluice_29 : decode cX1_troubleToSluice 29 = .ok (.aload_n 0, 1) := by decide +kernel
theorem dX1_troubleToSluice_30 : decode cX1_troubleToSluice 30 = .ok (.iload_n 1, 1) := by decide +kernel
theorem dX1_troubleToSluice_31 : decode cX1_troubleToSluice 31 = .ok (.iconst 1, 1) := by decide +kernel
theorem dX1_troubleToSluice_32 : decode cX1_troubleToSluice 32 = .ok (.iload_n 2, 1) := by decide +kernel
theorem dX1_troubleToSluice_33 : decode cX1_troubleToSluice 33 = .ok (.isub, 1) := by decide +kernel
theorem dX1_troubleToSluice_34 : decode cX1_troubleToSluice 34 = .ok (.invokevirtual 35, 3) := by decide +kernel
theorem dX1_troubleToSluice_37 : decode cX1_troubleToSluice 37 = .ok (.iconst 1, 1) := by decide +kernel
theorem dX1_troubleToSluice_38 : decode cX1_troubleToSluice 38 = .ok (.if_icmp .ne 8, 3) := by decide +kernel
theorem dX1_troubleToSluice_41 : decode cX1_troubleToSluice 41 = .ok (.bipush 6, 2) := by decide +kernel
theorem dX1_troubleToSluice_43 : decode cX1_troubleToSluice 43 = .ok (.goto 4, 3) := by decide +kernel
theorem dX1_troubleToSluice_46 : decode cX1_troubleToSluice 46 = .ok (.iconst 0, 1) := by decide +kernel
theorem dX1_troubleToSluice_47 : decode cX1_troubleToSluice 47 = .ok (.ireturn, 1) := by decide +kernel
def wX1_troubleToSluice_b11 (a0 : Nat) (x1 : Int32) (x2 : Int32) (x3 : Int32)  (Sn : kp_S) (post : Int32 → kp_S → Prop) : Prop :=
  post 3 Sn
def wX1_troubleToSluice_b47 (a0 : Nat) (x1 : Int32) (x2 : Int32) (x3 : Int32) (xt0 : Int32)  (Sn : kp_S) (post : Int32 → kp_S → Prop) : Prop :=
  post xt0 Sn
def wX1_troubleToSluice (a0 : Nat) (x1 : Int32) (x2 : Int32) (x3 : Int32) (S : kp_S) (post : Int32 → kp_S → Prop) : Prop :=
  ((x3 < 0 →
  wX1_troubleToSluice_b11 a0 x1 x2 x3   S post) ∧ (¬ x3 < 0 →
  ((x3 ≤ 1000 →
  wX1_troubleToShut a0 x1 x2 S (fun y2 T1 =>
  ((y2 = 0 →
  wX1_gateOf a0 x1 (1 - x2) T1 (fun y4 T3 =>
  ((¬ y4 = 1 →
  wX1_troubleToSluice_b47 a0 x1 x2 x3 0  T3 post) ∧ (y4 = 1 →
  wX1_troubleToSluice_b47 a0 x1 x2 x3 6  T3 post)))) ∧ (¬ y2 = 0 →
  post y2 T1)))) ∧ (¬ x3 ≤ 1000 →
  wX1_troubleToSluice_b11 a0 x1 x2 x3   S post))))
set_option maxHeartbeats 4000000 in
set_option maxRecDepth 100000 in
theorem c_X1_troubleToSluice (l : Launch) (D : va_G) (cy : Nat → ClassId) (ad : (Nat → Nat) × (Nat → Nat)) (S : kp_S) (a0 : Nat) (x1 : Int32) (x2 : Int32) (x3 : Int32) (post : Int32 → kp_S → Prop) (hS : kp_ok S) (f_a0 : kp_is S a0 1) (hw : wX1_troubleToSluice a0 x1 x2 x3 S post) : kp_M l yX1_troubleToSluice cX1_troubleToSluice 5 (some .int) { frames := 2, cells := 0, slots := 0, locals := 43 } D cy ad S [.ref a0, .int x1, .int x2, .int x3] 0 0 (fun A => kp_Qi D cy A S post) := by
  refine kp_start (own := RX1) (by decide) rfl (Nat.le_of_ble_eq_true rfl) hS ?_
  intro p e s m below meth c A ls X hr hlocks hname h hl
  have hle : kp_le S S := kp_le.rf
  have hl : lv_has ls 5 [(0, .ref a0), (1, .int x1), (2, .int x2), (3, .int x3)] := hl
  have j11 : ∀  (Sn : kp_S) (H : Heap) (locs : List Loc) (ls : Array Slot), lv_has ls 5 [] → kp_H D cy A Sn s.heap H locs → kp_le S Sn → kp_is Sn a0 1 → wX1_troubleToSluice_b11 a0 x1 x2 x3   Sn post → W p l e { frames := 2, cells := 0, slots := 0, locals := 43 } s m ([.ref a0, .int x1, .int x2, .int x3] : List Value).toArray below meth c H locs 0 0 (MQ below (kp_Qi D cy A S post) ([.ref a0, .int x1, .int x2, .int x3] : List Value).toArray s 0 0 A) (F0 m 11 ls []) := by
    intro  Sn H locs ls hl h hle f_a0 hw
    unfold wX1_troubleToSluice_b11 at hw
    refine lv_iconst (v := 3) X.1 X.2.1 dX1_troubleToSluice_11 (by decide) ?_
    exact kp_reti X hr hlocks h hle rfl hw dX1_troubleToSluice_12
  have j47 : ∀ (xt0 : Int32) (Sn : kp_S) (H : Heap) (locs : List Loc) (ls : Array Slot), lv_has ls 5 [] → kp_H D cy A Sn s.heap H locs → kp_le S Sn → kp_is Sn a0 1 → wX1_troubleToSluice_b47 a0 x1 x2 x3 xt0  Sn post → W p l e { frames := 2, cells := 0, slots := 0, locals := 43 } s m ([.ref a0, .int x1, .int x2, .int x3] : List Value).toArray below meth c H locs 0 0 (MQ below (kp_Qi D cy A S post) ([.ref a0, .int x1, .int x2, .int x3] : List Value).toArray s 0 0 A) (F0 m 47 ls [.int xt0]) := by
    intro xt0 Sn H locs ls hl h hle f_a0 hw
    unfold wX1_troubleToSluice_b47 at hw
    exact kp_reti X hr hlocks h hle rfl hw dX1_troubleToSluice_47
  unfold wX1_troubleToSluice at hw
  have h : kp_H D cy A S s.heap s.heap [] := h
  revert h
  intro h
  refine lv_iload_n X.1 X.2.1 dX1_troubleToSluice_0 rfl (lv_at hl 3 rfl) ?_
  refine lv_if_lt (tgt := 11) X.1 X.2.1 dX1_troubleToSluice_1 (by decide) (fun c8 => ?_) (fun c8 => ?_)
  · have hw := hw.1 c8
    exact j11  S _ _ ls (lv_sub hl [] rfl) h hle f_a0 hw
  · have hw := hw.2 c8
    refine lv_iload_n X.1 X.2.1 dX1_troubleToSluice_4 rfl (lv_at hl 3 rfl) ?_
    refine lv_sipush (v := 1000) X.1 X.2.1 dX1_troubleToSluice_5 (by decide) ?_
    refine lv_icmp_le (tgt := 13) X.1 X.2.1 dX1_troubleToSluice_8 (by decide) (fun c7 => ?_) (fun c7 => ?_)
    · have hw := hw.1 c7
      refine lv_aload_n X.1 X.2.1 dX1_troubleToSluice_13 rfl (lv_at hl 0 rfl) ?_
      refine lv_iload_n X.1 X.2.1 dX1_troubleToSluice_14 rfl (lv_at hl 1 rfl) ?_
      refine lv_iload_n X.1 X.2.1 dX1_troubleToSluice_15 rfl (lv_at hl 2 rfl) ?_
      refine kp_calli X h (kp_runV (rm := { frames := 1, cells := 0, slots := 0, locals := 21 }) (mc := 0) (ms := 0) (rest := []) (Qc := fun A => kp_Qi D cy A S _) X h (c_X1_troubleToShut l D cy ad S a0 x1 x2 _ h.2.2.2 f_a0 hw) f_a0 cv_1_63 ⟨by decide, by decide, rfl, rfl, by decide, by decide⟩ rfl hl.1 rfl (Nat.le_of_ble_eq_true rfl) dX1_troubleToSluice_16) (fun y2 T1 hw l_T1 H locs h => ?_)
      have f_a0 := l_T1.is f_a0
      have hle := hle.tr l_T1
      refine lv_istore (lv' := [(4, .int y2), (0, .ref a0), (1, .int x1), (2, .int x2), (3, .int x3)]) X.1 X.2.1 dX1_troubleToSluice_19 hl (by decide) rfl (fun ls hl => ?_)
      refine lv_iload X.1 X.2.1 dX1_troubleToSluice_21 (lv_at hl 0 rfl) ?_
      refine lv_if_eq (tgt := 29) X.1 X.2.1 dX1_troubleToSluice_23 (by decide) (fun c6 => ?_) (fun c6 => ?_)
      · have hw := hw.1 c6
        refine lv_aload_n X.1 X.2.1 dX1_troubleToSluice_29 rfl (lv_at hl 1 rfl) ?_
        refine lv_iload_n X.1 X.2.1 dX1_troubleToSluice_30 rfl (lv_at hl 2 rfl) ?_
        refine lv_iconst (v := 1) X.1 X.2.1 dX1_troubleToSluice_31 (by decide) ?_
        refine lv_iload_n X.1 X.2.1 dX1_troubleToSluice_32 rfl (lv_at hl 3 rfl) ?_
        refine lv_isub X.1 X.2.1 dX1_troubleToSluice_33 ?_
        refine kp_calli X h (kp_runV (rm := { frames := 1, cells := 0, slots := 0, locals := 21 }) (mc := 0) (ms := 0) (rest := []) (Qc := fun A => kp_Qi D cy A T1 _) X h (c_X1_gateOf l D cy ad T1 a0 x1 (1 - x2) _ h.2.2.2 f_a0 hw) f_a0 cv_1_35 ⟨by decide, by decide, rfl, rfl, by decide, by decide⟩ rfl hl.1 rfl (Nat.le_of_ble_eq_true rfl) dX1_troubleToSluice_34) (fun y4 T3 hw l_T3 H locs h => ?_)
        have f_a0 := l_T3.is f_a0
        have hle := hle.tr l_T3
        refine lv_iconst (v := 1) X.1 X.2.1 dX1_troubleToSluice_37 (by decide) ?_
        refine lv_icmp_ne (tgt := 46) X.1 X.2.1 dX1_troubleToSluice_38 (by decide) (fun c5 => ?_) (fun c5 => ?_)
        · have hw := hw.1 c5
          refine lv_iconst (v := 0) X.1 X.2.1 dX1_troubleToSluice_46 (by decide) ?_
          exact j47 0 T3 _ _ ls (lv_sub hl [] rfl) h hle f_a0 hw
        · have hw := hw.2 c5
          refine lv_bipush (v := 6) X.1 X.2.1 dX1_troubleToSluice_41 (by decide) ?_
          refine lv_goto (tgt := 47) X.1 X.2.1 dX1_troubleToSluice_43 (by decide) ?_
          exact j47 6 T3 _ _ ls (lv_sub hl [] rfl) h hle f_a0 hw
      · have hw := hw.2 c6
        refine lv_iload X.1 X.2.1 dX1_troubleToSluice_26 (lv_at hl 0 rfl) ?_
        exact kp_reti X hr hlocks h hle rfl hw dX1_troubleToSluice_28
    · have hw := hw.2 c7
      exact j11  S _ _ ls (lv_sub hl [] rfl) h hle f_a0 hw
theorem dX1_placeBeyond_0 : decode cX1_placeBeyond 0 = .ok (.iload_n 1, 1) := by decide +kernel
theorem dX1_placeBeyond_1 : decode cX1_placeBeyond 1 = .ok (.iconst 1, 1) := by decide +kernel
theorem dX1_placeBeyond_2 : decode cX1_placeBeyond 2 = .ok (.if_icmp .ne 9, 3) := by decide +kernel
theorem dX1_placeBeyond_5 : decode cX1_placeBeyond 5 = .ok (.iload_n 0, 1) := by decide +kernel
theorem dX1_placeBeyond_6 : decode cX1_placeBeyond 6 = .ok (.iconst 1, 1) := by decide +kernel
theorem dX1_placeBeyond_7 : decode cX1_placeBeyond 7 = .ok (.iadd, 1) := by decide +kernel
theorem dX1_placeBeyond_8 : decode cX1_placeBeyond 8 = .ok (.goto 6, 3) := by decide +kernel
theorem dX1_placeBeyond_11 : decode cX1_placeBeyond 11 = .ok (.iload_n 0, 1) := by decide +kernel
theorem dX1_placeBeyond_12 : decode cX1_placeBeyond 12 = .ok (.iconst 1, 1) := by decide +kernel
theorem dX1_placeBeyond_13 : decode cX1_placeBeyond 13 = .ok (.isub, 1) := by decide +kernel
theorem dX1_placeBeyond_14 : decode cX1_placeBeyond 14 = .ok (.ireturn, 1) := by decide +kernel
def wX1_placeBeyond_b14 (x0 : Int32) (x1 : Int32) (xt0 : Int32)  (Sn : kp_S) (post : Int32 → kp_S → Prop) : Prop :=
  post xt0 Sn
def wX1_placeBeyond (x0 : Int32) (x1 : Int32) (S : kp_S) (post : Int32 → kp_S → Prop) : Prop :=
  ((¬ x1 = 1 →
  wX1_placeBeyond_b14 x0 x1 (x0 - 1)  S post) ∧ (x1 = 1 →
  wX1_placeBeyond_b14 x0 x1 (x0 + 1)  S post))
set_option maxHeartbeats 4000000 in
set_option maxRecDepth 100000 in
theorem c_X1_placeBeyond (l : Launch) (D : va_G) (cy : Nat → ClassId) (ad : (Nat → Nat) × (Nat → Nat)) (S : kp_S) (x0 : Int32) (x1 : Int32) (post : Int32 → kp_S → Prop) (hS : kp_ok S)  (hw : wX1_placeBeyond x0 x1 S post) : kp_M l yX1_placeBeyond cX1_placeBeyond 2 (some .int) { frames := 0, cells := 0, slots := 0, locals := 0 } D cy ad S [.int x0, .int x1] 0 0 (fun A => kp_Qi D cy A S post) := by
  refine kp_start (own := RX1) (by decide) rfl (Nat.le_of_ble_eq_true rfl) hS ?_
  intro p e s m below meth c A ls X hr hlocks hname h hl
  have hle : kp_le S S := kp_le.rf
  have hl : lv_has ls 2 [(0, .int x0), (1, .int x1)] := hl
  have j14 : ∀ (xt0 : Int32) (Sn : kp_S) (H : Heap) (locs : List Loc) (ls : Array Slot), lv_has ls 2 [] → kp_H D cy A Sn s.heap H locs → kp_le S Sn → wX1_placeBeyond_b14 x0 x1 xt0  Sn post → W p l e { frames := 0, cells := 0, slots := 0, locals := 0 } s m ([.int x0, .int x1] : List Value).toArray below meth c H locs 0 0 (MQ below (kp_Qi D cy A S post) ([.int x0, .int x1] : List Value).toArray s 0 0 A) (F0 m 14 ls [.int xt0]) := by
    intro xt0 Sn H locs ls hl h hle  hw
    unfold wX1_placeBeyond_b14 at hw
    exact kp_reti X hr hlocks h hle rfl hw dX1_placeBeyond_14
  unfold wX1_placeBeyond at hw
  have h : kp_H D cy A S s.heap s.heap [] := h
  revert h
  intro h
  refine lv_iload_n X.1 X.2.1 dX1_placeBeyond_0 rfl (lv_at hl 1 rfl) ?_
  refine lv_iconst (v := 1) X.1 X.2.1 dX1_placeBeyond_1 (by decide) ?_
  refine lv_icmp_ne (tgt := 11) X.1 X.2.1 dX1_placeBeyond_2 (by decide) (fun c1 => ?_) (fun c1 => ?_)
  · have hw := hw.1 c1
    refine lv_iload_n X.1 X.2.1 dX1_placeBeyond_11 rfl (lv_at hl 0 rfl) ?_
    refine lv_iconst (v := 1) X.1 X.2.1 dX1_placeBeyond_12 (by decide) ?_
    refine lv_isub X.1 X.2.1 dX1_placeBeyond_13 ?_
    exact j14 (x0 - 1) S _ _ ls (lv_sub hl [] rfl) h hle  hw
  · have hw := hw.2 c1
    refine lv_iload_n X.1 X.2.1 dX1_placeBeyond_5 rfl (lv_at hl 0 rfl) ?_
    refine lv_iconst (v := 1) X.1 X.2.1 dX1_placeBeyond_6 (by decide) ?_
    refine lv_iadd X.1 X.2.1 dX1_placeBeyond_7 ?_
    refine lv_goto (tgt := 14) X.1 X.2.1 dX1_placeBeyond_8 (by decide) ?_
    exact j14 (x0 + 1) S _ _ ls (lv_sub hl [] rfl) h hle  hw
theorem dX1_troubleToSail_0 : decode cX1_troubleToSail 0 = .ok (.iload_n 1, 1) := by decide +kernel
theorem dX1_troubleToSail_1 : decode cX1_troubleToSail 1 = .ok (.invokestatic 39, 3) := by decide +kernel
theorem dX1_troubleToSail_4 : decode cX1_troubleToSail 4 = .ok (.ifCond .eq 12, 3) := by decide +kernel
theorem dX1_troubleToSail_7 : decode cX1_troubleToSail 7 = .ok (.iload_n 2, 1) := by decide +kernel
theorem dX1_troubleToSail_8 : decode cX1_troubleToSail 8 = .ok (.ifCond .eq 10, 3) := by decide +kernel
theorem dX1_troubleToSail_11 : decode cX1_troubleToSail 11 = .ok (.iload_n 2, 1) := by decide +kernel
theorem dX1_troubleToSail_12 : decode cX1_troubleToSail 12 = .ok (.iconst 1, 1) := by decide +kernel
theorem dX1_troubleToSail_13 : decode cX1_troubleToSail 13 = .ok (.if_icmp .eq 5, 3) := by decide +kernel
theorem dX1_troubleToSail_16 : decode cX1_troubleToSail 16 = .ok (.iconst 3, 1) := by decide +kernel
theorem dX1_troubleToSail_17 : decode cX1_troubleToSail 17 = .ok (.ireturn, 1) := by decide +kernel
theorem dX1_troubleToSail_18 : decode cX1_troubleToSail 18 = .ok (.aload_n 0, 1) := by decide +kernel
theorem dX1_troubleToSail_19 : decode cX1_troubleToSail 19 = .ok (.getfield 24, 3) := by decide +kernel
theorem dX1_troubleToSail_22 : decode cX1_troubleToSail 22 = .ok (.iload_n 1, 1) := by decide +kernel
theorem dX1_troubleToSail_23 : decode cX1_troubleToSail 23 = .ok (.iaload, 1) := by decide +kernel
theorem dX1_troubleToSail_24 : decode cX1_troubleToSail 24 = .ok (.iload_n 2, 1) := by decide +kernel
theorem dX1_troubleToSail_25 : decode cX1_troubleToSail 25 = .ok (.invokestatic 69, 3) := by decide +kernel
theorem dX1_troubleToSail_28 : decode cX1_troubleToSail 28 = .ok (.istore_n 3, 1) := by decide +kernel
theorem dX1_troubleToSail_29 : decode cX1_troubleToSail 29 = .ok (.iload_n 3, 1) := by decide +kernel
theorem dX1_troubleToSail_30 : decode cX1_troubleToSail 30 = .ok (.aload_n 0, 1) := by decide +kernel
theorem dX1_troubleToSail_31 : decode cX1_troubleToSail 31 = .ok (.getfield 24, 3) := by decide +kernel
theorem dX1_troubleToSail_34 : decode cX1_troubleToSail 34 = .ok (.iload_n 1, 1) := by decide +kernel
theorem dX1_troubleToSail_35 : decode cX1_troubleToSail 35 = .ok (.iaload, 1) := by decide +kernel
theorem dX1_troubleToSail_36 : decode cX1_troubleToSail 36 = .ok (.invokestatic 72, 3) := by decide +kernel
theorem dX1_troubleToSail_39 : decode cX1_troubleToSail 39 = .ok (.istore 4, 2) := by decide +kernel
theorem dX1_troubleToSail_41 : decode cX1_troubleToSail 41 = .ok (.iload 4, 2) := by decide +kernel
theorem dX1_troubleToSail_43 : decode cX1_troubleToSail 43 = .ok (.ifCond .lt 13, 3) := by decide +kernel
theorem dX1_troubleToSail_46 : decode cX1_troubleToSail 46 = .ok (.iload 4, 2) := by decide +kernel
theorem dX1_troubleToSail_48 : decode cX1_troubleToSail 48 = .ok (.aload_n 0, 1) := by decide +kernel
theorem dX1_troubleToSail_49 : decode cX1_troubleToSail 49 = .ok (.getfield 18, 3) := by decide +kernel
theorem dX1_troubleToSail_52 : decode cX1_troubleToSail 52 = .ok (.arraylength, 1) := by decide +kernel
theorem dX1_troubleToSail_53 : decode cX1_troubleToSail 53 = .ok (.if_icmp .lt 6, 3) := by decide +kernel
theorem dX1_troubleToSail_56 : decode cX1_troubleToSail 56 = .ok (.bipush 9, 2) := by decide +kernel
theorem dX1_troubleToSail_58 : decode cX1_troubleToSail 58 = .ok (.ireturn, 1) := by decide +kernel
theorem dX1_troubleToSail_59 : decode cX1_troubleToSail 59 = .ok (.aload_n 0, 1) := by decide +kernel
theorem dX1_troubleToSail_60 : decode cX1_troubleToSail 60 = .ok (.iload 4, 2) := by decide +kernel
theorem dX1_troubleToSail_62 : decode cX1_troubleToSail 62 = .ok (.iconst 2, 1) := by decide +kernel
theorem dX1_troubleToSail_63 : decode cX1_troubleToSail 63 = .ok (.idiv, 1) := by decide +kernel
theorem dX1_troubleToSail_64 : decode cX1_troubleToSail 64 = .ok (.invokevirtual 50, 3) := by decide +kernel
theorem dX1_troubleToSail_67 : decode cX1_troubleToSail 67 = .ok (.ifCond .ne 5, 3) := by decide +kernel
theorem dX1_troubleToSail_70 : decode cX1_troubleToSail 70 = .ok (.iconst 4, 1) := by decide +kernel
theorem dX1_troubleToSail_71 : decode cX1_troubleToSail 71 = .ok (.ireturn, 1) := by decide +kernel
theorem dX1_troubleToSail_72 : decode cX1_troubleToSail 72 = .ok (.aload_n 0, 1) := by decide +kernel
theorem dX1_troubleToSail_73 : decode cX1_troubleToSail 73 = .ok (.getfield 18, 3) := by decide +kernel
theorem dX1_troubleToSail_76 : decode cX1_troubleToSail 76 = .ok (.iload 4, 2) := by decide +kernel
theorem dX1_troubleToSail_78 : decode cX1_troubleToSail 78 = .ok (.iaload, 1) := by decide +kernel
theorem dX1_troubleToSail_79 : decode cX1_troubleToSail 79 = .ok (.ifCond .ne 6, 3) := by decide +kernel
theorem dX1_troubleToSail_82 : decode cX1_troubleToSail 82 = .ok (.bipush 7, 2) := by decide +kernel
theorem dX1_troubleToSail_84 : decode cX1_troubleToSail 84 = .ok (.ireturn, 1) := by decide +kernel
theorem dX1_troubleToSail_85 : decode cX1_troubleToSail 85 = .ok (.aload_n 0, 1) := by decide +kernel
theorem dX1_troubleToSail_86 : decode cX1_troubleToSail 86 = .ok (.iload_n 3, 1) := by decide +kernel
theorem dX1_troubleToSail_87 : decode cX1_troubleToSail 87 = .ok (.iload_n 1, 1) := by decide +kernel
theorem dX1_troubleToSail_88 : decode cX1_troubleToSail 88 = .ok (.invokevirtual 42, 3) := by decide +kernel
theorem dX1_troubleToSail_91 : decode cX1_troubleToSail 91 = .ok (.ifCond .eq 8, 3) := by decide +kernel
theorem dX1_troubleToSail_94 : decode cX1_troubleToSail 94 = .ok (.bipush 8, 2) := by decide +kernel
theorem dX1_troubleToSail_96 : decode cX1_troubleToSail 96 = .ok (.goto 4, 3) := by decide +kernel
theorem dX1_troubleToSail_99 : decode cX1_troubleToSail 99 = .ok (.iconst 0, 1) := by decide +kernel
theorem dX1_troubleToSail_100 : decode cX1_troubleToSail 100 = .ok (.ireturn, 1) := by decide +kernel
def wX1_troubleToSail_b16 (a0 : Nat) (x1 : Int32) (x2 : Int32)  (Sn : kp_S) (post : Int32 → kp_S → Prop) : Prop :=
  post 3 Sn
def wX1_troubleToSail_b56 (a0 : Nat) (x1 : Int32) (x2 : Int32)  (Sn : kp_S) (post : Int32 → kp_S → Prop) : Prop :=
  post 9 Sn
def wX1_troubleToSail_b100 (a0 : Nat) (x1 : Int32) (x2 : Int32) (xt0 : Int32)  (Sn : kp_S) (post : Int32 → kp_S → Prop) : Prop :=
  post xt0 Sn
def wX1_troubleToSail_b18 (a0 : Nat) (x1 : Int32) (x2 : Int32)  (Sn : kp_S) (post : Int32 → kp_S → Prop) : Prop :=
  ∃ b4001 : Nat, kp_R Sn 204 a0 = some b4001 ∧
  vp_in x1 (kp_N Sn b4001) ∧
  wX1_placeBeyond (kp_A Sn b4001 x1.toNatClampNeg) x2 Sn (fun y4003 T4002 =>
  ∃ b4004 : Nat, kp_R T4002 204 a0 = some b4004 ∧
  vp_in x1 (kp_N T4002 b4004) ∧
  ∀ y4005 : Int32, y4005 = (if (kp_A T4002 b4004 x1.toNatClampNeg) < y4003 then (kp_A T4002 b4004 x1.toNatClampNeg) else y4003) →
  ((y4005 < 0 →
  wX1_troubleToSail_b56 a0 x1 x2   T4002 post) ∧ (¬ y4005 < 0 →
  ∃ b4006 : Nat, kp_R T4002 202 a0 = some b4006 ∧
  ((y4005 < (nI (kp_N T4002 b4006)) →
  wX1_holdsOf a0 (y4005 / 2) T4002 (fun y4008 T4007 =>
  ((¬ y4008 = 0 →
  ∃ b4009 : Nat, kp_R T4007 202 a0 = some b4009 ∧
  vp_in y4005 (kp_N T4007 b4009) ∧
  ((¬ (kp_A T4007 b4009 y4005.toNatClampNeg) = 0 →
  wX1_isTaken a0 y4003 x1 T4007 (fun y4011 T4010 =>
  ((y4011 = 0 →
  wX1_troubleToSail_b100 a0 x1 x2 0  T4010 post) ∧ (¬ y4011 = 0 →
  wX1_troubleToSail_b100 a0 x1 x2 8  T4010 post)))) ∧ ((kp_A T4007 b4009 y4005.toNatClampNeg) = 0 →
  post 7 T4007))) ∧ (y4008 = 0 →
  post 4 T4007)))) ∧ (¬ y4005 < (nI (kp_N T4002 b4006)) →
  wX1_troubleToSail_b56 a0 x1 x2   T4002 post)))))
def wX1_troubleToSail (a0 : Nat) (x1 : Int32) (x2 : Int32) (S : kp_S) (post : Int32 → kp_S → Prop) : Prop :=
  wX1_isShip x1 S (fun y2 T1 =>
  ((y2 = 0 →
  wX1_troubleToSail_b16 a0 x1 x2   T1 post) ∧ (¬ y2 = 0 →
  ((x2 = 0 →
  wX1_troubleToSail_b18 a0 x1 x2   T1 post) ∧ (¬ x2 = 0 →
  ((x2 = 1 →
  wX1_troubleToSail_b18 a0 x1 x2   T1 post) ∧ (¬ x2 = 1 →
  wX1_troubleToSail_b16 a0 x1 x2   T1 post)))))))
set_option maxHeartbeats 4000000 in
set_option maxRecDepth 100000 in
theorem c_X1_troubleToSail (l : Launch) (D : va_G) (cy : Nat → ClassId) (ad : (Nat → Nat) × (Nat → Nat)) (S : kp_S) (a0 : Nat) (x1 : Int32) (x2 : Int32) (post : Int32 → kp_S → Prop) (hS : kp_ok S) (f_a0 : kp_is S a0 1) (hw : wX1_troubleToSail a0 x1 x2 S post) : kp_M l yX1_troubleToSail cX1_troubleToSail 5 (some .int) { frames := 2, cells := 0, slots := 0, locals := 41 } D cy ad S [.ref a0, .int x1, .int x2] 0 0 (fun A => kp_Qi D cy A S post) := by
  refine kp_start (own := RX1) (by decide) rfl (Nat.le_of_ble_eq_true rfl) hS ?_
  intro p e s m below meth c A ls X hr hlocks hname h hl
  have hle : kp_le S S := kp_le.rf
  have hl : lv_has ls 5 [(0, .ref a0), (1, .int x1), (2, .int x2)] := hl
  have j16 : ∀  (Sn : kp_S) (H : Heap) (locs : List Loc) (ls : Array Slot), lv_has ls 5 [] → kp_H D cy A Sn s.heap H locs → kp_le S Sn → kp_is Sn a0 1 → wX1_troubleToSail_b16 a0 x1 x2   Sn post → W p l e { frames := 2, cells := 0, slots := 0, locals := 41 } s m ([.ref a0, .int x1, .int x2] : List Value).toArray below meth c H locs 0 0 (MQ below (kp_Qi D cy A S post) ([.ref a0, .int x1, .int x2] : List Value).toArray s 0 0 A) (F0 m 16 ls []) := by
    intro  Sn H locs ls hl h hle f_a0 hw
    unfold wX1_troubleToSail_b16 at hw
    refine lv_iconst (v := 3) X.1 X.2.1 dX1_troubleToSail_16 (by decide) ?_
    exact kp_reti X hr hlocks h hle rfl hw dX1_troubleToSail_17
  have j56 : ∀  (Sn : kp_S) (H : Heap) (locs : List Loc) (ls : Array Slot), lv_has ls 5 [] → kp_H D cy A Sn s.heap H locs → kp_le S Sn → kp_is Sn a0 1 → wX1_troubleToSail_b56 a0 x1 x2   Sn post → W p l e { frames := 2, cells := 0, slots := 0, locals := 41 } s m ([.ref a0, .int x1, .int x2] : List Value).toArray below meth c H locs 0 0 (MQ below (kp_Qi D cy A S post) ([.ref a0, .int x1, .int x2] : List Value).toArray s 0 0 A) (F0 m 56 ls []) := by
    intro  Sn H locs ls hl h hle f_a0 hw
    unfold wX1_troubleToSail_b56 at hw
    refine lv_bipush (v := 9) X.1 X.2.1 dX1_troubleToSail_56 (by decide) ?_
    exact kp_reti X hr hlocks h hle rfl hw dX1_troubleToSail_58
  have j100 : ∀ (xt0 : Int32) (Sn : kp_S) (H : Heap) (locs : List Loc) (ls : Array Slot), lv_has ls 5 [] → kp_H D cy A Sn s.heap H locs → kp_le S Sn → kp_is Sn a0 1 → wX1_troubleToSail_b100 a0 x1 x2 xt0  Sn post → W p l e { frames := 2, cells := 0, slots := 0, locals := 41 } s m ([.ref a0, .int x1, .int x2] : List Value).toArray below meth c H locs 0 0 (MQ below (kp_Qi D cy A S post) ([.ref a0, .int x1, .int x2] : List Value).toArray s 0 0 A) (F0 m 100 ls [.int xt0]) := by
    intro xt0 Sn H locs ls hl h hle f_a0 hw
    unfold wX1_troubleToSail_b100 at hw
    exact kp_reti X hr hlocks h hle rfl hw dX1_troubleToSail_100
  have j18 : ∀  (Sn : kp_S) (H : Heap) (locs : List Loc) (ls : Array Slot), lv_has ls 5 [(0, .ref a0), (1, .int x1), (2, .int x2)] → kp_H D cy A Sn s.heap H locs → kp_le S Sn → kp_is Sn a0 1 → wX1_troubleToSail_b18 a0 x1 x2   Sn post → W p l e { frames := 2, cells := 0, slots := 0, locals := 41 } s m ([.ref a0, .int x1, .int x2] : List Value).toArray below meth c H locs 0 0 (MQ below (kp_Qi D cy A S post) ([.ref a0, .int x1, .int x2] : List Value).toArray s 0 0 A) (F0 m 18 ls []) := by
    intro  Sn H locs ls hl h hle f_a0 hw
    unfold wX1_troubleToSail_b18 at hw
    refine lv_aload_n X.1 X.2.1 dX1_troubleToSail_18 rfl (lv_at hl 0 rfl) ?_
    obtain ⟨b4001, e_b4001, hw⟩ := hw
    have f_b4001 := h.2.2.2.rf (c := 1) (k := 4) f_a0 (by decide) (by decide) e_b4001 (t := 14) rfl
    refine kp_get X h f_a0 ff_1_24.l (v := .ref b4001) (congrArg va_rf e_b4001) dX1_troubleToSail_19 ?_
    refine lv_iload_n X.1 X.2.1 dX1_troubleToSail_22 rfl (lv_at hl 1 rfl) ?_
    obtain ⟨hi, hw⟩ := hw
    refine kp_iald X h f_b4001 hi dX1_troubleToSail_23 ?_
    refine lv_iload_n X.1 X.2.1 dX1_troubleToSail_24 rfl (lv_at hl 2 rfl) ?_
    refine kp_calli X h (kp_runS (rm := { frames := 0, cells := 0, slots := 0, locals := 0 }) (mc := 0) (ms := 0) (rest := []) (Qc := fun A => kp_Qi D cy A Sn _) X h (c_X1_placeBeyond l D cy ad Sn (kp_A Sn b4001 x1.toNatClampNeg) x2 _ h.2.2.2  hw) cs_1_69 ⟨by decide, by decide, rfl, rfl, by decide, by decide⟩ rfl hl.1 rfl (Nat.le_of_ble_eq_true rfl) dX1_troubleToSail_25) (fun y4003 T4002 hw l_T4002 H locs h => ?_)
    have f_a0 := l_T4002.is f_a0
    have f_b4001 := l_T4002.is f_b4001
    have hle := hle.tr l_T4002
    refine lv_istore_n (lv' := [(3, .int y4003), (0, .ref a0), (1, .int x1), (2, .int x2)]) X.1 X.2.1 dX1_troubleToSail_28 rfl hl (by decide) rfl (fun ls hl => ?_)
    refine lv_iload_n X.1 X.2.1 dX1_troubleToSail_29 rfl (lv_at hl 0 rfl) ?_
    refine lv_aload_n X.1 X.2.1 dX1_troubleToSail_30 rfl (lv_at hl 1 rfl) ?_
    obtain ⟨b4004, e_b4004, hw⟩ := hw
    have f_b4004 := h.2.2.2.rf (c := 1) (k := 4) f_a0 (by decide) (by decide) e_b4004 (t := 14) rfl
    refine kp_get X h f_a0 ff_1_24.l (v := .ref b4004) (congrArg va_rf e_b4004) dX1_troubleToSail_31 ?_
    refine lv_iload_n X.1 X.2.1 dX1_troubleToSail_34 rfl (lv_at hl 2 rfl) ?_
    obtain ⟨hi, hw⟩ := hw
    refine kp_iald X h f_b4004 hi dX1_troubleToSail_35 ?_
    refine kp_mmin X hl.1 mm_1_72 (by decide) (Nat.le_of_ble_eq_true rfl) (by decide) (by decide) dX1_troubleToSail_36 ?_
    refine lv_topi (fun y4005 e_y4005 => ?_)
    have hw := hw y4005 e_y4005
    refine lv_istore (lv' := [(4, .int y4005), (3, .int y4003), (0, .ref a0), (1, .int x1), (2, .int x2)]) X.1 X.2.1 dX1_troubleToSail_39 hl (by decide) rfl (fun ls hl => ?_)
    refine lv_iload X.1 X.2.1 dX1_troubleToSail_41 (lv_at hl 0 rfl) ?_
    refine lv_if_lt (tgt := 56) X.1 X.2.1 dX1_troubleToSail_43 (by decide) (fun c4016 => ?_) (fun c4016 => ?_)
    · have hw := hw.1 c4016
      exact j56  T4002 H locs ls (lv_sub hl [] rfl) h hle f_a0 hw
    · have hw := hw.2 c4016
      refine lv_iload X.1 X.2.1 dX1_troubleToSail_46 (lv_at hl 0 rfl) ?_
      refine lv_aload_n X.1 X.2.1 dX1_troubleToSail_48 rfl (lv_at hl 2 rfl) ?_
      obtain ⟨b4006, e_b4006, hw⟩ := hw
      have f_b4006 := h.2.2.2.rf (c := 1) (k := 2) f_a0 (by decide) (by decide) e_b4006 (t := 14) rfl
      refine kp_get X h f_a0 ff_1_18.l (v := .ref b4006) (congrArg va_rf e_b4006) dX1_troubleToSail_49 ?_
      refine kp_alen X h f_b4006 (by decide) dX1_troubleToSail_52 ?_
      refine lv_icmp_lt (tgt := 59) X.1 X.2.1 dX1_troubleToSail_53 (by decide) (fun c4015 => ?_) (fun c4015 => ?_)
      · have hw := hw.1 c4015
        refine lv_aload_n X.1 X.2.1 dX1_troubleToSail_59 rfl (lv_at hl 2 rfl) ?_
        refine lv_iload X.1 X.2.1 dX1_troubleToSail_60 (lv_at hl 0 rfl) ?_
        refine lv_iconst (v := 2) X.1 X.2.1 dX1_troubleToSail_62 (by decide) ?_
        refine lv_idiv X.1 X.2.1 dX1_troubleToSail_63 (by decide) ?_
        refine kp_calli X h (kp_runV (rm := { frames := 1, cells := 0, slots := 0, locals := 20 }) (mc := 0) (ms := 0) (rest := []) (Qc := fun A => kp_Qi D cy A T4002 _) X h (c_X1_holdsOf l D cy ad T4002 a0 (y4005 / 2) _ h.2.2.2 f_a0 hw) f_a0 cv_1_50 ⟨by decide, by decide, rfl, rfl, by decide, by decide⟩ rfl hl.1 rfl (Nat.le_of_ble_eq_true rfl) dX1_troubleToSail_64) (fun y4008 T4007 hw l_T4007 H locs h => ?_)
        have f_a0 := l_T4007.is f_a0
        have f_b4001 := l_T4007.is f_b4001
        have f_b4004 := l_T4007.is f_b4004
        have f_b4006 := l_T4007.is f_b4006
        have hle := hle.tr l_T4007
        refine lv_if_ne (tgt := 72) X.1 X.2.1 dX1_troubleToSail_67 (by decide) (fun c4014 => ?_) (fun c4014 => ?_)
        · have hw := hw.1 c4014
          refine lv_aload_n X.1 X.2.1 dX1_troubleToSail_72 rfl (lv_at hl 2 rfl) ?_
          obtain ⟨b4009, e_b4009, hw⟩ := hw
          have f_b4009 := h.2.2.2.rf (c := 1) (k := 2) f_a0 (by decide) (by decide) e_b4009 (t := 14) rfl
          refine kp_get X h f_a0 ff_1_18.l (v := .ref b4009) (congrArg va_rf e_b4009) dX1_troubleToSail_73 ?_
          refine lv_iload X.1 X.2.1 dX1_troubleToSail_76 (lv_at hl 0 rfl) ?_
          obtain ⟨hi, hw⟩ := hw
          refine kp_iald X h f_b4009 hi dX1_troubleToSail_78 ?_
          refine lv_if_ne (tgt := 85) X.1 X.2.1 dX1_troubleToSail_79 (by decide) (fun c4013 => ?_) (fun c4013 => ?_)
          · have hw := hw.1 c4013
            refine lv_aload_n X.1 X.2.1 dX1_troubleToSail_85 rfl (lv_at hl 2 rfl) ?_
            refine lv_iload_n X.1 X.2.1 dX1_troubleToSail_86 rfl (lv_at hl 1 rfl) ?_
            refine lv_iload_n X.1 X.2.1 dX1_troubleToSail_87 rfl (lv_at hl 3 rfl) ?_
            refine kp_calli X h (kp_runV (rm := { frames := 0, cells := 0, slots := 0, locals := 0 }) (mc := 0) (ms := 0) (rest := []) (Qc := fun A => kp_Qi D cy A T4007 _) X h (c_X1_isTaken l D cy ad T4007 a0 y4003 x1 _ h.2.2.2 f_a0 hw) f_a0 cv_1_42 ⟨by decide, by decide, rfl, rfl, by decide, by decide⟩ rfl hl.1 rfl (Nat.le_of_ble_eq_true rfl) dX1_troubleToSail_88) (fun y4011 T4010 hw l_T4010 H locs h => ?_)
            have f_a0 := l_T4010.is f_a0
            have f_b4001 := l_T4010.is f_b4001
            have f_b4004 := l_T4010.is f_b4004
            have f_b4006 := l_T4010.is f_b4006
            have f_b4009 := l_T4010.is f_b4009
            have hle := hle.tr l_T4010
            refine lv_if_eq (tgt := 99) X.1 X.2.1 dX1_troubleToSail_91 (by decide) (fun c4012 => ?_) (fun c4012 => ?_)
            · have hw := hw.1 c4012
              refine lv_iconst (v := 0) X.1 X.2.1 dX1_troubleToSail_99 (by decide) ?_
              exact j100 0 T4010 H locs ls (lv_sub hl [] rfl) h hle f_a0 hw
            · have hw := hw.2 c4012
              refine lv_bipush (v := 8) X.1 X.2.1 dX1_troubleToSail_94 (by decide) ?_
              refine lv_goto (tgt := 100) X.1 X.2.1 dX1_troubleToSail_96 (by decide) ?_
              exact j100 8 T4010 H locs ls (lv_sub hl [] rfl) h hle f_a0 hw
          · have hw := hw.2 c4013
            refine lv_bipush (v := 7) X.1 X.2.1 dX1_troubleToSail_82 (by decide) ?_
            exact kp_reti X hr hlocks h hle rfl hw dX1_troubleToSail_84
        · have hw := hw.2 c4014
          refine lv_iconst (v := 4) X.1 X.2.1 dX1_troubleToSail_70 (by decide) ?_
          exact kp_reti X hr hlocks h hle rfl hw dX1_troubleToSail_71
      · have hw := hw.2 c4015
        exact j56  T4002 H locs ls (lv_sub hl [] rfl) h hle f_a0 hw
  unfold wX1_troubleToSail at hw
  have h : kp_H D cy A S s.heap s.heap [] := h
  revert h
  intro h
  refine lv_iload_n X.1 X.2.1 dX1_troubleToSail_0 rfl (lv_at hl 1 rfl) ?_
  refine kp_calli X h (kp_runS (rm := { frames := 0, cells := 0, slots := 0, locals := 0 }) (mc := 0) (ms := 0) (rest := []) (Qc := fun A => kp_Qi D cy A S _) X h (c_X1_isShip l D cy ad S x1 _ h.2.2.2  hw) cs_1_39 ⟨by decide, by decide, rfl, rfl, by decide, by decide⟩ rfl hl.1 rfl (Nat.le_of_ble_eq_true rfl) dX1_troubleToSail_1) (fun y2 T1 hw l_T1 H locs h => ?_)
  have f_a0 := l_T1.is f_a0
  have hle := hle.tr l_T1
  refine lv_if_eq (tgt := 16) X.1 X.2.1 dX1_troubleToSail_4 (by decide) (fun c5 => ?_) (fun c5 => ?_)
  · have hw := hw.1 c5
    exact j16  T1 _ _ ls (lv_sub hl [] rfl) h hle f_a0 hw
  · have hw := hw.2 c5
    refine lv_iload_n X.1 X.2.1 dX1_troubleToSail_7 rfl (lv_at hl 2 rfl) ?_
    refine lv_if_eq (tgt := 18) X.1 X.2.1 dX1_troubleToSail_8 (by decide) (fun c4 => ?_) (fun c4 => ?_)
    · have hw := hw.1 c4
      exact j18  T1 _ _ ls (lv_sub hl [0, 1, 2] rfl) h hle f_a0 hw
    · have hw := hw.2 c4
      refine lv_iload_n X.1 X.2.1 dX1_troubleToSail_11 rfl (lv_at hl 2 rfl) ?_
      refine lv_iconst (v := 1) X.1 X.2.1 dX1_troubleToSail_12 (by decide) ?_
      refine lv_icmp_eq (tgt := 18) X.1 X.2.1 dX1_troubleToSail_13 (by decide) (fun c3 => ?_) (fun c3 => ?_)
      · have hw := hw.1 c3
        exact j18  T1 _ _ ls (lv_sub hl [0, 1, 2] rfl) h hle f_a0 hw
      · have hw := hw.2 c3
        exact j16  T1 _ _ ls (lv_sub hl [] rfl) h hle f_a0 hw
theorem dX1_setGate_0 : decode cX1_setGate 0 = .ok (.iload_n 1, 1) := by decide +kernel
theorem dX1_setGate_1 : decode cX1_setGate 1 = .ok (.iload_n 2, 1) := by decide +kernel
theorem dX1_setGate_2 : decode cX1_setGate 2 = .ok (.invokestatic 60, 3) := by decide +kernel
theorem dX1_setGate_5 : decode cX1_setGate 5 = .ok (.ifCond .eq 14, 3) := by decide +kernel
theorem dX1_setGate_8 : decode cX1_setGate 8 = .ok (.aload_n 0, 1) := by decide +kernel
theorem dX1_setGate_9 : decode cX1_setGate 9 = .ok (.getfield 18, 3) := by decide +kernel
theorem dX1_setGate_12 : decode cX1_setGate 12 = .ok (.iconst 2, 1) := by decide +kernel
theorem dX1_setGate_13 : decode cX1_setGate 13 = .ok (.iload_n 1, 1) := by decide +kernel
theorem dX1_setGate_14 : decode cX1_setGate 14 = .ok (.imul, 1) := by decide +kernel
theorem dX1_setGate_15 : decode cX1_setGate 15 = .ok (.iload_n 2, 1) := by decide +kernel
theorem dX1_setGate_16 : decode cX1_setGate 16 = .ok (.iadd, 1) := by decide +kernel
theorem dX1_setGate_17 : decode cX1_setGate 17 = .ok (.iload_n 3, 1) := by decide +kernel
theorem dX1_setGate_18 : decode cX1_setGate 18 = .ok (.iastore, 1) := by decide +kernel
theorem dX1_setGate_19 : decode cX1_setGate 19 = .ok (.return_, 1) := by decide +kernel
def wX1_setGate_b19 (a0 : Nat) (x1 : Int32) (x2 : Int32) (x3 : Int32)  (Sn : kp_S) (post : kp_S → Prop) : Prop :=
  post Sn
def wX1_setGate (a0 : Nat) (x1 : Int32) (x2 : Int32) (x3 : Int32) (S : kp_S) (post : kp_S → Prop) : Prop :=
  wX1_isGate x1 x2 S (fun y2 T1 =>
  ((y2 = 0 →
  wX1_setGate_b19 a0 x1 x2 x3   T1 post) ∧ (¬ y2 = 0 →
  ∃ b3 : Nat, kp_R T1 202 a0 = some b3 ∧
  vp_in ((2 * x1) + x2) (kp_N T1 b3) ∧ ∀ T4 : kp_S, T4 = kp_sA T1 b3 (upd (kp_A T1 b3) (((2 * x1) + x2).toNatClampNeg) x3) →
  wX1_setGate_b19 a0 x1 x2 x3   T4 post)))
set_option maxHeartbeats 4000000 in
set_option maxRecDepth 100000 in
theorem c_X1_setGate (l : Launch) (D : va_G) (cy : Nat → ClassId) (ad : (Nat → Nat) × (Nat → Nat)) (S : kp_S) (a0 : Nat) (x1 : Int32) (x2 : Int32) (x3 : Int32) (post : kp_S → Prop) (hS : kp_ok S) (f_a0 : kp_is S a0 1) (hw : wX1_setGate a0 x1 x2 x3 S post) : kp_M l yX1_setGate cX1_setGate 4 none { frames := 1, cells := 0, slots := 0, locals := 21 } D cy ad S [.ref a0, .int x1, .int x2, .int x3] 0 0 (fun A => kp_Qv D cy A S post) := by
  refine kp_start (own := RX1) (by decide) rfl (Nat.le_of_ble_eq_true rfl) hS ?_
  intro p e s m below meth c A ls X hr hlocks hname h hl
  have hle : kp_le S S := kp_le.rf
  have hl : lv_has ls 4 [(0, .ref a0), (1, .int x1), (2, .int x2), (3, .int x3)] := hl
  have j19 : ∀  (Sn : kp_S) (H : Heap) (locs : List Loc) (ls : Array Slot), lv_has ls 4 [] → kp_H D cy A Sn s.heap H locs → kp_le S Sn → kp_is Sn a0 1 → wX1_setGate_b19 a0 x1 x2 x3   Sn post → W p l e { frames := 1, cells := 0, slots := 0, locals := 21 } s m ([.ref a0, .int x1, .int x2, .int x3] : List Value).toArray below meth c H locs 0 0 (MQ below (kp_Qv D cy A S post) ([.ref a0, .int x1, .int x2, .int x3] : List Value).toArray s 0 0 A) (F0 m 19 ls []) := by
    intro  Sn H locs ls hl h hle f_a0 hw
    unfold wX1_setGate_b19 at hw
    exact kp_retv X hr hlocks h hle hw dX1_setGate_19
  unfold wX1_setGate at hw
  have h : kp_H D cy A S s.heap s.heap [] := h
  revert h
  intro h
  refine lv_iload_n X.1 X.2.1 dX1_setGate_0 rfl (lv_at hl 1 rfl) ?_
  refine lv_iload_n X.1 X.2.1 dX1_setGate_1 rfl (lv_at hl 2 rfl) ?_
  refine kp_calli X h (kp_runS (rm := { frames := 0, cells := 0, slots := 0, locals := 0 }) (mc := 0) (ms := 0) (rest := []) (Qc := fun A => kp_Qi D cy A S _) X h (c_X1_isGate l D cy ad S x1 x2 _ h.2.2.2  hw) cs_1_60 ⟨by decide, by decide, rfl, rfl, by decide, by decide⟩ rfl hl.1 rfl (Nat.le_of_ble_eq_true rfl) dX1_setGate_2) (fun y2 T1 hw l_T1 H locs h => ?_)
  have f_a0 := l_T1.is f_a0
  have hle := hle.tr l_T1
  refine lv_if_eq (tgt := 19) X.1 X.2.1 dX1_setGate_5 (by decide) (fun c5 => ?_) (fun c5 => ?_)
  · have hw := hw.1 c5
    exact j19  T1 _ _ ls (lv_sub hl [] rfl) h hle f_a0 hw
  · have hw := hw.2 c5
    refine lv_aload_n X.1 X.2.1 dX1_setGate_8 rfl (lv_at hl 0 rfl) ?_
    obtain ⟨b3, e_b3, hw⟩ := hw
    have f_b3 := h.2.2.2.rf (c := 1) (k := 2) f_a0 (by decide) (by decide) e_b3 (t := 14) rfl
    refine kp_get X h f_a0 ff_1_18.l (v := .ref b3) (congrArg va_rf e_b3) dX1_setGate_9 ?_
    refine lv_iconst (v := 2) X.1 X.2.1 dX1_setGate_12 (by decide) ?_
    refine lv_iload_n X.1 X.2.1 dX1_setGate_13 rfl (lv_at hl 1 rfl) ?_
    refine lv_imul X.1 X.2.1 dX1_setGate_14 ?_
    refine lv_iload_n X.1 X.2.1 dX1_setGate_15 rfl (lv_at hl 2 rfl) ?_
    refine lv_iadd X.1 X.2.1 dX1_setGate_16 ?_
    refine lv_iload_n X.1 X.2.1 dX1_setGate_17 rfl (lv_at hl 3 rfl) ?_
    obtain ⟨hi, hw⟩ := hw
    refine kp_iast X h f_b3 hi dX1_setGate_18 (fun T4 e_T4 l_T4 H locs h => ?_)
    have hw := hw T4 e_T4
    have f_a0 := l_T4.is f_a0
    have f_b3 := l_T4.is f_b3
    have hle := hle.tr l_T4
    have e_b3 : kp_R T4 202 a0 = some b3 := by rw [e_T4]; exact e_b3
    exact j19  T4 _ _ ls (lv_sub hl [] rfl) h hle f_a0 hw
theorem dX1_moveShip_0 : decode cX1_moveShip 0 = .ok (.iload_n 1, 1) := by decide +kernel
theorem dX1_moveShip_1 : decode cX1_moveShip 1 = .ok (.invokestatic 39, 3) := by decide +kernel
theorem dX1_moveShip_4 : decode cX1_moveShip 4 = .ok (.ifCond .ne 5, 3) := by decide +kernel
theorem dX1_moveShip_7 : decode cX1_moveShip 7 = .ok (.iconst (-1), 1) := by decide +kernel
theorem dX1_moveShip_8 : decode cX1_moveShip 8 = .ok (.ireturn, 1) := by decide +kernel
theorem dX1_moveShip_9 : decode cX1_moveShip 9 = .ok (.aload_n 0, 1) := by decide +kernel
theorem dX1_moveShip_10 : decode cX1_moveShip 10 = .ok (.getfield 24, 3) := by decide +kernel
theorem dX1_moveShip_13 : decode cX1_moveShip 13 = .ok (.iload_n 1, 1) := by decide +kernel
theorem dX1_moveShip_14 : decode cX1_moveShip 14 = .ok (.aload_n 0, 1) := by decide +kernel
theorem dX1_moveShip_15 : decode cX1_moveShip 15 = .ok (.getfield 24, 3) := by decide +kernel
theorem dX1_moveShip_18 : decode cX1_moveShip 18 = .ok (.iload_n 1, 1) := by decide +kernel
theorem dX1_moveShip_19 : decode cX1_moveShip 19 = .ok (.iaload, 1) := by decide +kernel
theorem dX1_moveShip_20 : decode cX1_moveShip 20 = .ok (.iload_n 2, 1) := by decide +kernel
theorem dX1_moveShip_21 : decode cX1_moveShip 21 = .ok (.invokestatic 69, 3) := by decide +kernel
theorem dX1_moveShip_24 : decode cX1_moveShip 24 = .ok (.iastore, 1) := by decide +kernel
theorem dX1_moveShip_25 : decode cX1_moveShip 25 = .ok (.aload_n 0, 1) := by decide +kernel
theorem dX1_moveShip_26 : decode cX1_moveShip 26 = .ok (.getfield 24, 3) := by decide +kernel
theorem dX1_moveShip_29 : decode cX1_moveShip 29 = .ok (.iload_n 1, 1) := by decide +kernel
theorem dX1_moveShip_30 : decode cX1_moveShip 30 = .ok (.iaload, 1) := by decide +kernel
theorem dX1_moveShip_31 : decode cX1_moveShip 31 = .ok (.ireturn, 1) := by decide +kernel
def wX1_moveShip (a0 : Nat) (x1 : Int32) (x2 : Int32) (S : kp_S) (post : Int32 → kp_S → Prop) : Prop :=
  wX1_isShip x1 S (fun y2 T1 =>
  ((¬ y2 = 0 →
  ∃ b3 : Nat, kp_R T1 204 a0 = some b3 ∧
  vp_in x1 (kp_N T1 b3) ∧
  wX1_placeBeyond (kp_A T1 b3 x1.toNatClampNeg) x2 T1 (fun y5 T4 =>
  vp_in x1 (kp_N T4 b3) ∧ ∀ T6 : kp_S, T6 = kp_sA T4 b3 (upd (kp_A T4 b3) (x1.toNatClampNeg) y5) →
  ∃ b7 : Nat, kp_R T6 204 a0 = some b7 ∧
  vp_in x1 (kp_N T6 b7) ∧
  post (kp_A T6 b7 x1.toNatClampNeg) T6)) ∧ (y2 = 0 →
  post (-1) T1)))
set_option maxHeartbeats 4000000 in
set_option maxRecDepth 100000 in
theorem c_X1_moveShip (l : Launch) (D : va_G) (cy : Nat → ClassId) (ad : (Nat → Nat) × (Nat → Nat)) (S : kp_S) (a0 : Nat) (x1 : Int32) (x2 : Int32) (post : Int32 → kp_S → Prop) (hS : kp_ok S) (f_a0 : kp_is S a0 1) (hw : wX1_moveShip a0 x1 x2 S post) : kp_M l yX1_moveShip cX1_moveShip 3 (some .int) { frames := 1, cells := 0, slots := 0, locals := 21 } D cy ad S [.ref a0, .int x1, .int x2] 0 0 (fun A => kp_Qi D cy A S post) := by
  refine kp_start (own := RX1) (by decide) rfl (Nat.le_of_ble_eq_true rfl) hS ?_
  intro p e s m below meth c A ls X hr hlocks hname h hl
  have hle : kp_le S S := kp_le.rf
  have hl : lv_has ls 3 [(0, .ref a0), (1, .int x1), (2, .int x2)] := hl
  unfold wX1_moveShip at hw
  have h : kp_H D cy A S s.heap s.heap [] := h
  revert h
  intro h
  refine lv_iload_n X.1 X.2.1 dX1_moveShip_0 rfl (lv_at hl 1 rfl) ?_
  refine kp_calli X h (kp_runS (rm := { frames := 0, cells := 0, slots := 0, locals := 0 }) (mc := 0) (ms := 0) (rest := []) (Qc := fun A => kp_Qi D cy A S _) X h (c_X1_isShip l D cy ad S x1 _ h.2.2.2  hw) cs_1_39 ⟨by decide, by decide, rfl, rfl, by decide, by decide⟩ rfl hl.1 rfl (Nat.le_of_ble_eq_true rfl) dX1_moveShip_1) (fun y2 T1 hw l_T1 H locs h => ?_)
  have f_a0 := l_T1.is f_a0
  have hle := hle.tr l_T1
  refine lv_if_ne (tgt := 9) X.1 X.2.1 dX1_moveShip_4 (by decide) (fun c8 => ?_) (fun c8 => ?_)
  · have hw := hw.1 c8
    refine lv_aload_n X.1 X.2.1 dX1_moveShip_9 rfl (lv_at hl 0 rfl) ?_
    obtain ⟨b3, e_b3, hw⟩ := hw
    have f_b3 := h.2.2.2.rf (c := 1) (k := 4) f_a0 (by decide) (by decide) e_b3 (t := 14) rfl
    refine kp_get X h f_a0 ff_1_24.l (v := .ref b3) (congrArg va_rf e_b3) dX1_moveShip_10 ?_
    refine lv_iload_n X.1 X.2.1 dX1_moveShip_13 rfl (lv_at hl 1 rfl) ?_
    refine lv_aload_n X.1 X.2.1 dX1_moveShip_14 rfl (lv_at hl 0 rfl) ?_
    refine kp_get X h f_a0 ff_1_24.l (v := .ref b3) (congrArg va_rf e_b3) dX1_moveShip_15 ?_
    refine lv_iload_n X.1 X.2.1 dX1_moveShip_18 rfl (lv_at hl 1 rfl) ?_
    obtain ⟨hi, hw⟩ := hw
    refine kp_iald X h f_b3 hi dX1_moveShip_19 ?_
    refine lv_iload_n X.1 X.2.1 dX1_moveShip_20 rfl (lv_at hl 2 rfl) ?_
    refine kp_calli X h (kp_runS (rm := { frames := 0, cells := 0, slots := 0, locals := 0 }) (mc := 0) (ms := 0) (rest := [.int x1, .ref b3]) (Qc := fun A => kp_Qi D cy A T1 _) X h (c_X1_placeBeyond l D cy ad T1 (kp_A T1 b3 x1.toNatClampNeg) x2 _ h.2.2.2  hw) cs_1_69 ⟨by decide, by decide, rfl, rfl, by decide, by decide⟩ rfl hl.1 rfl (Nat.le_of_ble_eq_true rfl) dX1_moveShip_21) (fun y5 T4 hw l_T4 H locs h => ?_)
    have f_a0 := l_T4.is f_a0
    have f_b3 := l_T4.is f_b3
    have hle := hle.tr l_T4
    obtain ⟨hi, hw⟩ := hw
    refine kp_iast X h f_b3 hi dX1_moveShip_24 (fun T6 e_T6 l_T6 H locs h => ?_)
    have hw := hw T6 e_T6
    have f_a0 := l_T6.is f_a0
    have f_b3 := l_T6.is f_b3
    have hle := hle.tr l_T6
    refine lv_aload_n X.1 X.2.1 dX1_moveShip_25 rfl (lv_at hl 0 rfl) ?_
    obtain ⟨b7, e_b7, hw⟩ := hw
    have f_b7 := h.2.2.2.rf (c := 1) (k := 4) f_a0 (by decide) (by decide) e_b7 (t := 14) rfl
    refine kp_get X h f_a0 ff_1_24.l (v := .ref b7) (congrArg va_rf e_b7) dX1_moveShip_26 ?_
    refine lv_iload_n X.1 X.2.1 dX1_moveShip_29 rfl (lv_at hl 1 rfl) ?_
    obtain ⟨hi, hw⟩ := hw
    refine kp_iald X h f_b7 hi dX1_moveShip_30 ?_
    exact kp_reti X hr hlocks h hle rfl hw dX1_moveShip_31
  · have hw := hw.2 c8
    refine lv_iconst (v := (-1)) X.1 X.2.1 dX1_moveShip_7 (by decide) ?_
    exact kp_reti X hr hlocks h hle rfl hw dX1_moveShip_8
theorem dX1_moveUnit_0 : decode cX1_moveUnit 0 = .ok (.iload_n 3, 1) := by decide +kernel
theorem dX1_moveUnit_1 : decode cX1_moveUnit 1 = .ok (.ifCond .le 7, 3) := by decide +kernel
theorem dX1_moveUnit_4 : decode cX1_moveUnit 4 = .ok (.iconst 1, 1) := by decide +kernel
theorem dX1_moveUnit_5 : decode cX1_moveUnit 5 = .ok (.goto 4, 3) := by decide +kernel
theorem dX1_moveUnit_8 : decode cX1_moveUnit 8 = .ok (.iconst (-1), 1) := by decide +kernel
theorem dX1_moveUnit_9 : decode cX1_moveUnit 9 = .ok (.istore 4, 2) := by decide +kernel
theorem dX1_moveUnit_11 : decode cX1_moveUnit 11 = .ok (.iload_n 1, 1) := by decide +kernel
theorem dX1_moveUnit_12 : decode cX1_moveUnit 12 = .ok (.invokestatic 32, 3) := by decide +kernel
theorem dX1_moveUnit_15 : decode cX1_moveUnit 15 = .ok (.ifCond .eq 36, 3) := by decide +kernel
theorem dX1_moveUnit_18 : decode cX1_moveUnit 18 = .ok (.iload_n 1, 1) := by decide +kernel
theorem dX1_moveUnit_19 : decode cX1_moveUnit 19 = .ok (.iload_n 2, 1) := by decide +kernel
theorem dX1_moveUnit_20 : decode cX1_moveUnit 20 = .ok (.iadd, 1) := by decide +kernel
theorem dX1_moveUnit_21 : decode cX1_moveUnit 21 = .ok (.invokestatic 27, 3) := by decide +kernel
theorem dX1_moveUnit_24 : decode cX1_moveUnit 24 = .ok (.ifCond .eq 27, 3) := by decide +kernel
theorem dX1_moveUnit_27 : decode cX1_moveUnit 27 = .ok (.aload_n 0, 1) := by decide +kernel
theorem dX1_moveUnit_28 : decode cX1_moveUnit 28 = .ok (.getfield 11, 3) := by decide +kernel
theorem dX1_moveUnit_31 : decode cX1_moveUnit 31 = .ok (.iload_n 1, 1) := by decide +kernel
theorem dX1_moveUnit_32 : decode cX1_moveUnit 32 = .ok (.dup2, 1) := by decide +kernel
theorem dX1_moveUnit_33 : decode cX1_moveUnit 33 = .ok (.iaload, 1) := by decide +kernel
theorem dX1_moveUnit_34 : decode cX1_moveUnit 34 = .ok (.iload 4, 2) := by decide +kernel
theorem dX1_moveUnit_36 : decode cX1_moveUnit 36 = .ok (.isub, 1) := by decide +kernel
theorem dX1_moveUnit_37 : decode cX1_moveUnit 37 = .ok (.iastore, 1) := by decide +kernel
theorem dX1_moveUnit_38 : decode cX1_moveUnit 38 = .ok (.aload_n 0, 1) := by decide +kernel
theorem dX1_moveUnit_39 : decode cX1_moveUnit 39 = .ok (.getfield 15, 3) := by decide +kernel
theorem dX1_moveUnit_42 : decode cX1_moveUnit 42 = .ok (.iload_n 1, 1) := by decide +kernel
theorem dX1_moveUnit_43 : decode cX1_moveUnit 43 = .ok (.iload_n 2, 1) := by decide +kernel
theorem dX1_moveUnit_44 : decode cX1_moveUnit 44 = .ok (.iadd, 1) := by decide +kernel
theorem dX1_moveUnit_45 : decode cX1_moveUnit 45 = .ok (.dup2, 1) := by decide +kernel
theorem dX1_moveUnit_46 : decode cX1_moveUnit 46 = .ok (.iaload, 1) := by decide +kernel
theorem dX1_moveUnit_47 : decode cX1_moveUnit 47 = .ok (.iload 4, 2) := by decide +kernel
theorem dX1_moveUnit_49 : decode cX1_moveUnit 49 = .ok (.iadd, 1) := by decide +kernel
theorem dX1_moveUnit_50 : decode cX1_moveUnit 50 = .ok (.iastore, 1) := by decide +kernel
theorem dX1_moveUnit_51 : decode cX1_moveUnit 51 = .ok (.return_, 1) := by decide +kernel
def wX1_moveUnit_b51 (a0 : Nat) (x1 : Int32) (x2 : Int32) (x3 : Int32)  (Sn : kp_S) (post : kp_S → Prop) : Prop :=
  post Sn
def wX1_moveUnit_b9 (a0 : Nat) (x1 : Int32) (x2 : Int32) (x3 : Int32) (xt0 : Int32)  (Sn : kp_S) (post : kp_S → Prop) : Prop :=
  wX1_isLock x1 Sn (fun y2002 T2001 =>
  ((y2002 = 0 →
  wX1_moveUnit_b51 a0 x1 x2 x3   T2001 post) ∧ (¬ y2002 = 0 →
  wX1_isReach (x1 + x2) T2001 (fun y2004 T2003 =>
  ((y2004 = 0 →
  wX1_moveUnit_b51 a0 x1 x2 x3   T2003 post) ∧ (¬ y2004 = 0 →
  ∃ b2005 : Nat, kp_R T2003 200 a0 = some b2005 ∧
  vp_in x1 (kp_N T2003 b2005) ∧
  vp_in x1 (kp_N T2003 b2005) ∧ ∀ T2006 : kp_S, T2006 = kp_sA T2003 b2005 (upd (kp_A T2003 b2005) (x1.toNatClampNeg) ((kp_A T2003 b2005 x1.toNatClampNeg) - xt0)) →
  ∃ b2007 : Nat, kp_R T2006 201 a0 = some b2007 ∧
  vp_in (x1 + x2) (kp_N T2006 b2007) ∧
  vp_in (x1 + x2) (kp_N T2006 b2007) ∧ ∀ T2008 : kp_S, T2008 = kp_sA T2006 b2007 (upd (kp_A T2006 b2007) ((x1 + x2).toNatClampNeg) ((kp_A T2006 b2007 (x1 + x2).toNatClampNeg) + xt0)) →
  wX1_moveUnit_b51 a0 x1 x2 x3   T2008 post))))))
def wX1_moveUnit (a0 : Nat) (x1 : Int32) (x2 : Int32) (x3 : Int32) (S : kp_S) (post : kp_S → Prop) : Prop :=
  ((x3 ≤ 0 →
  wX1_moveUnit_b9 a0 x1 x2 x3 (-1)  S post) ∧ (¬ x3 ≤ 0 →
  wX1_moveUnit_b9 a0 x1 x2 x3 1  S post))
set_option maxHeartbeats 4000000 in
set_option maxRecDepth 100000 in
theorem c_X1_moveUnit (l : Launch) (D : va_G) (cy : Nat → ClassId) (ad : (Nat → Nat) × (Nat → Nat)) (S : kp_S) (a0 : Nat) (x1 : Int32) (x2 : Int32) (x3 : Int32) (post : kp_S → Prop) (hS : kp_ok S) (f_a0 : kp_is S a0 1) (hw : wX1_moveUnit a0 x1 x2 x3 S post) : kp_M l yX1_moveUnit cX1_moveUnit 5 none { frames := 1, cells := 0, slots := 0, locals := 20 } D cy ad S [.ref a0, .int x1, .int x2, .int x3] 0 0 (fun A => kp_Qv D cy A S post) := by
  refine kp_start (own := RX1) (by decide) rfl (Nat.le_of_ble_eq_true rfl) hS ?_
  intro p e s m below meth c A ls X hr hlocks hname h hl
  have hle : kp_le S S := kp_le.rf
  have hl : lv_has ls 5 [(0, .ref a0), (1, .int x1), (2, .int x2), (3, .int x3)] := hl
  have j51 : ∀  (Sn : kp_S) (H : Heap) (locs : List Loc) (ls : Array Slot), lv_has ls 5 [] → kp_H D cy A Sn s.heap H locs → kp_le S Sn → kp_is Sn a0 1 → wX1_moveUnit_b51 a0 x1 x2 x3   Sn post → W p l e { frames := 1, cells := 0, slots := 0, locals := 20 } s m ([.ref a0, .int x1, .int x2, .int x3] : List Value).toArray below meth c H locs 0 0 (MQ below (kp_Qv D cy A S post) ([.ref a0, .int x1, .int x2, .int x3] : List Value).toArray s 0 0 A) (F0 m 51 ls []) := by
    intro  Sn H locs ls hl h hle f_a0 hw
    unfold wX1_moveUnit_b51 at hw
    exact kp_retv X hr hlocks h hle hw dX1_moveUnit_51
  have j9 : ∀ (xt0 : Int32) (Sn : kp_S) (H : Heap) (locs : List Loc) (ls : Array Slot), lv_has ls 5 [(0, .ref a0), (1, .int x1), (2, .int x2)] → kp_H D cy A Sn s.heap H locs → kp_le S Sn → kp_is Sn a0 1 → wX1_moveUnit_b9 a0 x1 x2 x3 xt0  Sn post → W p l e { frames := 1, cells := 0, slots := 0, locals := 20 } s m ([.ref a0, .int x1, .int x2, .int x3] : List Value).toArray below meth c H locs 0 0 (MQ below (kp_Qv D cy A S post) ([.ref a0, .int x1, .int x2, .int x3] : List Value).toArray s 0 0 A) (F0 m 9 ls [.int xt0]) := by
    intro xt0 Sn H locs ls hl h hle f_a0 hw
    unfold wX1_moveUnit_b9 at hw
    refine lv_istore (lv' := [(4, .int xt0), (0, .ref a0), (1, .int x1), (2, .int x2)]) X.1 X.2.1 dX1_moveUnit_9 hl (by decide) rfl (fun ls hl => ?_)
    refine lv_iload_n X.1 X.2.1 dX1_moveUnit_11 rfl (lv_at hl 2 rfl) ?_
    refine kp_calli X h (kp_runS (rm := { frames := 0, cells := 0, slots := 0, locals := 0 }) (mc := 0) (ms := 0) (rest := []) (Qc := fun A => kp_Qi D cy A Sn _) X h (c_X1_isLock l D cy ad Sn x1 _ h.2.2.2  hw) cs_1_32 ⟨by decide, by decide, rfl, rfl, by decide, by decide⟩ rfl hl.1 rfl (Nat.le_of_ble_eq_true rfl) dX1_moveUnit_12) (fun y2002 T2001 hw l_T2001 H locs h => ?_)
    have f_a0 := l_T2001.is f_a0
    have hle := hle.tr l_T2001
    refine lv_if_eq (tgt := 51) X.1 X.2.1 dX1_moveUnit_15 (by decide) (fun c2010 => ?_) (fun c2010 => ?_)
    · have hw := hw.1 c2010
      exact j51  T2001 H locs ls (lv_sub hl [] rfl) h hle f_a0 hw
    · have hw := hw.2 c2010
      refine lv_iload_n X.1 X.2.1 dX1_moveUnit_18 rfl (lv_at hl 2 rfl) ?_
      refine lv_iload_n X.1 X.2.1 dX1_moveUnit_19 rfl (lv_at hl 3 rfl) ?_
      refine lv_iadd X.1 X.2.1 dX1_moveUnit_20 ?_
      refine kp_calli X h (kp_runS (rm := { frames := 0, cells := 0, slots := 0, locals := 0 }) (mc := 0) (ms := 0) (rest := []) (Qc := fun A => kp_Qi D cy A T2001 _) X h (c_X1_isReach l D cy ad T2001 (x1 + x2) _ h.2.2.2  hw) cs_1_27 ⟨by decide, by decide, rfl, rfl, by decide, by decide⟩ rfl hl.1 rfl (Nat.le_of_ble_eq_true rfl) dX1_moveUnit_21) (fun y2004 T2003 hw l_T2003 H locs h => ?_)
      have f_a0 := l_T2003.is f_a0
      have hle := hle.tr l_T2003
      refine lv_if_eq (tgt := 51) X.1 X.2.1 dX1_moveUnit_24 (by decide) (fun c2009 => ?_) (fun c2009 => ?_)
      · have hw := hw.1 c2009
        exact j51  T2003 H locs ls (lv_sub hl [] rfl) h hle f_a0 hw
      · have hw := hw.2 c2009
        refine lv_aload_n X.1 X.2.1 dX1_moveUnit_27 rfl (lv_at hl 1 rfl) ?_
        obtain ⟨b2005, e_b2005, hw⟩ := hw
        have f_b2005 := h.2.2.2.rf (c := 1) (k := 0) f_a0 (by decide) (by decide) e_b2005 (t := 14) rfl
        refine kp_get X h f_a0 ff_1_11.l (v := .ref b2005) (congrArg va_rf e_b2005) dX1_moveUnit_28 ?_
        refine lv_iload_n X.1 X.2.1 dX1_moveUnit_31 rfl (lv_at hl 2 rfl) ?_
        refine lv_dup2_11 X.1 X.2.1 dX1_moveUnit_32 rfl rfl ?_
        obtain ⟨hi, hw⟩ := hw
        refine kp_iald X h f_b2005 hi dX1_moveUnit_33 ?_
        refine lv_iload X.1 X.2.1 dX1_moveUnit_34 (lv_at hl 0 rfl) ?_
        refine lv_isub X.1 X.2.1 dX1_moveUnit_36 ?_
        obtain ⟨hi, hw⟩ := hw
        refine kp_iast X h f_b2005 hi dX1_moveUnit_37 (fun T2006 e_T2006 l_T2006 H locs h => ?_)
        have hw := hw T2006 e_T2006
        have f_a0 := l_T2006.is f_a0
        have f_b2005 := l_T2006.is f_b2005
        have hle := hle.tr l_T2006
        have e_b2005 : kp_R T2006 200 a0 = some b2005 := by rw [e_T2006]; exact e_b2005
        refine lv_aload_n X.1 X.2.1 dX1_moveUnit_38 rfl (lv_at hl 1 rfl) ?_
        obtain ⟨b2007, e_b2007, hw⟩ := hw
        have f_b2007 := h.2.2.2.rf (c := 1) (k := 1) f_a0 (by decide) (by decide) e_b2007 (t := 14) rfl
        refine kp_get X h f_a0 ff_1_15.l (v := .ref b2007) (congrArg va_rf e_b2007) dX1_moveUnit_39 ?_
        refine lv_iload_n X.1 X.2.1 dX1_moveUnit_42 rfl (lv_at hl 2 rfl) ?_
        refine lv_iload_n X.1 X.2.1 dX1_moveUnit_43 rfl (lv_at hl 3 rfl) ?_
        refine lv_iadd X.1 X.2.1 dX1_moveUnit_44 ?_
        refine lv_dup2_11 X.1 X.2.1 dX1_moveUnit_45 rfl rfl ?_
        obtain ⟨hi, hw⟩ := hw
        refine kp_iald X h f_b2007 hi dX1_moveUnit_46 ?_
        refine lv_iload X.1 X.2.1 dX1_moveUnit_47 (lv_at hl 0 rfl) ?_
        refine lv_iadd X.1 X.2.1 dX1_moveUnit_49 ?_
        obtain ⟨hi, hw⟩ := hw
        refine kp_iast X h f_b2007 hi dX1_moveUnit_50 (fun T2008 e_T2008 l_T2008 H locs h => ?_)
        have hw := hw T2008 e_T2008
        have f_a0 := l_T2008.is f_a0
        have f_b2005 := l_T2008.is f_b2005
        have f_b2007 := l_T2008.is f_b2007
        have hle := hle.tr l_T2008
        have e_b2005 : kp_R T2008 200 a0 = some b2005 := by rw [e_T2008]; exact e_b2005
        have e_b2007 : kp_R T2008 201 a0 = some b2007 := by rw [e_T2008]; exact e_b2007
        exact j51  T2008 H locs ls (lv_sub hl [] rfl) h hle f_a0 hw
  unfold wX1_moveUnit at hw
  have h : kp_H D cy A S s.heap s.heap [] := h
  revert h
  intro h
  refine lv_iload_n X.1 X.2.1 dX1_moveUnit_0 rfl (lv_at hl 3 rfl) ?_
  refine lv_if_le (tgt := 8) X.1 X.2.1 dX1_moveUnit_1 (by decide) (fun c1 => ?_) (fun c1 => ?_)
  · have hw := hw.1 c1
    refine lv_iconst (v := (-1)) X.1 X.2.1 dX1_moveUnit_8 (by decide) ?_
    exact j9 (-1) S _ _ ls (lv_sub hl [0, 1, 2] rfl) h hle f_a0 hw
  · have hw := hw.2 c1
    refine lv_iconst (v := 1) X.1 X.2.1 dX1_moveUnit_4 (by decide) ?_
    refine lv_goto (tgt := 9) X.1 X.2.1 dX1_moveUnit_5 (by decide) ?_
    exact j9 1 S _ _ ls (lv_sub hl [0, 1, 2] rfl) h hle f_a0 hw
