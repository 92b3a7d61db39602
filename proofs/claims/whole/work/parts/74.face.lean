theorem fp_11_58 : kp_FP RX11 58 11 6 := ⟨RX11, TX11, 9, cl_11, by decide, kp_mem 625 (by decide +kernel) (by decide +kernel), rfl⟩
theorem cv_11_61 : kp_CV RX11 61 yX11_append cX11_append 5 none 1 11 := ⟨⟨kp_mem 654 (by decide +kernel) (by decide +kernel), kp_mem 204 (by decide +kernel) (by decide +kernel), by decide +kernel⟩, kp_mem 651 (by decide +kernel) (by decide +kernel), kp_mem 653 (by decide +kernel) (by decide +kernel), kp_mem 0 (by decide +kernel) (by decide +kernel), by decide, TX11, 9, rfl⟩
theorem fp_11_72 : kp_FP RX11 72 11 7 := ⟨RX11, TX11, 9, cl_11, by decide, kp_mem 626 (by decide +kernel) (by decide +kernel), rfl⟩
theorem cv_11_64 : kp_CV RX11 64 yX8_readText cX8_readText 4 none 2 8 := ⟨⟨kp_mem 666 (by decide +kernel) (by decide +kernel), kp_mem 206 (by decide +kernel) (by decide +kernel), by decide +kernel⟩, kp_mem 663 (by decide +kernel) (by decide +kernel), kp_mem 664 (by decide +kernel) (by decide +kernel), kp_mem 665 (by decide +kernel) (by decide +kernel), by decide, TX8, 5, rfl⟩
theorem cv_11_68 : kp_CV RX11 68 yX8_faultKind cX8_faultKind 1 (some .int) 0 8 := ⟨⟨kp_mem 1142 (by decide +kernel) (by decide +kernel), kp_mem 206 (by decide +kernel) (by decide +kernel), by decide +kernel⟩, kp_mem 1139 (by decide +kernel) (by decide +kernel), kp_mem 1140 (by decide +kernel) (by decide +kernel), kp_mem 1141 (by decide +kernel) (by decide +kernel), by decide, TX8, 5, rfl⟩
theorem cv_11_75 : kp_CV RX11 75 yX8_faultPlace cX8_faultPlace 1 (some .int) 0 8 := ⟨⟨kp_mem 1146 (by decide +kernel) (by decide +kernel), kp_mem 206 (by decide +kernel) (by decide +kernel), by decide +kernel⟩, kp_mem 1143 (by decide +kernel) (by decide +kernel), kp_mem 1144 (by decide +kernel) (by decide +kernel), kp_mem 1145 (by decide +kernel) (by decide +kernel), by decide, TX8, 5, rfl⟩
theorem fp_11_82 : kp_FP RX11 82 0 3 := ⟨RX0, TX0, 4, cl_0, by decide, kp_mem 245 (by decide +kernel) (by decide +kernel), rfl⟩
theorem cv_11_78 : kp_CV RX11 78 yX11_hasBook cX11_hasBook 1 (some .boolean) 0 11 := ⟨⟨kp_mem 1158 (by decide +kernel) (by decide +kernel), kp_mem 204 (by decide +kernel) (by decide +kernel), by decide +kernel⟩, kp_mem 1155 (by decide +kernel) (by decide +kernel), kp_mem 1157 (by decide +kernel) (by decide +kernel), kp_mem 55 (by decide +kernel) (by decide +kernel), by decide, TX11, 9, rfl⟩
theorem cv_11_85 : kp_CV RX11 85 yX0_dutyFact cX0_dutyFact 3 (some .int) 2 0 := ⟨⟨kp_mem 1162 (by decide +kernel) (by decide +kernel), kp_mem 205 (by decide +kernel) (by decide +kernel), by decide +kernel⟩, kp_mem 1159 (by decide +kernel) (by decide +kernel), kp_mem 1160 (by decide +kernel) (by decide +kernel), kp_mem 1161 (by decide +kernel) (by decide +kernel), by decide, TX0, 4, rfl⟩
theorem cv_11_89 : kp_CV RX11 89 yX1_fillReach cX1_fillReach 3 (some .boolean) 2 1 := ⟨⟨kp_mem 1174 (by decide +kernel) (by decide +kernel), kp_mem 214 (by decide +kernel) (by decide +kernel), by decide +kernel⟩, kp_mem 1171 (by decide +kernel) (by decide +kernel), kp_mem 1172 (by decide +kernel) (by decide +kernel), kp_mem 1173 (by decide +kernel) (by decide +kernel), by decide, TX1, 5, rfl⟩
theorem cv_11_93 : kp_CV RX11 93 yX1_fillChamber cX1_fillChamber 3 (some .boolean) 2 1 := ⟨⟨kp_mem 1186 (by decide +kernel) (by decide +kernel), kp_mem 214 (by decide +kernel) (by decide +kernel), by decide +kernel⟩, kp_mem 1183 (by decide +kernel) (by decide +kernel), kp_mem 1184 (by decide +kernel) (by decide +kernel), kp_mem 1185 (by decide +kernel) (by decide +kernel), by decide, TX1, 5, rfl⟩
theorem cv_11_96 : kp_CV RX11 96 yX1_layShip cX1_layShip 3 (some .boolean) 2 1 := ⟨⟨kp_mem 1204 (by decide +kernel) (by decide +kernel), kp_mem 214 (by decide +kernel) (by decide +kernel), by decide +kernel⟩, kp_mem 1201 (by decide +kernel) (by decide +kernel), kp_mem 1202 (by decide +kernel) (by decide +kernel), kp_mem 1203 (by decide +kernel) (by decide +kernel), by decide, TX1, 5, rfl⟩
theorem cv_11_99 : kp_CV RX11 99 yX7_get cX7_get 2 (some .int) 1 7 := ⟨⟨kp_mem 1219 (by decide +kernel) (by decide +kernel), kp_mem 215 (by decide +kernel) (by decide +kernel), by decide +kernel⟩, kp_mem 1216 (by decide +kernel) (by decide +kernel), kp_mem 1217 (by decide +kernel) (by decide +kernel), kp_mem 1218 (by decide +kernel) (by decide +kernel), by decide, TX7, 3, rfl⟩
theorem cv_11_114 : kp_CV RX11 114 yX7_entry cX7_entry 3 (some .int) 2 7 := ⟨⟨kp_mem 1227 (by decide +kernel) (by decide +kernel), kp_mem 215 (by decide +kernel) (by decide +kernel), by decide +kernel⟩, kp_mem 1224 (by decide +kernel) (by decide +kernel), kp_mem 1225 (by decide +kernel) (by decide +kernel), kp_mem 1226 (by decide +kernel) (by decide +kernel), by decide, TX7, 3, rfl⟩
theorem cv_11_117 : kp_CV RX11 117 yX1_fact cX1_fact 3 (some .int) 2 1 := ⟨⟨kp_mem 1235 (by decide +kernel) (by decide +kernel), kp_mem 214 (by decide +kernel) (by decide +kernel), by decide +kernel⟩, kp_mem 1232 (by decide +kernel) (by decide +kernel), kp_mem 1233 (by decide +kernel) (by decide +kernel), kp_mem 1234 (by decide +kernel) (by decide +kernel), by decide, TX1, 5, rfl⟩
theorem dX11_append_0 : decode cX11_append 0 = .ok (.bipush 24, 2) := by decide +kernel
theorem dX11_append_2 : decode cX11_append 2 = .ok (.istore_n 2, 1) := by decide +kernel
theorem dX11_append_3 : decode cX11_append 3 = .ok (.iload_n 2, 1) := by decide +kernel
theorem dX11_append_4 : decode cX11_append 4 = .ok (.ifCond .lt 92, 3) := by decide +kernel
theorem dX11_append_7 : decode cX11_append 7 = .ok (.iload_n 1, 1) := by decide +kernel
theorem dX11_append_8 : decode cX11_append 8 = .ok (.iload_n 2, 1) := by decide +kernel
theorem dX11_append_9 : decode cX11_append 9 = .ok (.iushr, 1) := by decide +kernel
theorem dX11_append_10 : decode cX11_append 10 = .ok (.sipush 255, 3) := by decide +kernel
theorem dX11_append_13 : decode cX11_append 13 = .ok (.iand, 1) := by decide +kernel
theorem dX11_append_14 : decode cX11_append 14 = .ok (.istore_n 3, 1) := by decide +kernel
theorem dX11_append_15 : decode cX11_append 15 = .ok (.iload_n 3, 1) := by decide +kernel
theorem dX11_append_16 : decode cX11_append 16 = .ok (.bipush 10, 2) := by decide +kernel
theorem dX11_append_18 : decode cX11_append 18 = .ok (.if_icmp .eq 15, 3) := by decide +kernel
theorem dX11_append_21 : decode cX11_append 21 = .ok (.iload_n 3, 1) := by decide +kernel
theorem dX11_append_22 : decode cX11_append 22 = .ok (.bipush 32, 2) := by decide +kernel
theorem dX11_append_24 : decode cX11_append 24 = .ok (.if_icmp .lt 13, 3) := by decide +kernel
theorem dX11_append_27 : decode cX11_append 27 = .ok (.iload_n 3, 1) := by decide +kernel
theorem dX11_append_28 : decode cX11_append 28 = .ok (.bipush 126, 2) := by decide +kernel
theorem dX11_append_30 : decode cX11_append 30 = .ok (.if_icmp .gt 7, 3) := by decide +kernel
theorem dX11_append_33 : decode cX11_append 33 = .ok (.iconst 1, 1) := by decide +kernel
theorem dX11_append_34 : decode cX11_append 34 = .ok (.goto 4, 3) := by decide +kernel
theorem dX11_append_37 : decode cX11_append 37 = .ok (.iconst 0, 1) := by decide +kernel
theorem dX11_append_38 : decode cX11_append 38 = .ok (.istore 4, 2) := by decide +kernel
theorem dX11_append_40 : decode cX11_append 40 = .ok (.aload_n 0, 1) := by decide +kernel
theorem dX11_append_41 : decode cX11_append 41 = .ok (.getfield 58, 3) := by decide +kernel
theorem dX11_append_44 : decode cX11_append 44 = .ok (.ifCond .lt 46, 3) := by decide +kernel
theorem dX11_append_47 : decode cX11_append 47 = .ok (.aload_n 0, 1) := by decide +kernel
theorem dX11_append_48 : decode cX11_append 48 = .ok (.getfield 58, 3) := by decide +kernel
theorem dX11_append_51 : decode cX11_append 51 = .ok (.aload_n 0, 1) := by decide +kernel
theorem dX11_append_52 : decode cX11_append 52 = .ok (.getfield 9, 3) := by decide +kernel
theorem dX11_append_55 : decode cX11_append 55 = .ok (.arraylength, 1) := by decide +kernel
theorem dX11_append_56 : decode cX11_append 56 = .ok (.if_icmp .ge 34, 3) := by decide +kernel
theorem dX11_append_59 : decode cX11_append 59 = .ok (.aload_n 0, 1) := by decide +kernel
theorem dX11_append_60 : decode cX11_append 60 = .ok (.getfield 9, 3) := by decide +kernel
theorem dX11_append_63 : decode cX11_append 63 = .ok (.aload_n 0, 1) := by decide +kernel
theorem dX11_append_64 : decode cX11_append 64 = .ok (.getfield 58, 3) := by decide +kernel
theorem dX11_append_67 : decode cX11_append 67 = .ok (.iload 4, 2) := by decide +kernel
theorem dX11_append_69 : decode cX11_append 69 = .ok (.ifCond .eq 7, 3) := by decide +kernel
theorem dX11_append_72 : decode cX11_append 72 = .ok (.iload_n 3, 1) := by decide +kernel
theorem dX11_append_73 : decode cX11_append 73 = .ok (.goto 5, 3) := by decide +kernel
theorem dX11_append_76 : decode cX11_append 76 = .ok (.bipush 32, 2) := by decide +kernel
theorem dX11_append_78 : decode cX11_append 78 = .ok (.i2b, 1) := by decide +kernel
theorem dX11_append_79 : decode cX11_append 79 = .ok (.bastore, 1) := by decide +kernel
theorem dX11_append_80 : decode cX11_append 80 = .ok (.aload_n 0, 1) := by decide +kernel
theorem dX11_append_81 : decode cX11_append 81 = .ok (.dup, 1) := by decide +kernel
theorem dX11_append_82 : decode cX11_append 82 = .ok (.getfield 58, 3) := by decide +kernel
theorem dX11_append_85 : decode cX11_append 85 = .ok (.iconst 1, 1) := by decide +kernel
theorem dX11_append_86 : decode cX11_append 86 = .ok (.iadd, 1) := by decide +kernel
theorem dX11_append_87 : decode cX11_append 87 = .ok (.putfield 58, 3) := by decide +kernel
theorem dX11_append_90 : decode cX11_append 90 = .ok (.iinc 2 (-8), 3) := by decide +kernel
theorem dX11_append_93 : decode cX11_append 93 = .ok (.goto (-90), 3) := by decide +kernel
theorem dX11_append_96 : decode cX11_append 96 = .ok (.return_, 1) := by decide +kernel
def wX11_append_b90 (a0 : Nat) (x1 : Int32) (xn2 : Int32) (K3 : Int32 → kp_S → Prop) (Sn : kp_S) (post : kp_S → Prop) : Prop :=
  ∀ y1001 : Int32, y1001 = xn2 + (-8) →
  K3 y1001 Sn
def wX11_append_b78 (a0 : Nat) (x1 : Int32) (xn2 : Int32) (xt0 : Int32) (xt1 : Int32) (at2 : Nat) (K3 : Int32 → kp_S → Prop) (Sn : kp_S) (post : kp_S → Prop) : Prop :=
  vp_in xt1 (kp_N Sn at2) ∧ ∀ T2001 : kp_S, T2001 = kp_sA Sn at2 (upd (kp_A Sn at2) (xt1.toNatClampNeg) (vp_nar .byte ((xt0 : Int32).toInt8.toInt32))) →
  ∀ T2002 : kp_S, T2002 = kp_sI T2001 2206 a0 ((kp_I T2001 2206 a0) + 1) →
  wX11_append_b90 a0 x1 xn2 K3 T2002 post
def wX11_append_b38 (a0 : Nat) (x1 : Int32) (xn2 : Int32) (xn3 : Int32) (xt0 : Int32) (K3 : Int32 → kp_S → Prop) (Sn : kp_S) (post : kp_S → Prop) : Prop :=
  (((kp_I Sn 2206 a0) < 0 →
  wX11_append_b90 a0 x1 xn2 K3 Sn post) ∧ (¬ (kp_I Sn 2206 a0) < 0 →
  ∃ b3001 : Nat, kp_R Sn 2200 a0 = some b3001 ∧
  (((nI (kp_N Sn b3001)) ≤ (kp_I Sn 2206 a0) →
  wX11_append_b90 a0 x1 xn2 K3 Sn post) ∧ (¬ (nI (kp_N Sn b3001)) ≤ (kp_I Sn 2206 a0) →
  ((xt0 = 0 →
  wX11_append_b78 a0 x1 xn2 32 (kp_I Sn 2206 a0) b3001 K3 Sn post) ∧ (¬ xt0 = 0 →
  wX11_append_b78 a0 x1 xn2 xn3 (kp_I Sn 2206 a0) b3001 K3 Sn post))))))
def wX11_append_b33 (a0 : Nat) (x1 : Int32) (xn2 : Int32) (xn3 : Int32) (K3 : Int32 → kp_S → Prop) (Sn : kp_S) (post : kp_S → Prop) : Prop :=
  wX11_append_b38 a0 x1 xn2 xn3 1 K3 Sn post
def wX11_append_b37 (a0 : Nat) (x1 : Int32) (xn2 : Int32) (xn3 : Int32) (K3 : Int32 → kp_S → Prop) (Sn : kp_S) (post : kp_S → Prop) : Prop :=
  wX11_append_b38 a0 x1 xn2 xn3 0 K3 Sn post
def wX11_append_L3 (a0 : Nat) (x1 : Int32)  (post : kp_S → Prop) : Nat → Int32 → kp_S → Prop
  | 0, _, _ => False
  | n + 1, xn2, Sn =>
  ((xn2 < 0 →
  post Sn) ∧ (¬ xn2 < 0 →
  ∀ y6001 : Int32, y6001 = ((((x1 : Int32).toUInt32 >>> ((xn2 : Int32).toUInt32 &&& Int32.toUInt32 31)).toInt32) &&& 255) →
  ((y6001 = 10 →
  wX11_append_b33 a0 x1 xn2 y6001 (fun xn2_ S_ => wX11_append_L3 a0 x1  post n xn2_ S_) Sn post) ∧ (¬ y6001 = 10 →
  ((y6001 < 32 →
  wX11_append_b37 a0 x1 xn2 y6001 (fun xn2_ S_ => wX11_append_L3 a0 x1  post n xn2_ S_) Sn post) ∧ (¬ y6001 < 32 →
  ((126 < y6001 →
  wX11_append_b37 a0 x1 xn2 y6001 (fun xn2_ S_ => wX11_append_L3 a0 x1  post n xn2_ S_) Sn post) ∧ (¬ 126 < y6001 →
  wX11_append_b33 a0 x1 xn2 y6001 (fun xn2_ S_ => wX11_append_L3 a0 x1  post n xn2_ S_) Sn post))))))))
def wX11_append (a0 : Nat) (x1 : Int32) (S : kp_S) (post : kp_S → Prop) : Prop :=
  ∃ n0 : Nat, wX11_append_L3 a0 x1  post n0 24 S
set_option maxHeartbeats 4000000 in
set_option maxRecDepth 100000 in
theorem c_X11_append (l : Launch) (D : va_G) (cy : Nat → ClassId) (ad : (Nat → Nat) × (Nat → Nat)) (S : kp_S) (a0 : Nat) (x1 : Int32) (post : kp_S → Prop) (hS : kp_ok S) (f_a0 : kp_is S a0 11) (hw : wX11_append a0 x1 S post) : kp_M l yX11_append cX11_append 5 none { frames := 0, cells := 0, slots := 0, locals := 0 } D cy ad S [.ref a0, .int x1] 0 0 (fun A => kp_Qv D cy A S post) := by
  refine kp_start (own := RX11) (by decide) rfl (Nat.le_of_ble_eq_true rfl) hS ?_
  intro p e s m below meth c A ls X hr hlocks hname h hl
  have hle : kp_le S S := kp_le.rf
  have hl : lv_has ls 5 [(0, .ref a0), (1, .int x1)] := hl
  have L3 : ∀ n3 : Nat, ∀ (xn2 : Int32) (Sn : kp_S) (H : Heap) (locs : List Loc) (ls : Array Slot), lv_has ls 5 [(0, .ref a0), (1, .int x1), (2, .int xn2)] → kp_H D cy A Sn s.heap H locs → kp_le S Sn → kp_is Sn a0 11 → wX11_append_L3 a0 x1  post n3 xn2 Sn → W p l e { frames := 0, cells := 0, slots := 0, locals := 0 } s m ([.ref a0, .int x1] : List Value).toArray below meth c H locs 0 0 (MQ below (kp_Qv D cy A S post) ([.ref a0, .int x1] : List Value).toArray s 0 0 A) (F0 m 3 ls []) := by
    intro n3
    induction n3 with
    | zero => intro xn2 Sn H locs ls hl h hle f_a0 hw; exact hw.elim
    | succ n3 ih3 =>
      have j90 : ∀ (xn2 : Int32) (Sn : kp_S) (H : Heap) (locs : List Loc) (ls : Array Slot), lv_has ls 5 [(0, .ref a0), (1, .int x1), (2, .int xn2)] → kp_H D cy A Sn s.heap H locs → kp_le S Sn → kp_is Sn a0 11 → wX11_append_b90 a0 x1 xn2 (fun xn2_ S_ => wX11_append_L3 a0 x1  post n3 xn2_ S_) Sn post → W p l e { frames := 0, cells := 0, slots := 0, locals := 0 } s m ([.ref a0, .int x1] : List Value).toArray below meth c H locs 0 0 (MQ below (kp_Qv D cy A S post) ([.ref a0, .int x1] : List Value).toArray s 0 0 A) (F0 m 90 ls []) := by
        intro xn2 Sn H locs ls hl h hle f_a0 hw
        unfold wX11_append_b90 at hw
        obtain ⟨y1001, e_y1001⟩ : ∃ y : Int32, y = xn2 + (-8) := ⟨_, rfl⟩
        have hw := hw y1001 e_y1001
        refine lv_iinc (v := y1001) (lv' := [(2, .int y1001), (0, .ref a0), (1, .int x1)]) X.1 X.2.1 dX11_append_90 hl (k := 2) rfl (by rw [e_y1001]; rfl) (by decide) rfl (fun ls hl => ?_)
        refine lv_goto (tgt := 3) X.1 X.2.1 dX11_append_93 (by decide) ?_
        exact ih3 y1001 Sn H locs ls (lv_sub hl [1, 2, 0] rfl) h hle f_a0 hw
      have j78 : ∀ (xn2 : Int32) (xt0 : Int32) (xt1 : Int32) (at2 : Nat) (Sn : kp_S) (H : Heap) (locs : List Loc) (ls : Array Slot), lv_has ls 5 [(0, .ref a0), (1, .int x1), (2, .int xn2)] → kp_H D cy A Sn s.heap H locs → kp_le S Sn → kp_is Sn a0 11 → kp_is Sn at2 13 → wX11_append_b78 a0 x1 xn2 xt0 xt1 at2 (fun xn2_ S_ => wX11_append_L3 a0 x1  post n3 xn2_ S_) Sn post → W p l e { frames := 0, cells := 0, slots := 0, locals := 0 } s m ([.ref a0, .int x1] : List Value).toArray below meth c H locs 0 0 (MQ below (kp_Qv D cy A S post) ([.ref a0, .int x1] : List Value).toArray s 0 0 A) (F0 m 78 ls [.int xt0, .int xt1, .ref at2]) := by
        intro xn2 xt0 xt1 at2 Sn H locs ls hl h hle f_a0 f_at2 hw
        unfold wX11_append_b78 at hw
        refine lv_i2b X.1 X.2.1 dX11_append_78 rfl ?_
        obtain ⟨hi, hw⟩ := hw
        refine kp_bast X h f_at2 hi dX11_append_79 (fun T2001 e_T2001 l_T2001 H locs h => ?_)
        have hw := hw T2001 e_T2001
        have f_a0 := l_T2001.is f_a0
        have f_at2 := l_T2001.is f_at2
        have hle := hle.tr l_T2001
        refine lv_aload_n X.1 X.2.1 dX11_append_80 rfl (lv_at hl 0 rfl) ?_
        refine lv_dup X.1 X.2.1 dX11_append_81 rfl ?_
        refine kp_get X h f_a0 fp_11_58.l (v := .int (kp_I T2001 2206 a0)) rfl dX11_append_82 ?_
        refine lv_iconst (v := 1) X.1 X.2.1 dX11_append_85 (by decide) ?_
        refine lv_iadd X.1 X.2.1 dX11_append_86 ?_
        refine kp_putI X h f_a0 fp_11_58 rfl ⟨rfl, rfl⟩ dX11_append_87 (fun T2002 e_T2002 l_T2002 H locs h => ?_)
        have hw := hw T2002 e_T2002
        have f_a0 := l_T2002.is f_a0
        have f_at2 := l_T2002.is f_at2
        have hle := hle.tr l_T2002
        exact j90 xn2 T2002 H locs ls (lv_sub hl [0, 1, 2] rfl) h hle f_a0 hw
      have j38 : ∀ (xn2 : Int32) (xn3 : Int32) (xt0 : Int32) (Sn : kp_S) (H : Heap) (locs : List Loc) (ls : Array Slot), lv_has ls 5 [(0, .ref a0), (1, .int x1), (2, .int xn2), (3, .int xn3)] → kp_H D cy A Sn s.heap H locs → kp_le S Sn → kp_is Sn a0 11 → wX11_append_b38 a0 x1 xn2 xn3 xt0 (fun xn2_ S_ => wX11_append_L3 a0 x1  post n3 xn2_ S_) Sn post → W p l e { frames := 0, cells := 0, slots := 0, locals := 0 } s m ([.ref a0, .int x1] : List Value).toArray below meth c H locs 0 0 (MQ below (kp_Qv D cy A S post) ([.ref a0, .int x1] : List Value).toArray s 0 0 A) (F0 m 38 ls [.int xt0]) := by
        intro xn2 xn3 xt0 Sn H locs ls hl h hle f_a0 hw
        unfold wX11_append_b38 at hw
        refine lv_istore (lv' := [(4, .int xt0), (0, .ref a0), (1, .int x1), (2, .int xn2), (3, .int xn3)]) X.1 X.2.1 dX11_append_38 hl (by decide) rfl (fun ls hl => ?_)
        refine lv_aload_n X.1 X.2.1 dX11_append_40 rfl (lv_at hl 1 rfl) ?_
        refine kp_get X h f_a0 fp_11_58.l (v := .int (kp_I Sn 2206 a0)) rfl dX11_append_41 ?_
        refine lv_if_lt (tgt := 90) X.1 X.2.1 dX11_append_44 (by decide) (fun c3004 => ?_) (fun c3004 => ?_)
        · have hw := hw.1 c3004
          exact j90 xn2 Sn H locs ls (lv_sub hl [1, 2, 3] rfl) h hle f_a0 hw
        · have hw := hw.2 c3004
          refine lv_aload_n X.1 X.2.1 dX11_append_47 rfl (lv_at hl 1 rfl) ?_
          refine kp_get X h f_a0 fp_11_58.l (v := .int (kp_I Sn 2206 a0)) rfl dX11_append_48 ?_
          refine lv_aload_n X.1 X.2.1 dX11_append_51 rfl (lv_at hl 1 rfl) ?_
          obtain ⟨b3001, e_b3001, hw⟩ := hw
          have f_b3001 := h.2.2.2.rf (c := 11) (k := 0) f_a0 (by decide) (by decide) e_b3001 (t := 13) rfl
          refine kp_get X h f_a0 ff_11_9.l (v := .ref b3001) (congrArg va_rf e_b3001) dX11_append_52 ?_
          refine kp_alen X h f_b3001 (by decide) dX11_append_55 ?_
          refine lv_icmp_ge (tgt := 90) X.1 X.2.1 dX11_append_56 (by decide) (fun c3003 => ?_) (fun c3003 => ?_)
          · have hw := hw.1 c3003
            exact j90 xn2 Sn H locs ls (lv_sub hl [1, 2, 3] rfl) h hle f_a0 hw
          · have hw := hw.2 c3003
            refine lv_aload_n X.1 X.2.1 dX11_append_59 rfl (lv_at hl 1 rfl) ?_
            refine kp_get X h f_a0 ff_11_9.l (v := .ref b3001) (congrArg va_rf e_b3001) dX11_append_60 ?_
            refine lv_aload_n X.1 X.2.1 dX11_append_63 rfl (lv_at hl 1 rfl) ?_
            refine kp_get X h f_a0 fp_11_58.l (v := .int (kp_I Sn 2206 a0)) rfl dX11_append_64 ?_
            refine lv_iload X.1 X.2.1 dX11_append_67 (lv_at hl 0 rfl) ?_
            refine lv_if_eq (tgt := 76) X.1 X.2.1 dX11_append_69 (by decide) (fun c3002 => ?_) (fun c3002 => ?_)
            · have hw := hw.1 c3002
              refine lv_bipush (v := 32) X.1 X.2.1 dX11_append_76 (by decide) ?_
              exact j78 xn2 32 (kp_I Sn 2206 a0) b3001 Sn H locs ls (lv_sub hl [1, 2, 3] rfl) h hle f_a0 f_b3001 hw
            · have hw := hw.2 c3002
              refine lv_iload_n X.1 X.2.1 dX11_append_72 rfl (lv_at hl 4 rfl) ?_
              refine lv_goto (tgt := 78) X.1 X.2.1 dX11_append_73 (by decide) ?_
              exact j78 xn2 xn3 (kp_I Sn 2206 a0) b3001 Sn H locs ls (lv_sub hl [1, 2, 3] rfl) h hle f_a0 f_b3001 hw
      have j33 : ∀ (xn2 : Int32) (xn3 : Int32) (Sn : kp_S) (H : Heap) (locs : List Loc) (ls : Array Slot), lv_has ls 5 [(0, .ref a0), (1, .int x1), (2, .int xn2), (3, .int xn3)] → kp_H D cy A Sn s.heap H locs → kp_le S Sn → kp_is Sn a0 11 → wX11_append_b33 a0 x1 xn2 xn3 (fun xn2_ S_ => wX11_append_L3 a0 x1  post n3 xn2_ S_) Sn post → W p l e { frames := 0, cells := 0, slots := 0, locals := 0 } s m ([.ref a0, .int x1] : List Value).toArray below meth c H locs 0 0 (MQ below (kp_Qv D cy A S post) ([.ref a0, .int x1] : List Value).toArray s 0 0 A) (F0 m 33 ls []) := by
        intro xn2 xn3 Sn H locs ls hl h hle f_a0 hw
        unfold wX11_append_b33 at hw
        refine lv_iconst (v := 1) X.1 X.2.1 dX11_append_33 (by decide) ?_
        refine lv_goto (tgt := 38) X.1 X.2.1 dX11_append_34 (by decide) ?_
        exact j38 xn2 xn3 1 Sn H locs ls (lv_sub hl [0, 1, 2, 3] rfl) h hle f_a0 hw
      have j37 : ∀ (xn2 : Int32) (xn3 : Int32) (Sn : kp_S) (H : Heap) (locs : List Loc) (ls : Array Slot), lv_has ls 5 [(0, .ref a0), (1, .int x1), (2, .int xn2), (3, .int xn3)] → kp_H D cy A Sn s.heap H locs → kp_le S Sn → kp_is Sn a0 11 → wX11_append_b37 a0 x1 xn2 xn3 (fun xn2_ S_ => wX11_append_L3 a0 x1  post n3 xn2_ S_) Sn post → W p l e { frames := 0, cells := 0, slots := 0, locals := 0 } s m ([.ref a0, .int x1] : List Value).toArray below meth c H locs 0 0 (MQ below (kp_Qv D cy A S post) ([.ref a0, .int x1] : List Value).toArray s 0 0 A) (F0 m 37 ls []) := by
        intro xn2 xn3 Sn H locs ls hl h hle f_a0 hw
        unfold wX11_append_b37 at hw
        refine lv_iconst (v := 0) X.1 X.2.1 dX11_append_37 (by decide) ?_
        exact j38 xn2 xn3 0 Sn H locs ls (lv_sub hl [0, 1, 2, 3] rfl) h hle f_a0 hw
      intro xn2 Sn H locs ls hl h hle f_a0 hw
      unfold wX11_append_L3 at hw
      refine lv_iload_n X.1 X.2.1 dX11_append_3 rfl (lv_at hl 2 rfl) ?_
      refine lv_if_lt (tgt := 96) X.1 X.2.1 dX11_append_4 (by decide) (fun c6005 => ?_) (fun c6005 => ?_)
      · have hw := hw.1 c6005
        exact kp_retv X hr hlocks h hle hw dX11_append_96
      · have hw := hw.2 c6005
        refine lv_iload_n X.1 X.2.1 dX11_append_7 rfl (lv_at hl 1 rfl) ?_
        refine lv_iload_n X.1 X.2.1 dX11_append_8 rfl (lv_at hl 2 rfl) ?_
        refine lv_iushr X.1 X.2.1 dX11_append_9 rfl ?_
        refine lv_sipush (v := 255) X.1 X.2.1 dX11_append_10 (by decide) ?_
        refine lv_iand X.1 X.2.1 dX11_append_13 ?_
        refine lv_topi (fun y6001 e_y6001 => ?_)
        have hw := hw y6001 e_y6001
        refine lv_istore_n (lv' := [(3, .int y6001), (0, .ref a0), (1, .int x1), (2, .int xn2)]) X.1 X.2.1 dX11_append_14 rfl hl (by decide) rfl (fun ls hl => ?_)
        refine lv_iload_n X.1 X.2.1 dX11_append_15 rfl (lv_at hl 0 rfl) ?_
        refine lv_bipush (v := 10) X.1 X.2.1 dX11_append_16 (by decide) ?_
        refine lv_icmp_eq (tgt := 33) X.1 X.2.1 dX11_append_18 (by decide) (fun c6004 => ?_) (fun c6004 => ?_)
        · have hw := hw.1 c6004
          exact j33 xn2 y6001 Sn H locs ls (lv_sub hl [1, 2, 3, 0] rfl) h hle f_a0 hw
        · have hw := hw.2 c6004
          refine lv_iload_n X.1 X.2.1 dX11_append_21 rfl (lv_at hl 0 rfl) ?_
          refine lv_bipush (v := 32) X.1 X.2.1 dX11_append_22 (by decide) ?_
          refine lv_icmp_lt (tgt := 37) X.1 X.2.1 dX11_append_24 (by decide) (fun c6003 => ?_) (fun c6003 => ?_)
          · have hw := hw.1 c6003
            exact j37 xn2 y6001 Sn H locs ls (lv_sub hl [1, 2, 3, 0] rfl) h hle f_a0 hw
          · have hw := hw.2 c6003
            refine lv_iload_n X.1 X.2.1 dX11_append_27 rfl (lv_at hl 0 rfl) ?_
            refine lv_bipush (v := 126) X.1 X.2.1 dX11_append_28 (by decide) ?_
            refine lv_icmp_gt (tgt := 37) X.1 X.2.1 dX11_append_30 (by decide) (fun c6002 => ?_) (fun c6002 => ?_)
            · have hw := hw.1 c6002
              exact j37 xn2 y6001 Sn H locs ls (lv_sub hl [1, 2, 3, 0] rfl) h hle f_a0 hw
            · have hw := hw.2 c6002
              exact j33 xn2 y6001 Sn H locs ls (lv_sub hl [1, 2, 3, 0] rfl) h hle f_a0 hw
  unfold wX11_append at hw
  have h : kp_H D cy A S s.heap s.heap [] := h
  revert h
  intro h
  refine lv_bipush (v := 24) X.1 X.2.1 dX11_append_0 (by decide) ?_
  refine lv_istore_n (lv' := [(2, .int 24), (0, .ref a0), (1, .int x1)]) X.1 X.2.1 dX11_append_2 rfl hl (by decide) rfl (fun ls hl => ?_)
  obtain ⟨n0, hw⟩ := hw
  exact L3 n0 24 S _ _ ls (lv_sub hl [1, 2, 0] rfl) h hle f_a0 hw
theorem dX11_feed_0 : decode cX11_feed 0 = .ok (.aload_n 0, 1) := by decide +kernel
theorem dX11_feed_1 : decode cX11_feed 1 = .ok (.getfield 58, 3) := by decide +kernel
theorem dX11_feed_4 : decode cX11_feed 4 = .ok (.bipush 20, 2) := by decide +kernel
theorem dX11_feed_6 : decode cX11_feed 6 = .ok (.iadd, 1) := by decide +kernel
theorem dX11_feed_7 : decode cX11_feed 7 = .ok (.sipush 3000, 3) := by decide +kernel
theorem dX11_feed_10 : decode cX11_feed 10 = .ok (.if_icmp .le 5, 3) := by decide +kernel
theorem dX11_feed_13 : decode cX11_feed 13 = .ok (.iconst 0, 1) := by decide +kernel
theorem dX11_feed_14 : decode cX11_feed 14 = .ok (.ireturn, 1) := by decide +kernel
theorem dX11_feed_15 : decode cX11_feed 15 = .ok (.aload_n 0, 1) := by decide +kernel
theorem dX11_feed_16 : decode cX11_feed 16 = .ok (.iload_n 1, 1) := by decide +kernel
theorem dX11_feed_17 : decode cX11_feed 17 = .ok (.invokevirtual 61, 3) := by decide +kernel
theorem dX11_feed_20 : decode cX11_feed 20 = .ok (.aload_n 0, 1) := by decide +kernel
theorem dX11_feed_21 : decode cX11_feed 21 = .ok (.iload_n 2, 1) := by decide +kernel
theorem dX11_feed_22 : decode cX11_feed 22 = .ok (.invokevirtual 61, 3) := by decide +kernel
theorem dX11_feed_25 : decode cX11_feed 25 = .ok (.aload_n 0, 1) := by decide +kernel
theorem dX11_feed_26 : decode cX11_feed 26 = .ok (.iload_n 3, 1) := by decide +kernel
theorem dX11_feed_27 : decode cX11_feed 27 = .ok (.invokevirtual 61, 3) := by decide +kernel
theorem dX11_feed_30 : decode cX11_feed 30 = .ok (.aload_n 0, 1) := by decide +kernel
theorem dX11_feed_31 : decode cX11_feed 31 = .ok (.iload 4, 2) := by decide +kernel
theorem dX11_feed_33 : decode cX11_feed 33 = .ok (.invokevirtual 61, 3) := by decide +kernel
theorem dX11_feed_36 : decode cX11_feed 36 = .ok (.aload_n 0, 1) := by decide +kernel
theorem dX11_feed_37 : decode cX11_feed 37 = .ok (.iload 5, 2) := by decide +kernel
theorem dX11_feed_39 : decode cX11_feed 39 = .ok (.invokevirtual 61, 3) := by decide +kernel
theorem dX11_feed_42 : decode cX11_feed 42 = .ok (.iconst 1, 1) := by decide +kernel
theorem dX11_feed_43 : decode cX11_feed 43 = .ok (.ireturn, 1) := by decide +kernel
def wX11_feed (a0 : Nat) (x1 : Int32) (x2 : Int32) (x3 : Int32) (x4 : Int32) (x5 : Int32) (S : kp_S) (post : Int32 → kp_S → Prop) : Prop :=
  ((((kp_I S 2206 a0) + 20) ≤ 3000 →
  wX11_append a0 x1 S (fun T1 =>
  wX11_append a0 x2 T1 (fun T2 =>
  wX11_append a0 x3 T2 (fun T3 =>
  wX11_append a0 x4 T3 (fun T4 =>
  wX11_append a0 x5 T4 (fun T5 =>
  post 1 T5)))))) ∧ (¬ ((kp_I S 2206 a0) + 20) ≤ 3000 →
  post 0 S))
set_option maxHeartbeats 4000000 in
set_option maxRecDepth 100000 in
theorem c_X11_feed (l : Launch) (D : va_G) (cy : Nat → ClassId) (ad : (Nat → Nat) × (Nat → Nat)) (S : kp_S) (a0 : Nat) (x1 : Int32) (x2 : Int32) (x3 : Int32) (x4 : Int32) (x5 : Int32) (post : Int32 → kp_S → Prop) (hS : kp_ok S) (f_a0 : kp_is S a0 11) (hw : wX11_feed a0 x1 x2 x3 x4 x5 S post) : kp_M l yX11_feed cX11_feed 6 (some .boolean) { frames := 1, cells := 0, slots := 0, locals := 24 } D cy ad S [.ref a0, .int x1, .int x2, .int x3, .int x4, .int x5] 0 0 (fun A => kp_Qi D cy A S post) := by
  refine kp_start (own := RX11) (by decide) rfl (Nat.le_of_ble_eq_true rfl) hS ?_
  intro p e s m below meth c A ls X hr hlocks hname h hl
  have hle : kp_le S S := kp_le.rf
  have hl : lv_has ls 6 [(0, .ref a0), (1, .int x1), (2, .int x2), (3, .int x3), (4, .int x4), (5, .int x5)] := hl
  unfold wX11_feed at hw
  have h : kp_H D cy A S s.heap s.heap [] := h
  revert h
  intro h
  refine lv_aload_n X.1 X.2.1 dX11_feed_0 rfl (lv_at hl 0 rfl) ?_
  refine kp_get X h f_a0 fp_11_58.l (v := .int (kp_I S 2206 a0)) rfl dX11_feed_1 ?_
  refine lv_bipush (v := 20) X.1 X.2.1 dX11_feed_4 (by decide) ?_
  refine lv_iadd X.1 X.2.1 dX11_feed_6 ?_
  refine lv_sipush (v := 3000) X.1 X.2.1 dX11_feed_7 (by decide) ?_
  refine lv_icmp_le (tgt := 15) X.1 X.2.1 dX11_feed_10 (by decide) (fun c6 => ?_) (fun c6 => ?_)
  · have hw := hw.1 c6
    refine lv_aload_n X.1 X.2.1 dX11_feed_15 rfl (lv_at hl 0 rfl) ?_
    refine lv_iload_n X.1 X.2.1 dX11_feed_16 rfl (lv_at hl 1 rfl) ?_
    refine kp_callv X h (kp_runV (rm := { frames := 0, cells := 0, slots := 0, locals := 0 }) (mc := 0) (ms := 0) (rest := []) (Qc := fun A => kp_Qv D cy A S _) X h (c_X11_append l D cy ad S a0 x1 _ h.2.2.2 f_a0 hw) f_a0 cv_11_61 ⟨by decide, by decide, rfl, rfl, by decide, by decide⟩ rfl hl.1 rfl (Nat.le_of_ble_eq_true rfl) dX11_feed_17) (fun T1 hw l_T1 H locs h => ?_)
    have f_a0 := l_T1.is f_a0
    have hle := hle.tr l_T1
    refine lv_aload_n X.1 X.2.1 dX11_feed_20 rfl (lv_at hl 0 rfl) ?_
    refine lv_iload_n X.1 X.2.1 dX11_feed_21 rfl (lv_at hl 2 rfl) ?_
    refine kp_callv X h (kp_runV (rm := { frames := 0, cells := 0, slots := 0, locals := 0 }) (mc := 0) (ms := 0) (rest := []) (Qc := fun A => kp_Qv D cy A T1 _) X h (c_X11_append l D cy ad T1 a0 x2 _ h.2.2.2 f_a0 hw) f_a0 cv_11_61 ⟨by decide, by decide, rfl, rfl, by decide, by decide⟩ rfl hl.1 rfl (Nat.le_of_ble_eq_true rfl) dX11_feed_22) (fun T2 hw l_T2 H locs h => ?_)
    have f_a0 := l_T2.is f_a0
    have hle := hle.tr l_T2
    refine lv_aload_n X.1 X.2.1 dX11_feed_25 rfl (lv_at hl 0 rfl) ?_
    refine lv_iload_n X.1 X.2.1 dX11_feed_26 rfl (lv_at hl 3 rfl) ?_
    refine kp_callv X h (kp_runV (rm := { frames := 0, cells := 0, slots := 0, locals := 0 }) (mc := 0) (ms := 0) (rest := []) (Qc := fun A => kp_Qv D cy A T2 _) X h (c_X11_append l D cy ad T2 a0 x3 _ h.2.2.2 f_a0 hw) f_a0 cv_11_61 ⟨by decide, by decide, rfl, rfl, by decide, by decide⟩ rfl hl.1 rfl (Nat.le_of_ble_eq_true rfl) dX11_feed_27) (fun T3 hw l_T3 H locs h => ?_)
    have f_a0 := l_T3.is f_a0
    have hle := hle.tr l_T3
    refine lv_aload_n X.1 X.2.1 dX11_feed_30 rfl (lv_at hl 0 rfl) ?_
    refine lv_iload X.1 X.2.1 dX11_feed_31 (lv_at hl 4 rfl) ?_
    refine kp_callv X h (kp_runV (rm := { frames := 0, cells := 0, slots := 0, locals := 0 }) (mc := 0) (ms := 0) (rest := []) (Qc := fun A => kp_Qv D cy A T3 _) X h (c_X11_append l D cy ad T3 a0 x4 _ h.2.2.2 f_a0 hw) f_a0 cv_11_61 ⟨by decide, by decide, rfl, rfl, by decide, by decide⟩ rfl hl.1 rfl (Nat.le_of_ble_eq_true rfl) dX11_feed_33) (fun T4 hw l_T4 H locs h => ?_)
    have f_a0 := l_T4.is f_a0
    have hle := hle.tr l_T4
    refine lv_aload_n X.1 X.2.1 dX11_feed_36 rfl (lv_at hl 0 rfl) ?_
    refine lv_iload X.1 X.2.1 dX11_feed_37 (lv_at hl 5 rfl) ?_
    refine kp_callv X h (kp_runV (rm := { frames := 0, cells := 0, slots := 0, locals := 0 }) (mc := 0) (ms := 0) (rest := []) (Qc := fun A => kp_Qv D cy A T4 _) X h (c_X11_append l D cy ad T4 a0 x5 _ h.2.2.2 f_a0 hw) f_a0 cv_11_61 ⟨by decide, by decide, rfl, rfl, by decide, by decide⟩ rfl hl.1 rfl (Nat.le_of_ble_eq_true rfl) dX11_feed_39) (fun T5 hw l_T5 H locs h => ?_)
    have f_a0 := l_T5.is f_a0
    have hle := hle.tr l_T5
    refine lv_iconst (v := 1) X.1 X.2.1 dX11_feed_42 (by decide) ?_
    exact kp_reti X hr hlocks h hle (by decide) hw dX11_feed_43
  · have hw := hw.2 c6
    refine lv_iconst (v := 0) X.1 X.2.1 dX11_feed_13 (by decide) ?_
    exact kp_reti X hr hlocks h hle (by decide) hw dX11_feed_14
theorem dX11_end_0 : decode cX11_end 0 = .ok (.iload_n 1, 1) := by decide +kernel
theorem dX11_end_1 : decode cX11_end 1 = .ok (.ifCond .lt 11, 3) := by decide +kernel
theorem dX11_end_4 : decode cX11_end 4 = .ok (.iload_n 1, 1) := by decide +kernel
theorem dX11_end_5 : decode cX11_end 5 = .ok (.aload_n 0, 1) := by decide +kernel
theorem dX11_end_6 : decode cX11_end 6 = .ok (.getfield 58, 3) := by decide +kernel
theorem dX11_end_9 : decode cX11_end 9 = .ok (.if_icmp .le 5, 3) := by decide +kernel
theorem dX11_end_12 : decode cX11_end 12 = .ok (.iconst 0, 1) := by decide +kernel
theorem dX11_end_13 : decode cX11_end 13 = .ok (.ireturn, 1) := by decide +kernel
theorem dX11_end_14 : decode cX11_end 14 = .ok (.aload_n 0, 1) := by decide +kernel
theorem dX11_end_15 : decode cX11_end 15 = .ok (.iload_n 1, 1) := by decide +kernel
theorem dX11_end_16 : decode cX11_end 16 = .ok (.putfield 58, 3) := by decide +kernel
theorem dX11_end_19 : decode cX11_end 19 = .ok (.iconst 1, 1) := by decide +kernel
theorem dX11_end_20 : decode cX11_end 20 = .ok (.ireturn, 1) := by decide +kernel
def wX11_end_b12 (a0 : Nat) (x1 : Int32)  (Sn : kp_S) (post : Int32 → kp_S → Prop) : Prop :=
  post 0 Sn
def wX11_end (a0 : Nat) (x1 : Int32) (S : kp_S) (post : Int32 → kp_S → Prop) : Prop :=
  ((x1 < 0 →
  wX11_end_b12 a0 x1   S post) ∧ (¬ x1 < 0 →
  ((x1 ≤ (kp_I S 2206 a0) →
  ∀ T1 : kp_S, T1 = kp_sI S 2206 a0 x1 →
  post 1 T1) ∧ (¬ x1 ≤ (kp_I S 2206 a0) →
  wX11_end_b12 a0 x1   S post))))
set_option maxHeartbeats 4000000 in
set_option maxRecDepth 100000 in
theorem c_X11_end (l : Launch) (D : va_G) (cy : Nat → ClassId) (ad : (Nat → Nat) × (Nat → Nat)) (S : kp_S) (a0 : Nat) (x1 : Int32) (post : Int32 → kp_S → Prop) (hS : kp_ok S) (f_a0 : kp_is S a0 11) (hw : wX11_end a0 x1 S post) : kp_M l yX11_end cX11_end 2 (some .boolean) { frames := 0, cells := 0, slots := 0, locals := 0 } D cy ad S [.ref a0, .int x1] 0 0 (fun A => kp_Qi D cy A S post) := by
  refine kp_start (own := RX11) (by decide) rfl (Nat.le_of_ble_eq_true rfl) hS ?_
  intro p e s m below meth c A ls X hr hlocks hname h hl
  have hle : kp_le S S := kp_le.rf
  have hl : lv_has ls 2 [(0, .ref a0), (1, .int x1)] := hl
  have j12 : ∀  (Sn : kp_S) (H : Heap) (locs : List Loc) (ls : Array Slot), lv_has ls 2 [] → kp_H D cy A Sn s.heap H locs → kp_le S Sn → kp_is Sn a0 11 → wX11_end_b12 a0 x1   Sn post → W p l e { frames := 0, cells := 0, slots := 0, locals := 0 } s m ([.ref a0, .int x1] : List Value).toArray below meth c H locs 0 0 (MQ below (kp_Qi D cy A S post) ([.ref a0, .int x1] : List Value).toArray s 0 0 A) (F0 m 12 ls []) := by
    intro  Sn H locs ls hl h hle f_a0 hw
    unfold wX11_end_b12 at hw
    refine lv_iconst (v := 0) X.1 X.2.1 dX11_end_12 (by decide) ?_
    exact kp_reti X hr hlocks h hle (by decide) hw dX11_end_13
  unfold wX11_end at hw
  have h : kp_H D cy A S s.heap s.heap [] := h
  revert h
  intro h
  refine lv_iload_n X.1 X.2.1 dX11_end_0 rfl (lv_at hl 1 rfl) ?_
  refine lv_if_lt (tgt := 12) X.1 X.2.1 dX11_end_1 (by decide) (fun c3 => ?_) (fun c3 => ?_)
  · have hw := hw.1 c3
    exact j12  S _ _ ls (lv_sub hl [] rfl) h hle f_a0 hw
  · have hw := hw.2 c3
    refine lv_iload_n X.1 X.2.1 dX11_end_4 rfl (lv_at hl 1 rfl) ?_
    refine lv_aload_n X.1 X.2.1 dX11_end_5 rfl (lv_at hl 0 rfl) ?_
    refine kp_get X h f_a0 fp_11_58.l (v := .int (kp_I S 2206 a0)) rfl dX11_end_6 ?_
    refine lv_icmp_le (tgt := 14) X.1 X.2.1 dX11_end_9 (by decide) (fun c2 => ?_) (fun c2 => ?_)
    · have hw := hw.1 c2
      refine lv_aload_n X.1 X.2.1 dX11_end_14 rfl (lv_at hl 0 rfl) ?_
      refine lv_iload_n X.1 X.2.1 dX11_end_15 rfl (lv_at hl 1 rfl) ?_
      refine kp_putI X h f_a0 fp_11_58 rfl ⟨rfl, rfl⟩ dX11_end_16 (fun T1 e_T1 l_T1 H locs h => ?_)
      have hw := hw T1 e_T1
      have f_a0 := l_T1.is f_a0
      have hle := hle.tr l_T1
      refine lv_iconst (v := 1) X.1 X.2.1 dX11_end_19 (by decide) ?_
      exact kp_reti X hr hlocks h hle (by decide) hw dX11_end_20
    · have hw := hw.2 c2
      exact j12  S _ _ ls (lv_sub hl [] rfl) h hle f_a0 hw
theorem dX11_read_0 : decode cX11_read 0 = .ok (.new 13, 3) := by decide +kernel
theorem dX11_read_3 : decode cX11_read 3 = .ok (.dup, 1) := by decide +kernel
theorem dX11_read_4 : decode cX11_read 4 = .ok (.aload_n 0, 1) := by decide +kernel
theorem dX11_read_5 : decode cX11_read 5 = .ok (.getfield 58, 3) := by decide +kernel
theorem dX11_read_8 : decode cX11_read 8 = .ok (.invokespecial 15, 3) := by decide +kernel
theorem dX11_read_11 : decode cX11_read 11 = .ok (.astore_n 1, 1) := by decide +kernel
theorem dX11_read_12 : decode cX11_read 12 = .ok (.aload_n 0, 1) := by decide +kernel
theorem dX11_read_13 : decode cX11_read 13 = .ok (.getfield 27, 3) := by decide +kernel
theorem dX11_read_16 : decode cX11_read 16 = .ok (.aload_n 1, 1) := by decide +kernel
theorem dX11_read_17 : decode cX11_read 17 = .ok (.aload_n 0, 1) := by decide +kernel
theorem dX11_read_18 : decode cX11_read 18 = .ok (.getfield 58, 3) := by decide +kernel
theorem dX11_read_21 : decode cX11_read 21 = .ok (.invokevirtual 64, 3) := by decide +kernel
theorem dX11_read_24 : decode cX11_read 24 = .ok (.aload_n 0, 1) := by decide +kernel
theorem dX11_read_25 : decode cX11_read 25 = .ok (.iconst 0, 1) := by decide +kernel
theorem dX11_read_26 : decode cX11_read 26 = .ok (.putfield 58, 3) := by decide +kernel
theorem dX11_read_29 : decode cX11_read 29 = .ok (.aload_n 0, 1) := by decide +kernel
theorem dX11_read_30 : decode cX11_read 30 = .ok (.aload_n 0, 1) := by decide +kernel
theorem dX11_read_31 : decode cX11_read 31 = .ok (.getfield 27, 3) := by decide +kernel
theorem dX11_read_34 : decode cX11_read 34 = .ok (.invokevirtual 68, 3) := by decide +kernel
theorem dX11_read_37 : decode cX11_read 37 = .ok (.putfield 72, 3) := by decide +kernel
theorem dX11_read_40 : decode cX11_read 40 = .ok (.aload_n 0, 1) := by decide +kernel
theorem dX11_read_41 : decode cX11_read 41 = .ok (.aload_n 0, 1) := by decide +kernel
theorem dX11_read_42 : decode cX11_read 42 = .ok (.getfield 27, 3) := by decide +kernel
theorem dX11_read_45 : decode cX11_read 45 = .ok (.invokevirtual 75, 3) := by decide +kernel
theorem dX11_read_48 : decode cX11_read 48 = .ok (.putfield 54, 3) := by decide +kernel
theorem dX11_read_51 : decode cX11_read 51 = .ok (.aload_n 0, 1) := by decide +kernel
theorem dX11_read_52 : decode cX11_read 52 = .ok (.getfield 72, 3) := by decide +kernel
theorem dX11_read_55 : decode cX11_read 55 = .ok (.ifCond .ne 8, 3) := by decide +kernel
theorem dX11_read_58 : decode cX11_read 58 = .ok (.aload_n 0, 1) := by decide +kernel
theorem dX11_read_59 : decode cX11_read 59 = .ok (.aload_n 1, 1) := by decide +kernel
theorem dX11_read_60 : decode cX11_read 60 = .ok (.putfield 18, 3) := by decide +kernel
theorem dX11_read_63 : decode cX11_read 63 = .ok (.aload_n 0, 1) := by decide +kernel
theorem dX11_read_64 : decode cX11_read 64 = .ok (.getfield 72, 3) := by decide +kernel
theorem dX11_read_67 : decode cX11_read 67 = .ok (.ireturn, 1) := by decide +kernel
def wX11_read_b63 (a0 : Nat)  (Sn : kp_S) (post : Int32 → kp_S → Prop) : Prop :=
  post (kp_I Sn 2207 a0) Sn
def wX11_read (a0 : Nat) (S : kp_S) (post : Int32 → kp_S → Prop) : Prop :=
  ∀ (b1 : Nat) (T2 : kp_S), b1 ∉ kp_L S → T2 = kp_new S b1 0 →
  wX0_init b1 (kp_I T2 2206 a0) T2 (fun T3 =>
  ∃ b4 : Nat, kp_R T3 2201 a0 = some b4 ∧
  wX8_readText b4 b1 (kp_I T3 2206 a0) T3 (fun T5 =>
  ∀ T6 : kp_S, T6 = kp_sI T5 2206 a0 0 →
  ∃ b7 : Nat, kp_R T6 2201 a0 = some b7 ∧
  wX8_faultKind b7 T6 (fun y9 T8 =>
  ∀ T10 : kp_S, T10 = kp_sI T8 2207 a0 y9 →
  ∃ b11 : Nat, kp_R T10 2201 a0 = some b11 ∧
  wX8_faultPlace b11 T10 (fun y13 T12 =>
  ∀ T14 : kp_S, T14 = kp_sI T12 2208 a0 y13 →
  ((¬ (kp_I T14 2207 a0) = 0 →
  wX11_read_b63 a0   T14 post) ∧ ((kp_I T14 2207 a0) = 0 →
  ∀ T15 : kp_S, T15 = kp_sR T14 2205 a0 b1 →
  wX11_read_b63 a0   T15 post))))))
set_option maxHeartbeats 4000000 in
set_option maxRecDepth 100000 in
theorem c_X11_read (l : Launch) (D : va_G) (cy : Nat → ClassId) (ad : (Nat → Nat) × (Nat → Nat)) (S : kp_S) (a0 : Nat) (post : Int32 → kp_S → Prop) (hS : kp_ok S) (f_a0 : kp_is S a0 11) (hw : wX11_read a0 S post) : kp_M l yX11_read cX11_read 2 (some .int) { frames := 313, cells := 3, slots := 6170, locals := 7384 } D cy ad S [.ref a0] 3 6170 (fun A => kp_Qi D cy A S post) := by
  refine kp_start (own := RX11) (by decide) rfl (Nat.le_of_ble_eq_true rfl) hS ?_
  intro p e s m below meth c A ls X hr hlocks hname h hl
  have hle : kp_le S S := kp_le.rf
  have hl : lv_has ls 2 [(0, .ref a0)] := hl
  have j63 : ∀  (Sn : kp_S) (H : Heap) (locs : List Loc) (ls : Array Slot), lv_has ls 2 [(0, .ref a0)] → kp_H D cy A Sn s.heap H locs → kp_le S Sn → kp_is Sn a0 11 → wX11_read_b63 a0   Sn post → W p l e { frames := 313, cells := 3, slots := 6170, locals := 7384 } s m ([.ref a0] : List Value).toArray below meth c H locs 3 6170 (MQ below (kp_Qi D cy A S post) ([.ref a0] : List Value).toArray s 3 6170 A) (F0 m 63 ls []) := by
    intro  Sn H locs ls hl h hle f_a0 hw
    unfold wX11_read_b63 at hw
    refine lv_aload_n X.1 X.2.1 dX11_read_63 rfl (lv_at hl 0 rfl) ?_
    refine kp_get X h f_a0 fp_11_72.l (v := .int (kp_I Sn 2207 a0)) rfl dX11_read_64 ?_
    exact kp_reti X hr hlocks h hle rfl hw dX11_read_67
  unfold wX11_read at hw
  have h : kp_H D cy A S s.heap s.heap [] := h
  revert h
  intro h
  refine kp_newO X h nw_11_13 (by decide) (by decide) dX11_read_0 (fun b1 T2 n_b1 e_T2 l_T2 f_b1 H h => ?_)
  have hw := hw b1 T2 n_b1 e_T2
  have f_a0 := l_T2.is f_a0
  have hle := hle.tr l_T2
  refine W.widen (k := 1) (n := 4) (by decide) (by decide) ?_
  refine lv_dup X.1 X.2.1 dX11_read_3 rfl ?_
  refine lv_aload_n X.1 X.2.1 dX11_read_4 rfl (lv_at hl 0 rfl) ?_
  refine kp_get X h f_a0 fp_11_58.l (v := .int (kp_I T2 2206 a0)) rfl dX11_read_5 ?_
  refine kp_callv X h (kp_runI (rm := { frames := 1, cells := 2, slots := 6166, locals := 20 }) (mc := 2) (ms := 6166) (rest := [.ref b1]) (Qc := fun A => kp_Qv D cy A T2 _) X h (c_X0_init l D cy ad T2 b1 (kp_I T2 2206 a0) _ h.2.2.2 f_b1 hw) ci_11_15 ⟨by decide, by decide, rfl, rfl, by decide, by decide⟩ rfl hl.1 rfl (Nat.le_of_ble_eq_true rfl) dX11_read_8) (fun T3 hw l_T3 H locs h => ?_)
  have f_a0 := l_T3.is f_a0
  have f_b1 := l_T3.is f_b1
  have hle := hle.tr l_T3
  refine W.widen (k := 3) (n := 6170) (by decide) (by decide) ?_
  refine lv_astore_n (lv' := [(1, .ref b1), (0, .ref a0)]) X.1 X.2.1 dX11_read_11 rfl hl (by decide) rfl (fun ls hl => ?_)
  refine lv_aload_n X.1 X.2.1 dX11_read_12 rfl (lv_at hl 1 rfl) ?_
  obtain ⟨b4, e_b4, hw⟩ := hw
  have f_b4 := h.2.2.2.rf (c := 11) (k := 1) f_a0 (by decide) (by decide) e_b4 (t := 8) rfl
  refine kp_get X h f_a0 ff_11_27.l (v := .ref b4) (congrArg va_rf e_b4) dX11_read_13 ?_
  refine lv_aload_n X.1 X.2.1 dX11_read_16 rfl (lv_at hl 0 rfl) ?_
  refine lv_aload_n X.1 X.2.1 dX11_read_17 rfl (lv_at hl 1 rfl) ?_
  refine kp_get X h f_a0 fp_11_58.l (v := .int (kp_I T3 2206 a0)) rfl dX11_read_18 ?_
  refine kp_callv X h (kp_runV (rm := { frames := 312, cells := 0, slots := 0, locals := 7361 }) (mc := 0) (ms := 0) (rest := []) (Qc := fun A => kp_Qv D cy A T3 _) X h (c_X8_readText l D cy ad T3 b4 b1 (kp_I T3 2206 a0) _ h.2.2.2 f_b4 f_b1 hw) f_b4 cv_11_64 ⟨by decide, by decide, rfl, rfl, by decide, by decide⟩ rfl hl.1 rfl (Nat.le_of_ble_eq_true rfl) dX11_read_21) (fun T5 hw l_T5 H locs h => ?_)
  have f_a0 := l_T5.is f_a0
  have f_b1 := l_T5.is f_b1
  have f_b4 := l_T5.is f_b4
  have hle := hle.tr l_T5
  refine lv_aload_n X.1 X.2.1 dX11_read_24 rfl (lv_at hl 1 rfl) ?_
  refine lv_iconst (v := 0) X.1 X.2.1 dX11_read_25 (by decide) ?_
  refine kp_putI X h f_a0 fp_11_58 rfl ⟨rfl, rfl⟩ dX11_read_26 (fun T6 e_T6 l_T6 H locs h => ?_)
  have hw := hw T6 e_T6
  have f_a0 := l_T6.is f_a0
  have f_b1 := l_T6.is f_b1
  have f_b4 := l_T6.is f_b4
  have hle := hle.tr l_T6
  refine lv_aload_n X.1 X.2.1 dX11_read_29 rfl (lv_at hl 1 rfl) ?_
  refine lv_aload_n X.1 X.2.1 dX11_read_30 rfl (lv_at hl 1 rfl) ?_
  obtain ⟨b7, e_b7, hw⟩ := hw
  have f_b7 := h.2.2.2.rf (c := 11) (k := 1) f_a0 (by decide) (by decide) e_b7 (t := 8) rfl
  refine kp_get X h f_a0 ff_11_27.l (v := .ref b7) (congrArg va_rf e_b7) dX11_read_31 ?_
  refine kp_calli X h (kp_runV (rm := { frames := 0, cells := 0, slots := 0, locals := 0 }) (mc := 0) (ms := 0) (rest := [.ref a0]) (Qc := fun A => kp_Qi D cy A T6 _) X h (c_X8_faultKind l D cy ad T6 b7 _ h.2.2.2 f_b7 hw) f_b7 cv_11_68 ⟨by decide, by decide, rfl, rfl, by decide, by decide⟩ rfl hl.1 rfl (Nat.le_of_ble_eq_true rfl) dX11_read_34) (fun y9 T8 hw l_T8 H locs h => ?_)
  have f_a0 := l_T8.is f_a0
  have f_b1 := l_T8.is f_b1
  have f_b4 := l_T8.is f_b4
  have f_b7 := l_T8.is f_b7
  have hle := hle.tr l_T8
  refine kp_putI X h f_a0 fp_11_72 rfl ⟨rfl, rfl⟩ dX11_read_37 (fun T10 e_T10 l_T10 H locs h => ?_)
  have hw := hw T10 e_T10
  have f_a0 := l_T10.is f_a0
  have f_b1 := l_T10.is f_b1
  have f_b4 := l_T10.is f_b4
  have f_b7 := l_T10.is f_b7
  have hle := hle.tr l_T10
  refine lv_aload_n X.1 X.2.1 dX11_read_40 rfl (lv_at hl 1 rfl) ?_
  refine lv_aload_n X.1 X.2.1 dX11_read_41 rfl (lv_at hl 1 rfl) ?_
  obtain ⟨b11, e_b11, hw⟩ := hw
  have f_b11 := h.2.2.2.rf (c := 11) (k := 1) f_a0 (by decide) (by decide) e_b11 (t := 8) rfl
  refine kp_get X h f_a0 ff_11_27.l (v := .ref b11) (congrArg va_rf e_b11) dX11_read_42 ?_
  refine kp_calli X h (kp_runV (rm := { frames := 0, cells := 0, slots := 0, locals := 0 }) (mc := 0) (ms := 0) (rest := [.ref a0]) (Qc := fun A => kp_Qi D cy A T10 _) X h (c_X8_faultPlace l D cy ad T10 b11 _ h.2.2.2 f_b11 hw) f_b11 cv_11_75 ⟨by decide, by decide, rfl, rfl, by decide, by decide⟩ rfl hl.1 rfl (Nat.le_of_ble_eq_true rfl) dX11_read_45) (fun y13 T12 hw l_T12 H locs h => ?_)
  have f_a0 := l_T12.is f_a0
  have f_b1 := l_T12.is f_b1
  have f_b4 := l_T12.is f_b4
  have f_b7 := l_T12.is f_b7
  have f_b11 := l_T12.is f_b11
  have hle := hle.tr l_T12
  refine kp_putI X h f_a0 fp_11_54 rfl ⟨rfl, rfl⟩ dX11_read_48 (fun T14 e_T14 l_T14 H locs h => ?_)
  have hw := hw T14 e_T14
  have f_a0 := l_T14.is f_a0
  have f_b1 := l_T14.is f_b1
  have f_b4 := l_T14.is f_b4
  have f_b7 := l_T14.is f_b7
  have f_b11 := l_T14.is f_b11
  have hle := hle.tr l_T14
  refine lv_aload_n X.1 X.2.1 dX11_read_51 rfl (lv_at hl 1 rfl) ?_
  refine kp_get X h f_a0 fp_11_72.l (v := .int (kp_I T14 2207 a0)) rfl dX11_read_52 ?_
  refine lv_if_ne (tgt := 63) X.1 X.2.1 dX11_read_55 (by decide) (fun c16 => ?_) (fun c16 => ?_)
  · have hw := hw.1 c16
    exact j63  T14 _ _ ls (lv_sub hl [1] rfl) h hle f_a0 hw
  · have hw := hw.2 c16
    refine lv_aload_n X.1 X.2.1 dX11_read_58 rfl (lv_at hl 1 rfl) ?_
    refine lv_aload_n X.1 X.2.1 dX11_read_59 rfl (lv_at hl 0 rfl) ?_
    refine kp_putR X h f_a0 fp_11_18 f_b1 rfl ⟨by decide, by decide⟩ ⟨rfl, rfl⟩ dX11_read_60 (fun T15 e_T15 l_T15 H locs h => ?_)
    have hw := hw T15 e_T15
    have f_a0 := l_T15.is f_a0
    have f_b1 := l_T15.is f_b1
    have f_b4 := l_T15.is f_b4
    have f_b7 := l_T15.is f_b7
    have f_b11 := l_T15.is f_b11
    have hle := hle.tr l_T15
    exact j63  T15 _ _ ls (lv_sub hl [1] rfl) h hle f_a0 hw
theorem dX11_fault_0 : decode cX11_fault 0 = .ok (.iload_n 1, 1) := by decide +kernel
theorem dX11_fault_1 : decode cX11_fault 1 = .ok (.ifCond .ne 8, 3) := by decide +kernel
theorem dX11_fault_4 : decode cX11_fault 4 = .ok (.aload_n 0, 1) := by decide +kernel
theorem dX11_fault_5 : decode cX11_fault 5 = .ok (.getfield 72, 3) := by decide +kernel
theorem dX11_fault_8 : decode cX11_fault 8 = .ok (.ireturn, 1) := by decide +kernel
theorem dX11_fault_9 : decode cX11_fault 9 = .ok (.iload_n 1, 1) := by decide +kernel
theorem dX11_fault_10 : decode cX11_fault 10 = .ok (.iconst 1, 1) := by decide +kernel
theorem dX11_fault_11 : decode cX11_fault 11 = .ok (.if_icmp .ne 10, 3) := by decide +kernel
theorem dX11_fault_14 : decode cX11_fault 14 = .ok (.aload_n 0, 1) := by decide +kernel
theorem dX11_fault_15 : decode cX11_fault 15 = .ok (.getfield 54, 3) := by decide +kernel
theorem dX11_fault_18 : decode cX11_fault 18 = .ok (.goto 4, 3) := by decide +kernel
theorem dX11_fault_21 : decode cX11_fault 21 = .ok (.iconst (-1), 1) := by decide +kernel
theorem dX11_fault_22 : decode cX11_fault 22 = .ok (.ireturn, 1) := by decide +kernel
def wX11_fault_b22 (a0 : Nat) (x1 : Int32) (xt0 : Int32)  (Sn : kp_S) (post : Int32 → kp_S → Prop) : Prop :=
  post xt0 Sn
def wX11_fault (a0 : Nat) (x1 : Int32) (S : kp_S) (post : Int32 → kp_S → Prop) : Prop :=
  ((¬ x1 = 0 →
  ((¬ x1 = 1 →
  wX11_fault_b22 a0 x1 (-1)  S post) ∧ (x1 = 1 →
  wX11_fault_b22 a0 x1 (kp_I S 2208 a0)  S post))) ∧ (x1 = 0 →
  post (kp_I S 2207 a0) S))
set_option maxHeartbeats 4000000 in
set_option maxRecDepth 100000 in
theorem c_X11_fault (l : Launch) (D : va_G) (cy : Nat → ClassId) (ad : (Nat → Nat) × (Nat → Nat)) (S : kp_S) (a0 : Nat) (x1 : Int32) (post : Int32 → kp_S → Prop) (hS : kp_ok S) (f_a0 : kp_is S a0 11) (hw : wX11_fault a0 x1 S post) : kp_M l yX11_fault cX11_fault 2 (some .int) { frames := 0, cells := 0, slots := 0, locals := 0 } D cy ad S [.ref a0, .int x1] 0 0 (fun A => kp_Qi D cy A S post) := by
  refine kp_start (own := RX11) (by decide) rfl (Nat.le_of_ble_eq_true rfl) hS ?_
  intro p e s m below meth c A ls X hr hlocks hname h hl
  have hle : kp_le S S := kp_le.rf
  have hl : lv_has ls 2 [(0, .ref a0), (1, .int x1)] := hl
  have j22 : ∀ (xt0 : Int32) (Sn : kp_S) (H : Heap) (locs : List Loc) (ls : Array Slot), lv_has ls 2 [] → kp_H D cy A Sn s.heap H locs → kp_le S Sn → kp_is Sn a0 11 → wX11_fault_b22 a0 x1 xt0  Sn post → W p l e { frames := 0, cells := 0, slots := 0, locals := 0 } s m ([.ref a0, .int x1] : List Value).toArray below meth c H locs 0 0 (MQ below (kp_Qi D cy A S post) ([.ref a0, .int x1] : List Value).toArray s 0 0 A) (F0 m 22 ls [.int xt0]) := by
    intro xt0 Sn H locs ls hl h hle f_a0 hw
    unfold wX11_fault_b22 at hw
    exact kp_reti X hr hlocks h hle rfl hw dX11_fault_22
  unfold wX11_fault at hw
  have h : kp_H D cy A S s.heap s.heap [] := h
  revert h
  intro h
  refine lv_iload_n X.1 X.2.1 dX11_fault_0 rfl (lv_at hl 1 rfl) ?_
  refine lv_if_ne (tgt := 9) X.1 X.2.1 dX11_fault_1 (by decide) (fun c2 => ?_) (fun c2 => ?_)
  · have hw := hw.1 c2
    refine lv_iload_n X.1 X.2.1 dX11_fault_9 rfl (lv_at hl 1 rfl) ?_
    refine lv_iconst (v := 1) X.1 X.2.1 dX11_fault_10 (by decide) ?_
    refine lv_icmp_ne (tgt := 21) X.1 X.2.1 dX11_fault_11 (by decide) (fun c1 => ?_) (fun c1 => ?_)
    · have hw := hw.1 c1
      refine lv_iconst (v := (-1)) X.1 X.2.1 dX11_fault_21 (by decide) ?_
      exact j22 (-1) S _ _ ls (lv_sub hl [] rfl) h hle f_a0 hw
    · have hw := hw.2 c1
      refine lv_aload_n X.1 X.2.1 dX11_fault_14 rfl (lv_at hl 0 rfl) ?_
      refine kp_get X h f_a0 fp_11_54.l (v := .int (kp_I S 2208 a0)) rfl dX11_fault_15 ?_
      refine lv_goto (tgt := 22) X.1 X.2.1 dX11_fault_18 (by decide) ?_
      exact j22 (kp_I S 2208 a0) S _ _ ls (lv_sub hl [] rfl) h hle f_a0 hw
  · have hw := hw.2 c2
    refine lv_aload_n X.1 X.2.1 dX11_fault_4 rfl (lv_at hl 0 rfl) ?_
    refine kp_get X h f_a0 fp_11_72.l (v := .int (kp_I S 2207 a0)) rfl dX11_fault_5 ?_
    exact kp_reti X hr hlocks h hle rfl hw dX11_fault_8
theorem dX11_hasBook_0 : decode cX11_hasBook 0 = .ok (.aload_n 0, 1) := by decide +kernel
theorem dX11_hasBook_1 : decode cX11_hasBook 1 = .ok (.getfield 18, 3) := by decide +kernel
theorem dX11_hasBook_4 : decode cX11_hasBook 4 = .ok (.getfield 82, 3) := by decide +kernel
theorem dX11_hasBook_7 : decode cX11_hasBook 7 = .ok (.ifCond .le 7, 3) := by decide +kernel
theorem dX11_hasBook_10 : decode cX11_hasBook 10 = .ok (.iconst 1, 1) := by decide +kernel
theorem dX11_hasBook_11 : decode cX11_hasBook 11 = .ok (.goto 4, 3) := by decide +kernel
theorem dX11_hasBook_14 : decode cX11_hasBook 14 = .ok (.iconst 0, 1) := by decide +kernel
theorem dX11_hasBook_15 : decode cX11_hasBook 15 = .ok (.ireturn, 1) := by decide +kernel
def wX11_hasBook_b15 (a0 : Nat) (xt0 : Int32)  (Sn : kp_S) (post : Int32 → kp_S → Prop) : Prop :=
  kp_b xt0 ∧ post xt0 Sn
def wX11_hasBook (a0 : Nat) (S : kp_S) (post : Int32 → kp_S → Prop) : Prop :=
  ∃ b1 : Nat, kp_R S 2205 a0 = some b1 ∧
  (((kp_I S 3 b1) ≤ 0 →
  wX11_hasBook_b15 a0 0  S post) ∧ (¬ (kp_I S 3 b1) ≤ 0 →
  wX11_hasBook_b15 a0 1  S post))
set_option maxHeartbeats 4000000 in
set_option maxRecDepth 100000 in
theorem c_X11_hasBook (l : Launch) (D : va_G) (cy : Nat → ClassId) (ad : (Nat → Nat) × (Nat → Nat)) (S : kp_S) (a0 : Nat) (post : Int32 → kp_S → Prop) (hS : kp_ok S) (f_a0 : kp_is S a0 11) (hw : wX11_hasBook a0 S post) : kp_M l yX11_hasBook cX11_hasBook 1 (some .boolean) { frames := 0, cells := 0, slots := 0, locals := 0 } D cy ad S [.ref a0] 0 0 (fun A => kp_Qi D cy A S post) := by
  refine kp_start (own := RX11) (by decide) rfl (Nat.le_of_ble_eq_true rfl) hS ?_
  intro p e s m below meth c A ls X hr hlocks hname h hl
  have hle : kp_le S S := kp_le.rf
  have hl : lv_has ls 1 [(0, .ref a0)] := hl
  have j15 : ∀ (xt0 : Int32) (Sn : kp_S) (H : Heap) (locs : List Loc) (ls : Array Slot), lv_has ls 1 [] → kp_H D cy A Sn s.heap H locs → kp_le S Sn → kp_is Sn a0 11 → wX11_hasBook_b15 a0 xt0  Sn post → W p l e { frames := 0, cells := 0, slots := 0, locals := 0 } s m ([.ref a0] : List Value).toArray below meth c H locs 0 0 (MQ below (kp_Qi D cy A S post) ([.ref a0] : List Value).toArray s 0 0 A) (F0 m 15 ls [.int xt0]) := by
    intro xt0 Sn H locs ls hl h hle f_a0 hw
    unfold wX11_hasBook_b15 at hw
    exact kp_reti X hr hlocks h hle (kp_bz hw.1).1 hw.2 dX11_hasBook_15
  unfold wX11_hasBook at hw
  have h : kp_H D cy A S s.heap s.heap [] := h
  revert h
  intro h
  refine lv_aload_n X.1 X.2.1 dX11_hasBook_0 rfl (lv_at hl 0 rfl) ?_
  obtain ⟨b1, e_b1, hw⟩ := hw
  have f_b1 := h.2.2.2.rf (c := 11) (k := 5) f_a0 (by decide) (by decide) e_b1 (t := 0) rfl
  refine kp_get X h f_a0 fp_11_18.l (v := .ref b1) (congrArg va_rf e_b1) dX11_hasBook_1 ?_
  refine kp_get X h f_b1 fp_11_82.l (v := .int (kp_I S 3 b1)) rfl dX11_hasBook_4 ?_
  refine lv_if_le (tgt := 14) X.1 X.2.1 dX11_hasBook_7 (by decide) (fun c2 => ?_) (fun c2 => ?_)
  · have hw := hw.1 c2
    refine lv_iconst (v := 0) X.1 X.2.1 dX11_hasBook_14 (by decide) ?_
    exact j15 0 S _ _ ls (lv_sub hl [] rfl) h hle f_a0 hw
  · have hw := hw.2 c2
    refine lv_iconst (v := 1) X.1 X.2.1 dX11_hasBook_10 (by decide) ?_
    refine lv_goto (tgt := 15) X.1 X.2.1 dX11_hasBook_11 (by decide) ?_
    exact j15 1 S _ _ ls (lv_sub hl [] rfl) h hle f_a0 hw
theorem dX11_duty_0 : decode cX11_duty 0 = .ok (.aload_n 0, 1) := by decide +kernel
theorem dX11_duty_1 : decode cX11_duty 1 = .ok (.invokevirtual 78, 3) := by decide +kernel
theorem dX11_duty_4 : decode cX11_duty 4 = .ok (.ifCond .ne 5, 3) := by decide +kernel
theorem dX11_duty_7 : decode cX11_duty 7 = .ok (.iconst (-1), 1) := by decide +kernel
theorem dX11_duty_8 : decode cX11_duty 8 = .ok (.ireturn, 1) := by decide +kernel
theorem dX11_duty_9 : decode cX11_duty 9 = .ok (.iload_n 1, 1) := by decide +kernel
theorem dX11_duty_10 : decode cX11_duty 10 = .ok (.iconst (-1), 1) := by decide +kernel
theorem dX11_duty_11 : decode cX11_duty 11 = .ok (.if_icmp .ne 19, 3) := by decide +kernel
theorem dX11_duty_14 : decode cX11_duty 14 = .ok (.iload_n 2, 1) := by decide +kernel
theorem dX11_duty_15 : decode cX11_duty 15 = .ok (.ifCond .ne 13, 3) := by decide +kernel
theorem dX11_duty_18 : decode cX11_duty 18 = .ok (.aload_n 0, 1) := by decide +kernel
theorem dX11_duty_19 : decode cX11_duty 19 = .ok (.getfield 18, 3) := by decide +kernel
theorem dX11_duty_22 : decode cX11_duty 22 = .ok (.getfield 82, 3) := by decide +kernel
theorem dX11_duty_25 : decode cX11_duty 25 = .ok (.goto 4, 3) := by decide +kernel
theorem dX11_duty_28 : decode cX11_duty 28 = .ok (.iconst (-1), 1) := by decide +kernel
theorem dX11_duty_29 : decode cX11_duty 29 = .ok (.ireturn, 1) := by decide +kernel
theorem dX11_duty_30 : decode cX11_duty 30 = .ok (.aload_n 0, 1) := by decide +kernel
theorem dX11_duty_31 : decode cX11_duty 31 = .ok (.getfield 18, 3) := by decide +kernel
theorem dX11_duty_34 : decode cX11_duty 34 = .ok (.iload_n 1, 1) := by decide +kernel
theorem dX11_duty_35 : decode cX11_duty 35 = .ok (.iload_n 2, 1) := by decide +kernel
theorem dX11_duty_36 : decode cX11_duty 36 = .ok (.invokevirtual 85, 3) := by decide +kernel
theorem dX11_duty_39 : decode cX11_duty 39 = .ok (.ireturn, 1) := by decide +kernel
def wX11_duty_b29 (a0 : Nat) (x1 : Int32) (x2 : Int32) (xt0 : Int32)  (Sn : kp_S) (post : Int32 → kp_S → Prop) : Prop :=
  post xt0 Sn
def wX11_duty (a0 : Nat) (x1 : Int32) (x2 : Int32) (S : kp_S) (post : Int32 → kp_S → Prop) : Prop :=
  wX11_hasBook a0 S (fun y2 T1 =>
  ((¬ y2 = 0 →
  ((¬ x1 = (-1) →
  ∃ b3 : Nat, kp_R T1 2205 a0 = some b3 ∧
  wX0_dutyFact b3 x1 x2 T1 (fun y5 T4 =>
  post y5 T4)) ∧ (x1 = (-1) →
  ((¬ x2 = 0 →
  wX11_duty_b29 a0 x1 x2 (-1)  T1 post) ∧ (x2 = 0 →
  ∃ b6 : Nat, kp_R T1 2205 a0 = some b6 ∧
  wX11_duty_b29 a0 x1 x2 (kp_I T1 3 b6)  T1 post))))) ∧ (y2 = 0 →
  post (-1) T1)))
set_option maxHeartbeats 4000000 in
set_option maxRecDepth 100000 in
theorem c_X11_duty (l : Launch) (D : va_G) (cy : Nat → ClassId) (ad : (Nat → Nat) × (Nat → Nat)) (S : kp_S) (a0 : Nat) (x1 : Int32) (x2 : Int32) (post : Int32 → kp_S → Prop) (hS : kp_ok S) (f_a0 : kp_is S a0 11) (hw : wX11_duty a0 x1 x2 S post) : kp_M l yX11_duty cX11_duty 3 (some .int) { frames := 2, cells := 0, slots := 0, locals := 45 } D cy ad S [.ref a0, .int x1, .int x2] 0 0 (fun A => kp_Qi D cy A S post) := by
  refine kp_start (own := RX11) (by decide) rfl (Nat.le_of_ble_eq_true rfl) hS ?_
  intro p e s m below meth c A ls X hr hlocks hname h hl
  have hle : kp_le S S := kp_le.rf
  have hl : lv_has ls 3 [(0, .ref a0), (1, .int x1), (2, .int x2)] := hl
  have j29 : ∀ (xt0 : Int32) (Sn : kp_S) (H : Heap) (locs : List Loc) (ls : Array Slot), lv_has ls 3 [] → kp_H D cy A Sn s.heap H locs → kp_le S Sn → kp_is Sn a0 11 → wX11_duty_b29 a0 x1 x2 xt0  Sn post → W p l e { frames := 2, cells := 0, slots := 0, locals := 45 } s m ([.ref a0, .int x1, .int x2] : List Value).toArray below meth c H locs 0 0 (MQ below (kp_Qi D cy A S post) ([.ref a0, .int x1, .int x2] : List Value).toArray s 0 0 A) (F0 m 29 ls [.int xt0]) := by
    intro xt0 Sn H locs ls hl h hle f_a0 hw
    unfold wX11_duty_b29 at hw
    exact kp_reti X hr hlocks h hle rfl hw dX11_duty_29
  unfold wX11_duty at hw
  have h : kp_H D cy A S s.heap s.heap [] := h
  revert h
  intro h
  refine lv_aload_n X.1 X.2.1 dX11_duty_0 rfl (lv_at hl 0 rfl) ?_
  refine kp_calli X h (kp_runV (rm := { frames := 0, cells := 0, slots := 0, locals := 0 }) (mc := 0) (ms := 0) (rest := []) (Qc := fun A => kp_Qi D cy A S _) X h (c_X11_hasBook l D cy ad S a0 _ h.2.2.2 f_a0 hw) f_a0 cv_11_78 ⟨by decide, by decide, rfl, rfl, by decide, by decide⟩ rfl hl.1 rfl (Nat.le_of_ble_eq_true rfl) dX11_duty_1) (fun y2 T1 hw l_T1 H locs h => ?_)
  have f_a0 := l_T1.is f_a0
  have hle := hle.tr l_T1
  refine lv_if_ne (tgt := 9) X.1 X.2.1 dX11_duty_4 (by decide) (fun c9 => ?_) (fun c9 => ?_)
  · have hw := hw.1 c9
    refine lv_iload_n X.1 X.2.1 dX11_duty_9 rfl (lv_at hl 1 rfl) ?_
    refine lv_iconst (v := (-1)) X.1 X.2.1 dX11_duty_10 (by decide) ?_
    refine lv_icmp_ne (tgt := 30) X.1 X.2.1 dX11_duty_11 (by decide) (fun c8 => ?_) (fun c8 => ?_)
    · have hw := hw.1 c8
      refine lv_aload_n X.1 X.2.1 dX11_duty_30 rfl (lv_at hl 0 rfl) ?_
      obtain ⟨b3, e_b3, hw⟩ := hw
      have f_b3 := h.2.2.2.rf (c := 11) (k := 5) f_a0 (by decide) (by decide) e_b3 (t := 0) rfl
      refine kp_get X h f_a0 fp_11_18.l (v := .ref b3) (congrArg va_rf e_b3) dX11_duty_31 ?_
      refine lv_iload_n X.1 X.2.1 dX11_duty_34 rfl (lv_at hl 1 rfl) ?_
      refine lv_iload_n X.1 X.2.1 dX11_duty_35 rfl (lv_at hl 2 rfl) ?_
      refine kp_calli X h (kp_runV (rm := { frames := 1, cells := 0, slots := 0, locals := 23 }) (mc := 0) (ms := 0) (rest := []) (Qc := fun A => kp_Qi D cy A T1 _) X h (c_X0_dutyFact l D cy ad T1 b3 x1 x2 _ h.2.2.2 f_b3 hw) f_b3 cv_11_85 ⟨by decide, by decide, rfl, rfl, by decide, by decide⟩ rfl hl.1 rfl (Nat.le_of_ble_eq_true rfl) dX11_duty_36) (fun y5 T4 hw l_T4 H locs h => ?_)
      have f_a0 := l_T4.is f_a0
      have f_b3 := l_T4.is f_b3
      have hle := hle.tr l_T4
      exact kp_reti X hr hlocks h hle rfl hw dX11_duty_39
    · have hw := hw.2 c8
      refine lv_iload_n X.1 X.2.1 dX11_duty_14 rfl (lv_at hl 2 rfl) ?_
      refine lv_if_ne (tgt := 28) X.1 X.2.1 dX11_duty_15 (by decide) (fun c7 => ?_) (fun c7 => ?_)
      · have hw := hw.1 c7
        refine lv_iconst (v := (-1)) X.1 X.2.1 dX11_duty_28 (by decide) ?_
        exact j29 (-1) T1 _ _ ls (lv_sub hl [] rfl) h hle f_a0 hw
      · have hw := hw.2 c7
        refine lv_aload_n X.1 X.2.1 dX11_duty_18 rfl (lv_at hl 0 rfl) ?_
        obtain ⟨b6, e_b6, hw⟩ := hw
        have f_b6 := h.2.2.2.rf (c := 11) (k := 5) f_a0 (by decide) (by decide) e_b6 (t := 0) rfl
        refine kp_get X h f_a0 fp_11_18.l (v := .ref b6) (congrArg va_rf e_b6) dX11_duty_19 ?_
        refine kp_get X h f_b6 fp_11_82.l (v := .int (kp_I T1 3 b6)) rfl dX11_duty_22 ?_
        refine lv_goto (tgt := 29) X.1 X.2.1 dX11_duty_25 (by decide) ?_
        exact j29 (kp_I T1 3 b6) T1 _ _ ls (lv_sub hl [] rfl) h hle f_a0 hw
  · have hw := hw.2 c9
    refine lv_iconst (v := (-1)) X.1 X.2.1 dX11_duty_7 (by decide) ?_
    exact kp_reti X hr hlocks h hle rfl hw dX11_duty_8
theorem dX11_fill_0 : decode cX11_fill 0 = .ok (.aload_n 0, 1) := by decide +kernel
theorem dX11_fill_1 : decode cX11_fill 1 = .ok (.getfield 34, 3) := by decide +kernel
theorem dX11_fill_4 : decode cX11_fill 4 = .ok (.iload_n 1, 1) := by decide +kernel
theorem dX11_fill_5 : decode cX11_fill 5 = .ok (.iload_n 2, 1) := by decide +kernel
theorem dX11_fill_6 : decode cX11_fill 6 = .ok (.invokevirtual 89, 3) := by decide +kernel
theorem dX11_fill_9 : decode cX11_fill 9 = .ok (.ireturn, 1) := by decide +kernel
def wX11_fill (a0 : Nat) (x1 : Int32) (x2 : Int32) (S : kp_S) (post : Int32 → kp_S → Prop) : Prop :=
  ∃ b1 : Nat, kp_R S 2202 a0 = some b1 ∧
  wX1_fillReach b1 x1 x2 S (fun y3 T2 =>
  kp_b y3 ∧ post y3 T2)
set_option maxHeartbeats 4000000 in
set_option maxRecDepth 100000 in
theorem c_X11_fill (l : Launch) (D : va_G) (cy : Nat → ClassId) (ad : (Nat → Nat) × (Nat → Nat)) (S : kp_S) (a0 : Nat) (x1 : Int32) (x2 : Int32) (post : Int32 → kp_S → Prop) (hS : kp_ok S) (f_a0 : kp_is S a0 11) (hw : wX11_fill a0 x1 x2 S post) : kp_M l yX11_fill cX11_fill 3 (some .boolean) { frames := 2, cells := 0, slots := 0, locals := 42 } D cy ad S [.ref a0, .int x1, .int x2] 0 0 (fun A => kp_Qi D cy A S post) := by
  refine kp_start (own := RX11) (by decide) rfl (Nat.le_of_ble_eq_true rfl) hS ?_
  intro p e s m below meth c A ls X hr hlocks hname h hl
  have hle : kp_le S S := kp_le.rf
  have hl : lv_has ls 3 [(0, .ref a0), (1, .int x1), (2, .int x2)] := hl
  unfold wX11_fill at hw
  have h : kp_H D cy A S s.heap s.heap [] := h
  revert h
  intro h
  refine lv_aload_n X.1 X.2.1 dX11_fill_0 rfl (lv_at hl 0 rfl) ?_
  obtain ⟨b1, e_b1, hw⟩ := hw
  have f_b1 := h.2.2.2.rf (c := 11) (k := 2) f_a0 (by decide) (by decide) e_b1 (t := 1) rfl
  refine kp_get X h f_a0 ff_11_34.l (v := .ref b1) (congrArg va_rf e_b1) dX11_fill_1 ?_
  refine lv_iload_n X.1 X.2.1 dX11_fill_4 rfl (lv_at hl 1 rfl) ?_
  refine lv_iload_n X.1 X.2.1 dX11_fill_5 rfl (lv_at hl 2 rfl) ?_
  refine kp_calli X h (kp_runV (rm := { frames := 1, cells := 0, slots := 0, locals := 20 }) (mc := 0) (ms := 0) (rest := []) (Qc := fun A => kp_Qi D cy A S _) X h (c_X1_fillReach l D cy ad S b1 x1 x2 _ h.2.2.2 f_b1 hw) f_b1 cv_11_89 ⟨by decide, by decide, rfl, rfl, by decide, by decide⟩ rfl hl.1 rfl (Nat.le_of_ble_eq_true rfl) dX11_fill_6) (fun y3 T2 hw l_T2 H locs h => ?_)
  have f_a0 := l_T2.is f_a0
  have f_b1 := l_T2.is f_b1
  have hle := hle.tr l_T2
  exact kp_reti X hr hlocks h hle (kp_bz hw.1).1 hw.2 dX11_fill_9
theorem dX11_chamber_0 : decode cX11_chamber 0 = .ok (.aload_n 0, 1) := by decide +kernel
theorem dX11_chamber_1 : decode cX11_chamber 1 = .ok (.getfield 34, 3) := by decide +kernel
theorem dX11_chamber_4 : decode cX11_chamber 4 = .ok (.iload_n 1, 1) := by decide +kernel
theorem dX11_chamber_5 : decode cX11_chamber 5 = .ok (.iload_n 2, 1) := by decide +kernel
theorem dX11_chamber_6 : decode cX11_chamber 6 = .ok (.invokevirtual 93, 3) := by decide +kernel
theorem dX11_chamber_9 : decode cX11_chamber 9 = .ok (.ireturn, 1) := by decide +kernel
def wX11_chamber (a0 : Nat) (x1 : Int32) (x2 : Int32) (S : kp_S) (post : Int32 → kp_S → Prop) : Prop :=
  ∃ b1 : Nat, kp_R S 2202 a0 = some b1 ∧
  wX1_fillChamber b1 x1 x2 S (fun y3 T2 =>
  kp_b y3 ∧ post y3 T2)
set_option maxHeartbeats 4000000 in
set_option maxRecDepth 100000 in
theorem c_X11_chamber (l : Launch) (D : va_G) (cy : Nat → ClassId) (ad : (Nat → Nat) × (Nat → Nat)) (S : kp_S) (a0 : Nat) (x1 : Int32) (x2 : Int32) (post : Int32 → kp_S → Prop) (hS : kp_ok S) (f_a0 : kp_is S a0 11) (hw : wX11_chamber a0 x1 x2 S post) : kp_M l yX11_chamber cX11_chamber 3 (some .boolean) { frames := 3, cells := 0, slots := 0, locals := 65 } D cy ad S [.ref a0, .int x1, .int x2] 0 0 (fun A => kp_Qi D cy A S post) := by
  refine kp_start (own := RX11) (by decide) rfl (Nat.le_of_ble_eq_true rfl) hS ?_
  intro p e s m below meth c A ls X hr hlocks hname h hl
  have hle : kp_le S S := kp_le.rf
  have hl : lv_has ls 3 [(0, .ref a0), (1, .int x1), (2, .int x2)] := hl
  unfold wX11_chamber at hw
  have h : kp_H D cy A S s.heap s.heap [] := h
  revert h
  intro h
  refine lv_aload_n X.1 X.2.1 dX11_chamber_0 rfl (lv_at hl 0 rfl) ?_
  obtain ⟨b1, e_b1, hw⟩ := hw
  have f_b1 := h.2.2.2.rf (c := 11) (k := 2) f_a0 (by decide) (by decide) e_b1 (t := 1) rfl
  refine kp_get X h f_a0 ff_11_34.l (v := .ref b1) (congrArg va_rf e_b1) dX11_chamber_1 ?_
  refine lv_iload_n X.1 X.2.1 dX11_chamber_4 rfl (lv_at hl 1 rfl) ?_
  refine lv_iload_n X.1 X.2.1 dX11_chamber_5 rfl (lv_at hl 2 rfl) ?_
  refine kp_calli X h (kp_runV (rm := { frames := 2, cells := 0, slots := 0, locals := 43 }) (mc := 0) (ms := 0) (rest := []) (Qc := fun A => kp_Qi D cy A S _) X h (c_X1_fillChamber l D cy ad S b1 x1 x2 _ h.2.2.2 f_b1 hw) f_b1 cv_11_93 ⟨by decide, by decide, rfl, rfl, by decide, by decide⟩ rfl hl.1 rfl (Nat.le_of_ble_eq_true rfl) dX11_chamber_6) (fun y3 T2 hw l_T2 H locs h => ?_)
  have f_a0 := l_T2.is f_a0
  have f_b1 := l_T2.is f_b1
  have hle := hle.tr l_T2
  exact kp_reti X hr hlocks h hle (kp_bz hw.1).1 hw.2 dX11_chamber_9
theorem dX11_berth_0 : decode cX11_berth 0 = .ok (.aload_n 0, 1) := by decide +kernel
theorem dX11_berth_1 : decode cX11_berth 1 = .ok (.getfield 34, 3) := by decide +kernel
theorem dX11_berth_4 : decode cX11_berth 4 = .ok (.iload_n 1, 1) := by decide +kernel
theorem dX11_berth_5 : decode cX11_berth 5 = .ok (.iload_n 2, 1) := by decide +kernel
theorem dX11_berth_6 : decode cX11_berth 6 = .ok (.invokevirtual 96, 3) := by decide +kernel
theorem dX11_berth_9 : decode cX11_berth 9 = .ok (.ireturn, 1) := by decide +kernel
def wX11_berth (a0 : Nat) (x1 : Int32) (x2 : Int32) (S : kp_S) (post : Int32 → kp_S → Prop) : Prop :=
  ∃ b1 : Nat, kp_R S 2202 a0 = some b1 ∧
  wX1_layShip b1 x1 x2 S (fun y3 T2 =>
  kp_b y3 ∧ post y3 T2)
set_option maxHeartbeats 4000000 in
set_option maxRecDepth 100000 in
theorem c_X11_berth (l : Launch) (D : va_G) (cy : Nat → ClassId) (ad : (Nat → Nat) × (Nat → Nat)) (S : kp_S) (a0 : Nat) (x1 : Int32) (x2 : Int32) (post : Int32 → kp_S → Prop) (hS : kp_ok S) (f_a0 : kp_is S a0 11) (hw : wX11_berth a0 x1 x2 S post) : kp_M l yX11_berth cX11_berth 3 (some .boolean) { frames := 2, cells := 0, slots := 0, locals := 45 } D cy ad S [.ref a0, .int x1, .int x2] 0 0 (fun A => kp_Qi D cy A S post) := by
  refine kp_start (own := RX11) (by decide) rfl (Nat.le_of_ble_eq_true rfl) hS ?_
  intro p e s m below meth c A ls X hr hlocks hname h hl
  have hle : kp_le S S := kp_le.rf
  have hl : lv_has ls 3 [(0, .ref a0), (1, .int x1), (2, .int x2)] := hl
  unfold wX11_berth at hw
  have h : kp_H D cy A S s.heap s.heap [] := h
  revert h
  intro h
  refine lv_aload_n X.1 X.2.1 dX11_berth_0 rfl (lv_at hl 0 rfl) ?_
  obtain ⟨b1, e_b1, hw⟩ := hw
  have f_b1 := h.2.2.2.rf (c := 11) (k := 2) f_a0 (by decide) (by decide) e_b1 (t := 1) rfl
  refine kp_get X h f_a0 ff_11_34.l (v := .ref b1) (congrArg va_rf e_b1) dX11_berth_1 ?_
  refine lv_iload_n X.1 X.2.1 dX11_berth_4 rfl (lv_at hl 1 rfl) ?_
  refine lv_iload_n X.1 X.2.1 dX11_berth_5 rfl (lv_at hl 2 rfl) ?_
  refine kp_calli X h (kp_runV (rm := { frames := 1, cells := 0, slots := 0, locals := 23 }) (mc := 0) (ms := 0) (rest := []) (Qc := fun A => kp_Qi D cy A S _) X h (c_X1_layShip l D cy ad S b1 x1 x2 _ h.2.2.2 f_b1 hw) f_b1 cv_11_96 ⟨by decide, by decide, rfl, rfl, by decide, by decide⟩ rfl hl.1 rfl (Nat.le_of_ble_eq_true rfl) dX11_berth_6) (fun y3 T2 hw l_T2 H locs h => ?_)
  have f_a0 := l_T2.is f_a0
  have f_b1 := l_T2.is f_b1
  have hle := hle.tr l_T2
  exact kp_reti X hr hlocks h hle (kp_bz hw.1).1 hw.2 dX11_berth_9
theorem dX11_told_0 : decode cX11_told 0 = .ok (.aload_n 0, 1) := by decide +kernel
theorem dX11_told_1 : decode cX11_told 1 = .ok (.getfield 41, 3) := by decide +kernel
theorem dX11_told_4 : decode cX11_told 4 = .ok (.iload_n 1, 1) := by decide +kernel
theorem dX11_told_5 : decode cX11_told 5 = .ok (.invokevirtual 99, 3) := by decide +kernel
theorem dX11_told_8 : decode cX11_told 8 = .ok (.ireturn, 1) := by decide +kernel
def wX11_told (a0 : Nat) (x1 : Int32) (S : kp_S) (post : Int32 → kp_S → Prop) : Prop :=
  ∃ b1 : Nat, kp_R S 2203 a0 = some b1 ∧
  wX7_get b1 x1 S (fun y3 T2 =>
  post y3 T2)
set_option maxHeartbeats 4000000 in
set_option maxRecDepth 100000 in
theorem c_X11_told (l : Launch) (D : va_G) (cy : Nat → ClassId) (ad : (Nat → Nat) × (Nat → Nat)) (S : kp_S) (a0 : Nat) (x1 : Int32) (post : Int32 → kp_S → Prop) (hS : kp_ok S) (f_a0 : kp_is S a0 11) (hw : wX11_told a0 x1 S post) : kp_M l yX11_told cX11_told 2 (some .int) { frames := 1, cells := 0, slots := 0, locals := 21 } D cy ad S [.ref a0, .int x1] 0 0 (fun A => kp_Qi D cy A S post) := by
  refine kp_start (own := RX11) (by decide) rfl (Nat.le_of_ble_eq_true rfl) hS ?_
  intro p e s m below meth c A ls X hr hlocks hname h hl
  have hle : kp_le S S := kp_le.rf
  have hl : lv_has ls 2 [(0, .ref a0), (1, .int x1)] := hl
  unfold wX11_told at hw
  have h : kp_H D cy A S s.heap s.heap [] := h
  revert h
  intro h
  refine lv_aload_n X.1 X.2.1 dX11_told_0 rfl (lv_at hl 0 rfl) ?_
  obtain ⟨b1, e_b1, hw⟩ := hw
  have f_b1 := h.2.2.2.rf (c := 11) (k := 3) f_a0 (by decide) (by decide) e_b1 (t := 7) rfl
  refine kp_get X h f_a0 ff_11_41.l (v := .ref b1) (congrArg va_rf e_b1) dX11_told_1 ?_
  refine lv_iload_n X.1 X.2.1 dX11_told_4 rfl (lv_at hl 1 rfl) ?_
  refine kp_calli X h (kp_runV (rm := { frames := 0, cells := 0, slots := 0, locals := 0 }) (mc := 0) (ms := 0) (rest := []) (Qc := fun A => kp_Qi D cy A S _) X h (c_X7_get l D cy ad S b1 x1 _ h.2.2.2 f_b1 hw) f_b1 cv_11_99 ⟨by decide, by decide, rfl, rfl, by decide, by decide⟩ rfl hl.1 rfl (Nat.le_of_ble_eq_true rfl) dX11_told_5) (fun y3 T2 hw l_T2 H locs h => ?_)
  have f_a0 := l_T2.is f_a0
  have f_b1 := l_T2.is f_b1
  have hle := hle.tr l_T2
  exact kp_reti X hr hlocks h hle rfl hw dX11_told_8
theorem dX11_log_0 : decode cX11_log 0 = .ok (.aload_n 0, 1) := by decide +kernel
theorem dX11_log_1 : decode cX11_log 1 = .ok (.getfield 41, 3) := by decide +kernel
theorem dX11_log_4 : decode cX11_log 4 = .ok (.iload_n 1, 1) := by decide +kernel
theorem dX11_log_5 : decode cX11_log 5 = .ok (.iload_n 2, 1) := by decide +kernel
theorem dX11_log_6 : decode cX11_log 6 = .ok (.invokevirtual 114, 3) := by decide +kernel
theorem dX11_log_9 : decode cX11_log 9 = .ok (.ireturn, 1) := by decide +kernel
def wX11_log (a0 : Nat) (x1 : Int32) (x2 : Int32) (S : kp_S) (post : Int32 → kp_S → Prop) : Prop :=
  ∃ b1 : Nat, kp_R S 2203 a0 = some b1 ∧
  wX7_entry b1 x1 x2 S (fun y3 T2 =>
  post y3 T2)
set_option maxHeartbeats 4000000 in
set_option maxRecDepth 100000 in
theorem c_X11_log (l : Launch) (D : va_G) (cy : Nat → ClassId) (ad : (Nat → Nat) × (Nat → Nat)) (S : kp_S) (a0 : Nat) (x1 : Int32) (x2 : Int32) (post : Int32 → kp_S → Prop) (hS : kp_ok S) (f_a0 : kp_is S a0 11) (hw : wX11_log a0 x1 x2 S post) : kp_M l yX11_log cX11_log 3 (some .int) { frames := 1, cells := 0, slots := 0, locals := 22 } D cy ad S [.ref a0, .int x1, .int x2] 0 0 (fun A => kp_Qi D cy A S post) := by
  refine kp_start (own := RX11) (by decide) rfl (Nat.le_of_ble_eq_true rfl) hS ?_
  intro p e s m below meth c A ls X hr hlocks hname h hl
  have hle : kp_le S S := kp_le.rf
  have hl : lv_has ls 3 [(0, .ref a0), (1, .int x1), (2, .int x2)] := hl
  unfold wX11_log at hw
  have h : kp_H D cy A S s.heap s.heap [] := h
  revert h
  intro h
  refine lv_aload_n X.1 X.2.1 dX11_log_0 rfl (lv_at hl 0 rfl) ?_
  obtain ⟨b1, e_b1, hw⟩ := hw
  have f_b1 := h.2.2.2.rf (c := 11) (k := 3) f_a0 (by decide) (by decide) e_b1 (t := 7) rfl
  refine kp_get X h f_a0 ff_11_41.l (v := .ref b1) (congrArg va_rf e_b1) dX11_log_1 ?_
  refine lv_iload_n X.1 X.2.1 dX11_log_4 rfl (lv_at hl 1 rfl) ?_
  refine lv_iload_n X.1 X.2.1 dX11_log_5 rfl (lv_at hl 2 rfl) ?_
  refine kp_calli X h (kp_runV (rm := { frames := 0, cells := 0, slots := 0, locals := 0 }) (mc := 0) (ms := 0) (rest := []) (Qc := fun A => kp_Qi D cy A S _) X h (c_X7_entry l D cy ad S b1 x1 x2 _ h.2.2.2 f_b1 hw) f_b1 cv_11_114 ⟨by decide, by decide, rfl, rfl, by decide, by decide⟩ rfl hl.1 rfl (Nat.le_of_ble_eq_true rfl) dX11_log_6) (fun y3 T2 hw l_T2 H locs h => ?_)
  have f_a0 := l_T2.is f_a0
  have f_b1 := l_T2.is f_b1
  have hle := hle.tr l_T2
  exact kp_reti X hr hlocks h hle rfl hw dX11_log_9
theorem dX11_look_0 : decode cX11_look 0 = .ok (.aload_n 0, 1) := by decide +kernel
theorem dX11_look_1 : decode cX11_look 1 = .ok (.getfield 34, 3) := by decide +kernel
theorem dX11_look_4 : decode cX11_look 4 = .ok (.iload_n 1, 1) := by decide +kernel
theorem dX11_look_5 : decode cX11_look 5 = .ok (.iload_n 2, 1) := by decide +kernel
theorem dX11_look_6 : decode cX11_look 6 = .ok (.invokevirtual 117, 3) := by decide +kernel
theorem dX11_look_9 : decode cX11_look 9 = .ok (.ireturn, 1) := by decide +kernel
def wX11_look (a0 : Nat) (x1 : Int32) (x2 : Int32) (S : kp_S) (post : Int32 → kp_S → Prop) : Prop :=
  ∃ b1 : Nat, kp_R S 2202 a0 = some b1 ∧
  wX1_fact b1 x1 x2 S (fun y3 T2 =>
  post y3 T2)
set_option maxHeartbeats 4000000 in
set_option maxRecDepth 100000 in
theorem c_X11_look (l : Launch) (D : va_G) (cy : Nat → ClassId) (ad : (Nat → Nat) × (Nat → Nat)) (S : kp_S) (a0 : Nat) (x1 : Int32) (x2 : Int32) (post : Int32 → kp_S → Prop) (hS : kp_ok S) (f_a0 : kp_is S a0 11) (hw : wX11_look a0 x1 x2 S post) : kp_M l yX11_look cX11_look 3 (some .int) { frames := 3, cells := 0, slots := 0, locals := 65 } D cy ad S [.ref a0, .int x1, .int x2] 0 0 (fun A => kp_Qi D cy A S post) := by
  refine kp_start (own := RX11) (by decide) rfl (Nat.le_of_ble_eq_true rfl) hS ?_
  intro p e s m below meth c A ls X hr hlocks hname h hl
  have hle : kp_le S S := kp_le.rf
  have hl : lv_has ls 3 [(0, .ref a0), (1, .int x1), (2, .int x2)] := hl
  unfold wX11_look at hw
  have h : kp_H D cy A S s.heap s.heap [] := h
  revert h
  intro h
  refine lv_aload_n X.1 X.2.1 dX11_look_0 rfl (lv_at hl 0 rfl) ?_
  obtain ⟨b1, e_b1, hw⟩ := hw
  have f_b1 := h.2.2.2.rf (c := 11) (k := 2) f_a0 (by decide) (by decide) e_b1 (t := 1) rfl
  refine kp_get X h f_a0 ff_11_34.l (v := .ref b1) (congrArg va_rf e_b1) dX11_look_1 ?_
  refine lv_iload_n X.1 X.2.1 dX11_look_4 rfl (lv_at hl 1 rfl) ?_
  refine lv_iload_n X.1 X.2.1 dX11_look_5 rfl (lv_at hl 2 rfl) ?_
  refine kp_calli X h (kp_runV (rm := { frames := 2, cells := 0, slots := 0, locals := 43 }) (mc := 0) (ms := 0) (rest := []) (Qc := fun A => kp_Qi D cy A S _) X h (c_X1_fact l D cy ad S b1 x1 x2 _ h.2.2.2 f_b1 hw) f_b1 cv_11_117 ⟨by decide, by decide, rfl, rfl, by decide, by decide⟩ rfl hl.1 rfl (Nat.le_of_ble_eq_true rfl) dX11_look_6) (fun y3 T2 hw l_T2 H locs h => ?_)
  have f_a0 := l_T2.is f_a0
  have f_b1 := l_T2.is f_b1
  have hle := hle.tr l_T2
  exact kp_reti X hr hlocks h hle rfl hw dX11_look_9
