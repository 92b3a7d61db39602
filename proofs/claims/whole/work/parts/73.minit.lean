theorem cw_12_7 : kp_CVs RX12 7 yJ0_length_8abf5 cJ0_length_8abf5 1 (some .int) 0 := ⟨⟨kp_mem 274 (by decide +kernel) (by decide +kernel), kp_mem 208 (by decide +kernel) (by decide +kernel), by decide +kernel⟩, kp_mem 1651 (by decide +kernel) (by decide +kernel), kp_mem 272 (by decide +kernel) (by decide +kernel), kp_mem 273 (by decide +kernel) (by decide +kernel), rfl⟩
theorem cw_12_13 : kp_CVs RX12 13 yJ0_charAt_5068e cJ0_charAt_5068e 2 (some .char) 1 := ⟨⟨kp_mem 284 (by decide +kernel) (by decide +kernel), kp_mem 208 (by decide +kernel) (by decide +kernel), by decide +kernel⟩, kp_mem 1652 (by decide +kernel) (by decide +kernel), kp_mem 282 (by decide +kernel) (by decide +kernel), kp_mem 283 (by decide +kernel) (by decide +kernel), rfl⟩
theorem cs_12_250 : kp_CS RX12 250 yX12_packed cX12_packed 4 (some .long) 1 := ⟨⟨kp_mem 1650 (by decide +kernel) (by decide +kernel), kp_mem 220 (by decide +kernel) (by decide +kernel), by decide +kernel⟩, kp_mem 1648 (by decide +kernel) (by decide +kernel), kp_mem 1649 (by decide +kernel) (by decide +kernel)⟩
theorem ac_16 : Cond.arrayClass .boolean ∈ kp_tb := kp_mem 2068 (by decide +kernel) (by decide +kernel)
theorem oi_12_17 : Cond.methodLink RX12 17 objectInit ∈ kp_tb := kp_mem 1646 (by decide +kernel) (by decide +kernel)
theorem dX12_packed_0 : decode cX12_packed 0 = .ok (.lconst 0, 1) := by decide +kernel
theorem dX12_packed_1 : decode cX12_packed 1 = .ok (.lstore_n 1, 1) := by decide +kernel
theorem dX12_packed_2 : decode cX12_packed 2 = .ok (.iconst 0, 1) := by decide +kernel
theorem dX12_packed_3 : decode cX12_packed 3 = .ok (.istore_n 3, 1) := by decide +kernel
theorem dX12_packed_4 : decode cX12_packed 4 = .ok (.iload_n 3, 1) := by decide +kernel
theorem dX12_packed_5 : decode cX12_packed 5 = .ok (.aload_n 0, 1) := by decide +kernel
theorem dX12_packed_6 : decode cX12_packed 6 = .ok (.invokevirtual 7, 3) := by decide +kernel
theorem dX12_packed_9 : decode cX12_packed 9 = .ok (.if_icmp .ge 21, 3) := by decide +kernel
theorem dX12_packed_12 : decode cX12_packed 12 = .ok (.lload_n 1, 1) := by decide +kernel
theorem dX12_packed_13 : decode cX12_packed 13 = .ok (.bipush 8, 2) := by decide +kernel
theorem dX12_packed_15 : decode cX12_packed 15 = .ok (.lshl, 1) := by decide +kernel
theorem dX12_packed_16 : decode cX12_packed 16 = .ok (.aload_n 0, 1) := by decide +kernel
theorem dX12_packed_17 : decode cX12_packed 17 = .ok (.iload_n 3, 1) := by decide +kernel
theorem dX12_packed_18 : decode cX12_packed 18 = .ok (.invokevirtual 13, 3) := by decide +kernel
theorem dX12_packed_21 : decode cX12_packed 21 = .ok (.i2l, 1) := by decide +kernel
theorem dX12_packed_22 : decode cX12_packed 22 = .ok (.lor, 1) := by decide +kernel
theorem dX12_packed_23 : decode cX12_packed 23 = .ok (.lstore_n 1, 1) := by decide +kernel
theorem dX12_packed_24 : decode cX12_packed 24 = .ok (.iinc 3 1, 3) := by decide +kernel
theorem dX12_packed_27 : decode cX12_packed 27 = .ok (.goto (-23), 3) := by decide +kernel
theorem dX12_packed_30 : decode cX12_packed 30 = .ok (.lload_n 1, 1) := by decide +kernel
theorem dX12_packed_31 : decode cX12_packed 31 = .ok (.lreturn, 1) := by decide +kernel
def wX12_packed_L4 (i0 : Nat)  (post : Int64 → kp_S → Prop) : Nat → Int64 → Int32 → kp_S → Prop
  | 0, _, _, _ => False
  | n + 1, wn1, xn3, Sn =>
  wJ0_length_8abf5 i0 Sn (fun y1002 T1001 =>
  ((y1002 ≤ xn3 →
  post wn1 T1001) ∧ (¬ y1002 ≤ xn3 →
  wJ0_charAt_5068e i0 xn3 T1001 (fun y1004 T1003 =>
  ∀ z1005 : Int64, z1005 = (((wn1 : Int64) <<< ((8 : Int32).toInt64 &&& 63)) ||| ((y1004 : Int32).toInt64)) →
  ∀ y1006 : Int32, y1006 = xn3 + 1 →
  wX12_packed_L4 i0  post n z1005 y1006 T1003))))
def wX12_packed (i0 : Nat) (S : kp_S) (post : Int64 → kp_S → Prop) : Prop :=
  ∃ n0 : Nat, wX12_packed_L4 i0  post n0 0 0 S
set_option maxHeartbeats 4000000 in
set_option maxRecDepth 100000 in
theorem c_X12_packed (l : Launch) (D : va_G) (cy : Nat → ClassId) (ad : (Nat → Nat) × (Nat → Nat)) (S : kp_S) (i0 : Nat) (post : Int64 → kp_S → Prop) (hS : kp_ok S) (f_i0 : i0 < kp_sN) (hw : wX12_packed i0 S post) : kp_M l yX12_packed cX12_packed 4 (some .long) { frames := 4, cells := 0, slots := 0, locals := 85 } D cy ad S [.ref (ad.1 i0)] 0 0 (fun A => kp_Ql D cy A S post) := by
  refine kp_start (own := RX12) (by decide) rfl (Nat.le_of_ble_eq_true rfl) hS ?_
  intro p e s m below meth c A ls X hr hlocks hname h hl
  have hle : kp_le S S := kp_le.rf
  have hl : lv_has ls 4 [(0, .ref (ad.1 i0))] := hl
  have L4 : ∀ n4 : Nat, ∀ (wn1 : Int64) (xn3 : Int32) (Sn : kp_S) (H : Heap) (locs : List Loc) (ls : Array Slot), lv_has ls 4 [(0, .ref (ad.1 i0)), (1, .long wn1), (3, .int xn3)] → kp_H D cy A Sn s.heap H locs → kp_le S Sn → wX12_packed_L4 i0  post n4 wn1 xn3 Sn → W p l e { frames := 4, cells := 0, slots := 0, locals := 85 } s m ([.ref (ad.1 i0)] : List Value).toArray below meth c H locs 0 0 (MQ below (kp_Ql D cy A S post) ([.ref (ad.1 i0)] : List Value).toArray s 0 0 A) (F0 m 4 ls []) := by
    intro n4
    induction n4 with
    | zero => intro wn1 xn3 Sn H locs ls hl h hle  hw; exact hw.elim
    | succ n4 ih4 =>
      intro wn1 xn3 Sn H locs ls hl h hle  hw
      unfold wX12_packed_L4 at hw
      refine lv_iload_n X.1 X.2.1 dX12_packed_4 rfl (lv_at hl 2 rfl) ?_
      refine lv_aload_n X.1 X.2.1 dX12_packed_5 rfl (lv_at hl 0 rfl) ?_
      refine kp_calli X h (kp_runVs (rm := { frames := 1, cells := 0, slots := 0, locals := 20 }) (mc := 0) (ms := 0) (rest := [.int xn3]) (Qc := fun A => kp_Qi D cy A Sn _) X h (c_J0_length_8abf5 l D cy ad Sn i0 _ h.2.2.2 f_i0 hw) f_i0 cw_12_7 ⟨by decide, by decide, rfl, rfl, by decide, by decide⟩ rfl hl.1 rfl (Nat.le_of_ble_eq_true rfl) dX12_packed_6) (fun y1002 T1001 hw l_T1001 H locs h => ?_)
      have hle := hle.tr l_T1001
      refine lv_icmp_ge (tgt := 30) X.1 X.2.1 dX12_packed_9 (by decide) (fun c1007 => ?_) (fun c1007 => ?_)
      · have hw := hw.1 c1007
        refine lv_lload_n X.1 X.2.1 dX12_packed_30 rfl (lv_at hl 1 rfl) ?_
        exact kp_retl X hr hlocks h hle hw dX12_packed_31
      · have hw := hw.2 c1007
        refine lv_lload_n X.1 X.2.1 dX12_packed_12 rfl (lv_at hl 1 rfl) ?_
        refine lv_bipush (v := 8) X.1 X.2.1 dX12_packed_13 (by decide) ?_
        refine lv_lshl X.1 X.2.1 dX12_packed_15 rfl ?_
        refine lv_aload_n X.1 X.2.1 dX12_packed_16 rfl (lv_at hl 0 rfl) ?_
        refine lv_iload_n X.1 X.2.1 dX12_packed_17 rfl (lv_at hl 2 rfl) ?_
        refine kp_calli X h (kp_runVs (rm := { frames := 3, cells := 0, slots := 0, locals := 64 }) (mc := 0) (ms := 0) (rest := [.long ((wn1 : Int64) <<< ((8 : Int32).toInt64 &&& 63))]) (Qc := fun A => kp_Qi D cy A T1001 _) X h (c_J0_charAt_5068e l D cy ad T1001 i0 xn3 _ h.2.2.2 f_i0 hw) f_i0 cw_12_13 ⟨by decide, by decide, rfl, rfl, by decide, by decide⟩ rfl hl.1 rfl (Nat.le_of_ble_eq_true rfl) dX12_packed_18) (fun y1004 T1003 hw l_T1003 H locs h => ?_)
        have hle := hle.tr l_T1003
        refine lv_i2l X.1 X.2.1 dX12_packed_21 rfl ?_
        refine lv_lor X.1 X.2.1 dX12_packed_22 ?_
        refine lv_topl (fun z1005 e_z1005 => ?_)
        have hw := hw z1005 e_z1005
        refine lv_lstore_n (lv' := [(1, .long z1005), (0, .ref (ad.1 i0)), (3, .int xn3)]) X.1 X.2.1 dX12_packed_23 rfl hl (by decide) rfl (fun ls hl => ?_)
        obtain ⟨y1006, e_y1006⟩ : ∃ y : Int32, y = xn3 + 1 := ⟨_, rfl⟩
        have hw := hw y1006 e_y1006
        refine lv_iinc (v := y1006) (lv' := [(3, .int y1006), (1, .long z1005), (0, .ref (ad.1 i0))]) X.1 X.2.1 dX12_packed_24 hl (k := 2) rfl (by rw [e_y1006]; rfl) (by decide) rfl (fun ls hl => ?_)
        refine lv_goto (tgt := 4) X.1 X.2.1 dX12_packed_27 (by decide) ?_
        exact ih4 z1005 y1006 T1003 H locs ls (lv_sub hl [2, 1, 0] rfl) h hle  hw
  unfold wX12_packed at hw
  have h : kp_H D cy A S s.heap s.heap [] := h
  revert h
  intro h
  refine lv_lconst (v := 0) X.1 X.2.1 dX12_packed_0 (by decide) ?_
  refine lv_lstore_n (lv' := [(1, .long 0), (0, .ref (ad.1 i0))]) X.1 X.2.1 dX12_packed_1 rfl hl (by decide) rfl (fun ls hl => ?_)
  refine lv_iconst (v := 0) X.1 X.2.1 dX12_packed_2 (by decide) ?_
  refine lv_istore_n (lv' := [(3, .int 0), (1, .long 0), (0, .ref (ad.1 i0))]) X.1 X.2.1 dX12_packed_3 rfl hl (by decide) rfl (fun ls hl => ?_)
  obtain ⟨n0, hw⟩ := hw
  exact L4 n0 0 0 S _ _ ls (lv_sub hl [2, 1, 0] rfl) h hle  hw
theorem dX12_init_0 : decode cX12_init 0 = .ok (.aload_n 0, 1) := by decide +kernel
theorem dX12_init_1 : decode cX12_init 1 = .ok (.invokespecial 17, 3) := by decide +kernel
theorem dX12_init_4 : decode cX12_init 4 = .ok (.aload_n 0, 1) := by decide +kernel
theorem dX12_init_5 : decode cX12_init 5 = .ok (.sipush 3000, 3) := by decide +kernel
theorem dX12_init_8 : decode cX12_init 8 = .ok (.newarray .int, 2) := by decide +kernel
theorem dX12_init_10 : decode cX12_init 10 = .ok (.putfield 23, 3) := by decide +kernel
theorem dX12_init_13 : decode cX12_init 13 = .ok (.aload_n 0, 1) := by decide +kernel
theorem dX12_init_14 : decode cX12_init 14 = .ok (.bipush 50, 2) := by decide +kernel
theorem dX12_init_16 : decode cX12_init 16 = .ok (.newarray .long, 2) := by decide +kernel
theorem dX12_init_18 : decode cX12_init 18 = .ok (.putfield 27, 3) := by decide +kernel
theorem dX12_init_21 : decode cX12_init 21 = .ok (.aload_n 0, 1) := by decide +kernel
theorem dX12_init_22 : decode cX12_init 22 = .ok (.sipush 3002, 3) := by decide +kernel
theorem dX12_init_25 : decode cX12_init 25 = .ok (.newarray .int, 2) := by decide +kernel
theorem dX12_init_27 : decode cX12_init 27 = .ok (.putfield 31, 3) := by decide +kernel
theorem dX12_init_30 : decode cX12_init 30 = .ok (.aload_n 0, 1) := by decide +kernel
theorem dX12_init_31 : decode cX12_init 31 = .ok (.sipush 3002, 3) := by decide +kernel
theorem dX12_init_34 : decode cX12_init 34 = .ok (.newarray .int, 2) := by decide +kernel
theorem dX12_init_36 : decode cX12_init 36 = .ok (.putfield 34, 3) := by decide +kernel
theorem dX12_init_39 : decode cX12_init 39 = .ok (.aload_n 0, 1) := by decide +kernel
theorem dX12_init_40 : decode cX12_init 40 = .ok (.sipush 3002, 3) := by decide +kernel
theorem dX12_init_43 : decode cX12_init 43 = .ok (.newarray .long, 2) := by decide +kernel
theorem dX12_init_45 : decode cX12_init 45 = .ok (.putfield 37, 3) := by decide +kernel
theorem dX12_init_48 : decode cX12_init 48 = .ok (.aload_n 0, 1) := by decide +kernel
theorem dX12_init_49 : decode cX12_init 49 = .ok (.iconst (-1), 1) := by decide +kernel
theorem dX12_init_50 : decode cX12_init 50 = .ok (.putfield 40, 3) := by decide +kernel
theorem dX12_init_53 : decode cX12_init 53 = .ok (.aload_n 0, 1) := by decide +kernel
theorem dX12_init_54 : decode cX12_init 54 = .ok (.sipush 4000, 3) := by decide +kernel
theorem dX12_init_57 : decode cX12_init 57 = .ok (.newarray .int, 2) := by decide +kernel
theorem dX12_init_59 : decode cX12_init 59 = .ok (.putfield 43, 3) := by decide +kernel
theorem dX12_init_62 : decode cX12_init 62 = .ok (.aload_n 0, 1) := by decide +kernel
theorem dX12_init_63 : decode cX12_init 63 = .ok (.sipush 4000, 3) := by decide +kernel
theorem dX12_init_66 : decode cX12_init 66 = .ok (.newarray .int, 2) := by decide +kernel
theorem dX12_init_68 : decode cX12_init 68 = .ok (.putfield 46, 3) := by decide +kernel
theorem dX12_init_71 : decode cX12_init 71 = .ok (.aload_n 0, 1) := by decide +kernel
theorem dX12_init_72 : decode cX12_init 72 = .ok (.sipush 4000, 3) := by decide +kernel
theorem dX12_init_75 : decode cX12_init 75 = .ok (.newarray .int, 2) := by decide +kernel
theorem dX12_init_77 : decode cX12_init 77 = .ok (.putfield 49, 3) := by decide +kernel
theorem dX12_init_80 : decode cX12_init 80 = .ok (.aload_n 0, 1) := by decide +kernel
theorem dX12_init_81 : decode cX12_init 81 = .ok (.sipush 640, 3) := by decide +kernel
theorem dX12_init_84 : decode cX12_init 84 = .ok (.newarray .int, 2) := by decide +kernel
theorem dX12_init_86 : decode cX12_init 86 = .ok (.putfield 52, 3) := by decide +kernel
theorem dX12_init_89 : decode cX12_init 89 = .ok (.aload_n 0, 1) := by decide +kernel
theorem dX12_init_90 : decode cX12_init 90 = .ok (.sipush 640, 3) := by decide +kernel
theorem dX12_init_93 : decode cX12_init 93 = .ok (.newarray .int, 2) := by decide +kernel
theorem dX12_init_95 : decode cX12_init 95 = .ok (.putfield 55, 3) := by decide +kernel
theorem dX12_init_98 : decode cX12_init 98 = .ok (.aload_n 0, 1) := by decide +kernel
theorem dX12_init_99 : decode cX12_init 99 = .ok (.sipush 640, 3) := by decide +kernel
theorem dX12_init_102 : decode cX12_init 102 = .ok (.newarray .int, 2) := by decide +kernel
theorem dX12_init_104 : decode cX12_init 104 = .ok (.putfield 58, 3) := by decide +kernel
theorem dX12_init_107 : decode cX12_init 107 = .ok (.aload_n 0, 1) := by decide +kernel
theorem dX12_init_108 : decode cX12_init 108 = .ok (.sipush 640, 3) := by decide +kernel
theorem dX12_init_111 : decode cX12_init 111 = .ok (.newarray .int, 2) := by decide +kernel
theorem dX12_init_113 : decode cX12_init 113 = .ok (.putfield 61, 3) := by decide +kernel
theorem dX12_init_116 : decode cX12_init 116 = .ok (.aload_n 0, 1) := by decide +kernel
theorem dX12_init_117 : decode cX12_init 117 = .ok (.sipush 640, 3) := by decide +kernel
theorem dX12_init_120 : decode cX12_init 120 = .ok (.newarray .int, 2) := by decide +kernel
theorem dX12_init_122 : decode cX12_init 122 = .ok (.putfield 64, 3) := by decide +kernel
theorem dX12_init_125 : decode cX12_init 125 = .ok (.aload_n 0, 1) := by decide +kernel
theorem dX12_init_126 : decode cX12_init 126 = .ok (.sipush 640, 3) := by decide +kernel
theorem dX12_init_129 : decode cX12_init 129 = .ok (.newarray .int, 2) := by decide +kernel
theorem dX12_init_131 : decode cX12_init 131 = .ok (.putfield 67, 3) := by decide +kernel
theorem dX12_init_134 : decode cX12_init 134 = .ok (.aload_n 0, 1) := by decide +kernel
theorem dX12_init_135 : decode cX12_init 135 = .ok (.sipush 320, 3) := by decide +kernel
theorem dX12_init_138 : decode cX12_init 138 = .ok (.newarray .long, 2) := by decide +kernel
theorem dX12_init_140 : decode cX12_init 140 = .ok (.putfield 70, 3) := by decide +kernel
theorem dX12_init_143 : decode cX12_init 143 = .ok (.aload_n 0, 1) := by decide +kernel
theorem dX12_init_144 : decode cX12_init 144 = .ok (.sipush 320, 3) := by decide +kernel
theorem dX12_init_147 : decode cX12_init 147 = .ok (.newarray .int, 2) := by decide +kernel
theorem dX12_init_149 : decode cX12_init 149 = .ok (.putfield 73, 3) := by decide +kernel
theorem dX12_init_152 : decode cX12_init 152 = .ok (.aload_n 0, 1) := by decide +kernel
theorem dX12_init_153 : decode cX12_init 153 = .ok (.sipush 320, 3) := by decide +kernel
theorem dX12_init_156 : decode cX12_init 156 = .ok (.newarray .int, 2) := by decide +kernel
theorem dX12_init_158 : decode cX12_init 158 = .ok (.putfield 76, 3) := by decide +kernel
theorem dX12_init_161 : decode cX12_init 161 = .ok (.aload_n 0, 1) := by decide +kernel
theorem dX12_init_162 : decode cX12_init 162 = .ok (.sipush 320, 3) := by decide +kernel
theorem dX12_init_165 : decode cX12_init 165 = .ok (.newarray .int, 2) := by decide +kernel
theorem dX12_init_167 : decode cX12_init 167 = .ok (.putfield 79, 3) := by decide +kernel
theorem dX12_init_170 : decode cX12_init 170 = .ok (.aload_n 0, 1) := by decide +kernel
theorem dX12_init_171 : decode cX12_init 171 = .ok (.sipush 320, 3) := by decide +kernel
theorem dX12_init_174 : decode cX12_init 174 = .ok (.newarray .int, 2) := by decide +kernel
theorem dX12_init_176 : decode cX12_init 176 = .ok (.putfield 82, 3) := by decide +kernel
theorem dX12_init_179 : decode cX12_init 179 = .ok (.aload_n 0, 1) := by decide +kernel
theorem dX12_init_180 : decode cX12_init 180 = .ok (.sipush 320, 3) := by decide +kernel
theorem dX12_init_183 : decode cX12_init 183 = .ok (.newarray .int, 2) := by decide +kernel
theorem dX12_init_185 : decode cX12_init 185 = .ok (.putfield 85, 3) := by decide +kernel
theorem dX12_init_188 : decode cX12_init 188 = .ok (.aload_n 0, 1) := by decide +kernel
theorem dX12_init_189 : decode cX12_init 189 = .ok (.sipush 1600, 3) := by decide +kernel
theorem dX12_init_192 : decode cX12_init 192 = .ok (.newarray .long, 2) := by decide +kernel
theorem dX12_init_194 : decode cX12_init 194 = .ok (.putfield 88, 3) := by decide +kernel
theorem dX12_init_197 : decode cX12_init 197 = .ok (.aload_n 0, 1) := by decide +kernel
theorem dX12_init_198 : decode cX12_init 198 = .ok (.sipush 1600, 3) := by decide +kernel
theorem dX12_init_201 : decode cX12_init 201 = .ok (.newarray .int, 2) := by decide +kernel
theorem dX12_init_203 : decode cX12_init 203 = .ok (.putfield 91, 3) := by decide +kernel
theorem dX12_init_206 : decode cX12_init 206 = .ok (.aload_n 0, 1) := by decide +kernel
theorem dX12_init_207 : decode cX12_init 207 = .ok (.sipush 1600, 3) := by decide +kernel
theorem dX12_init_210 : decode cX12_init 210 = .ok (.newarray .int, 2) := by decide +kernel
theorem dX12_init_212 : decode cX12_init 212 = .ok (.putfield 94, 3) := by decide +kernel
theorem dX12_init_215 : decode cX12_init 215 = .ok (.aload_n 0, 1) := by decide +kernel
theorem dX12_init_216 : decode cX12_init 216 = .ok (.sipush 1600, 3) := by decide +kernel
theorem dX12_init_219 : decode cX12_init 219 = .ok (.newarray .int, 2) := by decide +kernel
theorem dX12_init_221 : decode cX12_init 221 = .ok (.putfield 97, 3) := by decide +kernel
theorem dX12_init_224 : decode cX12_init 224 = .ok (.aload_n 0, 1) := by decide +kernel
theorem dX12_init_225 : decode cX12_init 225 = .ok (.sipush 1600, 3) := by decide +kernel
theorem dX12_init_228 : decode cX12_init 228 = .ok (.newarray .long, 2) := by decide +kernel
theorem dX12_init_230 : decode cX12_init 230 = .ok (.putfield 100, 3) := by decide +kernel
theorem dX12_init_233 : decode cX12_init 233 = .ok (.aload_n 0, 1) := by decide +kernel
theorem dX12_init_234 : decode cX12_init 234 = .ok (.sipush 1600, 3) := by decide +kernel
theorem dX12_init_237 : decode cX12_init 237 = .ok (.newarray .int, 2) := by decide +kernel
theorem dX12_init_239 : decode cX12_init 239 = .ok (.putfield 103, 3) := by decide +kernel
theorem dX12_init_242 : decode cX12_init 242 = .ok (.aload_n 0, 1) := by decide +kernel
theorem dX12_init_243 : decode cX12_init 243 = .ok (.bipush 20, 2) := by decide +kernel
theorem dX12_init_245 : decode cX12_init 245 = .ok (.newarray .long, 2) := by decide +kernel
theorem dX12_init_247 : decode cX12_init 247 = .ok (.putfield 106, 3) := by decide +kernel
theorem dX12_init_250 : decode cX12_init 250 = .ok (.aload_n 0, 1) := by decide +kernel
theorem dX12_init_251 : decode cX12_init 251 = .ok (.bipush 20, 2) := by decide +kernel
theorem dX12_init_253 : decode cX12_init 253 = .ok (.newarray .int, 2) := by decide +kernel
theorem dX12_init_255 : decode cX12_init 255 = .ok (.putfield 109, 3) := by decide +kernel
theorem dX12_init_258 : decode cX12_init 258 = .ok (.aload_n 0, 1) := by decide +kernel
theorem dX12_init_259 : decode cX12_init 259 = .ok (.sipush 4000, 3) := by decide +kernel
theorem dX12_init_262 : decode cX12_init 262 = .ok (.newarray .int, 2) := by decide +kernel
theorem dX12_init_264 : decode cX12_init 264 = .ok (.putfield 112, 3) := by decide +kernel
theorem dX12_init_267 : decode cX12_init 267 = .ok (.aload_n 0, 1) := by decide +kernel
theorem dX12_init_268 : decode cX12_init 268 = .ok (.sipush 4000, 3) := by decide +kernel
theorem dX12_init_271 : decode cX12_init 271 = .ok (.newarray .int, 2) := by decide +kernel
theorem dX12_init_273 : decode cX12_init 273 = .ok (.putfield 115, 3) := by decide +kernel
theorem dX12_init_276 : decode cX12_init 276 = .ok (.aload_n 0, 1) := by decide +kernel
theorem dX12_init_277 : decode cX12_init 277 = .ok (.sipush 4000, 3) := by decide +kernel
theorem dX12_init_280 : decode cX12_init 280 = .ok (.newarray .int, 2) := by decide +kernel
theorem dX12_init_282 : decode cX12_init 282 = .ok (.putfield 118, 3) := by decide +kernel
theorem dX12_init_285 : decode cX12_init 285 = .ok (.aload_n 0, 1) := by decide +kernel
theorem dX12_init_286 : decode cX12_init 286 = .ok (.sipush 640, 3) := by decide +kernel
theorem dX12_init_289 : decode cX12_init 289 = .ok (.newarray .int, 2) := by decide +kernel
theorem dX12_init_291 : decode cX12_init 291 = .ok (.putfield 121, 3) := by decide +kernel
theorem dX12_init_294 : decode cX12_init 294 = .ok (.aload_n 0, 1) := by decide +kernel
theorem dX12_init_295 : decode cX12_init 295 = .ok (.sipush 640, 3) := by decide +kernel
theorem dX12_init_298 : decode cX12_init 298 = .ok (.newarray .int, 2) := by decide +kernel
theorem dX12_init_300 : decode cX12_init 300 = .ok (.putfield 124, 3) := by decide +kernel
theorem dX12_init_303 : decode cX12_init 303 = .ok (.aload_n 0, 1) := by decide +kernel
theorem dX12_init_304 : decode cX12_init 304 = .ok (.sipush 640, 3) := by decide +kernel
theorem dX12_init_307 : decode cX12_init 307 = .ok (.newarray .int, 2) := by decide +kernel
theorem dX12_init_309 : decode cX12_init 309 = .ok (.putfield 127, 3) := by decide +kernel
theorem dX12_init_312 : decode cX12_init 312 = .ok (.aload_n 0, 1) := by decide +kernel
theorem dX12_init_313 : decode cX12_init 313 = .ok (.sipush 640, 3) := by decide +kernel
theorem dX12_init_316 : decode cX12_init 316 = .ok (.newarray .int, 2) := by decide +kernel
theorem dX12_init_318 : decode cX12_init 318 = .ok (.putfield 130, 3) := by decide +kernel
theorem dX12_init_321 : decode cX12_init 321 = .ok (.aload_n 0, 1) := by decide +kernel
theorem dX12_init_322 : decode cX12_init 322 = .ok (.sipush 640, 3) := by decide +kernel
theorem dX12_init_325 : decode cX12_init 325 = .ok (.newarray .int, 2) := by decide +kernel
theorem dX12_init_327 : decode cX12_init 327 = .ok (.putfield 133, 3) := by decide +kernel
theorem dX12_init_330 : decode cX12_init 330 = .ok (.aload_n 0, 1) := by decide +kernel
theorem dX12_init_331 : decode cX12_init 331 = .ok (.sipush 640, 3) := by decide +kernel
theorem dX12_init_334 : decode cX12_init 334 = .ok (.newarray .int, 2) := by decide +kernel
theorem dX12_init_336 : decode cX12_init 336 = .ok (.putfield 136, 3) := by decide +kernel
theorem dX12_init_339 : decode cX12_init 339 = .ok (.aload_n 0, 1) := by decide +kernel
theorem dX12_init_340 : decode cX12_init 340 = .ok (.bipush 30, 2) := by decide +kernel
theorem dX12_init_342 : decode cX12_init 342 = .ok (.newarray .int, 2) := by decide +kernel
theorem dX12_init_344 : decode cX12_init 344 = .ok (.putfield 139, 3) := by decide +kernel
theorem dX12_init_347 : decode cX12_init 347 = .ok (.aload_n 0, 1) := by decide +kernel
theorem dX12_init_348 : decode cX12_init 348 = .ok (.bipush 30, 2) := by decide +kernel
theorem dX12_init_350 : decode cX12_init 350 = .ok (.newarray .int, 2) := by decide +kernel
theorem dX12_init_352 : decode cX12_init 352 = .ok (.putfield 142, 3) := by decide +kernel
theorem dX12_init_355 : decode cX12_init 355 = .ok (.aload_n 0, 1) := by decide +kernel
theorem dX12_init_356 : decode cX12_init 356 = .ok (.bipush 30, 2) := by decide +kernel
theorem dX12_init_358 : decode cX12_init 358 = .ok (.newarray .int, 2) := by decide +kernel
theorem dX12_init_360 : decode cX12_init 360 = .ok (.putfield 145, 3) := by decide +kernel
theorem dX12_init_363 : decode cX12_init 363 = .ok (.aload_n 0, 1) := by decide +kernel
theorem dX12_init_364 : decode cX12_init 364 = .ok (.bipush 30, 2) := by decide +kernel
theorem dX12_init_366 : decode cX12_init 366 = .ok (.newarray .int, 2) := by decide +kernel
theorem dX12_init_368 : decode cX12_init 368 = .ok (.putfield 148, 3) := by decide +kernel
theorem dX12_init_371 : decode cX12_init 371 = .ok (.aload_n 0, 1) := by decide +kernel
theorem dX12_init_372 : decode cX12_init 372 = .ok (.bipush 30, 2) := by decide +kernel
theorem dX12_init_374 : decode cX12_init 374 = .ok (.newarray .int, 2) := by decide +kernel
theorem dX12_init_376 : decode cX12_init 376 = .ok (.putfield 151, 3) := by decide +kernel
theorem dX12_init_379 : decode cX12_init 379 = .ok (.aload_n 0, 1) := by decide +kernel
theorem dX12_init_380 : decode cX12_init 380 = .ok (.bipush 6, 2) := by decide +kernel
theorem dX12_init_382 : decode cX12_init 382 = .ok (.newarray .int, 2) := by decide +kernel
theorem dX12_init_384 : decode cX12_init 384 = .ok (.putfield 154, 3) := by decide +kernel
theorem dX12_init_387 : decode cX12_init 387 = .ok (.aload_n 0, 1) := by decide +kernel
theorem dX12_init_388 : decode cX12_init 388 = .ok (.bipush 12, 2) := by decide +kernel
theorem dX12_init_390 : decode cX12_init 390 = .ok (.newarray .boolean, 2) := by decide +kernel
theorem dX12_init_392 : decode cX12_init 392 = .ok (.putfield 157, 3) := by decide +kernel
theorem dX12_init_395 : decode cX12_init 395 = .ok (.aload_n 0, 1) := by decide +kernel
theorem dX12_init_396 : decode cX12_init 396 = .ok (.bipush 6, 2) := by decide +kernel
theorem dX12_init_398 : decode cX12_init 398 = .ok (.newarray .int, 2) := by decide +kernel
theorem dX12_init_400 : decode cX12_init 400 = .ok (.putfield 161, 3) := by decide +kernel
theorem dX12_init_403 : decode cX12_init 403 = .ok (.aload_n 0, 1) := by decide +kernel
theorem dX12_init_404 : decode cX12_init 404 = .ok (.bipush 7, 2) := by decide +kernel
theorem dX12_init_406 : decode cX12_init 406 = .ok (.newarray .int, 2) := by decide +kernel
theorem dX12_init_408 : decode cX12_init 408 = .ok (.putfield 164, 3) := by decide +kernel
theorem dX12_init_411 : decode cX12_init 411 = .ok (.aload_n 0, 1) := by decide +kernel
theorem dX12_init_412 : decode cX12_init 412 = .ok (.bipush 8, 2) := by decide +kernel
theorem dX12_init_414 : decode cX12_init 414 = .ok (.newarray .int, 2) := by decide +kernel
theorem dX12_init_416 : decode cX12_init 416 = .ok (.putfield 167, 3) := by decide +kernel
theorem dX12_init_419 : decode cX12_init 419 = .ok (.aload_n 0, 1) := by decide +kernel
theorem dX12_init_420 : decode cX12_init 420 = .ok (.sipush 300, 3) := by decide +kernel
theorem dX12_init_423 : decode cX12_init 423 = .ok (.newarray .int, 2) := by decide +kernel
theorem dX12_init_425 : decode cX12_init 425 = .ok (.putfield 170, 3) := by decide +kernel
theorem dX12_init_428 : decode cX12_init 428 = .ok (.aload_n 0, 1) := by decide +kernel
theorem dX12_init_429 : decode cX12_init 429 = .ok (.sipush 300, 3) := by decide +kernel
theorem dX12_init_432 : decode cX12_init 432 = .ok (.newarray .int, 2) := by decide +kernel
theorem dX12_init_434 : decode cX12_init 434 = .ok (.putfield 173, 3) := by decide +kernel
theorem dX12_init_437 : decode cX12_init 437 = .ok (.aload_n 0, 1) := by decide +kernel
theorem dX12_init_438 : decode cX12_init 438 = .ok (.sipush 240, 3) := by decide +kernel
theorem dX12_init_441 : decode cX12_init 441 = .ok (.newarray .int, 2) := by decide +kernel
theorem dX12_init_443 : decode cX12_init 443 = .ok (.putfield 176, 3) := by decide +kernel
theorem dX12_init_446 : decode cX12_init 446 = .ok (.aload_n 0, 1) := by decide +kernel
theorem dX12_init_447 : decode cX12_init 447 = .ok (.sipush 240, 3) := by decide +kernel
theorem dX12_init_450 : decode cX12_init 450 = .ok (.newarray .int, 2) := by decide +kernel
theorem dX12_init_452 : decode cX12_init 452 = .ok (.putfield 179, 3) := by decide +kernel
theorem dX12_init_455 : decode cX12_init 455 = .ok (.aload_n 0, 1) := by decide +kernel
theorem dX12_init_456 : decode cX12_init 456 = .ok (.sipush 240, 3) := by decide +kernel
theorem dX12_init_459 : decode cX12_init 459 = .ok (.newarray .int, 2) := by decide +kernel
theorem dX12_init_461 : decode cX12_init 461 = .ok (.putfield 182, 3) := by decide +kernel
theorem dX12_init_464 : decode cX12_init 464 = .ok (.aload_n 0, 1) := by decide +kernel
theorem dX12_init_465 : decode cX12_init 465 = .ok (.sipush 240, 3) := by decide +kernel
theorem dX12_init_468 : decode cX12_init 468 = .ok (.newarray .int, 2) := by decide +kernel
theorem dX12_init_470 : decode cX12_init 470 = .ok (.putfield 185, 3) := by decide +kernel
theorem dX12_init_473 : decode cX12_init 473 = .ok (.aload_n 0, 1) := by decide +kernel
theorem dX12_init_474 : decode cX12_init 474 = .ok (.sipush 240, 3) := by decide +kernel
theorem dX12_init_477 : decode cX12_init 477 = .ok (.newarray .int, 2) := by decide +kernel
theorem dX12_init_479 : decode cX12_init 479 = .ok (.putfield 188, 3) := by decide +kernel
theorem dX12_init_482 : decode cX12_init 482 = .ok (.aload_n 0, 1) := by decide +kernel
theorem dX12_init_483 : decode cX12_init 483 = .ok (.sipush 240, 3) := by decide +kernel
theorem dX12_init_486 : decode cX12_init 486 = .ok (.newarray .long, 2) := by decide +kernel
theorem dX12_init_488 : decode cX12_init 488 = .ok (.putfield 191, 3) := by decide +kernel
theorem dX12_init_491 : decode cX12_init 491 = .ok (.aload_n 0, 1) := by decide +kernel
theorem dX12_init_492 : decode cX12_init 492 = .ok (.sipush 240, 3) := by decide +kernel
theorem dX12_init_495 : decode cX12_init 495 = .ok (.newarray .long, 2) := by decide +kernel
theorem dX12_init_497 : decode cX12_init 497 = .ok (.putfield 194, 3) := by decide +kernel
theorem dX12_init_500 : decode cX12_init 500 = .ok (.aload_n 0, 1) := by decide +kernel
theorem dX12_init_501 : decode cX12_init 501 = .ok (.sipush 240, 3) := by decide +kernel
theorem dX12_init_504 : decode cX12_init 504 = .ok (.newarray .int, 2) := by decide +kernel
theorem dX12_init_506 : decode cX12_init 506 = .ok (.putfield 197, 3) := by decide +kernel
theorem dX12_init_509 : decode cX12_init 509 = .ok (.aload_n 0, 1) := by decide +kernel
theorem dX12_init_510 : decode cX12_init 510 = .ok (.sipush 240, 3) := by decide +kernel
theorem dX12_init_513 : decode cX12_init 513 = .ok (.newarray .int, 2) := by decide +kernel
theorem dX12_init_515 : decode cX12_init 515 = .ok (.putfield 200, 3) := by decide +kernel
theorem dX12_init_518 : decode cX12_init 518 = .ok (.aload_n 0, 1) := by decide +kernel
theorem dX12_init_519 : decode cX12_init 519 = .ok (.sipush 240, 3) := by decide +kernel
theorem dX12_init_522 : decode cX12_init 522 = .ok (.newarray .int, 2) := by decide +kernel
theorem dX12_init_524 : decode cX12_init 524 = .ok (.putfield 203, 3) := by decide +kernel
theorem dX12_init_527 : decode cX12_init 527 = .ok (.aload_n 0, 1) := by decide +kernel
theorem dX12_init_528 : decode cX12_init 528 = .ok (.sipush 240, 3) := by decide +kernel
theorem dX12_init_531 : decode cX12_init 531 = .ok (.newarray .int, 2) := by decide +kernel
theorem dX12_init_533 : decode cX12_init 533 = .ok (.putfield 206, 3) := by decide +kernel
theorem dX12_init_536 : decode cX12_init 536 = .ok (.aload_n 0, 1) := by decide +kernel
theorem dX12_init_537 : decode cX12_init 537 = .ok (.sipush 240, 3) := by decide +kernel
theorem dX12_init_540 : decode cX12_init 540 = .ok (.newarray .int, 2) := by decide +kernel
theorem dX12_init_542 : decode cX12_init 542 = .ok (.putfield 209, 3) := by decide +kernel
theorem dX12_init_545 : decode cX12_init 545 = .ok (.aload_n 0, 1) := by decide +kernel
theorem dX12_init_546 : decode cX12_init 546 = .ok (.sipush 240, 3) := by decide +kernel
theorem dX12_init_549 : decode cX12_init 549 = .ok (.newarray .int, 2) := by decide +kernel
theorem dX12_init_551 : decode cX12_init 551 = .ok (.putfield 212, 3) := by decide +kernel
theorem dX12_init_554 : decode cX12_init 554 = .ok (.aload_n 0, 1) := by decide +kernel
theorem dX12_init_555 : decode cX12_init 555 = .ok (.bipush 13, 2) := by decide +kernel
theorem dX12_init_557 : decode cX12_init 557 = .ok (.newarray .int, 2) := by decide +kernel
theorem dX12_init_559 : decode cX12_init 559 = .ok (.putfield 215, 3) := by decide +kernel
theorem dX12_init_562 : decode cX12_init 562 = .ok (.aload_n 0, 1) := by decide +kernel
theorem dX12_init_563 : decode cX12_init 563 = .ok (.bipush 13, 2) := by decide +kernel
theorem dX12_init_565 : decode cX12_init 565 = .ok (.newarray .int, 2) := by decide +kernel
theorem dX12_init_567 : decode cX12_init 567 = .ok (.putfield 218, 3) := by decide +kernel
theorem dX12_init_570 : decode cX12_init 570 = .ok (.aload_n 0, 1) := by decide +kernel
theorem dX12_init_571 : decode cX12_init 571 = .ok (.bipush 13, 2) := by decide +kernel
theorem dX12_init_573 : decode cX12_init 573 = .ok (.newarray .int, 2) := by decide +kernel
theorem dX12_init_575 : decode cX12_init 575 = .ok (.putfield 221, 3) := by decide +kernel
theorem dX12_init_578 : decode cX12_init 578 = .ok (.aload_n 0, 1) := by decide +kernel
theorem dX12_init_579 : decode cX12_init 579 = .ok (.bipush 13, 2) := by decide +kernel
theorem dX12_init_581 : decode cX12_init 581 = .ok (.newarray .int, 2) := by decide +kernel
theorem dX12_init_583 : decode cX12_init 583 = .ok (.putfield 224, 3) := by decide +kernel
theorem dX12_init_586 : decode cX12_init 586 = .ok (.aload_n 0, 1) := by decide +kernel
theorem dX12_init_587 : decode cX12_init 587 = .ok (.bipush 13, 2) := by decide +kernel
theorem dX12_init_589 : decode cX12_init 589 = .ok (.newarray .int, 2) := by decide +kernel
theorem dX12_init_591 : decode cX12_init 591 = .ok (.putfield 227, 3) := by decide +kernel
theorem dX12_init_594 : decode cX12_init 594 = .ok (.aload_n 0, 1) := by decide +kernel
theorem dX12_init_595 : decode cX12_init 595 = .ok (.sipush 520, 3) := by decide +kernel
theorem dX12_init_598 : decode cX12_init 598 = .ok (.newarray .int, 2) := by decide +kernel
theorem dX12_init_600 : decode cX12_init 600 = .ok (.putfield 230, 3) := by decide +kernel
theorem dX12_init_603 : decode cX12_init 603 = .ok (.aload_n 0, 1) := by decide +kernel
theorem dX12_init_604 : decode cX12_init 604 = .ok (.sipush 520, 3) := by decide +kernel
theorem dX12_init_607 : decode cX12_init 607 = .ok (.newarray .int, 2) := by decide +kernel
theorem dX12_init_609 : decode cX12_init 609 = .ok (.putfield 233, 3) := by decide +kernel
theorem dX12_init_612 : decode cX12_init 612 = .ok (.aload_n 0, 1) := by decide +kernel
theorem dX12_init_613 : decode cX12_init 613 = .ok (.sipush 312, 3) := by decide +kernel
theorem dX12_init_616 : decode cX12_init 616 = .ok (.newarray .int, 2) := by decide +kernel
theorem dX12_init_618 : decode cX12_init 618 = .ok (.putfield 236, 3) := by decide +kernel
theorem dX12_init_621 : decode cX12_init 621 = .ok (.aload_n 0, 1) := by decide +kernel
theorem dX12_init_622 : decode cX12_init 622 = .ok (.sipush 4000, 3) := by decide +kernel
theorem dX12_init_625 : decode cX12_init 625 = .ok (.newarray .int, 2) := by decide +kernel
theorem dX12_init_627 : decode cX12_init 627 = .ok (.putfield 239, 3) := by decide +kernel
theorem dX12_init_630 : decode cX12_init 630 = .ok (.aload_n 0, 1) := by decide +kernel
theorem dX12_init_631 : decode cX12_init 631 = .ok (.iconst (-1), 1) := by decide +kernel
theorem dX12_init_632 : decode cX12_init 632 = .ok (.putfield 242, 3) := by decide +kernel
theorem dX12_init_635 : decode cX12_init 635 = .ok (.aload_n 0, 1) := by decide +kernel
theorem dX12_init_636 : decode cX12_init 636 = .ok (.iconst (-1), 1) := by decide +kernel
theorem dX12_init_637 : decode cX12_init 637 = .ok (.putfield 245, 3) := by decide +kernel
theorem dX12_init_640 : decode cX12_init 640 = .ok (.aload_n 0, 1) := by decide +kernel
theorem dX12_init_641 : decode cX12_init 641 = .ok (.getfield 27, 3) := by decide +kernel
theorem dX12_init_644 : decode cX12_init 644 = .ok (.bipush 10, 2) := by decide +kernel
theorem dX12_init_646 : decode cX12_init 646 = .ok (.ldc 248, 2) := by decide +kernel
theorem dX12_init_648 : decode cX12_init 648 = .ok (.invokestatic 250, 3) := by decide +kernel
theorem dX12_init_651 : decode cX12_init 651 = .ok (.lastore, 1) := by decide +kernel
theorem dX12_init_652 : decode cX12_init 652 = .ok (.aload_n 0, 1) := by decide +kernel
theorem dX12_init_653 : decode cX12_init 653 = .ok (.getfield 27, 3) := by decide +kernel
theorem dX12_init_656 : decode cX12_init 656 = .ok (.bipush 11, 2) := by decide +kernel
theorem dX12_init_658 : decode cX12_init 658 = .ok (.ldc 254, 2) := by decide +kernel
theorem dX12_init_660 : decode cX12_init 660 = .ok (.invokestatic 250, 3) := by decide +kernel
theorem dX12_init_663 : decode cX12_init 663 = .ok (.lastore, 1) := by decide +kernel
theorem dX12_init_664 : decode cX12_init 664 = .ok (.aload_n 0, 1) := by decide +kernel
theorem dX12_init_665 : decode cX12_init 665 = .ok (.getfield 27, 3) := by decide +kernel
theorem dX12_init_668 : decode cX12_init 668 = .ok (.bipush 12, 2) := by decide +kernel
theorem dX12_init_670 : decode cX12_init 670 = .ok (.ldc_w 256, 3) := by decide +kernel
theorem dX12_init_673 : decode cX12_init 673 = .ok (.invokestatic 250, 3) := by decide +kernel
theorem dX12_init_676 : decode cX12_init 676 = .ok (.lastore, 1) := by decide +kernel
theorem dX12_init_677 : decode cX12_init 677 = .ok (.aload_n 0, 1) := by decide +kernel
theorem dX12_init_678 : decode cX12_init 678 = .ok (.getfield 27, 3) := by decide +kernel
theorem dX12_init_681 : decode cX12_init 681 = .ok (.bipush 13, 2) := by decide +kernel
theorem dX12_init_683 : decode cX12_init 683 = .ok (.ldc_w 258, 3) := by decide +kernel
theorem dX12_init_686 : decode cX12_init 686 = .ok (.invokestatic 250, 3) := by decide +kernel
theorem dX12_init_689 : decode cX12_init 689 = .ok (.lastore, 1) := by decide +kernel
theorem dX12_init_690 : decode cX12_init 690 = .ok (.aload_n 0, 1) := by decide +kernel
theorem dX12_init_691 : decode cX12_init 691 = .ok (.getfield 27, 3) := by decide +kernel
theorem dX12_init_694 : decode cX12_init 694 = .ok (.bipush 14, 2) := by decide +kernel
theorem dX12_init_696 : decode cX12_init 696 = .ok (.ldc_w 260, 3) := by decide +kernel
theorem dX12_init_699 : decode cX12_init 699 = .ok (.invokestatic 250, 3) := by decide +kernel
theorem dX12_init_702 : decode cX12_init 702 = .ok (.lastore, 1) := by decide +kernel
theorem dX12_init_703 : decode cX12_init 703 = .ok (.aload_n 0, 1) := by decide +kernel
theorem dX12_init_704 : decode cX12_init 704 = .ok (.getfield 27, 3) := by decide +kernel
theorem dX12_init_707 : decode cX12_init 707 = .ok (.bipush 15, 2) := by decide +kernel
theorem dX12_init_709 : decode cX12_init 709 = .ok (.ldc_w 262, 3) := by decide +kernel
theorem dX12_init_712 : decode cX12_init 712 = .ok (.invokestatic 250, 3) := by decide +kernel
theorem dX12_init_715 : decode cX12_init 715 = .ok (.lastore, 1) := by decide +kernel
theorem dX12_init_716 : decode cX12_init 716 = .ok (.aload_n 0, 1) := by decide +kernel
theorem dX12_init_717 : decode cX12_init 717 = .ok (.getfield 27, 3) := by decide +kernel
theorem dX12_init_720 : decode cX12_init 720 = .ok (.bipush 16, 2) := by decide +kernel
theorem dX12_init_722 : decode cX12_init 722 = .ok (.ldc_w 264, 3) := by decide +kernel
theorem dX12_init_725 : decode cX12_init 725 = .ok (.invokestatic 250, 3) := by decide +kernel
theorem dX12_init_728 : decode cX12_init 728 = .ok (.lastore, 1) := by decide +kernel
theorem dX12_init_729 : decode cX12_init 729 = .ok (.aload_n 0, 1) := by decide +kernel
theorem dX12_init_730 : decode cX12_init 730 = .ok (.getfield 27, 3) := by decide +kernel
theorem dX12_init_733 : decode cX12_init 733 = .ok (.bipush 17, 2) := by decide +kernel
theorem dX12_init_735 : decode cX12_init 735 = .ok (.ldc_w 266, 3) := by decide +kernel
theorem dX12_init_738 : decode cX12_init 738 = .ok (.invokestatic 250, 3) := by decide +kernel
theorem dX12_init_741 : decode cX12_init 741 = .ok (.lastore, 1) := by decide +kernel
theorem dX12_init_742 : decode cX12_init 742 = .ok (.aload_n 0, 1) := by decide +kernel
theorem dX12_init_743 : decode cX12_init 743 = .ok (.getfield 27, 3) := by decide +kernel
theorem dX12_init_746 : decode cX12_init 746 = .ok (.bipush 18, 2) := by decide +kernel
theorem dX12_init_748 : decode cX12_init 748 = .ok (.ldc_w 268, 3) := by decide +kernel
theorem dX12_init_751 : decode cX12_init 751 = .ok (.invokestatic 250, 3) := by decide +kernel
theorem dX12_init_754 : decode cX12_init 754 = .ok (.lastore, 1) := by decide +kernel
theorem dX12_init_755 : decode cX12_init 755 = .ok (.aload_n 0, 1) := by decide +kernel
theorem dX12_init_756 : decode cX12_init 756 = .ok (.getfield 27, 3) := by decide +kernel
theorem dX12_init_759 : decode cX12_init 759 = .ok (.bipush 19, 2) := by decide +kernel
theorem dX12_init_761 : decode cX12_init 761 = .ok (.ldc_w 270, 3) := by decide +kernel
theorem dX12_init_764 : decode cX12_init 764 = .ok (.invokestatic 250, 3) := by decide +kernel
theorem dX12_init_767 : decode cX12_init 767 = .ok (.lastore, 1) := by decide +kernel
theorem dX12_init_768 : decode cX12_init 768 = .ok (.aload_n 0, 1) := by decide +kernel
theorem dX12_init_769 : decode cX12_init 769 = .ok (.getfield 27, 3) := by decide +kernel
theorem dX12_init_772 : decode cX12_init 772 = .ok (.bipush 20, 2) := by decide +kernel
theorem dX12_init_774 : decode cX12_init 774 = .ok (.ldc_w 272, 3) := by decide +kernel
theorem dX12_init_777 : decode cX12_init 777 = .ok (.invokestatic 250, 3) := by decide +kernel
theorem dX12_init_780 : decode cX12_init 780 = .ok (.lastore, 1) := by decide +kernel
theorem dX12_init_781 : decode cX12_init 781 = .ok (.aload_n 0, 1) := by decide +kernel
theorem dX12_init_782 : decode cX12_init 782 = .ok (.getfield 27, 3) := by decide +kernel
theorem dX12_init_785 : decode cX12_init 785 = .ok (.bipush 21, 2) := by decide +kernel
theorem dX12_init_787 : decode cX12_init 787 = .ok (.ldc_w 274, 3) := by decide +kernel
theorem dX12_init_790 : decode cX12_init 790 = .ok (.invokestatic 250, 3) := by decide +kernel
theorem dX12_init_793 : decode cX12_init 793 = .ok (.lastore, 1) := by decide +kernel
theorem dX12_init_794 : decode cX12_init 794 = .ok (.aload_n 0, 1) := by decide +kernel
theorem dX12_init_795 : decode cX12_init 795 = .ok (.getfield 27, 3) := by decide +kernel
theorem dX12_init_798 : decode cX12_init 798 = .ok (.bipush 22, 2) := by decide +kernel
theorem dX12_init_800 : decode cX12_init 800 = .ok (.ldc_w 276, 3) := by decide +kernel
theorem dX12_init_803 : decode cX12_init 803 = .ok (.invokestatic 250, 3) := by decide +kernel
theorem dX12_init_806 : decode cX12_init 806 = .ok (.lastore, 1) := by decide +kernel
theorem dX12_init_807 : decode cX12_init 807 = .ok (.aload_n 0, 1) := by decide +kernel
theorem dX12_init_808 : decode cX12_init 808 = .ok (.getfield 27, 3) := by decide +kernel
theorem dX12_init_811 : decode cX12_init 811 = .ok (.bipush 23, 2) := by decide +kernel
theorem dX12_init_813 : decode cX12_init 813 = .ok (.ldc_w 278, 3) := by decide +kernel
theorem dX12_init_816 : decode cX12_init 816 = .ok (.invokestatic 250, 3) := by decide +kernel
theorem dX12_init_819 : decode cX12_init 819 = .ok (.lastore, 1) := by decide +kernel
theorem dX12_init_820 : decode cX12_init 820 = .ok (.aload_n 0, 1) := by decide +kernel
theorem dX12_init_821 : decode cX12_init 821 = .ok (.getfield 27, 3) := by decide +kernel
theorem dX12_init_824 : decode cX12_init 824 = .ok (.bipush 24, 2) := by decide +kernel
theorem dX12_init_826 : decode cX12_init 826 = .ok (.ldc_w 280, 3) := by decide +kernel
theorem dX12_init_829 : decode cX12_init 829 = .ok (.invokestatic 250, 3) := by decide +kernel
theorem dX12_init_832 : decode cX12_init 832 = .ok (.lastore, 1) := by decide +kernel
theorem dX12_init_833 : decode cX12_init 833 = .ok (.aload_n 0, 1) := by decide +kernel
theorem dX12_init_834 : decode cX12_init 834 = .ok (.getfield 27, 3) := by decide +kernel
theorem dX12_init_837 : decode cX12_init 837 = .ok (.bipush 25, 2) := by decide +kernel
theorem dX12_init_839 : decode cX12_init 839 = .ok (.ldc_w 282, 3) := by decide +kernel
theorem dX12_init_842 : decode cX12_init 842 = .ok (.invokestatic 250, 3) := by decide +kernel
theorem dX12_init_845 : decode cX12_init 845 = .ok (.lastore, 1) := by decide +kernel
theorem dX12_init_846 : decode cX12_init 846 = .ok (.aload_n 0, 1) := by decide +kernel
theorem dX12_init_847 : decode cX12_init 847 = .ok (.getfield 27, 3) := by decide +kernel
theorem dX12_init_850 : decode cX12_init 850 = .ok (.bipush 26, 2) := by decide +kernel
theorem dX12_init_852 : decode cX12_init 852 = .ok (.ldc_w 284, 3) := by decide +kernel
theorem dX12_init_855 : decode cX12_init 855 = .ok (.invokestatic 250, 3) := by decide +kernel
theorem dX12_init_858 : decode cX12_init 858 = .ok (.lastore, 1) := by decide +kernel
theorem dX12_init_859 : decode cX12_init 859 = .ok (.aload_n 0, 1) := by decide +kernel
theorem dX12_init_860 : decode cX12_init 860 = .ok (.getfield 27, 3) := by decide +kernel
theorem dX12_init_863 : decode cX12_init 863 = .ok (.bipush 27, 2) := by decide +kernel
theorem dX12_init_865 : decode cX12_init 865 = .ok (.ldc_w 286, 3) := by decide +kernel
theorem dX12_init_868 : decode cX12_init 868 = .ok (.invokestatic 250, 3) := by decide +kernel
theorem dX12_init_871 : decode cX12_init 871 = .ok (.lastore, 1) := by decide +kernel
theorem dX12_init_872 : decode cX12_init 872 = .ok (.aload_n 0, 1) := by decide +kernel
theorem dX12_init_873 : decode cX12_init 873 = .ok (.getfield 27, 3) := by decide +kernel
theorem dX12_init_876 : decode cX12_init 876 = .ok (.bipush 28, 2) := by decide +kernel
theorem dX12_init_878 : decode cX12_init 878 = .ok (.ldc_w 288, 3) := by decide +kernel
theorem dX12_init_881 : decode cX12_init 881 = .ok (.invokestatic 250, 3) := by decide +kernel
theorem dX12_init_884 : decode cX12_init 884 = .ok (.lastore, 1) := by decide +kernel
theorem dX12_init_885 : decode cX12_init 885 = .ok (.aload_n 0, 1) := by decide +kernel
theorem dX12_init_886 : decode cX12_init 886 = .ok (.getfield 27, 3) := by decide +kernel
theorem dX12_init_889 : decode cX12_init 889 = .ok (.bipush 29, 2) := by decide +kernel
theorem dX12_init_891 : decode cX12_init 891 = .ok (.ldc_w 290, 3) := by decide +kernel
theorem dX12_init_894 : decode cX12_init 894 = .ok (.invokestatic 250, 3) := by decide +kernel
theorem dX12_init_897 : decode cX12_init 897 = .ok (.lastore, 1) := by decide +kernel
theorem dX12_init_898 : decode cX12_init 898 = .ok (.aload_n 0, 1) := by decide +kernel
theorem dX12_init_899 : decode cX12_init 899 = .ok (.getfield 27, 3) := by decide +kernel
theorem dX12_init_902 : decode cX12_init 902 = .ok (.bipush 30, 2) := by decide +kernel
theorem dX12_init_904 : decode cX12_init 904 = .ok (.ldc_w 292, 3) := by decide +kernel
theorem dX12_init_907 : decode cX12_init 907 = .ok (.invokestatic 250, 3) := by decide +kernel
theorem dX12_init_910 : decode cX12_init 910 = .ok (.lastore, 1) := by decide +kernel
theorem dX12_init_911 : decode cX12_init 911 = .ok (.aload_n 0, 1) := by decide +kernel
theorem dX12_init_912 : decode cX12_init 912 = .ok (.getfield 27, 3) := by decide +kernel
theorem dX12_init_915 : decode cX12_init 915 = .ok (.bipush 31, 2) := by decide +kernel
theorem dX12_init_917 : decode cX12_init 917 = .ok (.ldc_w 294, 3) := by decide +kernel
theorem dX12_init_920 : decode cX12_init 920 = .ok (.invokestatic 250, 3) := by decide +kernel
theorem dX12_init_923 : decode cX12_init 923 = .ok (.lastore, 1) := by decide +kernel
theorem dX12_init_924 : decode cX12_init 924 = .ok (.aload_n 0, 1) := by decide +kernel
theorem dX12_init_925 : decode cX12_init 925 = .ok (.getfield 27, 3) := by decide +kernel
theorem dX12_init_928 : decode cX12_init 928 = .ok (.bipush 32, 2) := by decide +kernel
theorem dX12_init_930 : decode cX12_init 930 = .ok (.ldc_w 296, 3) := by decide +kernel
theorem dX12_init_933 : decode cX12_init 933 = .ok (.invokestatic 250, 3) := by decide +kernel
theorem dX12_init_936 : decode cX12_init 936 = .ok (.lastore, 1) := by decide +kernel
theorem dX12_init_937 : decode cX12_init 937 = .ok (.aload_n 0, 1) := by decide +kernel
theorem dX12_init_938 : decode cX12_init 938 = .ok (.getfield 27, 3) := by decide +kernel
theorem dX12_init_941 : decode cX12_init 941 = .ok (.bipush 33, 2) := by decide +kernel
theorem dX12_init_943 : decode cX12_init 943 = .ok (.ldc_w 298, 3) := by decide +kernel
theorem dX12_init_946 : decode cX12_init 946 = .ok (.invokestatic 250, 3) := by decide +kernel
theorem dX12_init_949 : decode cX12_init 949 = .ok (.lastore, 1) := by decide +kernel
theorem dX12_init_950 : decode cX12_init 950 = .ok (.aload_n 0, 1) := by decide +kernel
theorem dX12_init_951 : decode cX12_init 951 = .ok (.getfield 27, 3) := by decide +kernel
theorem dX12_init_954 : decode cX12_init 954 = .ok (.bipush 34, 2) := by decide +kernel
theorem dX12_init_956 : decode cX12_init 956 = .ok (.ldc_w 300, 3) := by decide +kernel
theorem dX12_init_959 : decode cX12_init 959 = .ok (.invokestatic 250, 3) := by decide +kernel
theorem dX12_init_962 : decode cX12_init 962 = .ok (.lastore, 1) := by decide +kernel
theorem dX12_init_963 : decode cX12_init 963 = .ok (.aload_n 0, 1) := by decide +kernel
theorem dX12_init_964 : decode cX12_init 964 = .ok (.getfield 27, 3) := by decide +kernel
theorem dX12_init_967 : decode cX12_init 967 = .ok (.bipush 35, 2) := by decide +kernel
theorem dX12_init_969 : decode cX12_init 969 = .ok (.ldc_w 302, 3) := by decide +kernel
theorem dX12_init_972 : decode cX12_init 972 = .ok (.invokestatic 250, 3) := by decide +kernel
theorem dX12_init_975 : decode cX12_init 975 = .ok (.lastore, 1) := by decide +kernel
theorem dX12_init_976 : decode cX12_init 976 = .ok (.aload_n 0, 1) := by decide +kernel
theorem dX12_init_977 : decode cX12_init 977 = .ok (.getfield 27, 3) := by decide +kernel
theorem dX12_init_980 : decode cX12_init 980 = .ok (.bipush 36, 2) := by decide +kernel
theorem dX12_init_982 : decode cX12_init 982 = .ok (.ldc_w 304, 3) := by decide +kernel
theorem dX12_init_985 : decode cX12_init 985 = .ok (.invokestatic 250, 3) := by decide +kernel
theorem dX12_init_988 : decode cX12_init 988 = .ok (.lastore, 1) := by decide +kernel
theorem dX12_init_989 : decode cX12_init 989 = .ok (.aload_n 0, 1) := by decide +kernel
theorem dX12_init_990 : decode cX12_init 990 = .ok (.getfield 27, 3) := by decide +kernel
theorem dX12_init_993 : decode cX12_init 993 = .ok (.bipush 37, 2) := by decide +kernel
theorem dX12_init_995 : decode cX12_init 995 = .ok (.ldc_w 306, 3) := by decide +kernel
theorem dX12_init_998 : decode cX12_init 998 = .ok (.invokestatic 250, 3) := by decide +kernel
theorem dX12_init_1001 : decode cX12_init 1001 = .ok (.lastore, 1) := by decide +kernel
theorem dX12_init_1002 : decode cX12_init 1002 = .ok (.aload_n 0, 1) := by decide +kernel
theorem dX12_init_1003 : decode cX12_init 1003 = .ok (.getfield 27, 3) := by decide +kernel
theorem dX12_init_1006 : decode cX12_init 1006 = .ok (.bipush 38, 2) := by decide +kernel
theorem dX12_init_1008 : decode cX12_init 1008 = .ok (.ldc_w 308, 3) := by decide +kernel
theorem dX12_init_1011 : decode cX12_init 1011 = .ok (.invokestatic 250, 3) := by decide +kernel
theorem dX12_init_1014 : decode cX12_init 1014 = .ok (.lastore, 1) := by decide +kernel
theorem dX12_init_1015 : decode cX12_init 1015 = .ok (.aload_n 0, 1) := by decide +kernel
theorem dX12_init_1016 : decode cX12_init 1016 = .ok (.getfield 27, 3) := by decide +kernel
theorem dX12_init_1019 : decode cX12_init 1019 = .ok (.bipush 39, 2) := by decide +kernel
theorem dX12_init_1021 : decode cX12_init 1021 = .ok (.ldc_w 309, 3) := by decide +kernel
theorem dX12_init_1024 : decode cX12_init 1024 = .ok (.invokestatic 250, 3) := by decide +kernel
theorem dX12_init_1027 : decode cX12_init 1027 = .ok (.lastore, 1) := by decide +kernel
theorem dX12_init_1028 : decode cX12_init 1028 = .ok (.aload_n 0, 1) := by decide +kernel
theorem dX12_init_1029 : decode cX12_init 1029 = .ok (.getfield 27, 3) := by decide +kernel
theorem dX12_init_1032 : decode cX12_init 1032 = .ok (.bipush 40, 2) := by decide +kernel
theorem dX12_init_1034 : decode cX12_init 1034 = .ok (.ldc_w 311, 3) := by decide +kernel
theorem dX12_init_1037 : decode cX12_init 1037 = .ok (.invokestatic 250, 3) := by decide +kernel
theorem dX12_init_1040 : decode cX12_init 1040 = .ok (.lastore, 1) := by decide +kernel
theorem dX12_init_1041 : decode cX12_init 1041 = .ok (.aload_n 0, 1) := by decide +kernel
theorem dX12_init_1042 : decode cX12_init 1042 = .ok (.getfield 27, 3) := by decide +kernel
theorem dX12_init_1045 : decode cX12_init 1045 = .ok (.bipush 41, 2) := by decide +kernel
theorem dX12_init_1047 : decode cX12_init 1047 = .ok (.ldc_w 313, 3) := by decide +kernel
theorem dX12_init_1050 : decode cX12_init 1050 = .ok (.invokestatic 250, 3) := by decide +kernel
theorem dX12_init_1053 : decode cX12_init 1053 = .ok (.lastore, 1) := by decide +kernel
theorem dX12_init_1054 : decode cX12_init 1054 = .ok (.aload_n 0, 1) := by decide +kernel
theorem dX12_init_1055 : decode cX12_init 1055 = .ok (.getfield 27, 3) := by decide +kernel
theorem dX12_init_1058 : decode cX12_init 1058 = .ok (.bipush 42, 2) := by decide +kernel
theorem dX12_init_1060 : decode cX12_init 1060 = .ok (.ldc_w 315, 3) := by decide +kernel
theorem dX12_init_1063 : decode cX12_init 1063 = .ok (.invokestatic 250, 3) := by decide +kernel
theorem dX12_init_1066 : decode cX12_init 1066 = .ok (.lastore, 1) := by decide +kernel
theorem dX12_init_1067 : decode cX12_init 1067 = .ok (.aload_n 0, 1) := by decide +kernel
theorem dX12_init_1068 : decode cX12_init 1068 = .ok (.getfield 27, 3) := by decide +kernel
theorem dX12_init_1071 : decode cX12_init 1071 = .ok (.bipush 43, 2) := by decide +kernel
theorem dX12_init_1073 : decode cX12_init 1073 = .ok (.ldc_w 316, 3) := by decide +kernel
theorem dX12_init_1076 : decode cX12_init 1076 = .ok (.invokestatic 250, 3) := by decide +kernel
theorem dX12_init_1079 : decode cX12_init 1079 = .ok (.lastore, 1) := by decide +kernel
theorem dX12_init_1080 : decode cX12_init 1080 = .ok (.aload_n 0, 1) := by decide +kernel
theorem dX12_init_1081 : decode cX12_init 1081 = .ok (.getfield 27, 3) := by decide +kernel
theorem dX12_init_1084 : decode cX12_init 1084 = .ok (.bipush 44, 2) := by decide +kernel
theorem dX12_init_1086 : decode cX12_init 1086 = .ok (.ldc_w 318, 3) := by decide +kernel
theorem dX12_init_1089 : decode cX12_init 1089 = .ok (.invokestatic 250, 3) := by decide +kernel
theorem dX12_init_1092 : decode cX12_init 1092 = .ok (.lastore, 1) := by decide +kernel
theorem dX12_init_1093 : decode cX12_init 1093 = .ok (.aload_n 0, 1) := by decide +kernel
theorem dX12_init_1094 : decode cX12_init 1094 = .ok (.getfield 27, 3) := by decide +kernel
theorem dX12_init_1097 : decode cX12_init 1097 = .ok (.bipush 45, 2) := by decide +kernel
theorem dX12_init_1099 : decode cX12_init 1099 = .ok (.ldc_w 320, 3) := by decide +kernel
theorem dX12_init_1102 : decode cX12_init 1102 = .ok (.invokestatic 250, 3) := by decide +kernel
theorem dX12_init_1105 : decode cX12_init 1105 = .ok (.lastore, 1) := by decide +kernel
theorem dX12_init_1106 : decode cX12_init 1106 = .ok (.aload_n 0, 1) := by decide +kernel
theorem dX12_init_1107 : decode cX12_init 1107 = .ok (.getfield 27, 3) := by decide +kernel
theorem dX12_init_1110 : decode cX12_init 1110 = .ok (.bipush 46, 2) := by decide +kernel
theorem dX12_init_1112 : decode cX12_init 1112 = .ok (.ldc_w 322, 3) := by decide +kernel
theorem dX12_init_1115 : decode cX12_init 1115 = .ok (.invokestatic 250, 3) := by decide +kernel
theorem dX12_init_1118 : decode cX12_init 1118 = .ok (.lastore, 1) := by decide +kernel
theorem dX12_init_1119 : decode cX12_init 1119 = .ok (.aload_n 0, 1) := by decide +kernel
theorem dX12_init_1120 : decode cX12_init 1120 = .ok (.getfield 27, 3) := by decide +kernel
theorem dX12_init_1123 : decode cX12_init 1123 = .ok (.bipush 47, 2) := by decide +kernel
theorem dX12_init_1125 : decode cX12_init 1125 = .ok (.ldc_w 324, 3) := by decide +kernel
theorem dX12_init_1128 : decode cX12_init 1128 = .ok (.invokestatic 250, 3) := by decide +kernel
theorem dX12_init_1131 : decode cX12_init 1131 = .ok (.lastore, 1) := by decide +kernel
theorem dX12_init_1132 : decode cX12_init 1132 = .ok (.aload_n 0, 1) := by decide +kernel
theorem dX12_init_1133 : decode cX12_init 1133 = .ok (.getfield 27, 3) := by decide +kernel
theorem dX12_init_1136 : decode cX12_init 1136 = .ok (.bipush 48, 2) := by decide +kernel
theorem dX12_init_1138 : decode cX12_init 1138 = .ok (.ldc_w 326, 3) := by decide +kernel
theorem dX12_init_1141 : decode cX12_init 1141 = .ok (.invokestatic 250, 3) := by decide +kernel
theorem dX12_init_1144 : decode cX12_init 1144 = .ok (.lastore, 1) := by decide +kernel
theorem dX12_init_1145 : decode cX12_init 1145 = .ok (.aload_n 0, 1) := by decide +kernel
theorem dX12_init_1146 : decode cX12_init 1146 = .ok (.getfield 27, 3) := by decide +kernel
theorem dX12_init_1149 : decode cX12_init 1149 = .ok (.bipush 49, 2) := by decide +kernel
theorem dX12_init_1151 : decode cX12_init 1151 = .ok (.ldc_w 328, 3) := by decide +kernel
theorem dX12_init_1154 : decode cX12_init 1154 = .ok (.invokestatic 250, 3) := by decide +kernel
theorem dX12_init_1157 : decode cX12_init 1157 = .ok (.lastore, 1) := by decide +kernel
theorem dX12_init_1158 : decode cX12_init 1158 = .ok (.return_, 1) := by decide +kernel
def wX12_init_b1145 (a0 : Nat)  (Sn : kp_S) (post : kp_S → Prop) : Prop :=
  ∃ b1001 : Nat, kp_R Sn 2403 a0 = some b1001 ∧
  wX12_packed 41 Sn (fun z1003 T1002 =>
  vp_in ((49 : Int32)) (kp_N T1002 b1001) ∧ ∀ T1004 : kp_S, T1004 = kp_sB T1002 b1001 (vp_updL (kp_B T1002 b1001) (((49 : Int32)).toNatClampNeg) z1003) →
  post T1004)
def wX12_init_b1080 (a0 : Nat)  (Sn : kp_S) (post : kp_S → Prop) : Prop :=
  ∃ b2001 : Nat, kp_R Sn 2403 a0 = some b2001 ∧
  wX12_packed 36 Sn (fun z2003 T2002 =>
  vp_in ((44 : Int32)) (kp_N T2002 b2001) ∧ ∀ T2004 : kp_S, T2004 = kp_sB T2002 b2001 (vp_updL (kp_B T2002 b2001) (((44 : Int32)).toNatClampNeg) z2003) →
  ∃ b2005 : Nat, kp_R T2004 2403 a0 = some b2005 ∧
  wX12_packed 37 T2004 (fun z2007 T2006 =>
  vp_in ((45 : Int32)) (kp_N T2006 b2005) ∧ ∀ T2008 : kp_S, T2008 = kp_sB T2006 b2005 (vp_updL (kp_B T2006 b2005) (((45 : Int32)).toNatClampNeg) z2007) →
  ∃ b2009 : Nat, kp_R T2008 2403 a0 = some b2009 ∧
  wX12_packed 38 T2008 (fun z2011 T2010 =>
  vp_in ((46 : Int32)) (kp_N T2010 b2009) ∧ ∀ T2012 : kp_S, T2012 = kp_sB T2010 b2009 (vp_updL (kp_B T2010 b2009) (((46 : Int32)).toNatClampNeg) z2011) →
  ∃ b2013 : Nat, kp_R T2012 2403 a0 = some b2013 ∧
  wX12_packed 39 T2012 (fun z2015 T2014 =>
  vp_in ((47 : Int32)) (kp_N T2014 b2013) ∧ ∀ T2016 : kp_S, T2016 = kp_sB T2014 b2013 (vp_updL (kp_B T2014 b2013) (((47 : Int32)).toNatClampNeg) z2015) →
  ∃ b2017 : Nat, kp_R T2016 2403 a0 = some b2017 ∧
  wX12_packed 40 T2016 (fun z2019 T2018 =>
  vp_in ((48 : Int32)) (kp_N T2018 b2017) ∧ ∀ T2020 : kp_S, T2020 = kp_sB T2018 b2017 (vp_updL (kp_B T2018 b2017) (((48 : Int32)).toNatClampNeg) z2019) →
  wX12_init_b1145 a0   T2020 post)))))
def wX12_init_b1015 (a0 : Nat)  (Sn : kp_S) (post : kp_S → Prop) : Prop :=
  ∃ b3001 : Nat, kp_R Sn 2403 a0 = some b3001 ∧
  wX12_packed 31 Sn (fun z3003 T3002 =>
  vp_in ((39 : Int32)) (kp_N T3002 b3001) ∧ ∀ T3004 : kp_S, T3004 = kp_sB T3002 b3001 (vp_updL (kp_B T3002 b3001) (((39 : Int32)).toNatClampNeg) z3003) →
  ∃ b3005 : Nat, kp_R T3004 2403 a0 = some b3005 ∧
  wX12_packed 32 T3004 (fun z3007 T3006 =>
  vp_in ((40 : Int32)) (kp_N T3006 b3005) ∧ ∀ T3008 : kp_S, T3008 = kp_sB T3006 b3005 (vp_updL (kp_B T3006 b3005) (((40 : Int32)).toNatClampNeg) z3007) →
  ∃ b3009 : Nat, kp_R T3008 2403 a0 = some b3009 ∧
  wX12_packed 33 T3008 (fun z3011 T3010 =>
  vp_in ((41 : Int32)) (kp_N T3010 b3009) ∧ ∀ T3012 : kp_S, T3012 = kp_sB T3010 b3009 (vp_updL (kp_B T3010 b3009) (((41 : Int32)).toNatClampNeg) z3011) →
  ∃ b3013 : Nat, kp_R T3012 2403 a0 = some b3013 ∧
  wX12_packed 34 T3012 (fun z3015 T3014 =>
  vp_in ((42 : Int32)) (kp_N T3014 b3013) ∧ ∀ T3016 : kp_S, T3016 = kp_sB T3014 b3013 (vp_updL (kp_B T3014 b3013) (((42 : Int32)).toNatClampNeg) z3015) →
  ∃ b3017 : Nat, kp_R T3016 2403 a0 = some b3017 ∧
  wX12_packed 35 T3016 (fun z3019 T3018 =>
  vp_in ((43 : Int32)) (kp_N T3018 b3017) ∧ ∀ T3020 : kp_S, T3020 = kp_sB T3018 b3017 (vp_updL (kp_B T3018 b3017) (((43 : Int32)).toNatClampNeg) z3019) →
  wX12_init_b1080 a0   T3020 post)))))
def wX12_init_b950 (a0 : Nat)  (Sn : kp_S) (post : kp_S → Prop) : Prop :=
  ∃ b4001 : Nat, kp_R Sn 2403 a0 = some b4001 ∧
  wX12_packed 26 Sn (fun z4003 T4002 =>
  vp_in ((34 : Int32)) (kp_N T4002 b4001) ∧ ∀ T4004 : kp_S, T4004 = kp_sB T4002 b4001 (vp_updL (kp_B T4002 b4001) (((34 : Int32)).toNatClampNeg) z4003) →
  ∃ b4005 : Nat, kp_R T4004 2403 a0 = some b4005 ∧
  wX12_packed 27 T4004 (fun z4007 T4006 =>
  vp_in ((35 : Int32)) (kp_N T4006 b4005) ∧ ∀ T4008 : kp_S, T4008 = kp_sB T4006 b4005 (vp_updL (kp_B T4006 b4005) (((35 : Int32)).toNatClampNeg) z4007) →
  ∃ b4009 : Nat, kp_R T4008 2403 a0 = some b4009 ∧
  wX12_packed 28 T4008 (fun z4011 T4010 =>
  vp_in ((36 : Int32)) (kp_N T4010 b4009) ∧ ∀ T4012 : kp_S, T4012 = kp_sB T4010 b4009 (vp_updL (kp_B T4010 b4009) (((36 : Int32)).toNatClampNeg) z4011) →
  ∃ b4013 : Nat, kp_R T4012 2403 a0 = some b4013 ∧
  wX12_packed 29 T4012 (fun z4015 T4014 =>
  vp_in ((37 : Int32)) (kp_N T4014 b4013) ∧ ∀ T4016 : kp_S, T4016 = kp_sB T4014 b4013 (vp_updL (kp_B T4014 b4013) (((37 : Int32)).toNatClampNeg) z4015) →
  ∃ b4017 : Nat, kp_R T4016 2403 a0 = some b4017 ∧
  wX12_packed 30 T4016 (fun z4019 T4018 =>
  vp_in ((38 : Int32)) (kp_N T4018 b4017) ∧ ∀ T4020 : kp_S, T4020 = kp_sB T4018 b4017 (vp_updL (kp_B T4018 b4017) (((38 : Int32)).toNatClampNeg) z4019) →
  wX12_init_b1015 a0   T4020 post)))))
def wX12_init_b885 (a0 : Nat)  (Sn : kp_S) (post : kp_S → Prop) : Prop :=
  ∃ b5001 : Nat, kp_R Sn 2403 a0 = some b5001 ∧
  wX12_packed 21 Sn (fun z5003 T5002 =>
  vp_in ((29 : Int32)) (kp_N T5002 b5001) ∧ ∀ T5004 : kp_S, T5004 = kp_sB T5002 b5001 (vp_updL (kp_B T5002 b5001) (((29 : Int32)).toNatClampNeg) z5003) →
  ∃ b5005 : Nat, kp_R T5004 2403 a0 = some b5005 ∧
  wX12_packed 22 T5004 (fun z5007 T5006 =>
  vp_in ((30 : Int32)) (kp_N T5006 b5005) ∧ ∀ T5008 : kp_S, T5008 = kp_sB T5006 b5005 (vp_updL (kp_B T5006 b5005) (((30 : Int32)).toNatClampNeg) z5007) →
  ∃ b5009 : Nat, kp_R T5008 2403 a0 = some b5009 ∧
  wX12_packed 23 T5008 (fun z5011 T5010 =>
  vp_in ((31 : Int32)) (kp_N T5010 b5009) ∧ ∀ T5012 : kp_S, T5012 = kp_sB T5010 b5009 (vp_updL (kp_B T5010 b5009) (((31 : Int32)).toNatClampNeg) z5011) →
  ∃ b5013 : Nat, kp_R T5012 2403 a0 = some b5013 ∧
  wX12_packed 24 T5012 (fun z5015 T5014 =>
  vp_in ((32 : Int32)) (kp_N T5014 b5013) ∧ ∀ T5016 : kp_S, T5016 = kp_sB T5014 b5013 (vp_updL (kp_B T5014 b5013) (((32 : Int32)).toNatClampNeg) z5015) →
  ∃ b5017 : Nat, kp_R T5016 2403 a0 = some b5017 ∧
  wX12_packed 25 T5016 (fun z5019 T5018 =>
  vp_in ((33 : Int32)) (kp_N T5018 b5017) ∧ ∀ T5020 : kp_S, T5020 = kp_sB T5018 b5017 (vp_updL (kp_B T5018 b5017) (((33 : Int32)).toNatClampNeg) z5019) →
  wX12_init_b950 a0   T5020 post)))))
def wX12_init_b820 (a0 : Nat)  (Sn : kp_S) (post : kp_S → Prop) : Prop :=
  ∃ b6001 : Nat, kp_R Sn 2403 a0 = some b6001 ∧
  wX12_packed 16 Sn (fun z6003 T6002 =>
  vp_in ((24 : Int32)) (kp_N T6002 b6001) ∧ ∀ T6004 : kp_S, T6004 = kp_sB T6002 b6001 (vp_updL (kp_B T6002 b6001) (((24 : Int32)).toNatClampNeg) z6003) →
  ∃ b6005 : Nat, kp_R T6004 2403 a0 = some b6005 ∧
  wX12_packed 17 T6004 (fun z6007 T6006 =>
  vp_in ((25 : Int32)) (kp_N T6006 b6005) ∧ ∀ T6008 : kp_S, T6008 = kp_sB T6006 b6005 (vp_updL (kp_B T6006 b6005) (((25 : Int32)).toNatClampNeg) z6007) →
  ∃ b6009 : Nat, kp_R T6008 2403 a0 = some b6009 ∧
  wX12_packed 18 T6008 (fun z6011 T6010 =>
  vp_in ((26 : Int32)) (kp_N T6010 b6009) ∧ ∀ T6012 : kp_S, T6012 = kp_sB T6010 b6009 (vp_updL (kp_B T6010 b6009) (((26 : Int32)).toNatClampNeg) z6011) →
  ∃ b6013 : Nat, kp_R T6012 2403 a0 = some b6013 ∧
  wX12_packed 19 T6012 (fun z6015 T6014 =>
  vp_in ((27 : Int32)) (kp_N T6014 b6013) ∧ ∀ T6016 : kp_S, T6016 = kp_sB T6014 b6013 (vp_updL (kp_B T6014 b6013) (((27 : Int32)).toNatClampNeg) z6015) →
  ∃ b6017 : Nat, kp_R T6016 2403 a0 = some b6017 ∧
  wX12_packed 20 T6016 (fun z6019 T6018 =>
  vp_in ((28 : Int32)) (kp_N T6018 b6017) ∧ ∀ T6020 : kp_S, T6020 = kp_sB T6018 b6017 (vp_updL (kp_B T6018 b6017) (((28 : Int32)).toNatClampNeg) z6019) →
  wX12_init_b885 a0   T6020 post)))))
def wX12_init_b755 (a0 : Nat)  (Sn : kp_S) (post : kp_S → Prop) : Prop :=
  ∃ b7001 : Nat, kp_R Sn 2403 a0 = some b7001 ∧
  wX12_packed 11 Sn (fun z7003 T7002 =>
  vp_in ((19 : Int32)) (kp_N T7002 b7001) ∧ ∀ T7004 : kp_S, T7004 = kp_sB T7002 b7001 (vp_updL (kp_B T7002 b7001) (((19 : Int32)).toNatClampNeg) z7003) →
  ∃ b7005 : Nat, kp_R T7004 2403 a0 = some b7005 ∧
  wX12_packed 12 T7004 (fun z7007 T7006 =>
  vp_in ((20 : Int32)) (kp_N T7006 b7005) ∧ ∀ T7008 : kp_S, T7008 = kp_sB T7006 b7005 (vp_updL (kp_B T7006 b7005) (((20 : Int32)).toNatClampNeg) z7007) →
  ∃ b7009 : Nat, kp_R T7008 2403 a0 = some b7009 ∧
  wX12_packed 13 T7008 (fun z7011 T7010 =>
  vp_in ((21 : Int32)) (kp_N T7010 b7009) ∧ ∀ T7012 : kp_S, T7012 = kp_sB T7010 b7009 (vp_updL (kp_B T7010 b7009) (((21 : Int32)).toNatClampNeg) z7011) →
  ∃ b7013 : Nat, kp_R T7012 2403 a0 = some b7013 ∧
  wX12_packed 14 T7012 (fun z7015 T7014 =>
  vp_in ((22 : Int32)) (kp_N T7014 b7013) ∧ ∀ T7016 : kp_S, T7016 = kp_sB T7014 b7013 (vp_updL (kp_B T7014 b7013) (((22 : Int32)).toNatClampNeg) z7015) →
  ∃ b7017 : Nat, kp_R T7016 2403 a0 = some b7017 ∧
  wX12_packed 15 T7016 (fun z7019 T7018 =>
  vp_in ((23 : Int32)) (kp_N T7018 b7017) ∧ ∀ T7020 : kp_S, T7020 = kp_sB T7018 b7017 (vp_updL (kp_B T7018 b7017) (((23 : Int32)).toNatClampNeg) z7019) →
  wX12_init_b820 a0   T7020 post)))))
def wX12_init_b690 (a0 : Nat)  (Sn : kp_S) (post : kp_S → Prop) : Prop :=
  ∃ b8001 : Nat, kp_R Sn 2403 a0 = some b8001 ∧
  wX12_packed 6 Sn (fun z8003 T8002 =>
  vp_in ((14 : Int32)) (kp_N T8002 b8001) ∧ ∀ T8004 : kp_S, T8004 = kp_sB T8002 b8001 (vp_updL (kp_B T8002 b8001) (((14 : Int32)).toNatClampNeg) z8003) →
  ∃ b8005 : Nat, kp_R T8004 2403 a0 = some b8005 ∧
  wX12_packed 7 T8004 (fun z8007 T8006 =>
  vp_in ((15 : Int32)) (kp_N T8006 b8005) ∧ ∀ T8008 : kp_S, T8008 = kp_sB T8006 b8005 (vp_updL (kp_B T8006 b8005) (((15 : Int32)).toNatClampNeg) z8007) →
  ∃ b8009 : Nat, kp_R T8008 2403 a0 = some b8009 ∧
  wX12_packed 8 T8008 (fun z8011 T8010 =>
  vp_in ((16 : Int32)) (kp_N T8010 b8009) ∧ ∀ T8012 : kp_S, T8012 = kp_sB T8010 b8009 (vp_updL (kp_B T8010 b8009) (((16 : Int32)).toNatClampNeg) z8011) →
  ∃ b8013 : Nat, kp_R T8012 2403 a0 = some b8013 ∧
  wX12_packed 9 T8012 (fun z8015 T8014 =>
  vp_in ((17 : Int32)) (kp_N T8014 b8013) ∧ ∀ T8016 : kp_S, T8016 = kp_sB T8014 b8013 (vp_updL (kp_B T8014 b8013) (((17 : Int32)).toNatClampNeg) z8015) →
  ∃ b8017 : Nat, kp_R T8016 2403 a0 = some b8017 ∧
  wX12_packed 10 T8016 (fun z8019 T8018 =>
  vp_in ((18 : Int32)) (kp_N T8018 b8017) ∧ ∀ T8020 : kp_S, T8020 = kp_sB T8018 b8017 (vp_updL (kp_B T8018 b8017) (((18 : Int32)).toNatClampNeg) z8019) →
  wX12_init_b755 a0   T8020 post)))))
def wX12_init_b621 (a0 : Nat)  (Sn : kp_S) (post : kp_S → Prop) : Prop :=
  ∀ (b9001 : Nat) (T9002 : kp_S), b9001 ∉ kp_L Sn → T9002 = kp_newA Sn b9001 14 4000 →
  ∀ T9003 : kp_S, T9003 = kp_sR T9002 2515 a0 b9001 →
  ∀ T9004 : kp_S, T9004 = kp_sI T9003 2517 a0 (-1) →
  ∀ T9005 : kp_S, T9005 = kp_sI T9004 2522 a0 (-1) →
  ∃ b9006 : Nat, kp_R T9005 2403 a0 = some b9006 ∧
  wX12_packed 2 T9005 (fun z9008 T9007 =>
  vp_in ((10 : Int32)) (kp_N T9007 b9006) ∧ ∀ T9009 : kp_S, T9009 = kp_sB T9007 b9006 (vp_updL (kp_B T9007 b9006) (((10 : Int32)).toNatClampNeg) z9008) →
  ∃ b9010 : Nat, kp_R T9009 2403 a0 = some b9010 ∧
  wX12_packed 3 T9009 (fun z9012 T9011 =>
  vp_in ((11 : Int32)) (kp_N T9011 b9010) ∧ ∀ T9013 : kp_S, T9013 = kp_sB T9011 b9010 (vp_updL (kp_B T9011 b9010) (((11 : Int32)).toNatClampNeg) z9012) →
  ∃ b9014 : Nat, kp_R T9013 2403 a0 = some b9014 ∧
  wX12_packed 4 T9013 (fun z9016 T9015 =>
  vp_in ((12 : Int32)) (kp_N T9015 b9014) ∧ ∀ T9017 : kp_S, T9017 = kp_sB T9015 b9014 (vp_updL (kp_B T9015 b9014) (((12 : Int32)).toNatClampNeg) z9016) →
  ∃ b9018 : Nat, kp_R T9017 2403 a0 = some b9018 ∧
  wX12_packed 5 T9017 (fun z9020 T9019 =>
  vp_in ((13 : Int32)) (kp_N T9019 b9018) ∧ ∀ T9021 : kp_S, T9021 = kp_sB T9019 b9018 (vp_updL (kp_B T9019 b9018) (((13 : Int32)).toNatClampNeg) z9020) →
  wX12_init_b690 a0   T9021 post))))
def wX12_init_b554 (a0 : Nat)  (Sn : kp_S) (post : kp_S → Prop) : Prop :=
  ∀ (b10001 : Nat) (T10002 : kp_S), b10001 ∉ kp_L Sn → T10002 = kp_newA Sn b10001 14 13 →
  ∀ T10003 : kp_S, T10003 = kp_sR T10002 2502 a0 b10001 →
  ∀ (b10004 : Nat) (T10005 : kp_S), b10004 ∉ kp_L T10003 → T10005 = kp_newA T10003 b10004 14 13 →
  ∀ T10006 : kp_S, T10006 = kp_sR T10005 2503 a0 b10004 →
  ∀ (b10007 : Nat) (T10008 : kp_S), b10007 ∉ kp_L T10006 → T10008 = kp_newA T10006 b10007 14 13 →
  ∀ T10009 : kp_S, T10009 = kp_sR T10008 2504 a0 b10007 →
  ∀ (b10010 : Nat) (T10011 : kp_S), b10010 ∉ kp_L T10009 → T10011 = kp_newA T10009 b10010 14 13 →
  ∀ T10012 : kp_S, T10012 = kp_sR T10011 2505 a0 b10010 →
  ∀ (b10013 : Nat) (T10014 : kp_S), b10013 ∉ kp_L T10012 → T10014 = kp_newA T10012 b10013 14 13 →
  ∀ T10015 : kp_S, T10015 = kp_sR T10014 2506 a0 b10013 →
  ∀ (b10016 : Nat) (T10017 : kp_S), b10016 ∉ kp_L T10015 → T10017 = kp_newA T10015 b10016 14 520 →
  ∀ T10018 : kp_S, T10018 = kp_sR T10017 2507 a0 b10016 →
  ∀ (b10019 : Nat) (T10020 : kp_S), b10019 ∉ kp_L T10018 → T10020 = kp_newA T10018 b10019 14 520 →
  ∀ T10021 : kp_S, T10021 = kp_sR T10020 2508 a0 b10019 →
  ∀ (b10022 : Nat) (T10023 : kp_S), b10022 ∉ kp_L T10021 → T10023 = kp_newA T10021 b10022 14 312 →
  ∀ T10024 : kp_S, T10024 = kp_sR T10023 2509 a0 b10022 →
  wX12_init_b621 a0   T10024 post
def wX12_init_b482 (a0 : Nat)  (Sn : kp_S) (post : kp_S → Prop) : Prop :=
  ∀ (b11001 : Nat) (T11002 : kp_S), b11001 ∉ kp_L Sn → T11002 = kp_newA Sn b11001 15 240 →
  ∀ T11003 : kp_S, T11003 = kp_sR T11002 2493 a0 b11001 →
  ∀ (b11004 : Nat) (T11005 : kp_S), b11004 ∉ kp_L T11003 → T11005 = kp_newA T11003 b11004 15 240 →
  ∀ T11006 : kp_S, T11006 = kp_sR T11005 2494 a0 b11004 →
  ∀ (b11007 : Nat) (T11008 : kp_S), b11007 ∉ kp_L T11006 → T11008 = kp_newA T11006 b11007 14 240 →
  ∀ T11009 : kp_S, T11009 = kp_sR T11008 2495 a0 b11007 →
  ∀ (b11010 : Nat) (T11011 : kp_S), b11010 ∉ kp_L T11009 → T11011 = kp_newA T11009 b11010 14 240 →
  ∀ T11012 : kp_S, T11012 = kp_sR T11011 2496 a0 b11010 →
  ∀ (b11013 : Nat) (T11014 : kp_S), b11013 ∉ kp_L T11012 → T11014 = kp_newA T11012 b11013 14 240 →
  ∀ T11015 : kp_S, T11015 = kp_sR T11014 2497 a0 b11013 →
  ∀ (b11016 : Nat) (T11017 : kp_S), b11016 ∉ kp_L T11015 → T11017 = kp_newA T11015 b11016 14 240 →
  ∀ T11018 : kp_S, T11018 = kp_sR T11017 2498 a0 b11016 →
  ∀ (b11019 : Nat) (T11020 : kp_S), b11019 ∉ kp_L T11018 → T11020 = kp_newA T11018 b11019 14 240 →
  ∀ T11021 : kp_S, T11021 = kp_sR T11020 2499 a0 b11019 →
  ∀ (b11022 : Nat) (T11023 : kp_S), b11022 ∉ kp_L T11021 → T11023 = kp_newA T11021 b11022 14 240 →
  ∀ T11024 : kp_S, T11024 = kp_sR T11023 2500 a0 b11022 →
  wX12_init_b554 a0   T11024 post
def wX12_init_b411 (a0 : Nat)  (Sn : kp_S) (post : kp_S → Prop) : Prop :=
  ∀ (b12001 : Nat) (T12002 : kp_S), b12001 ∉ kp_L Sn → T12002 = kp_newA Sn b12001 14 8 →
  ∀ T12003 : kp_S, T12003 = kp_sR T12002 2467 a0 b12001 →
  ∀ (b12004 : Nat) (T12005 : kp_S), b12004 ∉ kp_L T12003 → T12005 = kp_newA T12003 b12004 14 300 →
  ∀ T12006 : kp_S, T12006 = kp_sR T12005 2468 a0 b12004 →
  ∀ (b12007 : Nat) (T12008 : kp_S), b12007 ∉ kp_L T12006 → T12008 = kp_newA T12006 b12007 14 300 →
  ∀ T12009 : kp_S, T12009 = kp_sR T12008 2469 a0 b12007 →
  ∀ (b12010 : Nat) (T12011 : kp_S), b12010 ∉ kp_L T12009 → T12011 = kp_newA T12009 b12010 14 240 →
  ∀ T12012 : kp_S, T12012 = kp_sR T12011 2488 a0 b12010 →
  ∀ (b12013 : Nat) (T12014 : kp_S), b12013 ∉ kp_L T12012 → T12014 = kp_newA T12012 b12013 14 240 →
  ∀ T12015 : kp_S, T12015 = kp_sR T12014 2489 a0 b12013 →
  ∀ (b12016 : Nat) (T12017 : kp_S), b12016 ∉ kp_L T12015 → T12017 = kp_newA T12015 b12016 14 240 →
  ∀ T12018 : kp_S, T12018 = kp_sR T12017 2490 a0 b12016 →
  ∀ (b12019 : Nat) (T12020 : kp_S), b12019 ∉ kp_L T12018 → T12020 = kp_newA T12018 b12019 14 240 →
  ∀ T12021 : kp_S, T12021 = kp_sR T12020 2491 a0 b12019 →
  ∀ (b12022 : Nat) (T12023 : kp_S), b12022 ∉ kp_L T12021 → T12023 = kp_newA T12021 b12022 14 240 →
  ∀ T12024 : kp_S, T12024 = kp_sR T12023 2492 a0 b12022 →
  wX12_init_b482 a0   T12024 post
def wX12_init_b347 (a0 : Nat)  (Sn : kp_S) (post : kp_S → Prop) : Prop :=
  ∀ (b13001 : Nat) (T13002 : kp_S), b13001 ∉ kp_L Sn → T13002 = kp_newA Sn b13001 14 30 →
  ∀ T13003 : kp_S, T13003 = kp_sR T13002 2458 a0 b13001 →
  ∀ (b13004 : Nat) (T13005 : kp_S), b13004 ∉ kp_L T13003 → T13005 = kp_newA T13003 b13004 14 30 →
  ∀ T13006 : kp_S, T13006 = kp_sR T13005 2459 a0 b13004 →
  ∀ (b13007 : Nat) (T13008 : kp_S), b13007 ∉ kp_L T13006 → T13008 = kp_newA T13006 b13007 14 30 →
  ∀ T13009 : kp_S, T13009 = kp_sR T13008 2460 a0 b13007 →
  ∀ (b13010 : Nat) (T13011 : kp_S), b13010 ∉ kp_L T13009 → T13011 = kp_newA T13009 b13010 14 30 →
  ∀ T13012 : kp_S, T13012 = kp_sR T13011 2461 a0 b13010 →
  ∀ (b13013 : Nat) (T13014 : kp_S), b13013 ∉ kp_L T13012 → T13014 = kp_newA T13012 b13013 14 6 →
  ∀ T13015 : kp_S, T13015 = kp_sR T13014 2463 a0 b13013 →
  ∀ (b13016 : Nat) (T13017 : kp_S), b13016 ∉ kp_L T13015 → T13017 = kp_newA T13015 b13016 16 12 →
  ∀ T13018 : kp_S, T13018 = kp_sR T13017 2464 a0 b13016 →
  ∀ (b13019 : Nat) (T13020 : kp_S), b13019 ∉ kp_L T13018 → T13020 = kp_newA T13018 b13019 14 6 →
  ∀ T13021 : kp_S, T13021 = kp_sR T13020 2465 a0 b13019 →
  ∀ (b13022 : Nat) (T13023 : kp_S), b13022 ∉ kp_L T13021 → T13023 = kp_newA T13021 b13022 14 7 →
  ∀ T13024 : kp_S, T13024 = kp_sR T13023 2466 a0 b13022 →
  wX12_init_b411 a0   T13024 post
def wX12_init_b276 (a0 : Nat)  (Sn : kp_S) (post : kp_S → Prop) : Prop :=
  ∀ (b14001 : Nat) (T14002 : kp_S), b14001 ∉ kp_L Sn → T14002 = kp_newA Sn b14001 14 4000 →
  ∀ T14003 : kp_S, T14003 = kp_sR T14002 2450 a0 b14001 →
  ∀ (b14004 : Nat) (T14005 : kp_S), b14004 ∉ kp_L T14003 → T14005 = kp_newA T14003 b14004 14 640 →
  ∀ T14006 : kp_S, T14006 = kp_sR T14005 2451 a0 b14004 →
  ∀ (b14007 : Nat) (T14008 : kp_S), b14007 ∉ kp_L T14006 → T14008 = kp_newA T14006 b14007 14 640 →
  ∀ T14009 : kp_S, T14009 = kp_sR T14008 2452 a0 b14007 →
  ∀ (b14010 : Nat) (T14011 : kp_S), b14010 ∉ kp_L T14009 → T14011 = kp_newA T14009 b14010 14 640 →
  ∀ T14012 : kp_S, T14012 = kp_sR T14011 2453 a0 b14010 →
  ∀ (b14013 : Nat) (T14014 : kp_S), b14013 ∉ kp_L T14012 → T14014 = kp_newA T14012 b14013 14 640 →
  ∀ T14015 : kp_S, T14015 = kp_sR T14014 2454 a0 b14013 →
  ∀ (b14016 : Nat) (T14017 : kp_S), b14016 ∉ kp_L T14015 → T14017 = kp_newA T14015 b14016 14 640 →
  ∀ T14018 : kp_S, T14018 = kp_sR T14017 2455 a0 b14016 →
  ∀ (b14019 : Nat) (T14020 : kp_S), b14019 ∉ kp_L T14018 → T14020 = kp_newA T14018 b14019 14 640 →
  ∀ T14021 : kp_S, T14021 = kp_sR T14020 2456 a0 b14019 →
  ∀ (b14022 : Nat) (T14023 : kp_S), b14022 ∉ kp_L T14021 → T14023 = kp_newA T14021 b14022 14 30 →
  ∀ T14024 : kp_S, T14024 = kp_sR T14023 2457 a0 b14022 →
  wX12_init_b347 a0   T14024 post
def wX12_init_b206 (a0 : Nat)  (Sn : kp_S) (post : kp_S → Prop) : Prop :=
  ∀ (b15001 : Nat) (T15002 : kp_S), b15001 ∉ kp_L Sn → T15002 = kp_newA Sn b15001 14 1600 →
  ∀ T15003 : kp_S, T15003 = kp_sR T15002 2436 a0 b15001 →
  ∀ (b15004 : Nat) (T15005 : kp_S), b15004 ∉ kp_L T15003 → T15005 = kp_newA T15003 b15004 14 1600 →
  ∀ T15006 : kp_S, T15006 = kp_sR T15005 2437 a0 b15004 →
  ∀ (b15007 : Nat) (T15008 : kp_S), b15007 ∉ kp_L T15006 → T15008 = kp_newA T15006 b15007 15 1600 →
  ∀ T15009 : kp_S, T15009 = kp_sR T15008 2439 a0 b15007 →
  ∀ (b15010 : Nat) (T15011 : kp_S), b15010 ∉ kp_L T15009 → T15011 = kp_newA T15009 b15010 14 1600 →
  ∀ T15012 : kp_S, T15012 = kp_sR T15011 2440 a0 b15010 →
  ∀ (b15013 : Nat) (T15014 : kp_S), b15013 ∉ kp_L T15012 → T15014 = kp_newA T15012 b15013 15 20 →
  ∀ T15015 : kp_S, T15015 = kp_sR T15014 2443 a0 b15013 →
  ∀ (b15016 : Nat) (T15017 : kp_S), b15016 ∉ kp_L T15015 → T15017 = kp_newA T15015 b15016 14 20 →
  ∀ T15018 : kp_S, T15018 = kp_sR T15017 2444 a0 b15016 →
  ∀ (b15019 : Nat) (T15020 : kp_S), b15019 ∉ kp_L T15018 → T15020 = kp_newA T15018 b15019 14 4000 →
  ∀ T15021 : kp_S, T15021 = kp_sR T15020 2448 a0 b15019 →
  ∀ (b15022 : Nat) (T15023 : kp_S), b15022 ∉ kp_L T15021 → T15023 = kp_newA T15021 b15022 14 4000 →
  ∀ T15024 : kp_S, T15024 = kp_sR T15023 2449 a0 b15022 →
  wX12_init_b276 a0   T15024 post
def wX12_init_b134 (a0 : Nat)  (Sn : kp_S) (post : kp_S → Prop) : Prop :=
  ∀ (b16001 : Nat) (T16002 : kp_S), b16001 ∉ kp_L Sn → T16002 = kp_newA Sn b16001 15 320 →
  ∀ T16003 : kp_S, T16003 = kp_sR T16002 2427 a0 b16001 →
  ∀ (b16004 : Nat) (T16005 : kp_S), b16004 ∉ kp_L T16003 → T16005 = kp_newA T16003 b16004 14 320 →
  ∀ T16006 : kp_S, T16006 = kp_sR T16005 2428 a0 b16004 →
  ∀ (b16007 : Nat) (T16008 : kp_S), b16007 ∉ kp_L T16006 → T16008 = kp_newA T16006 b16007 14 320 →
  ∀ T16009 : kp_S, T16009 = kp_sR T16008 2429 a0 b16007 →
  ∀ (b16010 : Nat) (T16011 : kp_S), b16010 ∉ kp_L T16009 → T16011 = kp_newA T16009 b16010 14 320 →
  ∀ T16012 : kp_S, T16012 = kp_sR T16011 2430 a0 b16010 →
  ∀ (b16013 : Nat) (T16014 : kp_S), b16013 ∉ kp_L T16012 → T16014 = kp_newA T16012 b16013 14 320 →
  ∀ T16015 : kp_S, T16015 = kp_sR T16014 2431 a0 b16013 →
  ∀ (b16016 : Nat) (T16017 : kp_S), b16016 ∉ kp_L T16015 → T16017 = kp_newA T16015 b16016 14 320 →
  ∀ T16018 : kp_S, T16018 = kp_sR T16017 2432 a0 b16016 →
  ∀ (b16019 : Nat) (T16020 : kp_S), b16019 ∉ kp_L T16018 → T16020 = kp_newA T16018 b16019 15 1600 →
  ∀ T16021 : kp_S, T16021 = kp_sR T16020 2434 a0 b16019 →
  ∀ (b16022 : Nat) (T16023 : kp_S), b16022 ∉ kp_L T16021 → T16023 = kp_newA T16021 b16022 14 1600 →
  ∀ T16024 : kp_S, T16024 = kp_sR T16023 2435 a0 b16022 →
  wX12_init_b206 a0   T16024 post
def wX12_init_b62 (a0 : Nat)  (Sn : kp_S) (post : kp_S → Prop) : Prop :=
  ∀ (b17001 : Nat) (T17002 : kp_S), b17001 ∉ kp_L Sn → T17002 = kp_newA Sn b17001 14 4000 →
  ∀ T17003 : kp_S, T17003 = kp_sR T17002 2415 a0 b17001 →
  ∀ (b17004 : Nat) (T17005 : kp_S), b17004 ∉ kp_L T17003 → T17005 = kp_newA T17003 b17004 14 4000 →
  ∀ T17006 : kp_S, T17006 = kp_sR T17005 2416 a0 b17004 →
  ∀ (b17007 : Nat) (T17008 : kp_S), b17007 ∉ kp_L T17006 → T17008 = kp_newA T17006 b17007 14 640 →
  ∀ T17009 : kp_S, T17009 = kp_sR T17008 2418 a0 b17007 →
  ∀ (b17010 : Nat) (T17011 : kp_S), b17010 ∉ kp_L T17009 → T17011 = kp_newA T17009 b17010 14 640 →
  ∀ T17012 : kp_S, T17012 = kp_sR T17011 2419 a0 b17010 →
  ∀ (b17013 : Nat) (T17014 : kp_S), b17013 ∉ kp_L T17012 → T17014 = kp_newA T17012 b17013 14 640 →
  ∀ T17015 : kp_S, T17015 = kp_sR T17014 2420 a0 b17013 →
  ∀ (b17016 : Nat) (T17017 : kp_S), b17016 ∉ kp_L T17015 → T17017 = kp_newA T17015 b17016 14 640 →
  ∀ T17018 : kp_S, T17018 = kp_sR T17017 2421 a0 b17016 →
  ∀ (b17019 : Nat) (T17020 : kp_S), b17019 ∉ kp_L T17018 → T17020 = kp_newA T17018 b17019 14 640 →
  ∀ T17021 : kp_S, T17021 = kp_sR T17020 2422 a0 b17019 →
  ∀ (b17022 : Nat) (T17023 : kp_S), b17022 ∉ kp_L T17021 → T17023 = kp_newA T17021 b17022 14 640 →
  ∀ T17024 : kp_S, T17024 = kp_sR T17023 2423 a0 b17022 →
  wX12_init_b134 a0   T17024 post
def wX12_init (a0 : Nat) (S : kp_S) (post : kp_S → Prop) : Prop :=
  ∀ (b1 : Nat) (T2 : kp_S), b1 ∉ kp_L S → T2 = kp_newA S b1 14 3000 →
  ∀ T3 : kp_S, T3 = kp_sR T2 2401 a0 b1 →
  ∀ (b4 : Nat) (T5 : kp_S), b4 ∉ kp_L T3 → T5 = kp_newA T3 b4 15 50 →
  ∀ T6 : kp_S, T6 = kp_sR T5 2403 a0 b4 →
  ∀ (b7 : Nat) (T8 : kp_S), b7 ∉ kp_L T6 → T8 = kp_newA T6 b7 14 3002 →
  ∀ T9 : kp_S, T9 = kp_sR T8 2404 a0 b7 →
  ∀ (b10 : Nat) (T11 : kp_S), b10 ∉ kp_L T9 → T11 = kp_newA T9 b10 14 3002 →
  ∀ T12 : kp_S, T12 = kp_sR T11 2405 a0 b10 →
  ∀ (b13 : Nat) (T14 : kp_S), b13 ∉ kp_L T12 → T14 = kp_newA T12 b13 15 3002 →
  ∀ T15 : kp_S, T15 = kp_sR T14 2406 a0 b13 →
  ∀ T16 : kp_S, T16 = kp_sI T15 2409 a0 (-1) →
  ∀ (b17 : Nat) (T18 : kp_S), b17 ∉ kp_L T16 → T18 = kp_newA T16 b17 14 4000 →
  ∀ T19 : kp_S, T19 = kp_sR T18 2414 a0 b17 →
  wX12_init_b62 a0   T19 post
set_option maxHeartbeats 4000000 in
set_option maxRecDepth 100000 in
theorem c_X12_init (l : Launch) (D : va_G) (cy : Nat → ClassId) (ad : (Nat → Nat) × (Nat → Nat)) (S : kp_S) (a0 : Nat) (post : kp_S → Prop) (hS : kp_ok S) (f_a0 : kp_is S a0 12) (hw : wX12_init a0 S post) : kp_M l yX12_init cX12_init 1 none { frames := 5, cells := 71, slots := 64622, locals := 108 } D cy ad S [.ref a0] 71 64622 (fun A => kp_Qv D cy A S post) := by
  refine kp_start (own := RX12) (by decide) rfl (Nat.le_of_ble_eq_true rfl) hS ?_
  intro p e s m below meth c A ls X hr hlocks hname h hl
  have hle : kp_le S S := kp_le.rf
  have hl : lv_has ls 1 [(0, .ref a0)] := hl
  have j1145 : ∀  (Sn : kp_S) (H : Heap) (locs : List Loc) (ls : Array Slot), lv_has ls 1 [(0, .ref a0)] → kp_H D cy A Sn s.heap H locs → kp_le S Sn → kp_is Sn a0 12 → wX12_init_b1145 a0   Sn post → W p l e { frames := 5, cells := 71, slots := 64622, locals := 108 } s m ([.ref a0] : List Value).toArray below meth c H locs 71 64622 (MQ below (kp_Qv D cy A S post) ([.ref a0] : List Value).toArray s 71 64622 A) (F0 m 1145 ls []) := by
    intro  Sn H locs ls hl h hle f_a0 hw
    unfold wX12_init_b1145 at hw
    refine lv_aload_n X.1 X.2.1 dX12_init_1145 rfl (lv_at hl 0 rfl) ?_
    obtain ⟨b1001, e_b1001, hw⟩ := hw
    have f_b1001 := h.2.2.2.rf (c := 12) (k := 3) f_a0 (by decide) (by decide) e_b1001 (t := 15) rfl
    refine kp_get X h f_a0 ff_12_27.l (v := .ref b1001) (congrArg va_rf e_b1001) dX12_init_1146 ?_
    refine lv_bipush (v := 49) X.1 X.2.1 dX12_init_1149 (by decide) ?_
    refine kp_ldcsw X 41 rfl dX12_init_1151 ?_
    refine kp_calll X h (kp_runS (rm := { frames := 4, cells := 0, slots := 0, locals := 85 }) (mc := 0) (ms := 0) (rest := [.int 49, .ref b1001]) (Qc := fun A => kp_Ql D cy A Sn _) X h (c_X12_packed l D cy ad Sn 41 _ h.2.2.2 (by decide) hw) cs_12_250 ⟨by decide, by decide, rfl, rfl, by decide, by decide⟩ rfl hl.1 rfl (Nat.le_of_ble_eq_true rfl) dX12_init_1154) (fun z1003 T1002 hw l_T1002 H locs h => ?_)
    have f_a0 := l_T1002.is f_a0
    have f_b1001 := l_T1002.is f_b1001
    have hle := hle.tr l_T1002
    obtain ⟨hi, hw⟩ := hw
    refine kp_last X h f_b1001 hi dX12_init_1157 (fun T1004 e_T1004 l_T1004 H locs h => ?_)
    have hw := hw T1004 e_T1004
    have f_a0 := l_T1004.is f_a0
    have hle := hle.tr l_T1004
    exact kp_retv X hr hlocks h hle hw dX12_init_1158
  have j1080 : ∀  (Sn : kp_S) (H : Heap) (locs : List Loc) (ls : Array Slot), lv_has ls 1 [(0, .ref a0)] → kp_H D cy A Sn s.heap H locs → kp_le S Sn → kp_is Sn a0 12 → wX12_init_b1080 a0   Sn post → W p l e { frames := 5, cells := 71, slots := 64622, locals := 108 } s m ([.ref a0] : List Value).toArray below meth c H locs 71 64622 (MQ below (kp_Qv D cy A S post) ([.ref a0] : List Value).toArray s 71 64622 A) (F0 m 1080 ls []) := by
    intro  Sn H locs ls hl h hle f_a0 hw
    unfold wX12_init_b1080 at hw
    refine lv_aload_n X.1 X.2.1 dX12_init_1080 rfl (lv_at hl 0 rfl) ?_
    obtain ⟨b2001, e_b2001, hw⟩ := hw
    have f_b2001 := h.2.2.2.rf (c := 12) (k := 3) f_a0 (by decide) (by decide) e_b2001 (t := 15) rfl
    refine kp_get X h f_a0 ff_12_27.l (v := .ref b2001) (congrArg va_rf e_b2001) dX12_init_1081 ?_
    refine lv_bipush (v := 44) X.1 X.2.1 dX12_init_1084 (by decide) ?_
    refine kp_ldcsw X 36 rfl dX12_init_1086 ?_
    refine kp_calll X h (kp_runS (rm := { frames := 4, cells := 0, slots := 0, locals := 85 }) (mc := 0) (ms := 0) (rest := [.int 44, .ref b2001]) (Qc := fun A => kp_Ql D cy A Sn _) X h (c_X12_packed l D cy ad Sn 36 _ h.2.2.2 (by decide) hw) cs_12_250 ⟨by decide, by decide, rfl, rfl, by decide, by decide⟩ rfl hl.1 rfl (Nat.le_of_ble_eq_true rfl) dX12_init_1089) (fun z2003 T2002 hw l_T2002 H locs h => ?_)
    have f_a0 := l_T2002.is f_a0
    have f_b2001 := l_T2002.is f_b2001
    have hle := hle.tr l_T2002
    obtain ⟨hi, hw⟩ := hw
    refine kp_last X h f_b2001 hi dX12_init_1092 (fun T2004 e_T2004 l_T2004 H locs h => ?_)
    have hw := hw T2004 e_T2004
    have f_a0 := l_T2004.is f_a0
    have hle := hle.tr l_T2004
    refine lv_aload_n X.1 X.2.1 dX12_init_1093 rfl (lv_at hl 0 rfl) ?_
    obtain ⟨b2005, e_b2005, hw⟩ := hw
    have f_b2005 := h.2.2.2.rf (c := 12) (k := 3) f_a0 (by decide) (by decide) e_b2005 (t := 15) rfl
    refine kp_get X h f_a0 ff_12_27.l (v := .ref b2005) (congrArg va_rf e_b2005) dX12_init_1094 ?_
    refine lv_bipush (v := 45) X.1 X.2.1 dX12_init_1097 (by decide) ?_
    refine kp_ldcsw X 37 rfl dX12_init_1099 ?_
    refine kp_calll X h (kp_runS (rm := { frames := 4, cells := 0, slots := 0, locals := 85 }) (mc := 0) (ms := 0) (rest := [.int 45, .ref b2005]) (Qc := fun A => kp_Ql D cy A T2004 _) X h (c_X12_packed l D cy ad T2004 37 _ h.2.2.2 (by decide) hw) cs_12_250 ⟨by decide, by decide, rfl, rfl, by decide, by decide⟩ rfl hl.1 rfl (Nat.le_of_ble_eq_true rfl) dX12_init_1102) (fun z2007 T2006 hw l_T2006 H locs h => ?_)
    have f_a0 := l_T2006.is f_a0
    have f_b2005 := l_T2006.is f_b2005
    have hle := hle.tr l_T2006
    obtain ⟨hi, hw⟩ := hw
    refine kp_last X h f_b2005 hi dX12_init_1105 (fun T2008 e_T2008 l_T2008 H locs h => ?_)
    have hw := hw T2008 e_T2008
    have f_a0 := l_T2008.is f_a0
    have hle := hle.tr l_T2008
    refine lv_aload_n X.1 X.2.1 dX12_init_1106 rfl (lv_at hl 0 rfl) ?_
    obtain ⟨b2009, e_b2009, hw⟩ := hw
    have f_b2009 := h.2.2.2.rf (c := 12) (k := 3) f_a0 (by decide) (by decide) e_b2009 (t := 15) rfl
    refine kp_get X h f_a0 ff_12_27.l (v := .ref b2009) (congrArg va_rf e_b2009) dX12_init_1107 ?_
    refine lv_bipush (v := 46) X.1 X.2.1 dX12_init_1110 (by decide) ?_
    refine kp_ldcsw X 38 rfl dX12_init_1112 ?_
    refine kp_calll X h (kp_runS (rm := { frames := 4, cells := 0, slots := 0, locals := 85 }) (mc := 0) (ms := 0) (rest := [.int 46, .ref b2009]) (Qc := fun A => kp_Ql D cy A T2008 _) X h (c_X12_packed l D cy ad T2008 38 _ h.2.2.2 (by decide) hw) cs_12_250 ⟨by decide, by decide, rfl, rfl, by decide, by decide⟩ rfl hl.1 rfl (Nat.le_of_ble_eq_true rfl) dX12_init_1115) (fun z2011 T2010 hw l_T2010 H locs h => ?_)
    have f_a0 := l_T2010.is f_a0
    have f_b2009 := l_T2010.is f_b2009
    have hle := hle.tr l_T2010
    obtain ⟨hi, hw⟩ := hw
    refine kp_last X h f_b2009 hi dX12_init_1118 (fun T2012 e_T2012 l_T2012 H locs h => ?_)
    have hw := hw T2012 e_T2012
    have f_a0 := l_T2012.is f_a0
    have hle := hle.tr l_T2012
    refine lv_aload_n X.1 X.2.1 dX12_init_1119 rfl (lv_at hl 0 rfl) ?_
    obtain ⟨b2013, e_b2013, hw⟩ := hw
    have f_b2013 := h.2.2.2.rf (c := 12) (k := 3) f_a0 (by decide) (by decide) e_b2013 (t := 15) rfl
    refine kp_get X h f_a0 ff_12_27.l (v := .ref b2013) (congrArg va_rf e_b2013) dX12_init_1120 ?_
    refine lv_bipush (v := 47) X.1 X.2.1 dX12_init_1123 (by decide) ?_
    refine kp_ldcsw X 39 rfl dX12_init_1125 ?_
    refine kp_calll X h (kp_runS (rm := { frames := 4, cells := 0, slots := 0, locals := 85 }) (mc := 0) (ms := 0) (rest := [.int 47, .ref b2013]) (Qc := fun A => kp_Ql D cy A T2012 _) X h (c_X12_packed l D cy ad T2012 39 _ h.2.2.2 (by decide) hw) cs_12_250 ⟨by decide, by decide, rfl, rfl, by decide, by decide⟩ rfl hl.1 rfl (Nat.le_of_ble_eq_true rfl) dX12_init_1128) (fun z2015 T2014 hw l_T2014 H locs h => ?_)
    have f_a0 := l_T2014.is f_a0
    have f_b2013 := l_T2014.is f_b2013
    have hle := hle.tr l_T2014
    obtain ⟨hi, hw⟩ := hw
    refine kp_last X h f_b2013 hi dX12_init_1131 (fun T2016 e_T2016 l_T2016 H locs h => ?_)
    have hw := hw T2016 e_T2016
    have f_a0 := l_T2016.is f_a0
    have hle := hle.tr l_T2016
    refine lv_aload_n X.1 X.2.1 dX12_init_1132 rfl (lv_at hl 0 rfl) ?_
    obtain ⟨b2017, e_b2017, hw⟩ := hw
    have f_b2017 := h.2.2.2.rf (c := 12) (k := 3) f_a0 (by decide) (by decide) e_b2017 (t := 15) rfl
    refine kp_get X h f_a0 ff_12_27.l (v := .ref b2017) (congrArg va_rf e_b2017) dX12_init_1133 ?_
    refine lv_bipush (v := 48) X.1 X.2.1 dX12_init_1136 (by decide) ?_
    refine kp_ldcsw X 40 rfl dX12_init_1138 ?_
    refine kp_calll X h (kp_runS (rm := { frames := 4, cells := 0, slots := 0, locals := 85 }) (mc := 0) (ms := 0) (rest := [.int 48, .ref b2017]) (Qc := fun A => kp_Ql D cy A T2016 _) X h (c_X12_packed l D cy ad T2016 40 _ h.2.2.2 (by decide) hw) cs_12_250 ⟨by decide, by decide, rfl, rfl, by decide, by decide⟩ rfl hl.1 rfl (Nat.le_of_ble_eq_true rfl) dX12_init_1141) (fun z2019 T2018 hw l_T2018 H locs h => ?_)
    have f_a0 := l_T2018.is f_a0
    have f_b2017 := l_T2018.is f_b2017
    have hle := hle.tr l_T2018
    obtain ⟨hi, hw⟩ := hw
    refine kp_last X h f_b2017 hi dX12_init_1144 (fun T2020 e_T2020 l_T2020 H locs h => ?_)
    have hw := hw T2020 e_T2020
    have f_a0 := l_T2020.is f_a0
    have hle := hle.tr l_T2020
    exact j1145  T2020 H locs ls (lv_sub hl [0] rfl) h hle f_a0 hw
  have j1015 : ∀  (Sn : kp_S) (H : Heap) (locs : List Loc) (ls : Array Slot), lv_has ls 1 [(0, .ref a0)] → kp_H D cy A Sn s.heap H locs → kp_le S Sn → kp_is Sn a0 12 → wX12_init_b1015 a0   Sn post → W p l e { frames := 5, cells := 71, slots := 64622, locals := 108 } s m ([.ref a0] : List Value).toArray below meth c H locs 71 64622 (MQ below (kp_Qv D cy A S post) ([.ref a0] : List Value).toArray s 71 64622 A) (F0 m 1015 ls []) := by
    intro  Sn H locs ls hl h hle f_a0 hw
    unfold wX12_init_b1015 at hw
    refine lv_aload_n X.1 X.2.1 dX12_init_1015 rfl (lv_at hl 0 rfl) ?_
    obtain ⟨b3001, e_b3001, hw⟩ := hw
    have f_b3001 := h.2.2.2.rf (c := 12) (k := 3) f_a0 (by decide) (by decide) e_b3001 (t := 15) rfl
    refine kp_get X h f_a0 ff_12_27.l (v := .ref b3001) (congrArg va_rf e_b3001) dX12_init_1016 ?_
    refine lv_bipush (v := 39) X.1 X.2.1 dX12_init_1019 (by decide) ?_
    refine kp_ldcsw X 31 rfl dX12_init_1021 ?_
    refine kp_calll X h (kp_runS (rm := { frames := 4, cells := 0, slots := 0, locals := 85 }) (mc := 0) (ms := 0) (rest := [.int 39, .ref b3001]) (Qc := fun A => kp_Ql D cy A Sn _) X h (c_X12_packed l D cy ad Sn 31 _ h.2.2.2 (by decide) hw) cs_12_250 ⟨by decide, by decide, rfl, rfl, by decide, by decide⟩ rfl hl.1 rfl (Nat.le_of_ble_eq_true rfl) dX12_init_1024) (fun z3003 T3002 hw l_T3002 H locs h => ?_)
    have f_a0 := l_T3002.is f_a0
    have f_b3001 := l_T3002.is f_b3001
    have hle := hle.tr l_T3002
    obtain ⟨hi, hw⟩ := hw
    refine kp_last X h f_b3001 hi dX12_init_1027 (fun T3004 e_T3004 l_T3004 H locs h => ?_)
    have hw := hw T3004 e_T3004
    have f_a0 := l_T3004.is f_a0
    have hle := hle.tr l_T3004
    refine lv_aload_n X.1 X.2.1 dX12_init_1028 rfl (lv_at hl 0 rfl) ?_
    obtain ⟨b3005, e_b3005, hw⟩ := hw
    have f_b3005 := h.2.2.2.rf (c := 12) (k := 3) f_a0 (by decide) (by decide) e_b3005 (t := 15) rfl
    refine kp_get X h f_a0 ff_12_27.l (v := .ref b3005) (congrArg va_rf e_b3005) dX12_init_1029 ?_
    refine lv_bipush (v := 40) X.1 X.2.1 dX12_init_1032 (by decide) ?_
    refine kp_ldcsw X 32 rfl dX12_init_1034 ?_
    refine kp_calll X h (kp_runS (rm := { frames := 4, cells := 0, slots := 0, locals := 85 }) (mc := 0) (ms := 0) (rest := [.int 40, .ref b3005]) (Qc := fun A => kp_Ql D cy A T3004 _) X h (c_X12_packed l D cy ad T3004 32 _ h.2.2.2 (by decide) hw) cs_12_250 ⟨by decide, by decide, rfl, rfl, by decide, by decide⟩ rfl hl.1 rfl (Nat.le_of_ble_eq_true rfl) dX12_init_1037) (fun z3007 T3006 hw l_T3006 H locs h => ?_)
    have f_a0 := l_T3006.is f_a0
    have f_b3005 := l_T3006.is f_b3005
    have hle := hle.tr l_T3006
    obtain ⟨hi, hw⟩ := hw
    refine kp_last X h f_b3005 hi dX12_init_1040 (fun T3008 e_T3008 l_T3008 H locs h => ?_)
    have hw := hw T3008 e_T3008
    have f_a0 := l_T3008.is f_a0
    have hle := hle.tr l_T3008
    refine lv_aload_n X.1 X.2.1 dX12_init_1041 rfl (lv_at hl 0 rfl) ?_
    obtain ⟨b3009, e_b3009, hw⟩ := hw
    have f_b3009 := h.2.2.2.rf (c := 12) (k := 3) f_a0 (by decide) (by decide) e_b3009 (t := 15) rfl
    refine kp_get X h f_a0 ff_12_27.l (v := .ref b3009) (congrArg va_rf e_b3009) dX12_init_1042 ?_
    refine lv_bipush (v := 41) X.1 X.2.1 dX12_init_1045 (by decide) ?_
    refine kp_ldcsw X 33 rfl dX12_init_1047 ?_
    refine kp_calll X h (kp_runS (rm := { frames := 4, cells := 0, slots := 0, locals := 85 }) (mc := 0) (ms := 0) (rest := [.int 41, .ref b3009]) (Qc := fun A => kp_Ql D cy A T3008 _) X h (c_X12_packed l D cy ad T3008 33 _ h.2.2.2 (by decide) hw) cs_12_250 ⟨by decide, by decide, rfl, rfl, by decide, by decide⟩ rfl hl.1 rfl (Nat.le_of_ble_eq_true rfl) dX12_init_1050) (fun z3011 T3010 hw l_T3010 H locs h => ?_)
    have f_a0 := l_T3010.is f_a0
    have f_b3009 := l_T3010.is f_b3009
    have hle := hle.tr l_T3010
    obtain ⟨hi, hw⟩ := hw
    refine kp_last X h f_b3009 hi dX12_init_1053 (fun T3012 e_T3012 l_T3012 H locs h => ?_)
    have hw := hw T3012 e_T3012
    have f_a0 := l_T3012.is f_a0
    have hle := hle.tr l_T3012
    refine lv_aload_n X.1 X.2.1 dX12_init_1054 rfl (lv_at hl 0 rfl) ?_
    obtain ⟨b3013, e_b3013, hw⟩ := hw
    have f_b3013 := h.2.2.2.rf (c := 12) (k := 3) f_a0 (by decide) (by decide) e_b3013 (t := 15) rfl
    refine kp_get X h f_a0 ff_12_27.l (v := .ref b3013) (congrArg va_rf e_b3013) dX12_init_1055 ?_
    refine lv_bipush (v := 42) X.1 X.2.1 dX12_init_1058 (by decide) ?_
    refine kp_ldcsw X 34 rfl dX12_init_1060 ?_
    refine kp_calll X h (kp_runS (rm := { frames := 4, cells := 0, slots := 0, locals := 85 }) (mc := 0) (ms := 0) (rest := [.int 42, .ref b3013]) (Qc := fun A => kp_Ql D cy A T3012 _) X h (c_X12_packed l D cy ad T3012 34 _ h.2.2.2 (by decide) hw) cs_12_250 ⟨by decide, by decide, rfl, rfl, by decide, by decide⟩ rfl hl.1 rfl (Nat.le_of_ble_eq_true rfl) dX12_init_1063) (fun z3015 T3014 hw l_T3014 H locs h => ?_)
    have f_a0 := l_T3014.is f_a0
    have f_b3013 := l_T3014.is f_b3013
    have hle := hle.tr l_T3014
    obtain ⟨hi, hw⟩ := hw
    refine kp_last X h f_b3013 hi dX12_init_1066 (fun T3016 e_T3016 l_T3016 H locs h => ?_)
    have hw := hw T3016 e_T3016
    have f_a0 := l_T3016.is f_a0
    have hle := hle.tr l_T3016
    refine lv_aload_n X.1 X.2.1 dX12_init_1067 rfl (lv_at hl 0 rfl) ?_
    obtain ⟨b3017, e_b3017, hw⟩ := hw
    have f_b3017 := h.2.2.2.rf (c := 12) (k := 3) f_a0 (by decide) (by decide) e_b3017 (t := 15) rfl
    refine kp_get X h f_a0 ff_12_27.l (v := .ref b3017) (congrArg va_rf e_b3017) dX12_init_1068 ?_
    refine lv_bipush (v := 43) X.1 X.2.1 dX12_init_1071 (by decide) ?_
    refine kp_ldcsw X 35 rfl dX12_init_1073 ?_
    refine kp_calll X h (kp_runS (rm := { frames := 4, cells := 0, slots := 0, locals := 85 }) (mc := 0) (ms := 0) (rest := [.int 43, .ref b3017]) (Qc := fun A => kp_Ql D cy A T3016 _) X h (c_X12_packed l D cy ad T3016 35 _ h.2.2.2 (by decide) hw) cs_12_250 ⟨by decide, by decide, rfl, rfl, by decide, by decide⟩ rfl hl.1 rfl (Nat.le_of_ble_eq_true rfl) dX12_init_1076) (fun z3019 T3018 hw l_T3018 H locs h => ?_)
    have f_a0 := l_T3018.is f_a0
    have f_b3017 := l_T3018.is f_b3017
    have hle := hle.tr l_T3018
    obtain ⟨hi, hw⟩ := hw
    refine kp_last X h f_b3017 hi dX12_init_1079 (fun T3020 e_T3020 l_T3020 H locs h => ?_)
    have hw := hw T3020 e_T3020
    have f_a0 := l_T3020.is f_a0
    have hle := hle.tr l_T3020
    exact j1080  T3020 H locs ls (lv_sub hl [0] rfl) h hle f_a0 hw
  have j950 : ∀  (Sn : kp_S) (H : Heap) (locs : List Loc) (ls : Array Slot), lv_has ls 1 [(0, .ref a0)] → kp_H D cy A Sn s.heap H locs → kp_le S Sn → kp_is Sn a0 12 → wX12_init_b950 a0   Sn post → W p l e { frames := 5, cells := 71, slots := 64622, locals := 108 } s m ([.ref a0] : List Value).toArray below meth c H locs 71 64622 (MQ below (kp_Qv D cy A S post) ([.ref a0] : List Value).toArray s 71 64622 A) (F0 m 950 ls []) := by
    intro  Sn H locs ls hl h hle f_a0 hw
    unfold wX12_init_b950 at hw
    refine lv_aload_n X.1 X.2.1 dX12_init_950 rfl (lv_at hl 0 rfl) ?_
    obtain ⟨b4001, e_b4001, hw⟩ := hw
    have f_b4001 := h.2.2.2.rf (c := 12) (k := 3) f_a0 (by decide) (by decide) e_b4001 (t := 15) rfl
    refine kp_get X h f_a0 ff_12_27.l (v := .ref b4001) (congrArg va_rf e_b4001) dX12_init_951 ?_
    refine lv_bipush (v := 34) X.1 X.2.1 dX12_init_954 (by decide) ?_
    refine kp_ldcsw X 26 rfl dX12_init_956 ?_
    refine kp_calll X h (kp_runS (rm := { frames := 4, cells := 0, slots := 0, locals := 85 }) (mc := 0) (ms := 0) (rest := [.int 34, .ref b4001]) (Qc := fun A => kp_Ql D cy A Sn _) X h (c_X12_packed l D cy ad Sn 26 _ h.2.2.2 (by decide) hw) cs_12_250 ⟨by decide, by decide, rfl, rfl, by decide, by decide⟩ rfl hl.1 rfl (Nat.le_of_ble_eq_true rfl) dX12_init_959) (fun z4003 T4002 hw l_T4002 H locs h => ?_)
    have f_a0 := l_T4002.is f_a0
    have f_b4001 := l_T4002.is f_b4001
    have hle := hle.tr l_T4002
    obtain ⟨hi, hw⟩ := hw
    refine kp_last X h f_b4001 hi dX12_init_962 (fun T4004 e_T4004 l_T4004 H locs h => ?_)
    have hw := hw T4004 e_T4004
    have f_a0 := l_T4004.is f_a0
    have hle := hle.tr l_T4004
    refine lv_aload_n X.1 X.2.1 dX12_init_963 rfl (lv_at hl 0 rfl) ?_
    obtain ⟨b4005, e_b4005, hw⟩ := hw
    have f_b4005 := h.2.2.2.rf (c := 12) (k := 3) f_a0 (by decide) (by decide) e_b4005 (t := 15) rfl
    refine kp_get X h f_a0 ff_12_27.l (v := .ref b4005) (congrArg va_rf e_b4005) dX12_init_964 ?_
    refine lv_bipush (v := 35) X.1 X.2.1 dX12_init_967 (by decide) ?_
    refine kp_ldcsw X 27 rfl dX12_init_969 ?_
    refine kp_calll X h (kp_runS (rm := { frames := 4, cells := 0, slots := 0, locals := 85 }) (mc := 0) (ms := 0) (rest := [.int 35, .ref b4005]) (Qc := fun A => kp_Ql D cy A T4004 _) X h (c_X12_packed l D cy ad T4004 27 _ h.2.2.2 (by decide) hw) cs_12_250 ⟨by decide, by decide, rfl, rfl, by decide, by decide⟩ rfl hl.1 rfl (Nat.le_of_ble_eq_true rfl) dX12_init_972) (fun z4007 T4006 hw l_T4006 H locs h => ?_)
    have f_a0 := l_T4006.is f_a0
    have f_b4005 := l_T4006.is f_b4005
    have hle := hle.tr l_T4006
    obtain ⟨hi, hw⟩ := hw
    refine kp_last X h f_b4005 hi dX12_init_975 (fun T4008 e_T4008 l_T4008 H locs h => ?_)
    have hw := hw T4008 e_T4008
    have f_a0 := l_T4008.is f_a0
    have hle := hle.tr l_T4008
    refine lv_aload_n X.1 X.2.1 dX12_init_976 rfl (lv_at hl 0 rfl) ?_
    obtain ⟨b4009, e_b4009, hw⟩ := hw
    have f_b4009 := h.2.2.2.rf (c := 12) (k := 3) f_a0 (by decide) (by decide) e_b4009 (t := 15) rfl
    refine kp_get X h f_a0 ff_12_27.l (v := .ref b4009) (congrArg va_rf e_b4009) dX12_init_977 ?_
    refine lv_bipush (v := 36) X.1 X.2.1 dX12_init_980 (by decide) ?_
    refine kp_ldcsw X 28 rfl dX12_init_982 ?_
    refine kp_calll X h (kp_runS (rm := { frames := 4, cells := 0, slots := 0, locals := 85 }) (mc := 0) (ms := 0) (rest := [.int 36, .ref b4009]) (Qc := fun A => kp_Ql D cy A T4008 _) X h (c_X12_packed l D cy ad T4008 28 _ h.2.2.2 (by decide) hw) cs_12_250 ⟨by decide, by decide, rfl, rfl, by decide, by decide⟩ rfl hl.1 rfl (Nat.le_of_ble_eq_true rfl) dX12_init_985) (fun z4011 T4010 hw l_T4010 H locs h => ?_)
    have f_a0 := l_T4010.is f_a0
    have f_b4009 := l_T4010.is f_b4009
    have hle := hle.tr l_T4010
    obtain ⟨hi, hw⟩ := hw
    refine kp_last X h f_b4009 hi dX12_init_988 (fun T4012 e_T4012 l_T4012 H locs h => ?_)
    have hw := hw T4012 e_T4012
    have f_a0 := l_T4012.is f_a0
    have hle := hle.tr l_T4012
    refine lv_aload_n X.1 X.2.1 dX12_init_989 rfl (lv_at hl 0 rfl) ?_
    obtain ⟨b4013, e_b4013, hw⟩ := hw
    have f_b4013 := h.2.2.2.rf (c := 12) (k := 3) f_a0 (by decide) (by decide) e_b4013 (t := 15) rfl
    refine kp_get X h f_a0 ff_12_27.l (v := .ref b4013) (congrArg va_rf e_b4013) dX12_init_990 ?_
    refine lv_bipush (v := 37) X.1 X.2.1 dX12_init_993 (by decide) ?_
    refine kp_ldcsw X 29 rfl dX12_init_995 ?_
    refine kp_calll X h (kp_runS (rm := { frames := 4, cells := 0, slots := 0, locals := 85 }) (mc := 0) (ms := 0) (rest := [.int 37, .ref b4013]) (Qc := fun A => kp_Ql D cy A T4012 _) X h (c_X12_packed l D cy ad T4012 29 _ h.2.2.2 (by decide) hw) cs_12_250 ⟨by decide, by decide, rfl, rfl, by decide, by decide⟩ rfl hl.1 rfl (Nat.le_of_ble_eq_true rfl) dX12_init_998) (fun z4015 T4014 hw l_T4014 H locs h => ?_)
    have f_a0 := l_T4014.is f_a0
    have f_b4013 := l_T4014.is f_b4013
    have hle := hle.tr l_T4014
    obtain ⟨hi, hw⟩ := hw
    refine kp_last X h f_b4013 hi dX12_init_1001 (fun T4016 e_T4016 l_T4016 H locs h => ?_)
    have hw := hw T4016 e_T4016
    have f_a0 := l_T4016.is f_a0
    have hle := hle.tr l_T4016
    refine lv_aload_n X.1 X.2.1 dX12_init_1002 rfl (lv_at hl 0 rfl) ?_
    obtain ⟨b4017, e_b4017, hw⟩ := hw
    have f_b4017 := h.2.2.2.rf (c := 12) (k := 3) f_a0 (by decide) (by decide) e_b4017 (t := 15) rfl
    refine kp_get X h f_a0 ff_12_27.l (v := .ref b4017) (congrArg va_rf e_b4017) dX12_init_1003 ?_
    refine lv_bipush (v := 38) X.1 X.2.1 dX12_init_1006 (by decide) ?_
    refine kp_ldcsw X 30 rfl dX12_init_1008 ?_
    refine kp_calll X h (kp_runS (rm := { frames := 4, cells := 0, slots := 0, locals := 85 }) (mc := 0) (ms := 0) (rest := [.int 38, .ref b4017]) (Qc := fun A => kp_Ql D cy A T4016 _) X h (c_X12_packed l D cy ad T4016 30 _ h.2.2.2 (by decide) hw) cs_12_250 ⟨by decide, by decide, rfl, rfl, by decide, by decide⟩ rfl hl.1 rfl (Nat.le_of_ble_eq_true rfl) dX12_init_1011) (fun z4019 T4018 hw l_T4018 H locs h => ?_)
    have f_a0 := l_T4018.is f_a0
    have f_b4017 := l_T4018.is f_b4017
    have hle := hle.tr l_T4018
    obtain ⟨hi, hw⟩ := hw
    refine kp_last X h f_b4017 hi dX12_init_1014 (fun T4020 e_T4020 l_T4020 H locs h => ?_)
    have hw := hw T4020 e_T4020
    have f_a0 := l_T4020.is f_a0
    have hle := hle.tr l_T4020
    exact j1015  T4020 H locs ls (lv_sub hl [0] rfl) h hle f_a0 hw
  have j885 : ∀  (Sn : kp_S) (H : Heap) (locs : List Loc) (ls : Array Slot), lv_has ls 1 [(0, .ref a0)] → kp_H D cy A Sn s.heap H locs → kp_le S Sn → kp_is Sn a0 12 → wX12_init_b885 a0   Sn post → W p l e { frames := 5, cells := 71, slots := 64622, locals := 108 } s m ([.ref a0] : List Value).toArray below meth c H locs 71 64622 (MQ below (kp_Qv D cy A S post) ([.ref a0] : List Value).toArray s 71 64622 A) (F0 m 885 ls []) := by
    intro  Sn H locs ls hl h hle f_a0 hw
    unfold wX12_init_b885 at hw
    refine lv_aload_n X.1 X.2.1 dX12_init_885 rfl (lv_at hl 0 rfl) ?_
    obtain ⟨b5001, e_b5001, hw⟩ := hw
    have f_b5001 := h.2.2.2.rf (c := 12) (k := 3) f_a0 (by decide) (by decide) e_b5001 (t := 15) rfl
    refine kp_get X h f_a0 ff_12_27.l (v := .ref b5001) (congrArg va_rf e_b5001) dX12_init_886 ?_
    refine lv_bipush (v := 29) X.1 X.2.1 dX12_init_889 (by decide) ?_
    refine kp_ldcsw X 21 rfl dX12_init_891 ?_
    refine kp_calll X h (kp_runS (rm := { frames := 4, cells := 0, slots := 0, locals := 85 }) (mc := 0) (ms := 0) (rest := [.int 29, .ref b5001]) (Qc := fun A => kp_Ql D cy A Sn _) X h (c_X12_packed l D cy ad Sn 21 _ h.2.2.2 (by decide) hw) cs_12_250 ⟨by decide, by decide, rfl, rfl, by decide, by decide⟩ rfl hl.1 rfl (Nat.le_of_ble_eq_true rfl) dX12_init_894) (fun z5003 T5002 hw l_T5002 H locs h => ?_)
    have f_a0 := l_T5002.is f_a0
    have f_b5001 := l_T5002.is f_b5001
    have hle := hle.tr l_T5002
    obtain ⟨hi, hw⟩ := hw
    refine kp_last X h f_b5001 hi dX12_init_897 (fun T5004 e_T5004 l_T5004 H locs h => ?_)
    have hw := hw T5004 e_T5004
    have f_a0 := l_T5004.is f_a0
    have hle := hle.tr l_T5004
    refine lv_aload_n X.1 X.2.1 dX12_init_898 rfl (lv_at hl 0 rfl) ?_
    obtain ⟨b5005, e_b5005, hw⟩ := hw
    have f_b5005 := h.2.2.2.rf (c := 12) (k := 3) f_a0 (by decide) (by decide) e_b5005 (t := 15) rfl
    refine kp_get X h f_a0 ff_12_27.l (v := .ref b5005) (congrArg va_rf e_b5005) dX12_init_899 ?_
    refine lv_bipush (v := 30) X.1 X.2.1 dX12_init_902 (by decide) ?_
    refine kp_ldcsw X 22 rfl dX12_init_904 ?_
    refine kp_calll X h (kp_runS (rm := { frames := 4, cells := 0, slots := 0, locals := 85 }) (mc := 0) (ms := 0) (rest := [.int 30, .ref b5005]) (Qc := fun A => kp_Ql D cy A T5004 _) X h (c_X12_packed l D cy ad T5004 22 _ h.2.2.2 (by decide) hw) cs_12_250 ⟨by decide, by decide, rfl, rfl, by decide, by decide⟩ rfl hl.1 rfl (Nat.le_of_ble_eq_true rfl) dX12_init_907) (fun z5007 T5006 hw l_T5006 H locs h => ?_)
    have f_a0 := l_T5006.is f_a0
    have f_b5005 := l_T5006.is f_b5005
    have hle := hle.tr l_T5006
    obtain ⟨hi, hw⟩ := hw
    refine kp_last X h f_b5005 hi dX12_init_910 (fun T5008 e_T5008 l_T5008 H locs h => ?_)
    have hw := hw T5008 e_T5008
    have f_a0 := l_T5008.is f_a0
    have hle := hle.tr l_T5008
    refine lv_aload_n X.1 X.2.1 dX12_init_911 rfl (lv_at hl 0 rfl) ?_
    obtain ⟨b5009, e_b5009, hw⟩ := hw
    have f_b5009 := h.2.2.2.rf (c := 12) (k := 3) f_a0 (by decide) (by decide) e_b5009 (t := 15) rfl
    refine kp_get X h f_a0 ff_12_27.l (v := .ref b5009) (congrArg va_rf e_b5009) dX12_init_912 ?_
    refine lv_bipush (v := 31) X.1 X.2.1 dX12_init_915 (by decide) ?_
    refine kp_ldcsw X 23 rfl dX12_init_917 ?_
    refine kp_calll X h (kp_runS (rm := { frames := 4, cells := 0, slots := 0, locals := 85 }) (mc := 0) (ms := 0) (rest := [.int 31, .ref b5009]) (Qc := fun A => kp_Ql D cy A T5008 _) X h (c_X12_packed l D cy ad T5008 23 _ h.2.2.2 (by decide) hw) cs_12_250 ⟨by decide, by decide, rfl, rfl, by decide, by decide⟩ rfl hl.1 rfl (Nat.le_of_ble_eq_true rfl) dX12_init_920) (fun z5011 T5010 hw l_T5010 H locs h => ?_)
    have f_a0 := l_T5010.is f_a0
    have f_b5009 := l_T5010.is f_b5009
    have hle := hle.tr l_T5010
    obtain ⟨hi, hw⟩ := hw
    refine kp_last X h f_b5009 hi dX12_init_923 (fun T5012 e_T5012 l_T5012 H locs h => ?_)
    have hw := hw T5012 e_T5012
    have f_a0 := l_T5012.is f_a0
    have hle := hle.tr l_T5012
    refine lv_aload_n X.1 X.2.1 dX12_init_924 rfl (lv_at hl 0 rfl) ?_
    obtain ⟨b5013, e_b5013, hw⟩ := hw
    have f_b5013 := h.2.2.2.rf (c := 12) (k := 3) f_a0 (by decide) (by decide) e_b5013 (t := 15) rfl
    refine kp_get X h f_a0 ff_12_27.l (v := .ref b5013) (congrArg va_rf e_b5013) dX12_init_925 ?_
    refine lv_bipush (v := 32) X.1 X.2.1 dX12_init_928 (by decide) ?_
    refine kp_ldcsw X 24 rfl dX12_init_930 ?_
    refine kp_calll X h (kp_runS (rm := { frames := 4, cells := 0, slots := 0, locals := 85 }) (mc := 0) (ms := 0) (rest := [.int 32, .ref b5013]) (Qc := fun A => kp_Ql D cy A T5012 _) X h (c_X12_packed l D cy ad T5012 24 _ h.2.2.2 (by decide) hw) cs_12_250 ⟨by decide, by decide, rfl, rfl, by decide, by decide⟩ rfl hl.1 rfl (Nat.le_of_ble_eq_true rfl) dX12_init_933) (fun z5015 T5014 hw l_T5014 H locs h => ?_)
    have f_a0 := l_T5014.is f_a0
    have f_b5013 := l_T5014.is f_b5013
    have hle := hle.tr l_T5014
    obtain ⟨hi, hw⟩ := hw
    refine kp_last X h f_b5013 hi dX12_init_936 (fun T5016 e_T5016 l_T5016 H locs h => ?_)
    have hw := hw T5016 e_T5016
    have f_a0 := l_T5016.is f_a0
    have hle := hle.tr l_T5016
    refine lv_aload_n X.1 X.2.1 dX12_init_937 rfl (lv_at hl 0 rfl) ?_
    obtain ⟨b5017, e_b5017, hw⟩ := hw
    have f_b5017 := h.2.2.2.rf (c := 12) (k := 3) f_a0 (by decide) (by decide) e_b5017 (t := 15) rfl
    refine kp_get X h f_a0 ff_12_27.l (v := .ref b5017) (congrArg va_rf e_b5017) dX12_init_938 ?_
    refine lv_bipush (v := 33) X.1 X.2.1 dX12_init_941 (by decide) ?_
    refine kp_ldcsw X 25 rfl dX12_init_943 ?_
    refine kp_calll X h (kp_runS (rm := { frames := 4, cells := 0, slots := 0, locals := 85 }) (mc := 0) (ms := 0) (rest := [.int 33, .ref b5017]) (Qc := fun A => kp_Ql D cy A T5016 _) X h (c_X12_packed l D cy ad T5016 25 _ h.2.2.2 (by decide) hw) cs_12_250 ⟨by decide, by decide, rfl, rfl, by decide, by decide⟩ rfl hl.1 rfl (Nat.le_of_ble_eq_true rfl) dX12_init_946) (fun z5019 T5018 hw l_T5018 H locs h => ?_)
    have f_a0 := l_T5018.is f_a0
    have f_b5017 := l_T5018.is f_b5017
    have hle := hle.tr l_T5018
    obtain ⟨hi, hw⟩ := hw
    refine kp_last X h f_b5017 hi dX12_init_949 (fun T5020 e_T5020 l_T5020 H locs h => ?_)
    have hw := hw T5020 e_T5020
    have f_a0 := l_T5020.is f_a0
    have hle := hle.tr l_T5020
    exact j950  T5020 H locs ls (lv_sub hl [0] rfl) h hle f_a0 hw
  have j820 : ∀  (Sn : kp_S) (H : Heap) (locs : List Loc) (ls : Array Slot), lv_has ls 1 [(0, .ref a0)] → kp_H D cy A Sn s.heap H locs → kp_le S Sn → kp_is Sn a0 12 → wX12_init_b820 a0   Sn post → W p l e { frames := 5, cells := 71, slots := 64622, locals := 108 } s m ([.ref a0] : List Value).toArray below meth c H locs 71 64622 (MQ below (kp_Qv D cy A S post) ([.ref a0] : List Value).toArray s 71 64622 A) (F0 m 820 ls []) := by
    intro  Sn H locs ls hl h hle f_a0 hw
    unfold wX12_init_b820 at hw
    refine lv_aload_n X.1 X.2.1 dX12_init_820 rfl (lv_at hl 0 rfl) ?_
    obtain ⟨b6001, e_b6001, hw⟩ := hw
    have f_b6001 := h.2.2.2.rf (c := 12) (k := 3) f_a0 (by decide) (by decide) e_b6001 (t := 15) rfl
    refine kp_get X h f_a0 ff_12_27.l (v := .ref b6001) (congrArg va_rf e_b6001) dX12_init_821 ?_
    refine lv_bipush (v := 24) X.1 X.2.1 dX12_init_824 (by decide) ?_
    refine kp_ldcsw X 16 rfl dX12_init_826 ?_
    refine kp_calll X h (kp_runS (rm := { frames := 4, cells := 0, slots := 0, locals := 85 }) (mc := 0) (ms := 0) (rest := [.int 24, .ref b6001]) (Qc := fun A => kp_Ql D cy A Sn _) X h (c_X12_packed l D cy ad Sn 16 _ h.2.2.2 (by decide) hw) cs_12_250 ⟨by decide, by decide, rfl, rfl, by decide, by decide⟩ rfl hl.1 rfl (Nat.le_of_ble_eq_true rfl) dX12_init_829) (fun z6003 T6002 hw l_T6002 H locs h => ?_)
    have f_a0 := l_T6002.is f_a0
    have f_b6001 := l_T6002.is f_b6001
    have hle := hle.tr l_T6002
    obtain ⟨hi, hw⟩ := hw
    refine kp_last X h f_b6001 hi dX12_init_832 (fun T6004 e_T6004 l_T6004 H locs h => ?_)
    have hw := hw T6004 e_T6004
    have f_a0 := l_T6004.is f_a0
    have hle := hle.tr l_T6004
    refine lv_aload_n X.1 X.2.1 dX12_init_833 rfl (lv_at hl 0 rfl) ?_
    obtain ⟨b6005, e_b6005, hw⟩ := hw
    have f_b6005 := h.2.2.2.rf (c := 12) (k := 3) f_a0 (by decide) (by decide) e_b6005 (t := 15) rfl
    refine kp_get X h f_a0 ff_12_27.l (v := .ref b6005) (congrArg va_rf e_b6005) dX12_init_834 ?_
    refine lv_bipush (v := 25) X.1 X.2.1 dX12_init_837 (by decide) ?_
    refine kp_ldcsw X 17 rfl dX12_init_839 ?_
    refine kp_calll X h (kp_runS (rm := { frames := 4, cells := 0, slots := 0, locals := 85 }) (mc := 0) (ms := 0) (rest := [.int 25, .ref b6005]) (Qc := fun A => kp_Ql D cy A T6004 _) X h (c_X12_packed l D cy ad T6004 17 _ h.2.2.2 (by decide) hw) cs_12_250 ⟨by decide, by decide, rfl, rfl, by decide, by decide⟩ rfl hl.1 rfl (Nat.le_of_ble_eq_true rfl) dX12_init_842) (fun z6007 T6006 hw l_T6006 H locs h => ?_)
    have f_a0 := l_T6006.is f_a0
    have f_b6005 := l_T6006.is f_b6005
    have hle := hle.tr l_T6006
    obtain ⟨hi, hw⟩ := hw
    refine kp_last X h f_b6005 hi dX12_init_845 (fun T6008 e_T6008 l_T6008 H locs h => ?_)
    have hw := hw T6008 e_T6008
    have f_a0 := l_T6008.is f_a0
    have hle := hle.tr l_T6008
    refine lv_aload_n X.1 X.2.1 dX12_init_846 rfl (lv_at hl 0 rfl) ?_
    obtain ⟨b6009, e_b6009, hw⟩ := hw
    have f_b6009 := h.2.2.2.rf (c := 12) (k := 3) f_a0 (by decide) (by decide) e_b6009 (t := 15) rfl
    refine kp_get X h f_a0 ff_12_27.l (v := .ref b6009) (congrArg va_rf e_b6009) dX12_init_847 ?_
    refine lv_bipush (v := 26) X.1 X.2.1 dX12_init_850 (by decide) ?_
    refine kp_ldcsw X 18 rfl dX12_init_852 ?_
    refine kp_calll X h (kp_runS (rm := { frames := 4, cells := 0, slots := 0, locals := 85 }) (mc := 0) (ms := 0) (rest := [.int 26, .ref b6009]) (Qc := fun A => kp_Ql D cy A T6008 _) X h (c_X12_packed l D cy ad T6008 18 _ h.2.2.2 (by decide) hw) cs_12_250 ⟨by decide, by decide, rfl, rfl, by decide, by decide⟩ rfl hl.1 rfl (Nat.le_of_ble_eq_true rfl) dX12_init_855) (fun z6011 T6010 hw l_T6010 H locs h => ?_)
    have f_a0 := l_T6010.is f_a0
    have f_b6009 := l_T6010.is f_b6009
    have hle := hle.tr l_T6010
    obtain ⟨hi, hw⟩ := hw
    refine kp_last X h f_b6009 hi dX12_init_858 (fun T6012 e_T6012 l_T6012 H locs h => ?_)
    have hw := hw T6012 e_T6012
    have f_a0 := l_T6012.is f_a0
    have hle := hle.tr l_T6012
    refine lv_aload_n X.1 X.2.1 dX12_init_859 rfl (lv_at hl 0 rfl) ?_
    obtain ⟨b6013, e_b6013, hw⟩ := hw
    have f_b6013 := h.2.2.2.rf (c := 12) (k := 3) f_a0 (by decide) (by decide) e_b6013 (t := 15) rfl
    refine kp_get X h f_a0 ff_12_27.l (v := .ref b6013) (congrArg va_rf e_b6013) dX12_init_860 ?_
    refine lv_bipush (v := 27) X.1 X.2.1 dX12_init_863 (by decide) ?_
    refine kp_ldcsw X 19 rfl dX12_init_865 ?_
    refine kp_calll X h (kp_runS (rm := { frames := 4, cells := 0, slots := 0, locals := 85 }) (mc := 0) (ms := 0) (rest := [.int 27, .ref b6013]) (Qc := fun A => kp_Ql D cy A T6012 _) X h (c_X12_packed l D cy ad T6012 19 _ h.2.2.2 (by decide) hw) cs_12_250 ⟨by decide, by decide, rfl, rfl, by decide, by decide⟩ rfl hl.1 rfl (Nat.le_of_ble_eq_true rfl) dX12_init_868) (fun z6015 T6014 hw l_T6014 H locs h => ?_)
    have f_a0 := l_T6014.is f_a0
    have f_b6013 := l_T6014.is f_b6013
    have hle := hle.tr l_T6014
    obtain ⟨hi, hw⟩ := hw
    refine kp_last X h f_b6013 hi dX12_init_871 (fun T6016 e_T6016 l_T6016 H locs h => ?_)
    have hw := hw T6016 e_T6016
    have f_a0 := l_T6016.is f_a0
    have hle := hle.tr l_T6016
    refine lv_aload_n X.1 X.2.1 dX12_init_872 rfl (lv_at hl 0 rfl) ?_
    obtain ⟨b6017, e_b6017, hw⟩ := hw
    have f_b6017 := h.2.2.2.rf (c := 12) (k := 3) f_a0 (by decide) (by decide) e_b6017 (t := 15) rfl
    refine kp_get X h f_a0 ff_12_27.l (v := .ref b6017) (congrArg va_rf e_b6017) dX12_init_873 ?_
    refine lv_bipush (v := 28) X.1 X.2.1 dX12_init_876 (by decide) ?_
    refine kp_ldcsw X 20 rfl dX12_init_878 ?_
    refine kp_calll X h (kp_runS (rm := { frames := 4, cells := 0, slots := 0, locals := 85 }) (mc := 0) (ms := 0) (rest := [.int 28, .ref b6017]) (Qc := fun A => kp_Ql D cy A T6016 _) X h (c_X12_packed l D cy ad T6016 20 _ h.2.2.2 (by decide) hw) cs_12_250 ⟨by decide, by decide, rfl, rfl, by decide, by decide⟩ rfl hl.1 rfl (Nat.le_of_ble_eq_true rfl) dX12_init_881) (fun z6019 T6018 hw l_T6018 H locs h => ?_)
    have f_a0 := l_T6018.is f_a0
    have f_b6017 := l_T6018.is f_b6017
    have hle := hle.tr l_T6018
    obtain ⟨hi, hw⟩ := hw
    refine kp_last X h f_b6017 hi dX12_init_884 (fun T6020 e_T6020 l_T6020 H locs h => ?_)
    have hw := hw T6020 e_T6020
    have f_a0 := l_T6020.is f_a0
    have hle := hle.tr l_T6020
    exact j885  T6020 H locs ls (lv_sub hl [0] rfl) h hle f_a0 hw
  have j755 : ∀  (Sn : kp_S) (H : Heap) (locs : List Loc) (ls : Array Slot), lv_has ls 1 [(0, .ref a0)] → kp_H D cy A Sn s.heap H locs → kp_le S Sn → kp_is Sn a0 12 → wX12_init_b755 a0   Sn post → W p l e { frames := 5, cells := 71, slots := 64622, locals := 108 } s m ([.ref a0] : List Value).toArray below meth c H locs 71 64622 (MQ below (kp_Qv D cy A S post) ([.ref a0] : List Value).toArray s 71 64622 A) (F0 m 755 ls []) := by
    intro  Sn H locs ls hl h hle f_a0 hw
    unfold wX12_init_b755 at hw
    refine lv_aload_n X.1 X.2.1 dX12_init_755 rfl (lv_at hl 0 rfl) ?_
    obtain ⟨b7001, e_b7001, hw⟩ := hw
    have f_b7001 := h.2.2.2.rf (c := 12) (k := 3) f_a0 (by decide) (by decide) e_b7001 (t := 15) rfl
    refine kp_get X h f_a0 ff_12_27.l (v := .ref b7001) (congrArg va_rf e_b7001) dX12_init_756 ?_
    refine lv_bipush (v := 19) X.1 X.2.1 dX12_init_759 (by decide) ?_
    refine kp_ldcsw X 11 rfl dX12_init_761 ?_
    refine kp_calll X h (kp_runS (rm := { frames := 4, cells := 0, slots := 0, locals := 85 }) (mc := 0) (ms := 0) (rest := [.int 19, .ref b7001]) (Qc := fun A => kp_Ql D cy A Sn _) X h (c_X12_packed l D cy ad Sn 11 _ h.2.2.2 (by decide) hw) cs_12_250 ⟨by decide, by decide, rfl, rfl, by decide, by decide⟩ rfl hl.1 rfl (Nat.le_of_ble_eq_true rfl) dX12_init_764) (fun z7003 T7002 hw l_T7002 H locs h => ?_)
    have f_a0 := l_T7002.is f_a0
    have f_b7001 := l_T7002.is f_b7001
    have hle := hle.tr l_T7002
    obtain ⟨hi, hw⟩ := hw
    refine kp_last X h f_b7001 hi dX12_init_767 (fun T7004 e_T7004 l_T7004 H locs h => ?_)
    have hw := hw T7004 e_T7004
    have f_a0 := l_T7004.is f_a0
    have hle := hle.tr l_T7004
    refine lv_aload_n X.1 X.2.1 dX12_init_768 rfl (lv_at hl 0 rfl) ?_
    obtain ⟨b7005, e_b7005, hw⟩ := hw
    have f_b7005 := h.2.2.2.rf (c := 12) (k := 3) f_a0 (by decide) (by decide) e_b7005 (t := 15) rfl
    refine kp_get X h f_a0 ff_12_27.l (v := .ref b7005) (congrArg va_rf e_b7005) dX12_init_769 ?_
    refine lv_bipush (v := 20) X.1 X.2.1 dX12_init_772 (by decide) ?_
    refine kp_ldcsw X 12 rfl dX12_init_774 ?_
    refine kp_calll X h (kp_runS (rm := { frames := 4, cells := 0, slots := 0, locals := 85 }) (mc := 0) (ms := 0) (rest := [.int 20, .ref b7005]) (Qc := fun A => kp_Ql D cy A T7004 _) X h (c_X12_packed l D cy ad T7004 12 _ h.2.2.2 (by decide) hw) cs_12_250 ⟨by decide, by decide, rfl, rfl, by decide, by decide⟩ rfl hl.1 rfl (Nat.le_of_ble_eq_true rfl) dX12_init_777) (fun z7007 T7006 hw l_T7006 H locs h => ?_)
    have f_a0 := l_T7006.is f_a0
    have f_b7005 := l_T7006.is f_b7005
    have hle := hle.tr l_T7006
    obtain ⟨hi, hw⟩ := hw
    refine kp_last X h f_b7005 hi dX12_init_780 (fun T7008 e_T7008 l_T7008 H locs h => ?_)
    have hw := hw T7008 e_T7008
    have f_a0 := l_T7008.is f_a0
    have hle := hle.tr l_T7008
    refine lv_aload_n X.1 X.2.1 dX12_init_781 rfl (lv_at hl 0 rfl) ?_
    obtain ⟨b7009, e_b7009, hw⟩ := hw
    have f_b7009 := h.2.2.2.rf (c := 12) (k := 3) f_a0 (by decide) (by decide) e_b7009 (t := 15) rfl
    refine kp_get X h f_a0 ff_12_27.l (v := .ref b7009) (congrArg va_rf e_b7009) dX12_init_782 ?_
    refine lv_bipush (v := 21) X.1 X.2.1 dX12_init_785 (by decide) ?_
    refine kp_ldcsw X 13 rfl dX12_init_787 ?_
    refine kp_calll X h (kp_runS (rm := { frames := 4, cells := 0, slots := 0, locals := 85 }) (mc := 0) (ms := 0) (rest := [.int 21, .ref b7009]) (Qc := fun A => kp_Ql D cy A T7008 _) X h (c_X12_packed l D cy ad T7008 13 _ h.2.2.2 (by decide) hw) cs_12_250 ⟨by decide, by decide, rfl, rfl, by decide, by decide⟩ rfl hl.1 rfl (Nat.le_of_ble_eq_true rfl) dX12_init_790) (fun z7011 T7010 hw l_T7010 H locs h => ?_)
    have f_a0 := l_T7010.is f_a0
    have f_b7009 := l_T7010.is f_b7009
    have hle := hle.tr l_T7010
    obtain ⟨hi, hw⟩ := hw
    refine kp_last X h f_b7009 hi dX12_init_793 (fun T7012 e_T7012 l_T7012 H locs h => ?_)
    have hw := hw T7012 e_T7012
    have f_a0 := l_T7012.is f_a0
    have hle := hle.tr l_T7012
    refine lv_aload_n X.1 X.2.1 dX12_init_794 rfl (lv_at hl 0 rfl) ?_
    obtain ⟨b7013, e_b7013, hw⟩ := hw
    have f_b7013 := h.2.2.2.rf (c := 12) (k := 3) f_a0 (by decide) (by decide) e_b7013 (t := 15) rfl
    refine kp_get X h f_a0 ff_12_27.l (v := .ref b7013) (congrArg va_rf e_b7013) dX12_init_795 ?_
    refine lv_bipush (v := 22) X.1 X.2.1 dX12_init_798 (by decide) ?_
    refine kp_ldcsw X 14 rfl dX12_init_800 ?_
    refine kp_calll X h (kp_runS (rm := { frames := 4, cells := 0, slots := 0, locals := 85 }) (mc := 0) (ms := 0) (rest := [.int 22, .ref b7013]) (Qc := fun A => kp_Ql D cy A T7012 _) X h (c_X12_packed l D cy ad T7012 14 _ h.2.2.2 (by decide) hw) cs_12_250 ⟨by decide, by decide, rfl, rfl, by decide, by decide⟩ rfl hl.1 rfl (Nat.le_of_ble_eq_true rfl) dX12_init_803) (fun z7015 T7014 hw l_T7014 H locs h => ?_)
    have f_a0 := l_T7014.is f_a0
    have f_b7013 := l_T7014.is f_b7013
    have hle := hle.tr l_T7014
    obtain ⟨hi, hw⟩ := hw
    refine kp_last X h f_b7013 hi dX12_init_806 (fun T7016 e_T7016 l_T7016 H locs h => ?_)
    have hw := hw T7016 e_T7016
    have f_a0 := l_T7016.is f_a0
    have hle := hle.tr l_T7016
    refine lv_aload_n X.1 X.2.1 dX12_init_807 rfl (lv_at hl 0 rfl) ?_
    obtain ⟨b7017, e_b7017, hw⟩ := hw
    have f_b7017 := h.2.2.2.rf (c := 12) (k := 3) f_a0 (by decide) (by decide) e_b7017 (t := 15) rfl
    refine kp_get X h f_a0 ff_12_27.l (v := .ref b7017) (congrArg va_rf e_b7017) dX12_init_808 ?_
    refine lv_bipush (v := 23) X.1 X.2.1 dX12_init_811 (by decide) ?_
    refine kp_ldcsw X 15 rfl dX12_init_813 ?_
    refine kp_calll X h (kp_runS (rm := { frames := 4, cells := 0, slots := 0, locals := 85 }) (mc := 0) (ms := 0) (rest := [.int 23, .ref b7017]) (Qc := fun A => kp_Ql D cy A T7016 _) X h (c_X12_packed l D cy ad T7016 15 _ h.2.2.2 (by decide) hw) cs_12_250 ⟨by decide, by decide, rfl, rfl, by decide, by decide⟩ rfl hl.1 rfl (Nat.le_of_ble_eq_true rfl) dX12_init_816) (fun z7019 T7018 hw l_T7018 H locs h => ?_)
    have f_a0 := l_T7018.is f_a0
    have f_b7017 := l_T7018.is f_b7017
    have hle := hle.tr l_T7018
    obtain ⟨hi, hw⟩ := hw
    refine kp_last X h f_b7017 hi dX12_init_819 (fun T7020 e_T7020 l_T7020 H locs h => ?_)
    have hw := hw T7020 e_T7020
    have f_a0 := l_T7020.is f_a0
    have hle := hle.tr l_T7020
    exact j820  T7020 H locs ls (lv_sub hl [0] rfl) h hle f_a0 hw
  have j690 : ∀  (Sn : kp_S) (H : Heap) (locs : List Loc) (ls : Array Slot), lv_has ls 1 [(0, .ref a0)] → kp_H D cy A Sn s.heap H locs → kp_le S Sn → kp_is Sn a0 12 → wX12_init_b690 a0   Sn post → W p l e { frames := 5, cells := 71, slots := 64622, locals := 108 } s m ([.ref a0] : List Value).toArray below meth c H locs 71 64622 (MQ below (kp_Qv D cy A S post) ([.ref a0] : List Value).toArray s 71 64622 A) (F0 m 690 ls []) := by
    intro  Sn H locs ls hl h hle f_a0 hw
    unfold wX12_init_b690 at hw
    refine lv_aload_n X.1 X.2.1 dX12_init_690 rfl (lv_at hl 0 rfl) ?_
    obtain ⟨b8001, e_b8001, hw⟩ := hw
    have f_b8001 := h.2.2.2.rf (c := 12) (k := 3) f_a0 (by decide) (by decide) e_b8001 (t := 15) rfl
    refine kp_get X h f_a0 ff_12_27.l (v := .ref b8001) (congrArg va_rf e_b8001) dX12_init_691 ?_
    refine lv_bipush (v := 14) X.1 X.2.1 dX12_init_694 (by decide) ?_
    refine kp_ldcsw X 6 rfl dX12_init_696 ?_
    refine kp_calll X h (kp_runS (rm := { frames := 4, cells := 0, slots := 0, locals := 85 }) (mc := 0) (ms := 0) (rest := [.int 14, .ref b8001]) (Qc := fun A => kp_Ql D cy A Sn _) X h (c_X12_packed l D cy ad Sn 6 _ h.2.2.2 (by decide) hw) cs_12_250 ⟨by decide, by decide, rfl, rfl, by decide, by decide⟩ rfl hl.1 rfl (Nat.le_of_ble_eq_true rfl) dX12_init_699) (fun z8003 T8002 hw l_T8002 H locs h => ?_)
    have f_a0 := l_T8002.is f_a0
    have f_b8001 := l_T8002.is f_b8001
    have hle := hle.tr l_T8002
    obtain ⟨hi, hw⟩ := hw
    refine kp_last X h f_b8001 hi dX12_init_702 (fun T8004 e_T8004 l_T8004 H locs h => ?_)
    have hw := hw T8004 e_T8004
    have f_a0 := l_T8004.is f_a0
    have hle := hle.tr l_T8004
    refine lv_aload_n X.1 X.2.1 dX12_init_703 rfl (lv_at hl 0 rfl) ?_
    obtain ⟨b8005, e_b8005, hw⟩ := hw
    have f_b8005 := h.2.2.2.rf (c := 12) (k := 3) f_a0 (by decide) (by decide) e_b8005 (t := 15) rfl
    refine kp_get X h f_a0 ff_12_27.l (v := .ref b8005) (congrArg va_rf e_b8005) dX12_init_704 ?_
    refine lv_bipush (v := 15) X.1 X.2.1 dX12_init_707 (by decide) ?_
    refine kp_ldcsw X 7 rfl dX12_init_709 ?_
    refine kp_calll X h (kp_runS (rm := { frames := 4, cells := 0, slots := 0, locals := 85 }) (mc := 0) (ms := 0) (rest := [.int 15, .ref b8005]) (Qc := fun A => kp_Ql D cy A T8004 _) X h (c_X12_packed l D cy ad T8004 7 _ h.2.2.2 (by decide) hw) cs_12_250 ⟨by decide, by decide, rfl, rfl, by decide, by decide⟩ rfl hl.1 rfl (Nat.le_of_ble_eq_true rfl) dX12_init_712) (fun z8007 T8006 hw l_T8006 H locs h => ?_)
    have f_a0 := l_T8006.is f_a0
    have f_b8005 := l_T8006.is f_b8005
    have hle := hle.tr l_T8006
    obtain ⟨hi, hw⟩ := hw
    refine kp_last X h f_b8005 hi dX12_init_715 (fun T8008 e_T8008 l_T8008 H locs h => ?_)
    have hw := hw T8008 e_T8008
    have f_a0 := l_T8008.is f_a0
    have hle := hle.tr l_T8008
    refine lv_aload_n X.1 X.2.1 dX12_init_716 rfl (lv_at hl 0 rfl) ?_
    obtain ⟨b8009, e_b8009, hw⟩ := hw
    have f_b8009 := h.2.2.2.rf (c := 12) (k := 3) f_a0 (by decide) (by decide) e_b8009 (t := 15) rfl
    refine kp_get X h f_a0 ff_12_27.l (v := .ref b8009) (congrArg va_rf e_b8009) dX12_init_717 ?_
    refine lv_bipush (v := 16) X.1 X.2.1 dX12_init_720 (by decide) ?_
    refine kp_ldcsw X 8 rfl dX12_init_722 ?_
    refine kp_calll X h (kp_runS (rm := { frames := 4, cells := 0, slots := 0, locals := 85 }) (mc := 0) (ms := 0) (rest := [.int 16, .ref b8009]) (Qc := fun A => kp_Ql D cy A T8008 _) X h (c_X12_packed l D cy ad T8008 8 _ h.2.2.2 (by decide) hw) cs_12_250 ⟨by decide, by decide, rfl, rfl, by decide, by decide⟩ rfl hl.1 rfl (Nat.le_of_ble_eq_true rfl) dX12_init_725) (fun z8011 T8010 hw l_T8010 H locs h => ?_)
    have f_a0 := l_T8010.is f_a0
    have f_b8009 := l_T8010.is f_b8009
    have hle := hle.tr l_T8010
    obtain ⟨hi, hw⟩ := hw
    refine kp_last X h f_b8009 hi dX12_init_728 (fun T8012 e_T8012 l_T8012 H locs h => ?_)
    have hw := hw T8012 e_T8012
    have f_a0 := l_T8012.is f_a0
    have hle := hle.tr l_T8012
    refine lv_aload_n X.1 X.2.1 dX12_init_729 rfl (lv_at hl 0 rfl) ?_
    obtain ⟨b8013, e_b8013, hw⟩ := hw
    have f_b8013 := h.2.2.2.rf (c := 12) (k := 3) f_a0 (by decide) (by decide) e_b8013 (t := 15) rfl
    refine kp_get X h f_a0 ff_12_27.l (v := .ref b8013) (congrArg va_rf e_b8013) dX12_init_730 ?_
    refine lv_bipush (v := 17) X.1 X.2.1 dX12_init_733 (by decide) ?_
    refine kp_ldcsw X 9 rfl dX12_init_735 ?_
    refine kp_calll X h (kp_runS (rm := { frames := 4, cells := 0, slots := 0, locals := 85 }) (mc := 0) (ms := 0) (rest := [.int 17, .ref b8013]) (Qc := fun A => kp_Ql D cy A T8012 _) X h (c_X12_packed l D cy ad T8012 9 _ h.2.2.2 (by decide) hw) cs_12_250 ⟨by decide, by decide, rfl, rfl, by decide, by decide⟩ rfl hl.1 rfl (Nat.le_of_ble_eq_true rfl) dX12_init_738) (fun z8015 T8014 hw l_T8014 H locs h => ?_)
    have f_a0 := l_T8014.is f_a0
    have f_b8013 := l_T8014.is f_b8013
    have hle := hle.tr l_T8014
    obtain ⟨hi, hw⟩ := hw
    refine kp_last X h f_b8013 hi dX12_init_741 (fun T8016 e_T8016 l_T8016 H locs h => ?_)
    have hw := hw T8016 e_T8016
    have f_a0 := l_T8016.is f_a0
    have hle := hle.tr l_T8016
    refine lv_aload_n X.1 X.2.1 dX12_init_742 rfl (lv_at hl 0 rfl) ?_
    obtain ⟨b8017, e_b8017, hw⟩ := hw
    have f_b8017 := h.2.2.2.rf (c := 12) (k := 3) f_a0 (by decide) (by decide) e_b8017 (t := 15) rfl
    refine kp_get X h f_a0 ff_12_27.l (v := .ref b8017) (congrArg va_rf e_b8017) dX12_init_743 ?_
    refine lv_bipush (v := 18) X.1 X.2.1 dX12_init_746 (by decide) ?_
    refine kp_ldcsw X 10 rfl dX12_init_748 ?_
    refine kp_calll X h (kp_runS (rm := { frames := 4, cells := 0, slots := 0, locals := 85 }) (mc := 0) (ms := 0) (rest := [.int 18, .ref b8017]) (Qc := fun A => kp_Ql D cy A T8016 _) X h (c_X12_packed l D cy ad T8016 10 _ h.2.2.2 (by decide) hw) cs_12_250 ⟨by decide, by decide, rfl, rfl, by decide, by decide⟩ rfl hl.1 rfl (Nat.le_of_ble_eq_true rfl) dX12_init_751) (fun z8019 T8018 hw l_T8018 H locs h => ?_)
    have f_a0 := l_T8018.is f_a0
    have f_b8017 := l_T8018.is f_b8017
    have hle := hle.tr l_T8018
    obtain ⟨hi, hw⟩ := hw
    refine kp_last X h f_b8017 hi dX12_init_754 (fun T8020 e_T8020 l_T8020 H locs h => ?_)
    have hw := hw T8020 e_T8020
    have f_a0 := l_T8020.is f_a0
    have hle := hle.tr l_T8020
    exact j755  T8020 H locs ls (lv_sub hl [0] rfl) h hle f_a0 hw
  have j621 : ∀  (Sn : kp_S) (H : Heap) (locs : List Loc) (ls : Array Slot), lv_has ls 1 [(0, .ref a0)] → kp_H D cy A Sn s.heap H locs → kp_le S Sn → kp_is Sn a0 12 → wX12_init_b621 a0   Sn post → W p l e { frames := 5, cells := 71, slots := 64622, locals := 108 } s m ([.ref a0] : List Value).toArray below meth c H locs 70 60622 (MQ below (kp_Qv D cy A S post) ([.ref a0] : List Value).toArray s 71 64622 A) (F0 m 621 ls []) := by
    intro  Sn H locs ls hl h hle f_a0 hw
    unfold wX12_init_b621 at hw
    refine lv_aload_n X.1 X.2.1 dX12_init_621 rfl (lv_at hl 0 rfl) ?_
    refine lv_sipush (v := 4000) X.1 X.2.1 dX12_init_622 (by decide) ?_
    refine kp_newi (n := 4000) X h ac_14 (by decide) (by decide) (by decide) (by decide) (by decide) dX12_init_625 (fun b9001 T9002 n_b9001 e_T9002 l_T9002 f_b9001 H h => ?_)
    have hw := hw b9001 T9002 n_b9001 e_T9002
    have f_a0 := l_T9002.is f_a0
    have hle := hle.tr l_T9002
    refine W.widen (k := 71) (n := 64622) (by decide) (by decide) ?_
    refine kp_putRF X hname h f_a0 ff_12_239 f_b9001 rfl ⟨by decide, by decide⟩ ⟨rfl, rfl⟩ dX12_init_627 (fun T9003 e_T9003 l_T9003 H locs h => ?_)
    have hw := hw T9003 e_T9003
    have f_a0 := l_T9003.is f_a0
    have hle := hle.tr l_T9003
    refine lv_aload_n X.1 X.2.1 dX12_init_630 rfl (lv_at hl 0 rfl) ?_
    refine lv_iconst (v := (-1)) X.1 X.2.1 dX12_init_631 (by decide) ?_
    refine kp_putI X h f_a0 fp_12_242 rfl ⟨rfl, rfl⟩ dX12_init_632 (fun T9004 e_T9004 l_T9004 H locs h => ?_)
    have hw := hw T9004 e_T9004
    have f_a0 := l_T9004.is f_a0
    have hle := hle.tr l_T9004
    refine lv_aload_n X.1 X.2.1 dX12_init_635 rfl (lv_at hl 0 rfl) ?_
    refine lv_iconst (v := (-1)) X.1 X.2.1 dX12_init_636 (by decide) ?_
    refine kp_putI X h f_a0 fp_12_245 rfl ⟨rfl, rfl⟩ dX12_init_637 (fun T9005 e_T9005 l_T9005 H locs h => ?_)
    have hw := hw T9005 e_T9005
    have f_a0 := l_T9005.is f_a0
    have hle := hle.tr l_T9005
    refine lv_aload_n X.1 X.2.1 dX12_init_640 rfl (lv_at hl 0 rfl) ?_
    obtain ⟨b9006, e_b9006, hw⟩ := hw
    have f_b9006 := h.2.2.2.rf (c := 12) (k := 3) f_a0 (by decide) (by decide) e_b9006 (t := 15) rfl
    refine kp_get X h f_a0 ff_12_27.l (v := .ref b9006) (congrArg va_rf e_b9006) dX12_init_641 ?_
    refine lv_bipush (v := 10) X.1 X.2.1 dX12_init_644 (by decide) ?_
    refine kp_ldcs X 2 rfl dX12_init_646 ?_
    refine kp_calll X h (kp_runS (rm := { frames := 4, cells := 0, slots := 0, locals := 85 }) (mc := 0) (ms := 0) (rest := [.int 10, .ref b9006]) (Qc := fun A => kp_Ql D cy A T9005 _) X h (c_X12_packed l D cy ad T9005 2 _ h.2.2.2 (by decide) hw) cs_12_250 ⟨by decide, by decide, rfl, rfl, by decide, by decide⟩ rfl hl.1 rfl (Nat.le_of_ble_eq_true rfl) dX12_init_648) (fun z9008 T9007 hw l_T9007 H locs h => ?_)
    have f_a0 := l_T9007.is f_a0
    have f_b9006 := l_T9007.is f_b9006
    have hle := hle.tr l_T9007
    obtain ⟨hi, hw⟩ := hw
    refine kp_last X h f_b9006 hi dX12_init_651 (fun T9009 e_T9009 l_T9009 H locs h => ?_)
    have hw := hw T9009 e_T9009
    have f_a0 := l_T9009.is f_a0
    have hle := hle.tr l_T9009
    refine lv_aload_n X.1 X.2.1 dX12_init_652 rfl (lv_at hl 0 rfl) ?_
    obtain ⟨b9010, e_b9010, hw⟩ := hw
    have f_b9010 := h.2.2.2.rf (c := 12) (k := 3) f_a0 (by decide) (by decide) e_b9010 (t := 15) rfl
    refine kp_get X h f_a0 ff_12_27.l (v := .ref b9010) (congrArg va_rf e_b9010) dX12_init_653 ?_
    refine lv_bipush (v := 11) X.1 X.2.1 dX12_init_656 (by decide) ?_
    refine kp_ldcs X 3 rfl dX12_init_658 ?_
    refine kp_calll X h (kp_runS (rm := { frames := 4, cells := 0, slots := 0, locals := 85 }) (mc := 0) (ms := 0) (rest := [.int 11, .ref b9010]) (Qc := fun A => kp_Ql D cy A T9009 _) X h (c_X12_packed l D cy ad T9009 3 _ h.2.2.2 (by decide) hw) cs_12_250 ⟨by decide, by decide, rfl, rfl, by decide, by decide⟩ rfl hl.1 rfl (Nat.le_of_ble_eq_true rfl) dX12_init_660) (fun z9012 T9011 hw l_T9011 H locs h => ?_)
    have f_a0 := l_T9011.is f_a0
    have f_b9010 := l_T9011.is f_b9010
    have hle := hle.tr l_T9011
    obtain ⟨hi, hw⟩ := hw
    refine kp_last X h f_b9010 hi dX12_init_663 (fun T9013 e_T9013 l_T9013 H locs h => ?_)
    have hw := hw T9013 e_T9013
    have f_a0 := l_T9013.is f_a0
    have hle := hle.tr l_T9013
    refine lv_aload_n X.1 X.2.1 dX12_init_664 rfl (lv_at hl 0 rfl) ?_
    obtain ⟨b9014, e_b9014, hw⟩ := hw
    have f_b9014 := h.2.2.2.rf (c := 12) (k := 3) f_a0 (by decide) (by decide) e_b9014 (t := 15) rfl
    refine kp_get X h f_a0 ff_12_27.l (v := .ref b9014) (congrArg va_rf e_b9014) dX12_init_665 ?_
    refine lv_bipush (v := 12) X.1 X.2.1 dX12_init_668 (by decide) ?_
    refine kp_ldcsw X 4 rfl dX12_init_670 ?_
    refine kp_calll X h (kp_runS (rm := { frames := 4, cells := 0, slots := 0, locals := 85 }) (mc := 0) (ms := 0) (rest := [.int 12, .ref b9014]) (Qc := fun A => kp_Ql D cy A T9013 _) X h (c_X12_packed l D cy ad T9013 4 _ h.2.2.2 (by decide) hw) cs_12_250 ⟨by decide, by decide, rfl, rfl, by decide, by decide⟩ rfl hl.1 rfl (Nat.le_of_ble_eq_true rfl) dX12_init_673) (fun z9016 T9015 hw l_T9015 H locs h => ?_)
    have f_a0 := l_T9015.is f_a0
    have f_b9014 := l_T9015.is f_b9014
    have hle := hle.tr l_T9015
    obtain ⟨hi, hw⟩ := hw
    refine kp_last X h f_b9014 hi dX12_init_676 (fun T9017 e_T9017 l_T9017 H locs h => ?_)
    have hw := hw T9017 e_T9017
    have f_a0 := l_T9017.is f_a0
    have hle := hle.tr l_T9017
    refine lv_aload_n X.1 X.2.1 dX12_init_677 rfl (lv_at hl 0 rfl) ?_
    obtain ⟨b9018, e_b9018, hw⟩ := hw
    have f_b9018 := h.2.2.2.rf (c := 12) (k := 3) f_a0 (by decide) (by decide) e_b9018 (t := 15) rfl
    refine kp_get X h f_a0 ff_12_27.l (v := .ref b9018) (congrArg va_rf e_b9018) dX12_init_678 ?_
    refine lv_bipush (v := 13) X.1 X.2.1 dX12_init_681 (by decide) ?_
    refine kp_ldcsw X 5 rfl dX12_init_683 ?_
    refine kp_calll X h (kp_runS (rm := { frames := 4, cells := 0, slots := 0, locals := 85 }) (mc := 0) (ms := 0) (rest := [.int 13, .ref b9018]) (Qc := fun A => kp_Ql D cy A T9017 _) X h (c_X12_packed l D cy ad T9017 5 _ h.2.2.2 (by decide) hw) cs_12_250 ⟨by decide, by decide, rfl, rfl, by decide, by decide⟩ rfl hl.1 rfl (Nat.le_of_ble_eq_true rfl) dX12_init_686) (fun z9020 T9019 hw l_T9019 H locs h => ?_)
    have f_a0 := l_T9019.is f_a0
    have f_b9018 := l_T9019.is f_b9018
    have hle := hle.tr l_T9019
    obtain ⟨hi, hw⟩ := hw
    refine kp_last X h f_b9018 hi dX12_init_689 (fun T9021 e_T9021 l_T9021 H locs h => ?_)
    have hw := hw T9021 e_T9021
    have f_a0 := l_T9021.is f_a0
    have hle := hle.tr l_T9021
    exact j690  T9021 H locs ls (lv_sub hl [0] rfl) h hle f_a0 hw
  have j554 : ∀  (Sn : kp_S) (H : Heap) (locs : List Loc) (ls : Array Slot), lv_has ls 1 [(0, .ref a0)] → kp_H D cy A Sn s.heap H locs → kp_le S Sn → kp_is Sn a0 12 → wX12_init_b554 a0   Sn post → W p l e { frames := 5, cells := 71, slots := 64622, locals := 108 } s m ([.ref a0] : List Value).toArray below meth c H locs 62 59205 (MQ below (kp_Qv D cy A S post) ([.ref a0] : List Value).toArray s 71 64622 A) (F0 m 554 ls []) := by
    intro  Sn H locs ls hl h hle f_a0 hw
    unfold wX12_init_b554 at hw
    refine lv_aload_n X.1 X.2.1 dX12_init_554 rfl (lv_at hl 0 rfl) ?_
    refine lv_bipush (v := 13) X.1 X.2.1 dX12_init_555 (by decide) ?_
    refine kp_newi (n := 13) X h ac_14 (by decide) (by decide) (by decide) (by decide) (by decide) dX12_init_557 (fun b10001 T10002 n_b10001 e_T10002 l_T10002 f_b10001 H h => ?_)
    have hw := hw b10001 T10002 n_b10001 e_T10002
    have f_a0 := l_T10002.is f_a0
    have hle := hle.tr l_T10002
    refine W.widen (k := 63) (n := 59218) (by decide) (by decide) ?_
    refine kp_putRF X hname h f_a0 ff_12_215 f_b10001 rfl ⟨by decide, by decide⟩ ⟨rfl, rfl⟩ dX12_init_559 (fun T10003 e_T10003 l_T10003 H locs h => ?_)
    have hw := hw T10003 e_T10003
    have f_a0 := l_T10003.is f_a0
    have hle := hle.tr l_T10003
    refine lv_aload_n X.1 X.2.1 dX12_init_562 rfl (lv_at hl 0 rfl) ?_
    refine lv_bipush (v := 13) X.1 X.2.1 dX12_init_563 (by decide) ?_
    refine kp_newi (n := 13) X h ac_14 (by decide) (by decide) (by decide) (by decide) (by decide) dX12_init_565 (fun b10004 T10005 n_b10004 e_T10005 l_T10005 f_b10004 H h => ?_)
    have hw := hw b10004 T10005 n_b10004 e_T10005
    have f_a0 := l_T10005.is f_a0
    have hle := hle.tr l_T10005
    refine W.widen (k := 64) (n := 59231) (by decide) (by decide) ?_
    refine kp_putRF X hname h f_a0 ff_12_218 f_b10004 rfl ⟨by decide, by decide⟩ ⟨rfl, rfl⟩ dX12_init_567 (fun T10006 e_T10006 l_T10006 H locs h => ?_)
    have hw := hw T10006 e_T10006
    have f_a0 := l_T10006.is f_a0
    have hle := hle.tr l_T10006
    refine lv_aload_n X.1 X.2.1 dX12_init_570 rfl (lv_at hl 0 rfl) ?_
    refine lv_bipush (v := 13) X.1 X.2.1 dX12_init_571 (by decide) ?_
    refine kp_newi (n := 13) X h ac_14 (by decide) (by decide) (by decide) (by decide) (by decide) dX12_init_573 (fun b10007 T10008 n_b10007 e_T10008 l_T10008 f_b10007 H h => ?_)
    have hw := hw b10007 T10008 n_b10007 e_T10008
    have f_a0 := l_T10008.is f_a0
    have hle := hle.tr l_T10008
    refine W.widen (k := 65) (n := 59244) (by decide) (by decide) ?_
    refine kp_putRF X hname h f_a0 ff_12_221 f_b10007 rfl ⟨by decide, by decide⟩ ⟨rfl, rfl⟩ dX12_init_575 (fun T10009 e_T10009 l_T10009 H locs h => ?_)
    have hw := hw T10009 e_T10009
    have f_a0 := l_T10009.is f_a0
    have hle := hle.tr l_T10009
    refine lv_aload_n X.1 X.2.1 dX12_init_578 rfl (lv_at hl 0 rfl) ?_
    refine lv_bipush (v := 13) X.1 X.2.1 dX12_init_579 (by decide) ?_
    refine kp_newi (n := 13) X h ac_14 (by decide) (by decide) (by decide) (by decide) (by decide) dX12_init_581 (fun b10010 T10011 n_b10010 e_T10011 l_T10011 f_b10010 H h => ?_)
    have hw := hw b10010 T10011 n_b10010 e_T10011
    have f_a0 := l_T10011.is f_a0
    have hle := hle.tr l_T10011
    refine W.widen (k := 66) (n := 59257) (by decide) (by decide) ?_
    refine kp_putRF X hname h f_a0 ff_12_224 f_b10010 rfl ⟨by decide, by decide⟩ ⟨rfl, rfl⟩ dX12_init_583 (fun T10012 e_T10012 l_T10012 H locs h => ?_)
    have hw := hw T10012 e_T10012
    have f_a0 := l_T10012.is f_a0
    have hle := hle.tr l_T10012
    refine lv_aload_n X.1 X.2.1 dX12_init_586 rfl (lv_at hl 0 rfl) ?_
    refine lv_bipush (v := 13) X.1 X.2.1 dX12_init_587 (by decide) ?_
    refine kp_newi (n := 13) X h ac_14 (by decide) (by decide) (by decide) (by decide) (by decide) dX12_init_589 (fun b10013 T10014 n_b10013 e_T10014 l_T10014 f_b10013 H h => ?_)
    have hw := hw b10013 T10014 n_b10013 e_T10014
    have f_a0 := l_T10014.is f_a0
    have hle := hle.tr l_T10014
    refine W.widen (k := 67) (n := 59270) (by decide) (by decide) ?_
    refine kp_putRF X hname h f_a0 ff_12_227 f_b10013 rfl ⟨by decide, by decide⟩ ⟨rfl, rfl⟩ dX12_init_591 (fun T10015 e_T10015 l_T10015 H locs h => ?_)
    have hw := hw T10015 e_T10015
    have f_a0 := l_T10015.is f_a0
    have hle := hle.tr l_T10015
    refine lv_aload_n X.1 X.2.1 dX12_init_594 rfl (lv_at hl 0 rfl) ?_
    refine lv_sipush (v := 520) X.1 X.2.1 dX12_init_595 (by decide) ?_
    refine kp_newi (n := 520) X h ac_14 (by decide) (by decide) (by decide) (by decide) (by decide) dX12_init_598 (fun b10016 T10017 n_b10016 e_T10017 l_T10017 f_b10016 H h => ?_)
    have hw := hw b10016 T10017 n_b10016 e_T10017
    have f_a0 := l_T10017.is f_a0
    have hle := hle.tr l_T10017
    refine W.widen (k := 68) (n := 59790) (by decide) (by decide) ?_
    refine kp_putRF X hname h f_a0 ff_12_230 f_b10016 rfl ⟨by decide, by decide⟩ ⟨rfl, rfl⟩ dX12_init_600 (fun T10018 e_T10018 l_T10018 H locs h => ?_)
    have hw := hw T10018 e_T10018
    have f_a0 := l_T10018.is f_a0
    have hle := hle.tr l_T10018
    refine lv_aload_n X.1 X.2.1 dX12_init_603 rfl (lv_at hl 0 rfl) ?_
    refine lv_sipush (v := 520) X.1 X.2.1 dX12_init_604 (by decide) ?_
    refine kp_newi (n := 520) X h ac_14 (by decide) (by decide) (by decide) (by decide) (by decide) dX12_init_607 (fun b10019 T10020 n_b10019 e_T10020 l_T10020 f_b10019 H h => ?_)
    have hw := hw b10019 T10020 n_b10019 e_T10020
    have f_a0 := l_T10020.is f_a0
    have hle := hle.tr l_T10020
    refine W.widen (k := 69) (n := 60310) (by decide) (by decide) ?_
    refine kp_putRF X hname h f_a0 ff_12_233 f_b10019 rfl ⟨by decide, by decide⟩ ⟨rfl, rfl⟩ dX12_init_609 (fun T10021 e_T10021 l_T10021 H locs h => ?_)
    have hw := hw T10021 e_T10021
    have f_a0 := l_T10021.is f_a0
    have hle := hle.tr l_T10021
    refine lv_aload_n X.1 X.2.1 dX12_init_612 rfl (lv_at hl 0 rfl) ?_
    refine lv_sipush (v := 312) X.1 X.2.1 dX12_init_613 (by decide) ?_
    refine kp_newi (n := 312) X h ac_14 (by decide) (by decide) (by decide) (by decide) (by decide) dX12_init_616 (fun b10022 T10023 n_b10022 e_T10023 l_T10023 f_b10022 H h => ?_)
    have hw := hw b10022 T10023 n_b10022 e_T10023
    have f_a0 := l_T10023.is f_a0
    have hle := hle.tr l_T10023
    refine W.widen (k := 70) (n := 60622) (by decide) (by decide) ?_
    refine kp_putRF X hname h f_a0 ff_12_236 f_b10022 rfl ⟨by decide, by decide⟩ ⟨rfl, rfl⟩ dX12_init_618 (fun T10024 e_T10024 l_T10024 H locs h => ?_)
    have hw := hw T10024 e_T10024
    have f_a0 := l_T10024.is f_a0
    have hle := hle.tr l_T10024
    exact j621  T10024 H locs ls (lv_sub hl [0] rfl) h hle f_a0 hw
  have j482 : ∀  (Sn : kp_S) (H : Heap) (locs : List Loc) (ls : Array Slot), lv_has ls 1 [(0, .ref a0)] → kp_H D cy A Sn s.heap H locs → kp_le S Sn → kp_is Sn a0 12 → wX12_init_b482 a0   Sn post → W p l e { frames := 5, cells := 71, slots := 64622, locals := 108 } s m ([.ref a0] : List Value).toArray below meth c H locs 54 57285 (MQ below (kp_Qv D cy A S post) ([.ref a0] : List Value).toArray s 71 64622 A) (F0 m 482 ls []) := by
    intro  Sn H locs ls hl h hle f_a0 hw
    unfold wX12_init_b482 at hw
    refine lv_aload_n X.1 X.2.1 dX12_init_482 rfl (lv_at hl 0 rfl) ?_
    refine lv_sipush (v := 240) X.1 X.2.1 dX12_init_483 (by decide) ?_
    refine kp_newl (n := 240) X h ac_15 (by decide) (by decide) (by decide) (by decide) (by decide) dX12_init_486 (fun b11001 T11002 n_b11001 e_T11002 l_T11002 f_b11001 H h => ?_)
    have hw := hw b11001 T11002 n_b11001 e_T11002
    have f_a0 := l_T11002.is f_a0
    have hle := hle.tr l_T11002
    refine W.widen (k := 55) (n := 57525) (by decide) (by decide) ?_
    refine kp_putRF X hname h f_a0 ff_12_191 f_b11001 rfl ⟨by decide, by decide⟩ ⟨rfl, rfl⟩ dX12_init_488 (fun T11003 e_T11003 l_T11003 H locs h => ?_)
    have hw := hw T11003 e_T11003
    have f_a0 := l_T11003.is f_a0
    have hle := hle.tr l_T11003
    refine lv_aload_n X.1 X.2.1 dX12_init_491 rfl (lv_at hl 0 rfl) ?_
    refine lv_sipush (v := 240) X.1 X.2.1 dX12_init_492 (by decide) ?_
    refine kp_newl (n := 240) X h ac_15 (by decide) (by decide) (by decide) (by decide) (by decide) dX12_init_495 (fun b11004 T11005 n_b11004 e_T11005 l_T11005 f_b11004 H h => ?_)
    have hw := hw b11004 T11005 n_b11004 e_T11005
    have f_a0 := l_T11005.is f_a0
    have hle := hle.tr l_T11005
    refine W.widen (k := 56) (n := 57765) (by decide) (by decide) ?_
    refine kp_putRF X hname h f_a0 ff_12_194 f_b11004 rfl ⟨by decide, by decide⟩ ⟨rfl, rfl⟩ dX12_init_497 (fun T11006 e_T11006 l_T11006 H locs h => ?_)
    have hw := hw T11006 e_T11006
    have f_a0 := l_T11006.is f_a0
    have hle := hle.tr l_T11006
    refine lv_aload_n X.1 X.2.1 dX12_init_500 rfl (lv_at hl 0 rfl) ?_
    refine lv_sipush (v := 240) X.1 X.2.1 dX12_init_501 (by decide) ?_
    refine kp_newi (n := 240) X h ac_14 (by decide) (by decide) (by decide) (by decide) (by decide) dX12_init_504 (fun b11007 T11008 n_b11007 e_T11008 l_T11008 f_b11007 H h => ?_)
    have hw := hw b11007 T11008 n_b11007 e_T11008
    have f_a0 := l_T11008.is f_a0
    have hle := hle.tr l_T11008
    refine W.widen (k := 57) (n := 58005) (by decide) (by decide) ?_
    refine kp_putRF X hname h f_a0 ff_12_197 f_b11007 rfl ⟨by decide, by decide⟩ ⟨rfl, rfl⟩ dX12_init_506 (fun T11009 e_T11009 l_T11009 H locs h => ?_)
    have hw := hw T11009 e_T11009
    have f_a0 := l_T11009.is f_a0
    have hle := hle.tr l_T11009
    refine lv_aload_n X.1 X.2.1 dX12_init_509 rfl (lv_at hl 0 rfl) ?_
    refine lv_sipush (v := 240) X.1 X.2.1 dX12_init_510 (by decide) ?_
    refine kp_newi (n := 240) X h ac_14 (by decide) (by decide) (by decide) (by decide) (by decide) dX12_init_513 (fun b11010 T11011 n_b11010 e_T11011 l_T11011 f_b11010 H h => ?_)
    have hw := hw b11010 T11011 n_b11010 e_T11011
    have f_a0 := l_T11011.is f_a0
    have hle := hle.tr l_T11011
    refine W.widen (k := 58) (n := 58245) (by decide) (by decide) ?_
    refine kp_putRF X hname h f_a0 ff_12_200 f_b11010 rfl ⟨by decide, by decide⟩ ⟨rfl, rfl⟩ dX12_init_515 (fun T11012 e_T11012 l_T11012 H locs h => ?_)
    have hw := hw T11012 e_T11012
    have f_a0 := l_T11012.is f_a0
    have hle := hle.tr l_T11012
    refine lv_aload_n X.1 X.2.1 dX12_init_518 rfl (lv_at hl 0 rfl) ?_
    refine lv_sipush (v := 240) X.1 X.2.1 dX12_init_519 (by decide) ?_
    refine kp_newi (n := 240) X h ac_14 (by decide) (by decide) (by decide) (by decide) (by decide) dX12_init_522 (fun b11013 T11014 n_b11013 e_T11014 l_T11014 f_b11013 H h => ?_)
    have hw := hw b11013 T11014 n_b11013 e_T11014
    have f_a0 := l_T11014.is f_a0
    have hle := hle.tr l_T11014
    refine W.widen (k := 59) (n := 58485) (by decide) (by decide) ?_
    refine kp_putRF X hname h f_a0 ff_12_203 f_b11013 rfl ⟨by decide, by decide⟩ ⟨rfl, rfl⟩ dX12_init_524 (fun T11015 e_T11015 l_T11015 H locs h => ?_)
    have hw := hw T11015 e_T11015
    have f_a0 := l_T11015.is f_a0
    have hle := hle.tr l_T11015
    refine lv_aload_n X.1 X.2.1 dX12_init_527 rfl (lv_at hl 0 rfl) ?_
    refine lv_sipush (v := 240) X.1 X.2.1 dX12_init_528 (by decide) ?_
    refine kp_newi (n := 240) X h ac_14 (by decide) (by decide) (by decide) (by decide) (by decide) dX12_init_531 (fun b11016 T11017 n_b11016 e_T11017 l_T11017 f_b11016 H h => ?_)
    have hw := hw b11016 T11017 n_b11016 e_T11017
    have f_a0 := l_T11017.is f_a0
    have hle := hle.tr l_T11017
    refine W.widen (k := 60) (n := 58725) (by decide) (by decide) ?_
    refine kp_putRF X hname h f_a0 ff_12_206 f_b11016 rfl ⟨by decide, by decide⟩ ⟨rfl, rfl⟩ dX12_init_533 (fun T11018 e_T11018 l_T11018 H locs h => ?_)
    have hw := hw T11018 e_T11018
    have f_a0 := l_T11018.is f_a0
    have hle := hle.tr l_T11018
    refine lv_aload_n X.1 X.2.1 dX12_init_536 rfl (lv_at hl 0 rfl) ?_
    refine lv_sipush (v := 240) X.1 X.2.1 dX12_init_537 (by decide) ?_
    refine kp_newi (n := 240) X h ac_14 (by decide) (by decide) (by decide) (by decide) (by decide) dX12_init_540 (fun b11019 T11020 n_b11019 e_T11020 l_T11020 f_b11019 H h => ?_)
    have hw := hw b11019 T11020 n_b11019 e_T11020
    have f_a0 := l_T11020.is f_a0
    have hle := hle.tr l_T11020
    refine W.widen (k := 61) (n := 58965) (by decide) (by decide) ?_
    refine kp_putRF X hname h f_a0 ff_12_209 f_b11019 rfl ⟨by decide, by decide⟩ ⟨rfl, rfl⟩ dX12_init_542 (fun T11021 e_T11021 l_T11021 H locs h => ?_)
    have hw := hw T11021 e_T11021
    have f_a0 := l_T11021.is f_a0
    have hle := hle.tr l_T11021
    refine lv_aload_n X.1 X.2.1 dX12_init_545 rfl (lv_at hl 0 rfl) ?_
    refine lv_sipush (v := 240) X.1 X.2.1 dX12_init_546 (by decide) ?_
    refine kp_newi (n := 240) X h ac_14 (by decide) (by decide) (by decide) (by decide) (by decide) dX12_init_549 (fun b11022 T11023 n_b11022 e_T11023 l_T11023 f_b11022 H h => ?_)
    have hw := hw b11022 T11023 n_b11022 e_T11023
    have f_a0 := l_T11023.is f_a0
    have hle := hle.tr l_T11023
    refine W.widen (k := 62) (n := 59205) (by decide) (by decide) ?_
    refine kp_putRF X hname h f_a0 ff_12_212 f_b11022 rfl ⟨by decide, by decide⟩ ⟨rfl, rfl⟩ dX12_init_551 (fun T11024 e_T11024 l_T11024 H locs h => ?_)
    have hw := hw T11024 e_T11024
    have f_a0 := l_T11024.is f_a0
    have hle := hle.tr l_T11024
    exact j554  T11024 H locs ls (lv_sub hl [0] rfl) h hle f_a0 hw
  have j411 : ∀  (Sn : kp_S) (H : Heap) (locs : List Loc) (ls : Array Slot), lv_has ls 1 [(0, .ref a0)] → kp_H D cy A Sn s.heap H locs → kp_le S Sn → kp_is Sn a0 12 → wX12_init_b411 a0   Sn post → W p l e { frames := 5, cells := 71, slots := 64622, locals := 108 } s m ([.ref a0] : List Value).toArray below meth c H locs 46 55477 (MQ below (kp_Qv D cy A S post) ([.ref a0] : List Value).toArray s 71 64622 A) (F0 m 411 ls []) := by
    intro  Sn H locs ls hl h hle f_a0 hw
    unfold wX12_init_b411 at hw
    refine lv_aload_n X.1 X.2.1 dX12_init_411 rfl (lv_at hl 0 rfl) ?_
    refine lv_bipush (v := 8) X.1 X.2.1 dX12_init_412 (by decide) ?_
    refine kp_newi (n := 8) X h ac_14 (by decide) (by decide) (by decide) (by decide) (by decide) dX12_init_414 (fun b12001 T12002 n_b12001 e_T12002 l_T12002 f_b12001 H h => ?_)
    have hw := hw b12001 T12002 n_b12001 e_T12002
    have f_a0 := l_T12002.is f_a0
    have hle := hle.tr l_T12002
    refine W.widen (k := 47) (n := 55485) (by decide) (by decide) ?_
    refine kp_putRF X hname h f_a0 ff_12_167 f_b12001 rfl ⟨by decide, by decide⟩ ⟨rfl, rfl⟩ dX12_init_416 (fun T12003 e_T12003 l_T12003 H locs h => ?_)
    have hw := hw T12003 e_T12003
    have f_a0 := l_T12003.is f_a0
    have hle := hle.tr l_T12003
    refine lv_aload_n X.1 X.2.1 dX12_init_419 rfl (lv_at hl 0 rfl) ?_
    refine lv_sipush (v := 300) X.1 X.2.1 dX12_init_420 (by decide) ?_
    refine kp_newi (n := 300) X h ac_14 (by decide) (by decide) (by decide) (by decide) (by decide) dX12_init_423 (fun b12004 T12005 n_b12004 e_T12005 l_T12005 f_b12004 H h => ?_)
    have hw := hw b12004 T12005 n_b12004 e_T12005
    have f_a0 := l_T12005.is f_a0
    have hle := hle.tr l_T12005
    refine W.widen (k := 48) (n := 55785) (by decide) (by decide) ?_
    refine kp_putRF X hname h f_a0 ff_12_170 f_b12004 rfl ⟨by decide, by decide⟩ ⟨rfl, rfl⟩ dX12_init_425 (fun T12006 e_T12006 l_T12006 H locs h => ?_)
    have hw := hw T12006 e_T12006
    have f_a0 := l_T12006.is f_a0
    have hle := hle.tr l_T12006
    refine lv_aload_n X.1 X.2.1 dX12_init_428 rfl (lv_at hl 0 rfl) ?_
    refine lv_sipush (v := 300) X.1 X.2.1 dX12_init_429 (by decide) ?_
    refine kp_newi (n := 300) X h ac_14 (by decide) (by decide) (by decide) (by decide) (by decide) dX12_init_432 (fun b12007 T12008 n_b12007 e_T12008 l_T12008 f_b12007 H h => ?_)
    have hw := hw b12007 T12008 n_b12007 e_T12008
    have f_a0 := l_T12008.is f_a0
    have hle := hle.tr l_T12008
    refine W.widen (k := 49) (n := 56085) (by decide) (by decide) ?_
    refine kp_putRF X hname h f_a0 ff_12_173 f_b12007 rfl ⟨by decide, by decide⟩ ⟨rfl, rfl⟩ dX12_init_434 (fun T12009 e_T12009 l_T12009 H locs h => ?_)
    have hw := hw T12009 e_T12009
    have f_a0 := l_T12009.is f_a0
    have hle := hle.tr l_T12009
    refine lv_aload_n X.1 X.2.1 dX12_init_437 rfl (lv_at hl 0 rfl) ?_
    refine lv_sipush (v := 240) X.1 X.2.1 dX12_init_438 (by decide) ?_
    refine kp_newi (n := 240) X h ac_14 (by decide) (by decide) (by decide) (by decide) (by decide) dX12_init_441 (fun b12010 T12011 n_b12010 e_T12011 l_T12011 f_b12010 H h => ?_)
    have hw := hw b12010 T12011 n_b12010 e_T12011
    have f_a0 := l_T12011.is f_a0
    have hle := hle.tr l_T12011
    refine W.widen (k := 50) (n := 56325) (by decide) (by decide) ?_
    refine kp_putRF X hname h f_a0 ff_12_176 f_b12010 rfl ⟨by decide, by decide⟩ ⟨rfl, rfl⟩ dX12_init_443 (fun T12012 e_T12012 l_T12012 H locs h => ?_)
    have hw := hw T12012 e_T12012
    have f_a0 := l_T12012.is f_a0
    have hle := hle.tr l_T12012
    refine lv_aload_n X.1 X.2.1 dX12_init_446 rfl (lv_at hl 0 rfl) ?_
    refine lv_sipush (v := 240) X.1 X.2.1 dX12_init_447 (by decide) ?_
    refine kp_newi (n := 240) X h ac_14 (by decide) (by decide) (by decide) (by decide) (by decide) dX12_init_450 (fun b12013 T12014 n_b12013 e_T12014 l_T12014 f_b12013 H h => ?_)
    have hw := hw b12013 T12014 n_b12013 e_T12014
    have f_a0 := l_T12014.is f_a0
    have hle := hle.tr l_T12014
    refine W.widen (k := 51) (n := 56565) (by decide) (by decide) ?_
    refine kp_putRF X hname h f_a0 ff_12_179 f_b12013 rfl ⟨by decide, by decide⟩ ⟨rfl, rfl⟩ dX12_init_452 (fun T12015 e_T12015 l_T12015 H locs h => ?_)
    have hw := hw T12015 e_T12015
    have f_a0 := l_T12015.is f_a0
    have hle := hle.tr l_T12015
    refine lv_aload_n X.1 X.2.1 dX12_init_455 rfl (lv_at hl 0 rfl) ?_
    refine lv_sipush (v := 240) X.1 X.2.1 dX12_init_456 (by decide) ?_
    refine kp_newi (n := 240) X h ac_14 (by decide) (by decide) (by decide) (by decide) (by decide) dX12_init_459 (fun b12016 T12017 n_b12016 e_T12017 l_T12017 f_b12016 H h => ?_)
    have hw := hw b12016 T12017 n_b12016 e_T12017
    have f_a0 := l_T12017.is f_a0
    have hle := hle.tr l_T12017
    refine W.widen (k := 52) (n := 56805) (by decide) (by decide) ?_
    refine kp_putRF X hname h f_a0 ff_12_182 f_b12016 rfl ⟨by decide, by decide⟩ ⟨rfl, rfl⟩ dX12_init_461 (fun T12018 e_T12018 l_T12018 H locs h => ?_)
    have hw := hw T12018 e_T12018
    have f_a0 := l_T12018.is f_a0
    have hle := hle.tr l_T12018
    refine lv_aload_n X.1 X.2.1 dX12_init_464 rfl (lv_at hl 0 rfl) ?_
    refine lv_sipush (v := 240) X.1 X.2.1 dX12_init_465 (by decide) ?_
    refine kp_newi (n := 240) X h ac_14 (by decide) (by decide) (by decide) (by decide) (by decide) dX12_init_468 (fun b12019 T12020 n_b12019 e_T12020 l_T12020 f_b12019 H h => ?_)
    have hw := hw b12019 T12020 n_b12019 e_T12020
    have f_a0 := l_T12020.is f_a0
    have hle := hle.tr l_T12020
    refine W.widen (k := 53) (n := 57045) (by decide) (by decide) ?_
    refine kp_putRF X hname h f_a0 ff_12_185 f_b12019 rfl ⟨by decide, by decide⟩ ⟨rfl, rfl⟩ dX12_init_470 (fun T12021 e_T12021 l_T12021 H locs h => ?_)
    have hw := hw T12021 e_T12021
    have f_a0 := l_T12021.is f_a0
    have hle := hle.tr l_T12021
    refine lv_aload_n X.1 X.2.1 dX12_init_473 rfl (lv_at hl 0 rfl) ?_
    refine lv_sipush (v := 240) X.1 X.2.1 dX12_init_474 (by decide) ?_
    refine kp_newi (n := 240) X h ac_14 (by decide) (by decide) (by decide) (by decide) (by decide) dX12_init_477 (fun b12022 T12023 n_b12022 e_T12023 l_T12023 f_b12022 H h => ?_)
    have hw := hw b12022 T12023 n_b12022 e_T12023
    have f_a0 := l_T12023.is f_a0
    have hle := hle.tr l_T12023
    refine W.widen (k := 54) (n := 57285) (by decide) (by decide) ?_
    refine kp_putRF X hname h f_a0 ff_12_188 f_b12022 rfl ⟨by decide, by decide⟩ ⟨rfl, rfl⟩ dX12_init_479 (fun T12024 e_T12024 l_T12024 H locs h => ?_)
    have hw := hw T12024 e_T12024
    have f_a0 := l_T12024.is f_a0
    have hle := hle.tr l_T12024
    exact j482  T12024 H locs ls (lv_sub hl [0] rfl) h hle f_a0 hw
  have j347 : ∀  (Sn : kp_S) (H : Heap) (locs : List Loc) (ls : Array Slot), lv_has ls 1 [(0, .ref a0)] → kp_H D cy A Sn s.heap H locs → kp_le S Sn → kp_is Sn a0 12 → wX12_init_b347 a0   Sn post → W p l e { frames := 5, cells := 71, slots := 64622, locals := 108 } s m ([.ref a0] : List Value).toArray below meth c H locs 38 55326 (MQ below (kp_Qv D cy A S post) ([.ref a0] : List Value).toArray s 71 64622 A) (F0 m 347 ls []) := by
    intro  Sn H locs ls hl h hle f_a0 hw
    unfold wX12_init_b347 at hw
    refine lv_aload_n X.1 X.2.1 dX12_init_347 rfl (lv_at hl 0 rfl) ?_
    refine lv_bipush (v := 30) X.1 X.2.1 dX12_init_348 (by decide) ?_
    refine kp_newi (n := 30) X h ac_14 (by decide) (by decide) (by decide) (by decide) (by decide) dX12_init_350 (fun b13001 T13002 n_b13001 e_T13002 l_T13002 f_b13001 H h => ?_)
    have hw := hw b13001 T13002 n_b13001 e_T13002
    have f_a0 := l_T13002.is f_a0
    have hle := hle.tr l_T13002
    refine W.widen (k := 39) (n := 55356) (by decide) (by decide) ?_
    refine kp_putRF X hname h f_a0 ff_12_142 f_b13001 rfl ⟨by decide, by decide⟩ ⟨rfl, rfl⟩ dX12_init_352 (fun T13003 e_T13003 l_T13003 H locs h => ?_)
    have hw := hw T13003 e_T13003
    have f_a0 := l_T13003.is f_a0
    have hle := hle.tr l_T13003
    refine lv_aload_n X.1 X.2.1 dX12_init_355 rfl (lv_at hl 0 rfl) ?_
    refine lv_bipush (v := 30) X.1 X.2.1 dX12_init_356 (by decide) ?_
    refine kp_newi (n := 30) X h ac_14 (by decide) (by decide) (by decide) (by decide) (by decide) dX12_init_358 (fun b13004 T13005 n_b13004 e_T13005 l_T13005 f_b13004 H h => ?_)
    have hw := hw b13004 T13005 n_b13004 e_T13005
    have f_a0 := l_T13005.is f_a0
    have hle := hle.tr l_T13005
    refine W.widen (k := 40) (n := 55386) (by decide) (by decide) ?_
    refine kp_putRF X hname h f_a0 ff_12_145 f_b13004 rfl ⟨by decide, by decide⟩ ⟨rfl, rfl⟩ dX12_init_360 (fun T13006 e_T13006 l_T13006 H locs h => ?_)
    have hw := hw T13006 e_T13006
    have f_a0 := l_T13006.is f_a0
    have hle := hle.tr l_T13006
    refine lv_aload_n X.1 X.2.1 dX12_init_363 rfl (lv_at hl 0 rfl) ?_
    refine lv_bipush (v := 30) X.1 X.2.1 dX12_init_364 (by decide) ?_
    refine kp_newi (n := 30) X h ac_14 (by decide) (by decide) (by decide) (by decide) (by decide) dX12_init_366 (fun b13007 T13008 n_b13007 e_T13008 l_T13008 f_b13007 H h => ?_)
    have hw := hw b13007 T13008 n_b13007 e_T13008
    have f_a0 := l_T13008.is f_a0
    have hle := hle.tr l_T13008
    refine W.widen (k := 41) (n := 55416) (by decide) (by decide) ?_
    refine kp_putRF X hname h f_a0 ff_12_148 f_b13007 rfl ⟨by decide, by decide⟩ ⟨rfl, rfl⟩ dX12_init_368 (fun T13009 e_T13009 l_T13009 H locs h => ?_)
    have hw := hw T13009 e_T13009
    have f_a0 := l_T13009.is f_a0
    have hle := hle.tr l_T13009
    refine lv_aload_n X.1 X.2.1 dX12_init_371 rfl (lv_at hl 0 rfl) ?_
    refine lv_bipush (v := 30) X.1 X.2.1 dX12_init_372 (by decide) ?_
    refine kp_newi (n := 30) X h ac_14 (by decide) (by decide) (by decide) (by decide) (by decide) dX12_init_374 (fun b13010 T13011 n_b13010 e_T13011 l_T13011 f_b13010 H h => ?_)
    have hw := hw b13010 T13011 n_b13010 e_T13011
    have f_a0 := l_T13011.is f_a0
    have hle := hle.tr l_T13011
    refine W.widen (k := 42) (n := 55446) (by decide) (by decide) ?_
    refine kp_putRF X hname h f_a0 ff_12_151 f_b13010 rfl ⟨by decide, by decide⟩ ⟨rfl, rfl⟩ dX12_init_376 (fun T13012 e_T13012 l_T13012 H locs h => ?_)
    have hw := hw T13012 e_T13012
    have f_a0 := l_T13012.is f_a0
    have hle := hle.tr l_T13012
    refine lv_aload_n X.1 X.2.1 dX12_init_379 rfl (lv_at hl 0 rfl) ?_
    refine lv_bipush (v := 6) X.1 X.2.1 dX12_init_380 (by decide) ?_
    refine kp_newi (n := 6) X h ac_14 (by decide) (by decide) (by decide) (by decide) (by decide) dX12_init_382 (fun b13013 T13014 n_b13013 e_T13014 l_T13014 f_b13013 H h => ?_)
    have hw := hw b13013 T13014 n_b13013 e_T13014
    have f_a0 := l_T13014.is f_a0
    have hle := hle.tr l_T13014
    refine W.widen (k := 43) (n := 55452) (by decide) (by decide) ?_
    refine kp_putRF X hname h f_a0 ff_12_154 f_b13013 rfl ⟨by decide, by decide⟩ ⟨rfl, rfl⟩ dX12_init_384 (fun T13015 e_T13015 l_T13015 H locs h => ?_)
    have hw := hw T13015 e_T13015
    have f_a0 := l_T13015.is f_a0
    have hle := hle.tr l_T13015
    refine lv_aload_n X.1 X.2.1 dX12_init_387 rfl (lv_at hl 0 rfl) ?_
    refine lv_bipush (v := 12) X.1 X.2.1 dX12_init_388 (by decide) ?_
    refine kp_newz (n := 12) X h ac_16 (by decide) (by decide) (by decide) (by decide) (by decide) dX12_init_390 (fun b13016 T13017 n_b13016 e_T13017 l_T13017 f_b13016 H h => ?_)
    have hw := hw b13016 T13017 n_b13016 e_T13017
    have f_a0 := l_T13017.is f_a0
    have hle := hle.tr l_T13017
    refine W.widen (k := 44) (n := 55464) (by decide) (by decide) ?_
    refine kp_putRF X hname h f_a0 ff_12_157 f_b13016 rfl ⟨by decide, by decide⟩ ⟨rfl, rfl⟩ dX12_init_392 (fun T13018 e_T13018 l_T13018 H locs h => ?_)
    have hw := hw T13018 e_T13018
    have f_a0 := l_T13018.is f_a0
    have hle := hle.tr l_T13018
    refine lv_aload_n X.1 X.2.1 dX12_init_395 rfl (lv_at hl 0 rfl) ?_
    refine lv_bipush (v := 6) X.1 X.2.1 dX12_init_396 (by decide) ?_
    refine kp_newi (n := 6) X h ac_14 (by decide) (by decide) (by decide) (by decide) (by decide) dX12_init_398 (fun b13019 T13020 n_b13019 e_T13020 l_T13020 f_b13019 H h => ?_)
    have hw := hw b13019 T13020 n_b13019 e_T13020
    have f_a0 := l_T13020.is f_a0
    have hle := hle.tr l_T13020
    refine W.widen (k := 45) (n := 55470) (by decide) (by decide) ?_
    refine kp_putRF X hname h f_a0 ff_12_161 f_b13019 rfl ⟨by decide, by decide⟩ ⟨rfl, rfl⟩ dX12_init_400 (fun T13021 e_T13021 l_T13021 H locs h => ?_)
    have hw := hw T13021 e_T13021
    have f_a0 := l_T13021.is f_a0
    have hle := hle.tr l_T13021
    refine lv_aload_n X.1 X.2.1 dX12_init_403 rfl (lv_at hl 0 rfl) ?_
    refine lv_bipush (v := 7) X.1 X.2.1 dX12_init_404 (by decide) ?_
    refine kp_newi (n := 7) X h ac_14 (by decide) (by decide) (by decide) (by decide) (by decide) dX12_init_406 (fun b13022 T13023 n_b13022 e_T13023 l_T13023 f_b13022 H h => ?_)
    have hw := hw b13022 T13023 n_b13022 e_T13023
    have f_a0 := l_T13023.is f_a0
    have hle := hle.tr l_T13023
    refine W.widen (k := 46) (n := 55477) (by decide) (by decide) ?_
    refine kp_putRF X hname h f_a0 ff_12_164 f_b13022 rfl ⟨by decide, by decide⟩ ⟨rfl, rfl⟩ dX12_init_408 (fun T13024 e_T13024 l_T13024 H locs h => ?_)
    have hw := hw T13024 e_T13024
    have f_a0 := l_T13024.is f_a0
    have hle := hle.tr l_T13024
    exact j411  T13024 H locs ls (lv_sub hl [0] rfl) h hle f_a0 hw
  have j276 : ∀  (Sn : kp_S) (H : Heap) (locs : List Loc) (ls : Array Slot), lv_has ls 1 [(0, .ref a0)] → kp_H D cy A Sn s.heap H locs → kp_le S Sn → kp_is Sn a0 12 → wX12_init_b276 a0   Sn post → W p l e { frames := 5, cells := 71, slots := 64622, locals := 108 } s m ([.ref a0] : List Value).toArray below meth c H locs 30 47456 (MQ below (kp_Qv D cy A S post) ([.ref a0] : List Value).toArray s 71 64622 A) (F0 m 276 ls []) := by
    intro  Sn H locs ls hl h hle f_a0 hw
    unfold wX12_init_b276 at hw
    refine lv_aload_n X.1 X.2.1 dX12_init_276 rfl (lv_at hl 0 rfl) ?_
    refine lv_sipush (v := 4000) X.1 X.2.1 dX12_init_277 (by decide) ?_
    refine kp_newi (n := 4000) X h ac_14 (by decide) (by decide) (by decide) (by decide) (by decide) dX12_init_280 (fun b14001 T14002 n_b14001 e_T14002 l_T14002 f_b14001 H h => ?_)
    have hw := hw b14001 T14002 n_b14001 e_T14002
    have f_a0 := l_T14002.is f_a0
    have hle := hle.tr l_T14002
    refine W.widen (k := 31) (n := 51456) (by decide) (by decide) ?_
    refine kp_putRF X hname h f_a0 ff_12_118 f_b14001 rfl ⟨by decide, by decide⟩ ⟨rfl, rfl⟩ dX12_init_282 (fun T14003 e_T14003 l_T14003 H locs h => ?_)
    have hw := hw T14003 e_T14003
    have f_a0 := l_T14003.is f_a0
    have hle := hle.tr l_T14003
    refine lv_aload_n X.1 X.2.1 dX12_init_285 rfl (lv_at hl 0 rfl) ?_
    refine lv_sipush (v := 640) X.1 X.2.1 dX12_init_286 (by decide) ?_
    refine kp_newi (n := 640) X h ac_14 (by decide) (by decide) (by decide) (by decide) (by decide) dX12_init_289 (fun b14004 T14005 n_b14004 e_T14005 l_T14005 f_b14004 H h => ?_)
    have hw := hw b14004 T14005 n_b14004 e_T14005
    have f_a0 := l_T14005.is f_a0
    have hle := hle.tr l_T14005
    refine W.widen (k := 32) (n := 52096) (by decide) (by decide) ?_
    refine kp_putRF X hname h f_a0 ff_12_121 f_b14004 rfl ⟨by decide, by decide⟩ ⟨rfl, rfl⟩ dX12_init_291 (fun T14006 e_T14006 l_T14006 H locs h => ?_)
    have hw := hw T14006 e_T14006
    have f_a0 := l_T14006.is f_a0
    have hle := hle.tr l_T14006
    refine lv_aload_n X.1 X.2.1 dX12_init_294 rfl (lv_at hl 0 rfl) ?_
    refine lv_sipush (v := 640) X.1 X.2.1 dX12_init_295 (by decide) ?_
    refine kp_newi (n := 640) X h ac_14 (by decide) (by decide) (by decide) (by decide) (by decide) dX12_init_298 (fun b14007 T14008 n_b14007 e_T14008 l_T14008 f_b14007 H h => ?_)
    have hw := hw b14007 T14008 n_b14007 e_T14008
    have f_a0 := l_T14008.is f_a0
    have hle := hle.tr l_T14008
    refine W.widen (k := 33) (n := 52736) (by decide) (by decide) ?_
    refine kp_putRF X hname h f_a0 ff_12_124 f_b14007 rfl ⟨by decide, by decide⟩ ⟨rfl, rfl⟩ dX12_init_300 (fun T14009 e_T14009 l_T14009 H locs h => ?_)
    have hw := hw T14009 e_T14009
    have f_a0 := l_T14009.is f_a0
    have hle := hle.tr l_T14009
    refine lv_aload_n X.1 X.2.1 dX12_init_303 rfl (lv_at hl 0 rfl) ?_
    refine lv_sipush (v := 640) X.1 X.2.1 dX12_init_304 (by decide) ?_
    refine kp_newi (n := 640) X h ac_14 (by decide) (by decide) (by decide) (by decide) (by decide) dX12_init_307 (fun b14010 T14011 n_b14010 e_T14011 l_T14011 f_b14010 H h => ?_)
    have hw := hw b14010 T14011 n_b14010 e_T14011
    have f_a0 := l_T14011.is f_a0
    have hle := hle.tr l_T14011
    refine W.widen (k := 34) (n := 53376) (by decide) (by decide) ?_
    refine kp_putRF X hname h f_a0 ff_12_127 f_b14010 rfl ⟨by decide, by decide⟩ ⟨rfl, rfl⟩ dX12_init_309 (fun T14012 e_T14012 l_T14012 H locs h => ?_)
    have hw := hw T14012 e_T14012
    have f_a0 := l_T14012.is f_a0
    have hle := hle.tr l_T14012
    refine lv_aload_n X.1 X.2.1 dX12_init_312 rfl (lv_at hl 0 rfl) ?_
    refine lv_sipush (v := 640) X.1 X.2.1 dX12_init_313 (by decide) ?_
    refine kp_newi (n := 640) X h ac_14 (by decide) (by decide) (by decide) (by decide) (by decide) dX12_init_316 (fun b14013 T14014 n_b14013 e_T14014 l_T14014 f_b14013 H h => ?_)
    have hw := hw b14013 T14014 n_b14013 e_T14014
    have f_a0 := l_T14014.is f_a0
    have hle := hle.tr l_T14014
    refine W.widen (k := 35) (n := 54016) (by decide) (by decide) ?_
    refine kp_putRF X hname h f_a0 ff_12_130 f_b14013 rfl ⟨by decide, by decide⟩ ⟨rfl, rfl⟩ dX12_init_318 (fun T14015 e_T14015 l_T14015 H locs h => ?_)
    have hw := hw T14015 e_T14015
    have f_a0 := l_T14015.is f_a0
    have hle := hle.tr l_T14015
    refine lv_aload_n X.1 X.2.1 dX12_init_321 rfl (lv_at hl 0 rfl) ?_
    refine lv_sipush (v := 640) X.1 X.2.1 dX12_init_322 (by decide) ?_
    refine kp_newi (n := 640) X h ac_14 (by decide) (by decide) (by decide) (by decide) (by decide) dX12_init_325 (fun b14016 T14017 n_b14016 e_T14017 l_T14017 f_b14016 H h => ?_)
    have hw := hw b14016 T14017 n_b14016 e_T14017
    have f_a0 := l_T14017.is f_a0
    have hle := hle.tr l_T14017
    refine W.widen (k := 36) (n := 54656) (by decide) (by decide) ?_
    refine kp_putRF X hname h f_a0 ff_12_133 f_b14016 rfl ⟨by decide, by decide⟩ ⟨rfl, rfl⟩ dX12_init_327 (fun T14018 e_T14018 l_T14018 H locs h => ?_)
    have hw := hw T14018 e_T14018
    have f_a0 := l_T14018.is f_a0
    have hle := hle.tr l_T14018
    refine lv_aload_n X.1 X.2.1 dX12_init_330 rfl (lv_at hl 0 rfl) ?_
    refine lv_sipush (v := 640) X.1 X.2.1 dX12_init_331 (by decide) ?_
    refine kp_newi (n := 640) X h ac_14 (by decide) (by decide) (by decide) (by decide) (by decide) dX12_init_334 (fun b14019 T14020 n_b14019 e_T14020 l_T14020 f_b14019 H h => ?_)
    have hw := hw b14019 T14020 n_b14019 e_T14020
    have f_a0 := l_T14020.is f_a0
    have hle := hle.tr l_T14020
    refine W.widen (k := 37) (n := 55296) (by decide) (by decide) ?_
    refine kp_putRF X hname h f_a0 ff_12_136 f_b14019 rfl ⟨by decide, by decide⟩ ⟨rfl, rfl⟩ dX12_init_336 (fun T14021 e_T14021 l_T14021 H locs h => ?_)
    have hw := hw T14021 e_T14021
    have f_a0 := l_T14021.is f_a0
    have hle := hle.tr l_T14021
    refine lv_aload_n X.1 X.2.1 dX12_init_339 rfl (lv_at hl 0 rfl) ?_
    refine lv_bipush (v := 30) X.1 X.2.1 dX12_init_340 (by decide) ?_
    refine kp_newi (n := 30) X h ac_14 (by decide) (by decide) (by decide) (by decide) (by decide) dX12_init_342 (fun b14022 T14023 n_b14022 e_T14023 l_T14023 f_b14022 H h => ?_)
    have hw := hw b14022 T14023 n_b14022 e_T14023
    have f_a0 := l_T14023.is f_a0
    have hle := hle.tr l_T14023
    refine W.widen (k := 38) (n := 55326) (by decide) (by decide) ?_
    refine kp_putRF X hname h f_a0 ff_12_139 f_b14022 rfl ⟨by decide, by decide⟩ ⟨rfl, rfl⟩ dX12_init_344 (fun T14024 e_T14024 l_T14024 H locs h => ?_)
    have hw := hw T14024 e_T14024
    have f_a0 := l_T14024.is f_a0
    have hle := hle.tr l_T14024
    exact j347  T14024 H locs ls (lv_sub hl [0] rfl) h hle f_a0 hw
  have j206 : ∀  (Sn : kp_S) (H : Heap) (locs : List Loc) (ls : Array Slot), lv_has ls 1 [(0, .ref a0)] → kp_H D cy A Sn s.heap H locs → kp_le S Sn → kp_is Sn a0 12 → wX12_init_b206 a0   Sn post → W p l e { frames := 5, cells := 71, slots := 64622, locals := 108 } s m ([.ref a0] : List Value).toArray below meth c H locs 22 33016 (MQ below (kp_Qv D cy A S post) ([.ref a0] : List Value).toArray s 71 64622 A) (F0 m 206 ls []) := by
    intro  Sn H locs ls hl h hle f_a0 hw
    unfold wX12_init_b206 at hw
    refine lv_aload_n X.1 X.2.1 dX12_init_206 rfl (lv_at hl 0 rfl) ?_
    refine lv_sipush (v := 1600) X.1 X.2.1 dX12_init_207 (by decide) ?_
    refine kp_newi (n := 1600) X h ac_14 (by decide) (by decide) (by decide) (by decide) (by decide) dX12_init_210 (fun b15001 T15002 n_b15001 e_T15002 l_T15002 f_b15001 H h => ?_)
    have hw := hw b15001 T15002 n_b15001 e_T15002
    have f_a0 := l_T15002.is f_a0
    have hle := hle.tr l_T15002
    refine W.widen (k := 23) (n := 34616) (by decide) (by decide) ?_
    refine kp_putRF X hname h f_a0 ff_12_94 f_b15001 rfl ⟨by decide, by decide⟩ ⟨rfl, rfl⟩ dX12_init_212 (fun T15003 e_T15003 l_T15003 H locs h => ?_)
    have hw := hw T15003 e_T15003
    have f_a0 := l_T15003.is f_a0
    have hle := hle.tr l_T15003
    refine lv_aload_n X.1 X.2.1 dX12_init_215 rfl (lv_at hl 0 rfl) ?_
    refine lv_sipush (v := 1600) X.1 X.2.1 dX12_init_216 (by decide) ?_
    refine kp_newi (n := 1600) X h ac_14 (by decide) (by decide) (by decide) (by decide) (by decide) dX12_init_219 (fun b15004 T15005 n_b15004 e_T15005 l_T15005 f_b15004 H h => ?_)
    have hw := hw b15004 T15005 n_b15004 e_T15005
    have f_a0 := l_T15005.is f_a0
    have hle := hle.tr l_T15005
    refine W.widen (k := 24) (n := 36216) (by decide) (by decide) ?_
    refine kp_putRF X hname h f_a0 ff_12_97 f_b15004 rfl ⟨by decide, by decide⟩ ⟨rfl, rfl⟩ dX12_init_221 (fun T15006 e_T15006 l_T15006 H locs h => ?_)
    have hw := hw T15006 e_T15006
    have f_a0 := l_T15006.is f_a0
    have hle := hle.tr l_T15006
    refine lv_aload_n X.1 X.2.1 dX12_init_224 rfl (lv_at hl 0 rfl) ?_
    refine lv_sipush (v := 1600) X.1 X.2.1 dX12_init_225 (by decide) ?_
    refine kp_newl (n := 1600) X h ac_15 (by decide) (by decide) (by decide) (by decide) (by decide) dX12_init_228 (fun b15007 T15008 n_b15007 e_T15008 l_T15008 f_b15007 H h => ?_)
    have hw := hw b15007 T15008 n_b15007 e_T15008
    have f_a0 := l_T15008.is f_a0
    have hle := hle.tr l_T15008
    refine W.widen (k := 25) (n := 37816) (by decide) (by decide) ?_
    refine kp_putRF X hname h f_a0 ff_12_100 f_b15007 rfl ⟨by decide, by decide⟩ ⟨rfl, rfl⟩ dX12_init_230 (fun T15009 e_T15009 l_T15009 H locs h => ?_)
    have hw := hw T15009 e_T15009
    have f_a0 := l_T15009.is f_a0
    have hle := hle.tr l_T15009
    refine lv_aload_n X.1 X.2.1 dX12_init_233 rfl (lv_at hl 0 rfl) ?_
    refine lv_sipush (v := 1600) X.1 X.2.1 dX12_init_234 (by decide) ?_
    refine kp_newi (n := 1600) X h ac_14 (by decide) (by decide) (by decide) (by decide) (by decide) dX12_init_237 (fun b15010 T15011 n_b15010 e_T15011 l_T15011 f_b15010 H h => ?_)
    have hw := hw b15010 T15011 n_b15010 e_T15011
    have f_a0 := l_T15011.is f_a0
    have hle := hle.tr l_T15011
    refine W.widen (k := 26) (n := 39416) (by decide) (by decide) ?_
    refine kp_putRF X hname h f_a0 ff_12_103 f_b15010 rfl ⟨by decide, by decide⟩ ⟨rfl, rfl⟩ dX12_init_239 (fun T15012 e_T15012 l_T15012 H locs h => ?_)
    have hw := hw T15012 e_T15012
    have f_a0 := l_T15012.is f_a0
    have hle := hle.tr l_T15012
    refine lv_aload_n X.1 X.2.1 dX12_init_242 rfl (lv_at hl 0 rfl) ?_
    refine lv_bipush (v := 20) X.1 X.2.1 dX12_init_243 (by decide) ?_
    refine kp_newl (n := 20) X h ac_15 (by decide) (by decide) (by decide) (by decide) (by decide) dX12_init_245 (fun b15013 T15014 n_b15013 e_T15014 l_T15014 f_b15013 H h => ?_)
    have hw := hw b15013 T15014 n_b15013 e_T15014
    have f_a0 := l_T15014.is f_a0
    have hle := hle.tr l_T15014
    refine W.widen (k := 27) (n := 39436) (by decide) (by decide) ?_
    refine kp_putRF X hname h f_a0 ff_12_106 f_b15013 rfl ⟨by decide, by decide⟩ ⟨rfl, rfl⟩ dX12_init_247 (fun T15015 e_T15015 l_T15015 H locs h => ?_)
    have hw := hw T15015 e_T15015
    have f_a0 := l_T15015.is f_a0
    have hle := hle.tr l_T15015
    refine lv_aload_n X.1 X.2.1 dX12_init_250 rfl (lv_at hl 0 rfl) ?_
    refine lv_bipush (v := 20) X.1 X.2.1 dX12_init_251 (by decide) ?_
    refine kp_newi (n := 20) X h ac_14 (by decide) (by decide) (by decide) (by decide) (by decide) dX12_init_253 (fun b15016 T15017 n_b15016 e_T15017 l_T15017 f_b15016 H h => ?_)
    have hw := hw b15016 T15017 n_b15016 e_T15017
    have f_a0 := l_T15017.is f_a0
    have hle := hle.tr l_T15017
    refine W.widen (k := 28) (n := 39456) (by decide) (by decide) ?_
    refine kp_putRF X hname h f_a0 ff_12_109 f_b15016 rfl ⟨by decide, by decide⟩ ⟨rfl, rfl⟩ dX12_init_255 (fun T15018 e_T15018 l_T15018 H locs h => ?_)
    have hw := hw T15018 e_T15018
    have f_a0 := l_T15018.is f_a0
    have hle := hle.tr l_T15018
    refine lv_aload_n X.1 X.2.1 dX12_init_258 rfl (lv_at hl 0 rfl) ?_
    refine lv_sipush (v := 4000) X.1 X.2.1 dX12_init_259 (by decide) ?_
    refine kp_newi (n := 4000) X h ac_14 (by decide) (by decide) (by decide) (by decide) (by decide) dX12_init_262 (fun b15019 T15020 n_b15019 e_T15020 l_T15020 f_b15019 H h => ?_)
    have hw := hw b15019 T15020 n_b15019 e_T15020
    have f_a0 := l_T15020.is f_a0
    have hle := hle.tr l_T15020
    refine W.widen (k := 29) (n := 43456) (by decide) (by decide) ?_
    refine kp_putRF X hname h f_a0 ff_12_112 f_b15019 rfl ⟨by decide, by decide⟩ ⟨rfl, rfl⟩ dX12_init_264 (fun T15021 e_T15021 l_T15021 H locs h => ?_)
    have hw := hw T15021 e_T15021
    have f_a0 := l_T15021.is f_a0
    have hle := hle.tr l_T15021
    refine lv_aload_n X.1 X.2.1 dX12_init_267 rfl (lv_at hl 0 rfl) ?_
    refine lv_sipush (v := 4000) X.1 X.2.1 dX12_init_268 (by decide) ?_
    refine kp_newi (n := 4000) X h ac_14 (by decide) (by decide) (by decide) (by decide) (by decide) dX12_init_271 (fun b15022 T15023 n_b15022 e_T15023 l_T15023 f_b15022 H h => ?_)
    have hw := hw b15022 T15023 n_b15022 e_T15023
    have f_a0 := l_T15023.is f_a0
    have hle := hle.tr l_T15023
    refine W.widen (k := 30) (n := 47456) (by decide) (by decide) ?_
    refine kp_putRF X hname h f_a0 ff_12_115 f_b15022 rfl ⟨by decide, by decide⟩ ⟨rfl, rfl⟩ dX12_init_273 (fun T15024 e_T15024 l_T15024 H locs h => ?_)
    have hw := hw T15024 e_T15024
    have f_a0 := l_T15024.is f_a0
    have hle := hle.tr l_T15024
    exact j276  T15024 H locs ls (lv_sub hl [0] rfl) h hle f_a0 hw
  have j134 : ∀  (Sn : kp_S) (H : Heap) (locs : List Loc) (ls : Array Slot), lv_has ls 1 [(0, .ref a0)] → kp_H D cy A Sn s.heap H locs → kp_le S Sn → kp_is Sn a0 12 → wX12_init_b134 a0   Sn post → W p l e { frames := 5, cells := 71, slots := 64622, locals := 108 } s m ([.ref a0] : List Value).toArray below meth c H locs 14 27896 (MQ below (kp_Qv D cy A S post) ([.ref a0] : List Value).toArray s 71 64622 A) (F0 m 134 ls []) := by
    intro  Sn H locs ls hl h hle f_a0 hw
    unfold wX12_init_b134 at hw
    refine lv_aload_n X.1 X.2.1 dX12_init_134 rfl (lv_at hl 0 rfl) ?_
    refine lv_sipush (v := 320) X.1 X.2.1 dX12_init_135 (by decide) ?_
    refine kp_newl (n := 320) X h ac_15 (by decide) (by decide) (by decide) (by decide) (by decide) dX12_init_138 (fun b16001 T16002 n_b16001 e_T16002 l_T16002 f_b16001 H h => ?_)
    have hw := hw b16001 T16002 n_b16001 e_T16002
    have f_a0 := l_T16002.is f_a0
    have hle := hle.tr l_T16002
    refine W.widen (k := 15) (n := 28216) (by decide) (by decide) ?_
    refine kp_putRF X hname h f_a0 ff_12_70 f_b16001 rfl ⟨by decide, by decide⟩ ⟨rfl, rfl⟩ dX12_init_140 (fun T16003 e_T16003 l_T16003 H locs h => ?_)
    have hw := hw T16003 e_T16003
    have f_a0 := l_T16003.is f_a0
    have hle := hle.tr l_T16003
    refine lv_aload_n X.1 X.2.1 dX12_init_143 rfl (lv_at hl 0 rfl) ?_
    refine lv_sipush (v := 320) X.1 X.2.1 dX12_init_144 (by decide) ?_
    refine kp_newi (n := 320) X h ac_14 (by decide) (by decide) (by decide) (by decide) (by decide) dX12_init_147 (fun b16004 T16005 n_b16004 e_T16005 l_T16005 f_b16004 H h => ?_)
    have hw := hw b16004 T16005 n_b16004 e_T16005
    have f_a0 := l_T16005.is f_a0
    have hle := hle.tr l_T16005
    refine W.widen (k := 16) (n := 28536) (by decide) (by decide) ?_
    refine kp_putRF X hname h f_a0 ff_12_73 f_b16004 rfl ⟨by decide, by decide⟩ ⟨rfl, rfl⟩ dX12_init_149 (fun T16006 e_T16006 l_T16006 H locs h => ?_)
    have hw := hw T16006 e_T16006
    have f_a0 := l_T16006.is f_a0
    have hle := hle.tr l_T16006
    refine lv_aload_n X.1 X.2.1 dX12_init_152 rfl (lv_at hl 0 rfl) ?_
    refine lv_sipush (v := 320) X.1 X.2.1 dX12_init_153 (by decide) ?_
    refine kp_newi (n := 320) X h ac_14 (by decide) (by decide) (by decide) (by decide) (by decide) dX12_init_156 (fun b16007 T16008 n_b16007 e_T16008 l_T16008 f_b16007 H h => ?_)
    have hw := hw b16007 T16008 n_b16007 e_T16008
    have f_a0 := l_T16008.is f_a0
    have hle := hle.tr l_T16008
    refine W.widen (k := 17) (n := 28856) (by decide) (by decide) ?_
    refine kp_putRF X hname h f_a0 ff_12_76 f_b16007 rfl ⟨by decide, by decide⟩ ⟨rfl, rfl⟩ dX12_init_158 (fun T16009 e_T16009 l_T16009 H locs h => ?_)
    have hw := hw T16009 e_T16009
    have f_a0 := l_T16009.is f_a0
    have hle := hle.tr l_T16009
    refine lv_aload_n X.1 X.2.1 dX12_init_161 rfl (lv_at hl 0 rfl) ?_
    refine lv_sipush (v := 320) X.1 X.2.1 dX12_init_162 (by decide) ?_
    refine kp_newi (n := 320) X h ac_14 (by decide) (by decide) (by decide) (by decide) (by decide) dX12_init_165 (fun b16010 T16011 n_b16010 e_T16011 l_T16011 f_b16010 H h => ?_)
    have hw := hw b16010 T16011 n_b16010 e_T16011
    have f_a0 := l_T16011.is f_a0
    have hle := hle.tr l_T16011
    refine W.widen (k := 18) (n := 29176) (by decide) (by decide) ?_
    refine kp_putRF X hname h f_a0 ff_12_79 f_b16010 rfl ⟨by decide, by decide⟩ ⟨rfl, rfl⟩ dX12_init_167 (fun T16012 e_T16012 l_T16012 H locs h => ?_)
    have hw := hw T16012 e_T16012
    have f_a0 := l_T16012.is f_a0
    have hle := hle.tr l_T16012
    refine lv_aload_n X.1 X.2.1 dX12_init_170 rfl (lv_at hl 0 rfl) ?_
    refine lv_sipush (v := 320) X.1 X.2.1 dX12_init_171 (by decide) ?_
    refine kp_newi (n := 320) X h ac_14 (by decide) (by decide) (by decide) (by decide) (by decide) dX12_init_174 (fun b16013 T16014 n_b16013 e_T16014 l_T16014 f_b16013 H h => ?_)
    have hw := hw b16013 T16014 n_b16013 e_T16014
    have f_a0 := l_T16014.is f_a0
    have hle := hle.tr l_T16014
    refine W.widen (k := 19) (n := 29496) (by decide) (by decide) ?_
    refine kp_putRF X hname h f_a0 ff_12_82 f_b16013 rfl ⟨by decide, by decide⟩ ⟨rfl, rfl⟩ dX12_init_176 (fun T16015 e_T16015 l_T16015 H locs h => ?_)
    have hw := hw T16015 e_T16015
    have f_a0 := l_T16015.is f_a0
    have hle := hle.tr l_T16015
    refine lv_aload_n X.1 X.2.1 dX12_init_179 rfl (lv_at hl 0 rfl) ?_
    refine lv_sipush (v := 320) X.1 X.2.1 dX12_init_180 (by decide) ?_
    refine kp_newi (n := 320) X h ac_14 (by decide) (by decide) (by decide) (by decide) (by decide) dX12_init_183 (fun b16016 T16017 n_b16016 e_T16017 l_T16017 f_b16016 H h => ?_)
    have hw := hw b16016 T16017 n_b16016 e_T16017
    have f_a0 := l_T16017.is f_a0
    have hle := hle.tr l_T16017
    refine W.widen (k := 20) (n := 29816) (by decide) (by decide) ?_
    refine kp_putRF X hname h f_a0 ff_12_85 f_b16016 rfl ⟨by decide, by decide⟩ ⟨rfl, rfl⟩ dX12_init_185 (fun T16018 e_T16018 l_T16018 H locs h => ?_)
    have hw := hw T16018 e_T16018
    have f_a0 := l_T16018.is f_a0
    have hle := hle.tr l_T16018
    refine lv_aload_n X.1 X.2.1 dX12_init_188 rfl (lv_at hl 0 rfl) ?_
    refine lv_sipush (v := 1600) X.1 X.2.1 dX12_init_189 (by decide) ?_
    refine kp_newl (n := 1600) X h ac_15 (by decide) (by decide) (by decide) (by decide) (by decide) dX12_init_192 (fun b16019 T16020 n_b16019 e_T16020 l_T16020 f_b16019 H h => ?_)
    have hw := hw b16019 T16020 n_b16019 e_T16020
    have f_a0 := l_T16020.is f_a0
    have hle := hle.tr l_T16020
    refine W.widen (k := 21) (n := 31416) (by decide) (by decide) ?_
    refine kp_putRF X hname h f_a0 ff_12_88 f_b16019 rfl ⟨by decide, by decide⟩ ⟨rfl, rfl⟩ dX12_init_194 (fun T16021 e_T16021 l_T16021 H locs h => ?_)
    have hw := hw T16021 e_T16021
    have f_a0 := l_T16021.is f_a0
    have hle := hle.tr l_T16021
    refine lv_aload_n X.1 X.2.1 dX12_init_197 rfl (lv_at hl 0 rfl) ?_
    refine lv_sipush (v := 1600) X.1 X.2.1 dX12_init_198 (by decide) ?_
    refine kp_newi (n := 1600) X h ac_14 (by decide) (by decide) (by decide) (by decide) (by decide) dX12_init_201 (fun b16022 T16023 n_b16022 e_T16023 l_T16023 f_b16022 H h => ?_)
    have hw := hw b16022 T16023 n_b16022 e_T16023
    have f_a0 := l_T16023.is f_a0
    have hle := hle.tr l_T16023
    refine W.widen (k := 22) (n := 33016) (by decide) (by decide) ?_
    refine kp_putRF X hname h f_a0 ff_12_91 f_b16022 rfl ⟨by decide, by decide⟩ ⟨rfl, rfl⟩ dX12_init_203 (fun T16024 e_T16024 l_T16024 H locs h => ?_)
    have hw := hw T16024 e_T16024
    have f_a0 := l_T16024.is f_a0
    have hle := hle.tr l_T16024
    exact j206  T16024 H locs ls (lv_sub hl [0] rfl) h hle f_a0 hw
  have j62 : ∀  (Sn : kp_S) (H : Heap) (locs : List Loc) (ls : Array Slot), lv_has ls 1 [(0, .ref a0)] → kp_H D cy A Sn s.heap H locs → kp_le S Sn → kp_is Sn a0 12 → wX12_init_b62 a0   Sn post → W p l e { frames := 5, cells := 71, slots := 64622, locals := 108 } s m ([.ref a0] : List Value).toArray below meth c H locs 6 16056 (MQ below (kp_Qv D cy A S post) ([.ref a0] : List Value).toArray s 71 64622 A) (F0 m 62 ls []) := by
    intro  Sn H locs ls hl h hle f_a0 hw
    unfold wX12_init_b62 at hw
    refine lv_aload_n X.1 X.2.1 dX12_init_62 rfl (lv_at hl 0 rfl) ?_
    refine lv_sipush (v := 4000) X.1 X.2.1 dX12_init_63 (by decide) ?_
    refine kp_newi (n := 4000) X h ac_14 (by decide) (by decide) (by decide) (by decide) (by decide) dX12_init_66 (fun b17001 T17002 n_b17001 e_T17002 l_T17002 f_b17001 H h => ?_)
    have hw := hw b17001 T17002 n_b17001 e_T17002
    have f_a0 := l_T17002.is f_a0
    have hle := hle.tr l_T17002
    refine W.widen (k := 7) (n := 20056) (by decide) (by decide) ?_
    refine kp_putRF X hname h f_a0 ff_12_46 f_b17001 rfl ⟨by decide, by decide⟩ ⟨rfl, rfl⟩ dX12_init_68 (fun T17003 e_T17003 l_T17003 H locs h => ?_)
    have hw := hw T17003 e_T17003
    have f_a0 := l_T17003.is f_a0
    have hle := hle.tr l_T17003
    refine lv_aload_n X.1 X.2.1 dX12_init_71 rfl (lv_at hl 0 rfl) ?_
    refine lv_sipush (v := 4000) X.1 X.2.1 dX12_init_72 (by decide) ?_
    refine kp_newi (n := 4000) X h ac_14 (by decide) (by decide) (by decide) (by decide) (by decide) dX12_init_75 (fun b17004 T17005 n_b17004 e_T17005 l_T17005 f_b17004 H h => ?_)
    have hw := hw b17004 T17005 n_b17004 e_T17005
    have f_a0 := l_T17005.is f_a0
    have hle := hle.tr l_T17005
    refine W.widen (k := 8) (n := 24056) (by decide) (by decide) ?_
    refine kp_putRF X hname h f_a0 ff_12_49 f_b17004 rfl ⟨by decide, by decide⟩ ⟨rfl, rfl⟩ dX12_init_77 (fun T17006 e_T17006 l_T17006 H locs h => ?_)
    have hw := hw T17006 e_T17006
    have f_a0 := l_T17006.is f_a0
    have hle := hle.tr l_T17006
    refine lv_aload_n X.1 X.2.1 dX12_init_80 rfl (lv_at hl 0 rfl) ?_
    refine lv_sipush (v := 640) X.1 X.2.1 dX12_init_81 (by decide) ?_
    refine kp_newi (n := 640) X h ac_14 (by decide) (by decide) (by decide) (by decide) (by decide) dX12_init_84 (fun b17007 T17008 n_b17007 e_T17008 l_T17008 f_b17007 H h => ?_)
    have hw := hw b17007 T17008 n_b17007 e_T17008
    have f_a0 := l_T17008.is f_a0
    have hle := hle.tr l_T17008
    refine W.widen (k := 9) (n := 24696) (by decide) (by decide) ?_
    refine kp_putRF X hname h f_a0 ff_12_52 f_b17007 rfl ⟨by decide, by decide⟩ ⟨rfl, rfl⟩ dX12_init_86 (fun T17009 e_T17009 l_T17009 H locs h => ?_)
    have hw := hw T17009 e_T17009
    have f_a0 := l_T17009.is f_a0
    have hle := hle.tr l_T17009
    refine lv_aload_n X.1 X.2.1 dX12_init_89 rfl (lv_at hl 0 rfl) ?_
    refine lv_sipush (v := 640) X.1 X.2.1 dX12_init_90 (by decide) ?_
    refine kp_newi (n := 640) X h ac_14 (by decide) (by decide) (by decide) (by decide) (by decide) dX12_init_93 (fun b17010 T17011 n_b17010 e_T17011 l_T17011 f_b17010 H h => ?_)
    have hw := hw b17010 T17011 n_b17010 e_T17011
    have f_a0 := l_T17011.is f_a0
    have hle := hle.tr l_T17011
    refine W.widen (k := 10) (n := 25336) (by decide) (by decide) ?_
    refine kp_putRF X hname h f_a0 ff_12_55 f_b17010 rfl ⟨by decide, by decide⟩ ⟨rfl, rfl⟩ dX12_init_95 (fun T17012 e_T17012 l_T17012 H locs h => ?_)
    have hw := hw T17012 e_T17012
    have f_a0 := l_T17012.is f_a0
    have hle := hle.tr l_T17012
    refine lv_aload_n X.1 X.2.1 dX12_init_98 rfl (lv_at hl 0 rfl) ?_
    refine lv_sipush (v := 640) X.1 X.2.1 dX12_init_99 (by decide) ?_
    refine kp_newi (n := 640) X h ac_14 (by decide) (by decide) (by decide) (by decide) (by decide) dX12_init_102 (fun b17013 T17014 n_b17013 e_T17014 l_T17014 f_b17013 H h => ?_)
    have hw := hw b17013 T17014 n_b17013 e_T17014
    have f_a0 := l_T17014.is f_a0
    have hle := hle.tr l_T17014
    refine W.widen (k := 11) (n := 25976) (by decide) (by decide) ?_
    refine kp_putRF X hname h f_a0 ff_12_58 f_b17013 rfl ⟨by decide, by decide⟩ ⟨rfl, rfl⟩ dX12_init_104 (fun T17015 e_T17015 l_T17015 H locs h => ?_)
    have hw := hw T17015 e_T17015
    have f_a0 := l_T17015.is f_a0
    have hle := hle.tr l_T17015
    refine lv_aload_n X.1 X.2.1 dX12_init_107 rfl (lv_at hl 0 rfl) ?_
    refine lv_sipush (v := 640) X.1 X.2.1 dX12_init_108 (by decide) ?_
    refine kp_newi (n := 640) X h ac_14 (by decide) (by decide) (by decide) (by decide) (by decide) dX12_init_111 (fun b17016 T17017 n_b17016 e_T17017 l_T17017 f_b17016 H h => ?_)
    have hw := hw b17016 T17017 n_b17016 e_T17017
    have f_a0 := l_T17017.is f_a0
    have hle := hle.tr l_T17017
    refine W.widen (k := 12) (n := 26616) (by decide) (by decide) ?_
    refine kp_putRF X hname h f_a0 ff_12_61 f_b17016 rfl ⟨by decide, by decide⟩ ⟨rfl, rfl⟩ dX12_init_113 (fun T17018 e_T17018 l_T17018 H locs h => ?_)
    have hw := hw T17018 e_T17018
    have f_a0 := l_T17018.is f_a0
    have hle := hle.tr l_T17018
    refine lv_aload_n X.1 X.2.1 dX12_init_116 rfl (lv_at hl 0 rfl) ?_
    refine lv_sipush (v := 640) X.1 X.2.1 dX12_init_117 (by decide) ?_
    refine kp_newi (n := 640) X h ac_14 (by decide) (by decide) (by decide) (by decide) (by decide) dX12_init_120 (fun b17019 T17020 n_b17019 e_T17020 l_T17020 f_b17019 H h => ?_)
    have hw := hw b17019 T17020 n_b17019 e_T17020
    have f_a0 := l_T17020.is f_a0
    have hle := hle.tr l_T17020
    refine W.widen (k := 13) (n := 27256) (by decide) (by decide) ?_
    refine kp_putRF X hname h f_a0 ff_12_64 f_b17019 rfl ⟨by decide, by decide⟩ ⟨rfl, rfl⟩ dX12_init_122 (fun T17021 e_T17021 l_T17021 H locs h => ?_)
    have hw := hw T17021 e_T17021
    have f_a0 := l_T17021.is f_a0
    have hle := hle.tr l_T17021
    refine lv_aload_n X.1 X.2.1 dX12_init_125 rfl (lv_at hl 0 rfl) ?_
    refine lv_sipush (v := 640) X.1 X.2.1 dX12_init_126 (by decide) ?_
    refine kp_newi (n := 640) X h ac_14 (by decide) (by decide) (by decide) (by decide) (by decide) dX12_init_129 (fun b17022 T17023 n_b17022 e_T17023 l_T17023 f_b17022 H h => ?_)
    have hw := hw b17022 T17023 n_b17022 e_T17023
    have f_a0 := l_T17023.is f_a0
    have hle := hle.tr l_T17023
    refine W.widen (k := 14) (n := 27896) (by decide) (by decide) ?_
    refine kp_putRF X hname h f_a0 ff_12_67 f_b17022 rfl ⟨by decide, by decide⟩ ⟨rfl, rfl⟩ dX12_init_131 (fun T17024 e_T17024 l_T17024 H locs h => ?_)
    have hw := hw T17024 e_T17024
    have f_a0 := l_T17024.is f_a0
    have hle := hle.tr l_T17024
    exact j134  T17024 H locs ls (lv_sub hl [0] rfl) h hle f_a0 hw
  unfold wX12_init at hw
  have h : kp_H D cy A S s.heap s.heap [] := h
  revert h
  intro h
  refine lv_aload_n X.1 X.2.1 dX12_init_0 rfl (lv_at hl 0 rfl) ?_
  refine kp_objInit X hl.1 oi_12_17 (by decide) (by decide) dX12_init_1 ?_
  refine lv_aload_n X.1 X.2.1 dX12_init_4 rfl (lv_at hl 0 rfl) ?_
  refine lv_sipush (v := 3000) X.1 X.2.1 dX12_init_5 (by decide) ?_
  refine kp_newi (n := 3000) X h ac_14 (by decide) (by decide) (by decide) (by decide) (by decide) dX12_init_8 (fun b1 T2 n_b1 e_T2 l_T2 f_b1 H h => ?_)
  have hw := hw b1 T2 n_b1 e_T2
  have f_a0 := l_T2.is f_a0
  have hle := hle.tr l_T2
  refine W.widen (k := 1) (n := 3000) (by decide) (by decide) ?_
  refine kp_putRF X hname h f_a0 ff_12_23 f_b1 rfl ⟨by decide, by decide⟩ ⟨rfl, rfl⟩ dX12_init_10 (fun T3 e_T3 l_T3 H locs h => ?_)
  have hw := hw T3 e_T3
  have f_a0 := l_T3.is f_a0
  have hle := hle.tr l_T3
  refine lv_aload_n X.1 X.2.1 dX12_init_13 rfl (lv_at hl 0 rfl) ?_
  refine lv_bipush (v := 50) X.1 X.2.1 dX12_init_14 (by decide) ?_
  refine kp_newl (n := 50) X h ac_15 (by decide) (by decide) (by decide) (by decide) (by decide) dX12_init_16 (fun b4 T5 n_b4 e_T5 l_T5 f_b4 H h => ?_)
  have hw := hw b4 T5 n_b4 e_T5
  have f_a0 := l_T5.is f_a0
  have hle := hle.tr l_T5
  refine W.widen (k := 2) (n := 3050) (by decide) (by decide) ?_
  refine kp_putRF X hname h f_a0 ff_12_27 f_b4 rfl ⟨by decide, by decide⟩ ⟨rfl, rfl⟩ dX12_init_18 (fun T6 e_T6 l_T6 H locs h => ?_)
  have hw := hw T6 e_T6
  have f_a0 := l_T6.is f_a0
  have hle := hle.tr l_T6
  refine lv_aload_n X.1 X.2.1 dX12_init_21 rfl (lv_at hl 0 rfl) ?_
  refine lv_sipush (v := 3002) X.1 X.2.1 dX12_init_22 (by decide) ?_
  refine kp_newi (n := 3002) X h ac_14 (by decide) (by decide) (by decide) (by decide) (by decide) dX12_init_25 (fun b7 T8 n_b7 e_T8 l_T8 f_b7 H h => ?_)
  have hw := hw b7 T8 n_b7 e_T8
  have f_a0 := l_T8.is f_a0
  have hle := hle.tr l_T8
  refine W.widen (k := 3) (n := 6052) (by decide) (by decide) ?_
  refine kp_putRF X hname h f_a0 ff_12_31 f_b7 rfl ⟨by decide, by decide⟩ ⟨rfl, rfl⟩ dX12_init_27 (fun T9 e_T9 l_T9 H locs h => ?_)
  have hw := hw T9 e_T9
  have f_a0 := l_T9.is f_a0
  have hle := hle.tr l_T9
  refine lv_aload_n X.1 X.2.1 dX12_init_30 rfl (lv_at hl 0 rfl) ?_
  refine lv_sipush (v := 3002) X.1 X.2.1 dX12_init_31 (by decide) ?_
  refine kp_newi (n := 3002) X h ac_14 (by decide) (by decide) (by decide) (by decide) (by decide) dX12_init_34 (fun b10 T11 n_b10 e_T11 l_T11 f_b10 H h => ?_)
  have hw := hw b10 T11 n_b10 e_T11
  have f_a0 := l_T11.is f_a0
  have hle := hle.tr l_T11
  refine W.widen (k := 4) (n := 9054) (by decide) (by decide) ?_
  refine kp_putRF X hname h f_a0 ff_12_34 f_b10 rfl ⟨by decide, by decide⟩ ⟨rfl, rfl⟩ dX12_init_36 (fun T12 e_T12 l_T12 H locs h => ?_)
  have hw := hw T12 e_T12
  have f_a0 := l_T12.is f_a0
  have hle := hle.tr l_T12
  refine lv_aload_n X.1 X.2.1 dX12_init_39 rfl (lv_at hl 0 rfl) ?_
  refine lv_sipush (v := 3002) X.1 X.2.1 dX12_init_40 (by decide) ?_
  refine kp_newl (n := 3002) X h ac_15 (by decide) (by decide) (by decide) (by decide) (by decide) dX12_init_43 (fun b13 T14 n_b13 e_T14 l_T14 f_b13 H h => ?_)
  have hw := hw b13 T14 n_b13 e_T14
  have f_a0 := l_T14.is f_a0
  have hle := hle.tr l_T14
  refine W.widen (k := 5) (n := 12056) (by decide) (by decide) ?_
  refine kp_putRF X hname h f_a0 ff_12_37 f_b13 rfl ⟨by decide, by decide⟩ ⟨rfl, rfl⟩ dX12_init_45 (fun T15 e_T15 l_T15 H locs h => ?_)
  have hw := hw T15 e_T15
  have f_a0 := l_T15.is f_a0
  have hle := hle.tr l_T15
  refine lv_aload_n X.1 X.2.1 dX12_init_48 rfl (lv_at hl 0 rfl) ?_
  refine lv_iconst (v := (-1)) X.1 X.2.1 dX12_init_49 (by decide) ?_
  refine kp_putI X h f_a0 fp_12_40 rfl ⟨rfl, rfl⟩ dX12_init_50 (fun T16 e_T16 l_T16 H locs h => ?_)
  have hw := hw T16 e_T16
  have f_a0 := l_T16.is f_a0
  have hle := hle.tr l_T16
  refine lv_aload_n X.1 X.2.1 dX12_init_53 rfl (lv_at hl 0 rfl) ?_
  refine lv_sipush (v := 4000) X.1 X.2.1 dX12_init_54 (by decide) ?_
  refine kp_newi (n := 4000) X h ac_14 (by decide) (by decide) (by decide) (by decide) (by decide) dX12_init_57 (fun b17 T18 n_b17 e_T18 l_T18 f_b17 H h => ?_)
  have hw := hw b17 T18 n_b17 e_T18
  have f_a0 := l_T18.is f_a0
  have hle := hle.tr l_T18
  refine W.widen (k := 6) (n := 16056) (by decide) (by decide) ?_
  refine kp_putRF X hname h f_a0 ff_12_43 f_b17 rfl ⟨by decide, by decide⟩ ⟨rfl, rfl⟩ dX12_init_59 (fun T19 e_T19 l_T19 H locs h => ?_)
  have hw := hw T19 e_T19
  have f_a0 := l_T19.is f_a0
  have hle := hle.tr l_T19
  exact j62  T19 _ _ ls (lv_sub hl [0] rfl) h hle f_a0 hw
