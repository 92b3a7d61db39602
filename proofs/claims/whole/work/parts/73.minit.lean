theorem cw_12_7 : kp_CVs RX12 7 yJ0_length_8abf5 cJ0_length_8abf5 1 (some .int) 0 := ⟨⟨kp_mem 275 (by decide +kernel) (by decide +kernel), kp_mem 209 (by decide +kernel) (by decide +kernel), by decide +kernel⟩, kp_mem 1656 (by decide +kernel) (by decide +kernel), kp_mem 273 (by decide +kernel) (by decide +kernel), kp_mem 274 (by decide +kernel) (by decide +kernel), rfl⟩
theorem cw_12_13 : kp_CVs RX12 13 yJ0_charAt_5068e cJ0_charAt_5068e 2 (some .char) 1 := ⟨⟨kp_mem 285 (by decide +kernel) (by decide +kernel), kp_mem 209 (by decide +kernel) (by decide +kernel), by decide +kernel⟩, kp_mem 1657 (by decide +kernel) (by decide +kernel), kp_mem 283 (by decide +kernel) (by decide +kernel), kp_mem 284 (by decide +kernel) (by decide +kernel), rfl⟩
theorem oi_12_17 : Cond.methodLink RX12 17 objectInit ∈ kp_tb := kp_mem 1651 (by decide +kernel) (by decide +kernel)
theorem ac_16 : Cond.arrayClass .boolean ∈ kp_tb := kp_mem 2073 (by decide +kernel) (by decide +kernel)
theorem cs_12_250 : kp_CS RX12 250 yX12_packed cX12_packed 4 (some .long) 1 := ⟨⟨kp_mem 1655 (by decide +kernel) (by decide +kernel), kp_mem 221 (by decide +kernel) (by decide +kernel), by decide +kernel⟩, kp_mem 1653 (by decide +kernel) (by decide +kernel), kp_mem 1654 (by decide +kernel) (by decide +kernel)⟩
theorem dX12_packed_0 : decode cX12_packed 0 = .ok (.lconst 0, 1) := by decide +kernel
theorem dX12_packed_1 : decode cX12_packed 1 = .ok (.lstore_n 1, 1) := by decide +kernel
theorem dX12_packed_2 : decode cX12_packed 2 = .ok (.iconst 0, 1) := by decide +kernel
theorem dX12_packed_3 : decode cX12_packed 3 = .ok (.istore_n 3, 1) := by decide +kernel
theorem dX12_packed_4 : decode cX12_packed 4 = .ok (.iload_n 3, 1) := by decide +kernel
theorem dX12_packed_5 : decode cX12_packed 5 = .ok (.aload_n 0, 1) := by decide +kernel
theorem dX12_packed_6 : decode cX12_packed 6 = .ok (.invokevirtual 7, 3) := by decide +kernel
theorem dX12_packed_9 : decode cX12_packed 9 = .ok (.if_icmp .ge 21, 3) := by decide +kernel
theorem dX12_packed_12 : decode cX12_packed 12 = .ok (.lload_n 1, 1) := by decide +kernel
theorem dX12_packed_13 : decode cX12_packed 13 = .ok (.bipush 8, 2) := by decide +kernel
theorem dX12_packed_15 : decode cX12_packed 15 = .ok (.lshl, 1) := by decide +kernel
theorem dX12_packed_16 : decode cX12_packed 16 = .ok (.aload_n 0, 1) := by decide +kernel
theorem dX12_packed_17 : decode cX12_packed 17 = .ok (.iload_n 3, 1) := by decide +kernel
theorem dX12_packed_18 : decode cX12_packed 18 = .ok (.invokevirtual 13, 3) := by decide +kernel
theorem dX12_packed_21 : decode cX12_packed 21 = .ok (.i2l, 1) := by decide +kernel
theorem dX12_packed_22 : decode cX12_packed 22 = .ok (.lor, 1) := by decide +kernel
theorem dX12_packed_23 : decode cX12_packed 23 = .ok (.lstore_n 1, 1) := by decide +kernel
theorem dX12_packed_24 : decode cX12_packed 24 = .ok (.iinc 3 1, 3) := by decide +kernel
theorem dX12_packed_27 : decode cX12_packed 27 = .ok (.goto (-23), 3) := by decide +kernel
theorem dX12_packed_30 : decode cX12_packed 30 = .ok (.lload_n 1, 1) := by decide +kernel
theorem dX12_packed_31 : decode cX12_packed 31 = .ok (.lreturn, 1) := by decide +kernel
def wX12_packed_L4 (i0 : Nat)  (post : Int64 → kp_S → Prop) : Nat → Int64 → Int32 → kp_S → Prop
  | 0, _, _, _ => False
  | n + 1, wn1, xn3, Sn =>
  wJ0_length_8abf5 i0 Sn (fun y1002 T1001 =>
  ((y1002 ≤ xn3 →
  post wn1 T1001) ∧ (¬ y1002 ≤ xn3 →
  wJ0_charAt_5068e i0 xn3 T1001 (fun y1004 T1003 =>
  ∀ z1005 : Int64, z1005 = (((wn1 : Int64) <<< ((8 : Int32).toInt64 &&& 63)) ||| ((y1004 : Int32).toInt64)) →
  ∀ y1006 : Int32, y1006 = xn3 + 1 →
  wX12_packed_L4 i0  post n z1005 y1006 T1003))))
def wX12_packed (i0 : Nat) (S : kp_S) (post : Int64 → kp_S → Prop) : Prop :=
  ∃ n0 : Nat, wX12_packed_L4 i0  post n0 0 0 S
set_option maxHeartbeats 4000000 in
set_option maxRecDepth 100000 in
theorem c_X12_packed (l : Launch) (D : va_G) (cy : Nat → ClassId) (ad : (Nat → Nat) × (Nat → Nat)) (S : kp_S) (i0 : Nat) (post : Int64 → kp_S → Prop) (hS : kp_ok S) (f_i0 : i0 < kp_sN) (hw : wX12_packed i0 S post) : kp_M l yX12_packed cX12_packed 4 (some .long) { frames := 4, cells := 0, slots := 0, locals := 85 } D cy ad S [.ref (ad.1 i0)] 0 0 (fun A => kp_Ql D cy A S post) := by
  refine kp_start (own := RX12) (by decide) rfl (Nat.le_of_ble_eq_true rfl) hS ?_
  intro p e s m below meth c A ls X hr hlocks hname h hl
  have hle : kp_le S S := kp_le.rf
  have hl : lv_has ls 4 [(0, .ref (ad.1 i0))] := hl
  have L4 : ∀ n4 : Nat, ∀ (wn1 : Int64) (xn3 : Int32) (Sn : kp_S) (H : Heap) (locs : List Loc) (ls : Array Slot), lv_has ls 4 [(0, .ref (ad.1 i0)), (1, .long wn1), (3, .int xn3)] → kp_H D cy A Sn s.heap H locs → kp_le S Sn → wX12_packed_L4 i0  post n4 wn1 xn3 Sn → W p l e { frames := 4, cells := 0, slots := 0, locals := 85 } s m ([.ref (ad.1 i0)] : List Value).toArray below meth c H locs 0 0 (MQ below (kp_Ql D cy A S post) ([.ref (ad.1 i0)] : List Value).toArray s 0 0 A) (F0 m 4 ls []) := by
    intro n4
    induction n4 with
    | zero => intro wn1 xn3 Sn H locs ls hl h hle  hw; exact hw.elim
    | succ n4 ih4 =>
      intro wn1 xn3 Sn H locs ls hl h hle  hw
      unfold wX12_packed_L4 at hw
      refine lv_iload_n X.1 X.2.1 dX12_packed_4 rfl (lv_at hl 2 rfl) ?_
      refine lv_aload_n X.1 X.2.1 dX12_packed_5 rfl (lv_at hl 0 rfl) ?_
      refine kp_calli X h (kp_runVs (rm := { frames := 1, cells := 0, slots := 0, locals := 20 }) (mc := 0) (ms := 0) (rest := [.int xn3]) (Qc := fun A => kp_Qi D cy A Sn _) X h (c_J0_length_8abf5 l D cy ad Sn i0 _ h.2.2.2 f_i0 hw) f_i0 cw_12_7 ⟨by decide, by decide, rfl, rfl, by decide, by decide⟩ rfl hl.1 rfl (Nat.le_of_ble_eq_true rfl) dX12_packed_6) (fun y1002 T1001 hw l_T1001 H locs h => ?_)
      have hle := hle.tr l_T1001
      refine lv_icmp_ge (tgt := 30) X.1 X.2.1 dX12_packed_9 (by decide) (fun c1007 => ?_) (fun c1007 => ?_)
      · have hw := hw.1 c1007
        refine lv_lload_n X.1 X.2.1 dX12_packed_30 rfl (lv_at hl 1 rfl) ?_
        exact kp_retl X hr hlocks h hle hw dX12_packed_31
      · have hw := hw.2 c1007
        refine lv_lload_n X.1 X.2.1 dX12_packed_12 rfl (lv_at hl 1 rfl) ?_
        refine lv_bipush (v := 8) X.1 X.2.1 dX12_packed_13 (by decide) ?_
        refine lv_lshl X.1 X.2.1 dX12_packed_15 rfl ?_
        refine lv_aload_n X.1 X.2.1 dX12_packed_16 rfl (lv_at hl 0 rfl) ?_
        refine lv_iload_n X.1 X.2.1 dX12_packed_17 rfl (lv_at hl 2 rfl) ?_
        refine kp_calli X h (kp_runVs (rm := { frames := 3, cells := 0, slots := 0, locals := 64 }) (mc := 0) (ms := 0) (rest := [.long ((wn1 : Int64) <<< ((8 : Int32).toInt64 &&& 63))]) (Qc := fun A => kp_Qi D cy A T1001 _) X h (c_J0_charAt_5068e l D cy ad T1001 i0 xn3 _ h.2.2.2 f_i0 hw) f_i0 cw_12_13 ⟨by decide, by decide, rfl, rfl, by decide, by decide⟩ rfl hl.1 rfl (Nat.le_of_ble_eq_true rfl) dX12_packed_18) (fun y1004 T1003 hw l_T1003 H locs h => ?_)
        have hle := hle.tr l_T1003
        refine lv_i2l X.1 X.2.1 dX12_packed_21 rfl ?_
        refine lv_lor X.1 X.2.1 dX12_packed_22 ?_
        refine lv_topl (fun z1005 e_z1005 => ?_)
        have hw := hw z1005 e_z1005
        refine lv_lstore_n (lv' := [(1, .long z1005), (0, .ref (ad.1 i0)), (3, .int xn3)]) X.1 X.2.1 dX12_packed_23 rfl hl (by decide) rfl (fun ls hl => ?_)
        obtain ⟨y1006, e_y1006⟩ : ∃ y : Int32, y = xn3 + 1 := ⟨_, rfl⟩
        have hw := hw y1006 e_y1006
        refine lv_iinc (v := y1006) (lv' := [(3, .int y1006), (1, .long z1005), (0, .ref (ad.1 i0))]) X.1 X.2.1 dX12_packed_24 hl (k := 2) rfl (by rw [e_y1006]; rfl) (by decide) rfl (fun ls hl => ?_)
        refine lv_goto (tgt := 4) X.1 X.2.1 dX12_packed_27 (by decide) ?_
        exact ih4 z1005 y1006 T1003 H locs ls (lv_sub hl [2, 1, 0] rfl) h hle  hw
  unfold wX12_packed at hw
  have h : kp_H D cy A S s.heap s.heap [] := h
  revert h
  intro h
  refine lv_lconst (v := 0) X.1 X.2.1 dX12_packed_0 (by decide) ?_
  refine lv_lstore_n (lv' := [(1, .long 0), (0, .ref (ad.1 i0))]) X.1 X.2.1 dX12_packed_1 rfl hl (by decide) rfl (fun ls hl => ?_)
  refine lv_iconst (v := 0) X.1 X.2.1 dX12_packed_2 (by decide) ?_
  refine lv_istore_n (lv' := [(3, .int 0), (1, .long 0), (0, .ref (ad.1 i0))]) X.1 X.2.1 dX12_packed_3 rfl hl (by decide) rfl (fun ls hl => ?_)
  obtain ⟨n0, hw⟩ := hw
  exact L4 n0 0 0 S _ _ ls (lv_sub hl [2, 1, 0] rfl) h hle  hw
theorem dX12_init_0 : decode cX12_init 0 = .ok (.aload_n 0, 1) := by decide +kernel
theorem dX12_init_1 : decode cX12_init 1 = .ok (.invokespecial 17, 3) := by decide +kernel
theorem dX12_init_4 : decode cX12_init 4 = .ok (.aload_n 0, 1) := by decide +kernel
theorem dX12_init_5 : decode cX12_init 5 = .ok (.sipush 3000, 3) := by decide +kernel
theorem dX12_init_8 : decode cX12_init 8 = .ok (.newarray .int, 2) := by decide +kernel
theorem dX12_init_10 : decode cX12_init 10 = .ok (.putfield 23, 3) := by decide +kernel
theorem dX12_init_13 : decode cX12_init 13 = .ok (.aload_n 0, 1) := by decide +kernel
theorem dX12_init_14 : decode cX12_init 14 = .ok (.bipush 50, 2) := by decide +kernel
theorem dX12_init_16 : decode cX12_init 16 = .ok (.newarray .long, 2) := by decide +kernel
theorem dX12_init_18 : decode cX12_init 18 = .ok (.putfield 27, 3) := by decide +kernel
theorem dX12_init_21 : decode cX12_init 21 = .ok (.aload_n 0, 1) := by decide +kernel
theorem dX12_init_22 : decode cX12_init 22 = .ok (.sipush 3002, 3) := by decide +kernel
theorem dX12_init_25 : decode cX12_init 25 = .ok (.newarray .int, 2) := by decide +kernel
theorem dX12_init_27 : decode cX12_init 27 = .ok (.putfield 31, 3) := by decide +kernel
theorem dX12_init_30 : decode cX12_init 30 = .ok (.aload_n 0, 1) := by decide +kernel
theorem dX12_init_31 : decode cX12_init 31 = .ok (.sipush 3002, 3) := by decide +kernel
theorem dX12_init_34 : decode cX12_init 34 = .ok (.newarray .int, 2) := by decide +kernel
theorem dX12_init_36 : decode cX12_init 36 = .ok (.putfield 34, 3) := by decide +kernel
theorem dX12_init_39 : decode cX12_init 39 = .ok (.aload_n 0, 1) := by decide +kernel
theorem dX12_init_40 : decode cX12_init 40 = .ok (.sipush 3002, 3) := by decide +kernel
theorem dX12_init_43 : decode cX12_init 43 = .ok (.newarray .long, 2) := by decide +kernel
theorem dX12_init_45 : decode cX12_init 45 = .ok (.putfield 37, 3) := by decide +kernel
theorem dX12_init_48 : decode cX12_init 48 = .ok (.aload_n 0, 1) := by decide +kernel
theorem dX12_init_49 : decode cX12_init 49 = .ok (.iconst (-1), 1) := by decide +kernel
theorem dX12_init_50 : decode cX12_init 50 = .ok (.putfield 40, 3) := by decide +kernel
theorem dX12_init_53 : decode cX12_init 53 = .ok (.aload_n 0, 1) := by decide +kernel
theorem dX12_init_54 : decode cX12_init 54 = .ok (.sipush 4000, 3) := by decide +kernel
theorem dX12_init_57 : decode cX12_init 57 = .ok (.newarray .int, 2) := by decide +kernel
theorem dX12_init_59 : decode cX12_init 59 = .ok (.putfield 43, 3) := by decide +kernel
theorem dX12_init_62 : decode cX12_init 62 = .ok (.aload_n 0, 1) := by decide +kernel
theorem dX12_init_63 : decode cX12_init 63 = .ok (.sipush 4000, 3) := by decide +kernel
theorem dX12_init_66 : decode cX12_init 66 = .ok (.newarray .int, 2) := by decide +kernel
theorem dX12_init_68 : decode cX12_init 68 = .ok (.putfield 46, 3) := by decide +kernel
theorem dX12_init_71 : decode cX12_init 71 = .ok (.aload_n 0, 1) := by decide +kernel
theorem dX12_init_72 : decode cX12_init 72 = .ok (.sipush 4000, 3) := by decide +kernel
theorem dX12_init_75 : decode cX12_init 75 = .ok (.newarray .int, 2) := by decide +kernel
theorem dX12_init_77 : decode cX12_init 77 = .ok (.putfield 49, 3) := by decide +kernel
theorem dX12_init_80 : decode cX12_init 80 = .ok (.aload_n 0, 1) := by decide +kernel
theorem dX12_init_81 : decode cX12_init 81 = .ok (.sipush 640, 3) := by decide +kernel
theorem dX12_init_84 : decode cX12_init 84 = .ok (.newarray .int, 2) := by decide +kernel
theorem dX12_init_86 : decode cX12_init 86 = .ok (.putfield 52, 3) := by decide +kernel
theorem dX12_init_89 : decode cX12_init 89 = .ok (.aload_n 0, 1) := by decide +kernel
theorem dX12_init_90 : decode cX12_init 90 = .ok (.sipush 640, 3) := by decide +kernel
theorem dX12_init_93 : decode cX12_init 93 = .ok (.newarray .int, 2) := by decide +kernel
theorem dX12_init_95 : decode cX12_init 95 = .ok (.putfield 55, 3) := by decide +kernel
theorem dX12_init_98 : decode cX12_init 98 = .ok (.aload_n 0, 1) := by decide +kernel
theorem dX12_init_99 : decode cX12_init 99 = .ok (.sipush 640, 3) := by decide +kernel
theorem dX12_init_102 : decode cX12_init 102 = .ok (.newarray .int, 2) := by decide +kernel
theorem dX12_init_104 : decode cX12_init 104 = .ok (.putfield 58, 3) := by decide +kernel
theorem dX12_init_107 : decode cX12_init 107 = .ok (.aload_n 0, 1) := by decide +kernel
theorem dX12_init_108 : decode cX12_init 108 = .ok (.sipush 640, 3) := by decide +kernel
theorem dX12_init_111 : decode cX12_init 111 = .ok (.newarray .int, 2) := by decide +kernel
theorem dX12_init_113 : decode cX12_init 113 = .ok (.putfield 61, 3) := by decide +kernel
theorem dX12_init_116 : decode cX12_init 116 = .ok (.aload_n 0, 1) := by decide +kernel
theorem dX12_init_117 : decode cX12_init 117 = .ok (.sipush 640, 3) := by decide +kernel
theorem dX12_init_120 : decode cX12_init 120 = .ok (.newarray .int, 2) := by decide +kernel
theorem dX12_init_122 : decode cX12_init 122 = .ok (.putfield 64, 3) := by decide +kernel
theorem dX12_init_125 : decode cX12_init 125 = .ok (.aload_n 0, 1) := by decide +kernel
theorem dX12_init_126 : decode cX12_init 126 = .ok (.sipush 640, 3) := by decide +kernel
theorem dX12_init_129 : decode cX12_init 129 = .ok (.newarray .int, 2) := by decide +kernel
theorem dX12_init_131 : decode cX12_init 131 = .ok (.putfield 67, 3) := by decide +kernel
theorem dX12_init_134 : decode cX12_init 134 = .ok (.aload_n 0, 1) := by decide +kernel
theorem dX12_init_135 : decode cX12_init 135 = .ok (.sipush 320, 3) := by decide +kernel
theorem dX12_init_138 : decode cX12_init 138 = .ok (.newarray .long, 2) := by decide +kernel
theorem dX12_init_140 : decode cX12_init 140 = .ok (.putfield 70, 3) := by decide +kernel
theorem dX12_init_143 : decode cX12_init 143 = .ok (.aload_n 0, 1) := by decide +kernel
theorem dX12_init_144 : decode cX12_init 144 = .ok (.sipush 320, 3) := by decide +kernel
theorem dX12_init_147 : decode cX12_init 147 = .ok (.newarray .int, 2) := by decide +kernel
theorem dX12_init_149 : decode cX12_init 149 = .ok (.putfield 73, 3) := by decide +kernel
theorem dX12_init_152 : decode cX12_init 152 = .ok (.aload_n 0, 1) := by decide +kernel
theorem dX12_init_153 : decode cX12_init 153 = .ok (.sipush 320, 3) := by decide +kernel
theorem dX12_init_156 : decode cX12_init 156 = .ok (.newarray .int, 2) := by decide +kernel
theorem dX12_init_158 : decode cX12_init 158 = .ok (.putfield 76, 3) := by decide +kernel
theorem dX12_init_161 : decode cX12_init 161 = .ok (.aload_n 0, 1) := by decide +kernel
theorem dX12_init_162 : decode cX12_init 162 = .ok (.sipush 320, 3) := by decide +kernel
theorem dX12_init_165 : decode cX12_init 165 = .ok (.newarray .int, 2) := by decide +kernel
theorem dX12_init_167 : decode cX12_init 167 = .ok (.putfield 79, 3) := by decide +kernel
theorem dX12_init_170 : decode cX12_init 170 = .ok (.aload_n 0, 1) := by decide +kernel
theorem dX12_init_171 : decode cX12_init 171 = .ok (.sipush 320, 3) := by decide +kernel
theorem dX12_init_174 : decode cX12_init 174 = .ok (.newarray .int, 2) := by decide +kernel
theorem dX12_init_176 : decode cX12_init 176 = .ok (.putfield 82, 3) := by decide +kernel
theorem dX12_init_179 : decode cX12_init 179 = .ok (.aload_n 0, 1) := by decide +kernel
theorem dX12_init_180 : decode cX12_init 180 = .ok (.sipush 320, 3) := by decide +kernel
theorem dX12_init_183 : decode cX12_init 183 = .ok (.newarray .int, 2) := by decide +kernel
theorem dX12_init_185 : decode cX12_init 185 = .ok (.putfield 85, 3) := by decide +kernel
theorem dX12_init_188 : decode cX12_init 188 = .ok (.aload_n 0, 1) := by decide +kernel
theorem dX12_init_189 : decode cX12_init 189 = .ok (.sipush 1600, 3) := by decide +kernel
theorem dX12_init_192 : decode cX12_init 192 = .ok (.newarray .long, 2) := by decide +kernel
theorem dX12_init_194 : decode cX12_init 194 = .ok (.putfield 88, 3) := by decide +kernel
theorem dX12_init_197 : decode cX12_init 197 = .ok (.aload_n 0, 1) := by decide +kernel
theorem dX12_init_198 : decode cX12_init 198 = .ok (.sipush 1600, 3) := by decide +kernel
theorem dX12_init_201 : decode cX12_init 201 = .ok (.newarray .int, 2) := by decide +kernel
theorem dX12_init_203 : decode cX12_init 203 = .ok (.putfield 91, 3) := by decide +kernel
theorem dX12_init_206 : decode cX12_init 206 = .ok (.aload_n 0, 1) := by decide +kernel
theorem dX12_init_207 : decode cX12_init 207 = .ok (.sipush 1600, 3) := by decide +kernel
theorem dX12_init_210 : decode cX12_init 210 = .ok (.newarray .int, 2) := by decide +kernel
theorem dX12_init_212 : decode cX12_init 212 = .ok (.putfield 94, 3) := by decide +kernel
theorem dX12_init_215 : decode cX12_init 215 = .ok (.aload_n 0, 1) := by decide +kernel
theorem dX12_init_216 : decode cX12_init 216 = .ok (.sipush 1600, 3) := by decide +kernel
theorem dX12_init_219 : decode cX12_init 219 = .ok (.newarray .int, 2) := by decide +kernel
theorem dX12_init_221 : decode cX12_init 221 = .ok (.putfield 97, 3) := by decide +kernel
theorem dX12_init_224 : decode cX12_init 224 = .ok (.aload_n 0, 1) := by decide +kernel
theorem dX12_init_225 : decode cX12_init 225 = .ok (.sipush 1600, 3) := by decide +kernel
theorem dX12_init_228 : decode cX12_init 228 = .ok (.newarray .long, 2) := by decide +kernel
theorem dX12_init_230 : decode cX12_init 230 = .ok (.putfield 100, 3) := by decide +kernel
theorem dX12_init_233 : decode cX12_init 233 = .ok (.aload_n 0, 1) := by decide +kernel
theorem dX12_init_234 : decode cX12_init 234 = .ok (.sipush 1600, 3) := by decide +kernel
theorem dX12_init_237 : decode cX12_init 237 = .ok (.newarray .int, 2) := by decide +kernel
theorem dX12_init_239 : decode cX12_init 239 = .ok (.putfield 103, 3) := by decide +kernel
theorem dX12_init_242 : decode cX12_init 242 = .ok (.aload_n 0, 1) := by decide +kernel
theorem dX12_init_243 : decode cX12_init 243 = .ok (.bipush 20, 2) := by decide +kernel
theorem dX12_init_245 : decode cX12_init 245 = .ok (.newarray .long, 2) := by decide +kernel
theorem dX12_init_247 : decode cX12_init 247 = .ok (.putfield 106, 3) := by decide +kernel
theorem dX12_init_250 : decode cX12_init 250 = .ok (.aload_n 0, 1) := by decide +kernel
theorem dX12_init_251 : decode cX12_init 251 = .ok (.bipush 20, 2) := by decide +kernel
theorem dX12_init_253 : decode cX12_init 253 = .ok (.newarray .int, 2) := by decide +kernel
theorem dX12_init_255 : decode cX12_init 255 = .ok (.putfield 109, 3) := by decide +kernel
theorem dX12_init_258 : decode cX12_init 258 = .ok (.aload_n 0, 1) := by decide +kernel
theorem dX12_init_259 : decode cX12_init 259 = .ok (.sipush 4000, 3) := by decide +kernel
theorem dX12_init_262 : decode cX12_init 262 = .ok (.newarray .int, 2) := by decide +kernel
theorem dX12_init_264 : decode cX12_init 264 = .ok (.putfield 112, 3) := by decide +kernel
theorem dX12_init_267 : decode cX12_init 267 = .ok (.aload_n 0, 1) := by decide +kernel
theorem dX12_init_268 : decode cX12_init 268 = .ok (.sipush 4000, 3) := by decide +kernel
theorem dX12_init_271 : decode cX12_init 271 = .ok (.newarray .int, 2) := by decide +kernel
theorem dX12_init_273 : decode cX12_init 273 = .ok (.putfield 115, 3) := by decide +kernel
theorem dX12_init_276 : decode cX12_init 276 = .ok (.aload_n 0, 1) := by decide +kernel
theorem dX12_init_277 : decode cX12_init 277 = .ok (.sipush 4000, 3) := by decide +kernel
theorem dX12_init_280 : decode cX12_init 280 = .ok (.newarray .int, 2) := by decide +kernel
theorem dX12_init_282 : decode cX12_init 282 = .ok (.putfield 118, 3) := by decide +kernel
theorem dX12_init_285 : decode cX12_init 285 = .ok (.aload_n 0, 1) := by decide +kernel
theorem dX12_init_286 : decode cX12_init 286 = .ok (.sipush 640, 3) := by decide +kernel
theorem dX12_init_289 : decode cX12_init 289 = .ok (.newarray .int, 2) := by decide +kernel
theorem dX12_init_291 : decode cX12_init 291 = .ok (.putfield 121, 3) := by decide +kernel
theorem dX12_init_294 : decode cX12_init 294 = .ok (.aload_n 0, 1) := by decide +kernel
theorem dX12_init_295 : decode cX12_init 295 = .ok (.sipush 640, 3) := by decide +kernel
theorem dX12_init_298 : decode cX12_init 298 = .ok (.newarray .int, 2) := by decide +kernel
theorem dX12_init_300 : decode cX12_init 300 = .ok (.putfield 124, 3) := by decide +kernel
theorem dX12_init_303 : decode cX12_init 303 = .ok (.aload_n 0, 1) := by decide +kernel
theorem dX12_init_304 : decode cX12_init 304 = .ok (.sipush 640, 3) := by decide +kernel
theorem dX12_init_307 : decode cX12_init 307 = .ok (.newarray .int, 2) := by decide +kernel
theorem dX12_init_309 : decode cX12_init 309 = .ok (.putfield 127, 3) := by decide +kernel
theorem dX12_init_312 : decode cX12_init 312 = .ok (.aload_n 0, 1) := by decide +kernel
theorem dX12_init_313 : decode cX12_init 313 = .ok (.sipush 640, 3) := by decide +kernel
theorem dX12_init_316 : decode cX12_init 316 = .ok (.newarray .int, 2) := by decide +kernel
theorem dX12_init_318 : decode cX12_init 318 = .ok (.putfield 130, 3) := by decide +kernel
theorem dX12_init_321 : decode cX12_init 321 = .ok (.aload_n 0, 1) := by decide +kernel
theorem dX12_init_322 : decode cX12_init 322 = .ok (.sipush 640, 3) := by decide +kernel
theorem dX12_init_325 : decode cX12_init 325 = .ok (.newarray .int, 2) := by decide +kernel
theorem dX12_init_327 : decode cX12_init 327 = .ok (.putfield 133, 3) := by decide +kernel
theorem dX12_init_330 : decode cX12_init 330 = .ok (.aload_n 0, 1) := by decide +kernel
theorem dX12_init_331 : decode cX12_init 331 = .ok (.sipush 640, 3) := by decide +kernel
theorem dX12_init_334 : decode cX12_init 334 = .ok (.newarray .int, 2) := by decide +kernel
theorem dX12_init_336 : decode cX12_init 336 = .ok (.putfield 136, 3) := by decide +kernel
theorem dX12_init_339 : decode cX12_init 339 = .ok (.aload_n 0, 1) := by decide +kernel
theorem dX12_init_340 : decode cX12_init 340 = .ok (.bipush 30, 2) := by decide +kernel
theorem dX12_init_342 : decode cX12_init 342 = .ok (.newarray .int, 2) := by decide +kernel
theorem dX12_init_344 : decode cX12_init 344 = .ok (.putfield 139, 3) := by decide +kernel
theorem dX12_init_347 : decode cX12_init 347 = .ok (.aload_n 0, 1) := by decide +kernel
theorem dX12_init_348 : decode cX12_init 348 = .ok (.bipush 30, 2) := by decide +kernel
theorem dX12_init_350 : decode cX12_init 350 = .ok (.newarray .int, 2) := by decide +kernel
theorem dX12_init_352 : decode cX12_init 352 = .ok (.putfield 142, 3) := by decide +kernel
theorem dX12_init_355 : decode cX12_init 355 = .ok (.aload_n 0, 1) := by decide +kernel
theorem dX12_init_356 : decode cX12_init 356 = .ok (.bipush 30, 2) := by decide +kernel
theorem dX12_init_358 : decode cX12_init 358 = .ok (.newarray .int, 2) := by decide +kernel
theorem dX12_init_360 : decode cX12_init 360 = .ok (.putfield 145, 3) := by decide +kernel
theorem dX12_init_363 : decode cX12_init 363 = .ok (.aload_n 0, 1) := by decide +kernel
theorem dX12_init_364 : decode cX12_init 364 = .ok (.bipush 30, 2) := by decide +kernel
theorem dX12_init_366 : decode cX12_init 366 = .ok (.newarray .int, 2) := by decide +kernel
theorem dX12_init_368 : decode cX12_init 368 = .ok (.putfield 148, 3) := by decide +kernel
theorem dX12_init_371 : decode cX12_init 371 = .ok (.aload_n 0, 1) := by decide +kernel
theorem dX12_init_372 : decode cX12_init 372 = .ok (.bipush 30, 2) := by decide +kernel
theorem dX12_init_374 : decode cX12_init 374 = .ok (.newarray .int, 2) := by decide +kernel
theorem dX12_init_376 : decode cX12_init 376 = .ok (.putfield 151, 3) := by decide +kernel
theorem dX12_init_379 : decode cX12_init 379 = .ok (.aload_n 0, 1) := by decide +kernel
theorem dX12_init_380 : decode cX12_init 380 = .ok (.bipush 6, 2) := by decide +kernel
theorem dX12_init_382 : decode cX12_init 382 = .ok (.newarray .int, 2) := by decide +kernel
theorem dX12_init_384 : decode cX12_init 384 = .ok (.putfield 154, 3) := by decide +kernel
theorem dX12_init_387 : decode cX12_init 387 = .ok (.aload_n 0, 1) := by decide +kernel
theorem dX12_init_388 : decode cX12_init 388 = .ok (.bipush 12, 2) := by decide +kernel
theorem dX12_init_390 : decode cX12_init 390 = .ok (.newarray .boolean, 2) := by decide +kernel
theorem dX12_init_392 : decode cX12_init 392 = .ok (.putfield 157, 3) := by decide +kernel
theorem dX12_init_395 : decode cX12_init 395 = .ok (.aload_n 0, 1) := by decide +kernel
theorem dX12_init_396 : decode cX12_init 396 = .ok (.bipush 6, 2) := by decide +kernel
theorem dX12_init_398 : decode cX12_init 398 = .ok (.newarray .int, 2) := by decide +kernel
theorem dX12_init_400 : decode cX12_init 400 = .ok (.putfield 161, 3) := by decide +kernel
theorem dX12_init_403 : decode cX12_init 403 = .ok (.aload_n 0, 1) := by decide +kernel
theorem dX12_init_404 : decode cX12_init 404 = .ok (.bipush 7, 2) := by decide +kernel
theorem dX12_init_406 : decode cX12_init 406 = .ok (.newarray .int, 2) := by decide +kernel
theorem dX12_init_408 : decode cX12_init 408 = .ok (.putfield 164, 3) := by decide +kernel
theorem dX12_init_411 : decode cX12_init 411 = .ok (.aload_n 0, 1) := by decide +kernel
theorem dX12_init_412 : decode cX12_init 412 = .ok (.bipush 8, 2) := by decide +kernel
theorem dX12_init_414 : decode cX12_init 414 = .ok (.newarray .int, 2) := by decide +kernel
theorem dX12_init_416 : decode cX12_init 416 = .ok (.putfield 167, 3) := by decide +kernel
theorem dX12_init_419 : decode cX12_init 419 = .ok (.aload_n 0, 1) := by decide +kernel
theorem dX12_init_420 : decode cX12_init 420 = .ok (.sipush 300, 3) := by decide +kernel
theorem dX12_init_423 : decode cX12_init 423 = .ok (.newarray .int, 2) := by decide +kernel
theorem dX12_init_425 : decode cX12_init 425 = .ok (.putfield 170, 3) := by decide +kernel
theorem dX12_init_428 : decode cX12_init 428 = .ok (.aload_n 0, 1) := by decide +kernel
theorem dX12_init_429 : decode cX12_init 429 = .ok (.sipush 300, 3) := by decide +kernel
theorem dX12_init_432 : decode cX12_init 432 = .ok (.newarray .int, 2) := by decide +kernel
theorem dX12_init_434 : decode cX12_init 434 = .ok (.putfield 173, 3) := by decide +kernel
theorem dX12_init_437 : decode cX12_init 437 = .ok (.aload_n 0, 1) := by decide +kernel
theorem dX12_init_438 : decode cX12_init 438 = .ok (.sipush 240, 3) := by decide +kernel
theorem dX12_init_441 : decode cX12_init 441 = .ok (.newarray .int, 2) := by decide +kernel
theorem dX12_init_443 : decode cX12_init 443 = .ok (.putfield 176, 3) := by decide +kernel
theorem dX12_init_446 : decode cX12_init 446 = .ok (.aload_n 0, 1) := by decide +kernel
theorem dX12_init_447 : decode cX12_init 447 = .ok (.sipush 240, 3) := by decide +kernel
theorem dX12_init_450 : decode cX12_init 450 = .ok (.newarray .int, 2) := by decide +kernel
theorem dX12_init_452 : decode cX12_init 452 = .ok (.putfield 179, 3) := by decide +kernel
theorem dX12_init_455 : decode cX12_init 455 = .ok (.aload_n 0, 1) := by decide +kernel
theorem dX12_init_456 : decode cX12_init 456 = .ok (.sipush 240, 3) := by decide +kernel
theorem dX12_init_459 : decode cX12_init 459 = .ok (.newarray .int, 2) := by decide +kernel
theorem dX12_init_461 : decode cX12_init 461 = .ok (.putfield 182, 3) := by decide +kernel
theorem dX12_init_464 : decode cX12_init 464 = .ok (.aload_n 0, 1) := by decide +kernel
theorem dX12_init_465 : decode cX12_init 465 = .ok (.sipush 240, 3) := by decide +kernel
theorem dX12_init_468 : decode cX12_init 468 = .ok (.newarray .int, 2) := by decide +kernel
theorem dX12_init_470 : decode cX12_init 470 = .ok (.putfield 185, 3) := by decide +kernel
theorem dX12_init_473 : decode cX12_init 473 = .ok (.aload_n 0, 1) := by decide +kernel
theorem dX12_init_474 : decode cX12_init 474 = .ok (.sipush 240, 3) := by decide +kernel
theorem dX12_init_477 : decode cX12_init 477 = .ok (.newarray .int, 2) := by decide +kernel
theorem dX12_init_479 : decode cX12_init 479 = .ok (.putfield 188, 3) := by decide +kernel
theorem dX12_init_482 : decode cX12_init 482 = .ok (.aload_n 0, 1) := by decide +kernel
theorem dX12_init_483 : decode cX12_init 483 = .ok (.sipush 240, 3) := by decide +kernel
theorem dX12_init_486 : decode cX12_init 486 = .ok (.newarray .long, 2) := by decide +kernel
theorem dX12_init_488 : decode cX12_init 488 = .ok (.putfield 191, 3) := by decide +kernel
theorem dX12_init_491 : decode cX12_init 491 = .ok (.aload_n 0, 1) := by decide +kernel
theorem dX12_init_492 : decode cX12_init 492 = .ok (.sipush 240, 3) := by decide +kernel
theorem dX12_init_495 : decode cX12_init 495 = .ok (.newarray .long, 2) := by decide +kernel
theorem dX12_init_497 : decode cX12_init 497 = .ok (.putfield 194, 3) := by decide +kernel
theorem dX12_init_500 : decode cX12_init 500 = .ok (.aload_n 0, 1) := by decide +kernel
theorem dX12_init_501 : decode cX12_init 501 = .ok (.sipush 240, 3) := by decide +kernel
theorem dX12_init_504 : decode cX12_init 504 = .ok (.newarray .int, 2) := by decide +kernel
theorem dX12_init_506 : decode cX12_init 506 = .ok (.putfield 197, 3) := by decide +kernel
theorem dX12_init_509 : decode cX12_init 509 = .ok (.aload_n 0, 1) := by decide +kernel
theorem dX12_init_510 : decode cX12_init 510 = .ok (.sipush 240, 3) := by decide +kernel
theorem dX12_init_513 : decode cX12_init 513 = .ok (.newarray .int, 2) := by decide +kernel
theorem dX12_init_515 : decode cX12_init 515 = .ok (.putfield 200, 3) := by decide +kernel
theorem dX12_init_518 : decode cX12_init 518 = .ok (.aload_n 0, 1) := by decide +kernel
theorem dX12_init_519 : decode cX12_init 519 = .ok (.sipush 240, 3) := by decide +kernel
theorem dX12_init_522 : decode cX12_init 522 = .ok (.newarray .int, 2) := by decide +kernel
theorem dX12_init_524 : decode cX12_init 524 = .ok (.putfield 203, 3) := by decide +kernel
theorem dX12_init_527 : decode cX12_init 527 = .ok (.aload_n 0, 1) := by decide +kernel
theorem dX12_init_528 : decode cX12_init 528 = .ok (.sipush 240, 3) := by decide +kernel
theorem dX12_init_531 : decode cX12_init 531 = .ok (.newarray .int, 2) := by decide +kernel
theorem dX12_init_533 : decode cX12_init 533 = .ok (.putfield 206, 3) := by decide +kernel
theorem dX12_init_536 : decode cX12_init 536 = .ok (.aload_n 0, 1) := by decide +kernel
theorem dX12_init_537 : decode cX12_init 537 = .ok (.sipush 240, 3) := by decide +kernel
theorem dX12_init_540 : decode cX12_init 540 = .ok (.newarray .int, 2) := by decide +kernel
theorem dX12_init_542 : decode cX12_init 542 = .ok (.putfield 209, 3) := by decide +kernel
theorem dX12_init_545 : decode cX12_init 545 = .ok (.aload_n 0, 1) := by decide +kernel
theorem dX12_init_546 : decode cX12_init 546 = .ok (.sipush 240, 3) := by decide +kernel
theorem dX12_init_549 : decode cX12_init 549 = .ok (.newarray .int, 2) := by decide +kernel
theorem dX12_init_551 : decode cX12_init 551 = .ok (.putfield 212, 3) := by decide +kernel
theorem dX12_init_554 : decode cX12_init 554 = .ok (.aload_n 0, 1) := by decide +kernel
theorem dX12_init_555 : decode cX12_init 555 = .ok (.bipush 13, 2) := by decide +kernel
theorem dX12_init_557 : decode cX12_init 557 = .ok (.newarray .int, 2) := by decide +kernel
theorem dX12_init_559 : decode cX12_init 559 = .ok (.putfield 215, 3) := by decide +kernel
theorem dX12_init_562 : decode cX12_init 562 = .ok (.aload_n 0, 1) := by decide +kernel
theorem dX12_init_563 : decode cX12_init 563 = .ok (.bipush 13, 2) := by decide +kernel
theorem dX12_init_565 : decode cX12_init 565 = .ok (.newarray .int, 2) := by decide +kernel
theorem dX12_init_567 : decode cX12_init 567 = .ok (.putfield 218, 3) := by decide +kernel
theorem dX12_init_570 : decode cX12_init 570 = .ok (.aload_n 0, 1) := by decide +kernel
theorem dX12_init_571 : decode cX12_init 571 = .ok (.bipush 13, 2) := by decide +kernel
theorem dX12_init_573 : decode cX12_init 573 = .ok (.newarray .int, 2) := by decide +kernel
theorem dX12_init_575 : decode cX12_init 575 = .ok (.putfield 221, 3) := by decide +kernel
theorem dX12_init_578 : decode cX12_init 578 = .ok (.aload_n 0, 1) := by decide +kernel
theorem dX12_init_579 : decode cX12_init 579 = .ok (.bipush 13, 2) := by decide +kernel
theorem dX12_init_581 : decode cX12_init 581 = .ok (.newarray .int, 2) := by decide +kernel
theorem dX12_init_583 : decode cX12_init 583 = .ok (.putfield 224, 3) := by decide +kernel
theorem dX12_init_586 : decode cX12_init 586 = .ok (.aload_n 0, 1) := by decide +kernel
theorem dX12_init_587 : decode cX12_init 587 = .ok (.bipush 13, 2) := by decide +kernel
theorem dX12_init_589 : decode cX12_init 589 = .ok (.newarray .int, 2) := by decide +kernel
theorem dX12_init_591 : decode cX12_init 591 = .ok (.putfield 227, 3) := by decide +kernel
theorem dX12_init_594 : decode cX12_init 594 = .ok (.aload_n 0, 1) := by decide +kernel
theorem dX12_init_595 : decode cX12_init 595 = .ok (.sipush 520, 3) := by decide +kernel
theorem dX12_init_598 : decode cX12_init 598 = .ok (.newarray .int, 2) := by decide +kernel
theorem dX12_init_600 : decode cX12_init 600 = .ok (.putfield 230, 3) := by decide +kernel
theorem dX12_init_603 : decode cX12_init 603 = .ok (.aload_n 0, 1) := by decide +kernel
theorem dX12_init_604 : decode cX12_init 604 = .ok (.sipush 520, 3) := by decide +kernel
theorem dX12_init_607 : decode cX12_init 607 = .ok (.newarray .int, 2) := by decide +kernel
theorem dX12_init_609 : decode cX12_init 609 = .ok (.putfield 233, 3) := by decide +kernel
theorem dX12_init_612 : decode cX12_init 612 = .ok (.aload_n 0, 1) := by decide +kernel
theorem dX12_init_613 : decode cX12_init 613 = .ok (.sipush 312, 3) := by decide +kernel
theorem dX12_init_616 : decode cX12_init 616 = .ok (.newarray .int, 2) := by decide +kernel
theorem dX12_init_618 : decode cX12_init 618 = .ok (.putfield 236, 3) := by decide +kernel
theorem dX12_init_621 : decode cX12_init 621 = .ok (.aload_n 0, 1) := by decide +kernel
theorem dX12_init_622 : decode cX12_init 622 = .ok (.sipush 4000, 3) := by decide +kernel
theorem dX12_init_625 : decode cX12_init 625 = .ok (.newarray .int, 2) := by decide +kernel
theorem dX12_init_627 : decode cX12_init 627 = .ok (.putfield 239, 3) := by decide +kernel
theorem dX12_init_630 : decode cX12_init 630 = .ok (.aload_n 0, 1) := by decide +kernel
theorem dX12_init_631 : decode cX12_init 631 = .ok (.iconst (-1), 1) := by decide +kernel
theorem dX12_init_632 : decode cX12_init 632 = .ok (.putfield 242, 3) := by decide +kernel
theorem dX12_init_635 : decode cX12_init 635 = .ok (.aload_n 0, 1) := by decide +kernel
theorem dX12_init_636 : decode cX12_init 636 = .ok (.iconst (-1), 1) := by decide +kernel
theorem dX12_init_637 : decode cX12_init 637 = .ok (.putfield 245, 3) := by decide +kernel
theorem dX12_init_640 : decode cX12_init 640 = .ok (.aload_n 0, 1) := by decide +kernel
theorem dX12_init_641 : decode cX12_init 641 = .ok (.getfield 27, 3) := by decide +kernel
theorem dX12_init_644 : decode cX12_init 644 = .ok (.bipush 10, 2) := by decide +kernel
theorem dX12_init_646 : decode cX12_init 646 = .ok (.ldc 248, 2) := by decide +kernel
theorem dX12_init_648 : decode cX12_init 648 = .ok (.invokestatic 250, 3) := by decide +kernel
theorem dX12_init_651 : decode cX12_init 651 = .ok (.lastore, 1) := by decide +kernel
theorem dX12_init_652 : decode cX12_init 652 = .ok (.aload_n 0, 1) := by decide +kernel
theorem dX12_init_653 : decode cX12_init 653 = .ok (.getfield 27, 3) := by decide +kernel
theorem dX12_init_656 : decode cX12_init 656 = .ok (.bipush 11, 2) := by decide +kernel
theorem dX12_init_658 : decode cX12_init 658 = .ok (.ldc 254, 2) := by decide +kernel
theorem dX12_init_660 : decode cX12_init 660 = .ok (.invokestatic 250, 3) := by decide +kernel
theorem dX12_init_663 : decode cX12_init 663 = .ok (.lastore, 1) := by decide +kernel
theorem dX12_init_664 : decode cX12_init 664 = .ok (.aload_n 0, 1) := by decide +kernel
theorem dX12_init_665 : decode cX12_init 665 = .ok (.getfield 27, 3) := by decide +kernel
theorem dX12_init_668 : decode cX12_init 668 = .ok (.bipush 12, 2) := by decide +kernel
theorem dX12_init_670 : decode cX12_init 670 = .ok (.ldc_w 256, 3) := by decide +kernel
theorem dX12_init_673 : decode cX12_init 673 = .ok (.invokestatic 250, 3) := by decide +kernel
theorem dX12_init_676 : decode cX12_init 676 = .ok (.lastore, 1) := by decide +kernel
theorem dX12_init_677 : decode cX12_init 677 = .ok (.aload_n 0, 1) := by decide +kernel
theorem dX12_init_678 : decode cX12_init 678 = .ok (.getfield 27, 3) := by decide +kernel
theorem dX12_init_681 : decode cX12_init 681 = .ok (.bipush 13, 2) := by decide +kernel
theorem dX12_init_683 : decode cX12_init 683 = .ok (.ldc_w 258, 3) := by decide +kernel
theorem dX12_init_686 : decode cX12_init 686 = .ok (.invokestatic 250, 3) := by decide +kernel
theorem dX12_init_689 : decode cX12_init 689 = .ok (.lastore, 1) := by decide +kernel
theorem dX12_init_690 : decode cX12_init 690 = .ok (.aload_n 0, 1) := by decide +kernel
theorem dX12_init_691 : decode cX12_init 691 = .ok (.getfield 27, 3) := by decide +kernel
theorem dX12_init_694 : decode cX12_init 694 = .ok (.bipush 14, 2) := by decide +kernel
theorem dX12_init_696 : decode cX12_init 696 = .ok (.ldc_w 260, 3) := by decide +kernel
theorem dX12_init_699 : decode cX12_init 699 = .ok (.invokestatic 250, 3) := by decide +kernel
theorem dX12_init_702 : decode cX12_init 702 = .ok (.lastore, 1) := by decide +kernel
theorem dX12_init_703 : decode cX12_init 703 = .ok (.aload_n 0, 1) := by decide +kernel
theorem dX12_init_704 : decode cX12_init 704 = .ok (.getfield 27, 3) := by decide +kernel
theorem dX12_init_707 : decode cX12_init 707 = .ok (.bipush 15, 2) := by decide +kernel
theorem dX12_init_709 : decode cX12_init 709 = .ok (.ldc_w 262, 3) := by decide +kernel
theorem dX12_init_712 : decode cX12_init 712 = .ok (.invokestatic 250, 3) := by decide +kernel
theorem dX12_init_715 : decode cX12_init 715 = .ok (.lastore, 1) := by decide +kernel
theorem dX12_init_716 : decode cX12_init 716 = .ok (.aload_n 0, 1) := by decide +kernel
theorem dX12_init_717 : decode cX12_init 717 = .ok (.getfield 27, 3) := by decide +kernel
theorem dX12_init_720 : decode cX12_init 720 = .ok (.bipush 16, 2) := by decide +kernel
theorem dX12_init_722 : decode cX12_init 722 = .ok (.ldc_w 264, 3) := by decide +kernel
theorem dX12_init_725 : decode cX12_init 725 = .ok (.invokestatic 250, 3) := by decide +kernel
theorem dX12_init_728 : decode cX12_init 728 = .ok (.lastore, 1) := by decide +kernel
theorem dX12_init_729 : decode cX12_init 729 = .ok (.aload_n 0, 1) := by decide +kernel
theorem dX12_init_730 : decode cX12_init 730 = .ok (.getfield 27, 3) := by decide +kernel
theorem dX12_init_733 : decode cX12_init 733 = .ok (.bipush 17, 2) := by decide +kernel
theorem dX12_init_735 : decode cX12_init 735 = .ok (.ldc_w 266, 3) := by decide +kernel
theorem dX12_init_738 : decode cX12_init 738 = .ok (.invokestatic 250, 3) := by decide +kernel
theorem dX12_init_741 : decode cX12_init 741 = .ok (.lastore, 1) := by decide +kernel
theorem dX12_init_742 : decode cX12_init 742 = .ok (.aload_n 0, 1) := by decide +kernel
theorem dX12_init_743 : decode cX12_init 743 = .ok (.getfield 27, 3) := by decide +kernel
theorem dX12_init_746 : decode cX12_init 746 = .ok (.bipush 18, 2) := by decide +kernel
theorem dX12_init_748 : decode cX12_init 748 = .ok (.ldc_w 268, 3) := by decide +kernel
theorem dX12_init_751 : decode cX12_init 751 = .ok (.invokestatic 250, 3) := by decide +kernel
theorem dX12_init_754 : decode cX12_init 754 = .ok (.lastore, 1) := by decide +kernel
theorem dX12_init_755 : decode cX12_init 755 = .ok (.aload_n 0, 1) := by decide +kernel
theorem dX12_init_756 : decode cX12_init 756 = .ok (.getfield 27, 3) := by decide +kernel
theorem dX12_init_759 : decode cX12_init 759 = .ok (.bipush 19, 2) := by decide +kernel
theorem dX12_init_761 : decode cX12_init 761 = .ok (.ldc_w 270, 3) := by decide +kernel
theorem dX12_init_764 : decode cX12_init 764 = .ok (.invokestatic 250, 3) := by decide +kernel
theorem dX12_init_767 : decode cX12_init 767 = .ok (.lastore, 1) := by decide +kernel
theorem dX12_init_768 : decode cX12_init 768 = .ok (.aload_n 0, 1) := by decide +kernel
theorem dX12_init_769 : decode cX12_init 769 = .ok (.getfield 27, 3) := by decide +kernel
theorem dX12_init_772 : decode cX12_init 772 = .ok (.bipush 20, 2) := by decide +kernel
theorem dX12_init_774 : decode cX12_init 774 = .ok (.ldc_w 272, 3) := by decide +kernel
theorem dX12_init_777 : decode cX12_init 777 = .ok (.invokestatic 250, 3) := by decide +kernel
theorem dX12_init_780 : decode cX12_init 780 = .ok (.lastore, 1) := by decide +kernel
theorem dX12_init_781 : decode cX12_init 781 = .ok (.aload_n 0, 1) := by decide +kernel
theorem dX12_init_782 : decode cX12_init 782 = .ok (.getfield 27, 3) := by decide +kernel
theorem dX12_init_785 : decode cX12_init 785 = .ok (.bipush 21, 2) := by decide +kernel
theorem dX12_init_787 : decode cX12_init 787 = .ok (.ldc_w 274, 3) := by decide +kernel
theorem dX12_init_790 : decode cX12_init 790 = .ok (.invokestatic 250, 3) := by decide +kernel
theorem dX12_init_793 : decode cX12_init 793 = .ok (.lastore, 1) := by decide +kernel
theorem dX12_init_794 : decode cX12_init 794 = .ok (.aload_n 0, 1) := by decide +kernel
theorem dX12_init_795 : decode cX12_init 795 = .ok (.getfield 27, 3) := by decide +kernel
theorem dX12_init_798 : decode cX12_init 798 = .ok (.bipush 22, 2) := by decide +kernel
theorem dX12_init_800 : decode cX12_init 800 = .ok (.ldc_w 276, 3) := by decide +kernel
theorem dX12_init_803 : decode cX12_init 803 = .ok (.invokestatic 250, 3) := by decide +kernel
theorem dX12_init_806 : decode cX12_init 806 = .ok (.lastore, 1) := by decide +kernel
theorem dX12_init_807 : decode cX12_init 807 = .ok (.aload_n 0, 1) := by decide +kernel
theorem dX12_init_808 : decode cX12_init 808 = .ok (.getfield 27, 3) := by decide +kernel
theorem dX12_init_811 : decode cX12_init 811 = .ok (.bipush 23, 2) := by decide +kernel
theorem dX12_init_813 : decode cX12_init 813 = .ok (.ldc_w 278, 3) := by decide +kernel
theorem dX12_init_816 : decode cX12_init 816 = .ok (.invokestatic 250, 3) := by decide +kernel
theorem dX12_init_819 : decode cX12_init 819 = .ok (.lastore, 1) := by decide +kernel
theorem dX12_init_820 : decode cX12_init 820 = .ok (.aload_n 0, 1) := by decide +kernel
theorem dX12_init_821 : decode cX12_init 821 = .ok (.getfield 27, 3) := by decide +kernel
theorem dX12_init_824 : decode cX12_init 824 = .ok (.bipush 24, 2) := by decide +kernel
theorem dX12_init_826 : decode cX12_init 826 = .ok (.ldc_w 280, 3) := by decide +kernel
theorem dX12_init_829 : decode cX12_init 829 = .ok (.invokestatic 250, 3) := by decide +kernel
theorem dX12_init_832 : decode cX12_init 832 = .ok (.lastore, 1) := by decide +kernel
theorem dX12_init_833 : decode cX12_init 833 = .ok (.aload_n 0, 1) := by decide +kernel
theorem dX12_init_834 : decode cX12_init 834 = .ok (.getfield 27, 3) := by decide +kernel
theorem dX12_init_837 : decode cX12_init 837 = .ok (.bipush 25, 2) := by decide +kernel
theorem dX12_init_839 : decode cX12_init 839 = .ok (.ldc_w 282, 3) := by decide +kernel
theorem dX12_init_842 : decode cX12_init 842 = .ok (.invokestatic 250, 3) := by decide +kernel
theorem dX12_init_845 : decode cX12_init 845 = .ok (.lastore, 1) := by decide +kernel
theorem dX12_init_846 : decode cX12_init 846 = .ok (.aload_n 0, 1) := by decide +kernel
theorem dX12_init_847 : decode cX12_init 847 = .ok (.getfield 27, 3) := by decide +kernel
theorem dX12_init_850 : decode cX12_init 850 = .ok (.bipush 26, 2) := by decide +kernel
theorem dX12_init_852 : decode cX12_init 852 = .ok (.ldc_w 284, 3) := by decide +kernel
theorem dX12_init_855 : decode cX12_init 855 = .ok (.invokestatic 250, 3) := by decide +kernel
theorem dX12_init_858 : decode cX12_init 858 = .ok (.lastore, 1) := by decide +kernel
theorem dX12_init_859 : decode cX12_init 859 = .ok (.aload_n 0, 1) := by decide +kernel
theorem dX12_init_860 : decode cX12_init 860 = .ok (.getfield 27, 3) := by decide +kernel
theorem dX12_init_863 : decode cX12_init 863 = .ok (.bipush 27, 2) := by decide +kernel
theorem dX12_init_865 : decode cX12_init 865 = .ok (.ldc_w 286, 3) := by decide +kernel
theorem dX12_init_868 : decode cX12_init 868 = .ok (.invokestatic 250, 3) := by decide +kernel
theorem dX12_init_871 : decode cX12_init 871 = .ok (.lastore, 1) := by decide +kernel
theorem dX12_init_872 : decode cX12_init 872 = .ok (.aload_n 0, 1) := by decide +kernel
theorem dX12_init_873 : decode cX12_init 873 = .ok (.getfield 27, 3) := by decide +kernel
theorem dX12_init_876 : decode cX12_init 876 = .ok (.bipush 28, 2) := by decide +kernel
theorem dX12_init_878 : decode cX12_init 878 = .ok (.ldc_w 288, 3) := by decide +kernel
theorem dX12_init_881 : decode cX12_init 881 = .ok (.invokestatic 250, 3) := by decide +kernel
theorem dX12_init_884 : decode cX12_init 884 = .ok (.lastore, 1) := by decide +kernel
theorem dX12_init_885 : decode cX12_init 885 = .ok (.aload_n 0, 1) := by decide +kernel
theorem dX12_init_886 : decode cX12_init 886 = .ok (.getfield 27, 3) := by decide +kernel
theorem dX12_init_889 : decode cX12_init 889 = .ok (.bipush 29, 2) := by decide +kernel
theorem dX12_init_891 : decode cX12_init 891 = .ok (.ldc_w 290, 3) := by decide +kernel
theorem dX12_init_894 : decode cX12_init 894 = .ok (.invokestatic 250, 3) := by decide +kernel
theorem dX12_init_897 : decode cX12_init 897 = .ok (.lastore, 1) := by decide +kernel
theorem dX12_init_898 : decode cX12_init 898 = .ok (.aload_n 0, 1) := by decide +kernel
theorem dX12_init_899 : decode cX12_init 899 = .ok (.getfield 27, 3) := by decide +kernel
theorem dX12_init_902 : decode cX12_init 902 = .ok (.bipush 30, 2) := by decide +kernel
theorem dX12_init_904 : decode cX12_init 904 = .ok (.ldc_w 292, 3) := by decide +kernel
theorem dX12_init_907 : decode cX12_init 907 = .ok (.invokestatic 250, 3) := by decide +kernel
theorem dX12_init_910 : decode cX12_init 910 = .ok (.lastore, 1) := by decide +kernel
theorem dX12_init_911 : decode cX12_init 911 = .ok (.aload_n 0, 1) := by decide +kernel
theorem dX12_init_912 : decode cX12_init 912 = .ok (.getfield 27, 3) := by decide +kernel
theorem dX12_init_915 : decode cX12_init 915 = .ok (.bipush 31, 2) := by decide +kernel
theorem dX12_init_917 : decode cX12_init 917 = .ok (.ldc_w 294, 3) := by decide +kernel
theorem dX12_init_920 : decode cX12_init 920 = .ok (.invokestatic 250, 3) := by decide +kernel
theorem dX12_init_923 : decode cX12_init 923 = .ok (.lastore, 1) := by decide +kernel
theorem dX12_init_924 : decode cX12_init 924 = .ok (.aload_n 0, 1) := by decide +kernel
theorem dX12_init_925 : decode cX12_init 925 = .ok (.getfield 27, 3) := by decide +kernel
theorem dX12_init_928 : decode cX12_init 928 = .ok (.bipush 32, 2) := by decide +kernel
theorem dX12_init_930 : decode cX12_init 930 = .ok (.ldc_w 296, 3) := by decide +kernel
theorem dX12_init_933 : decode cX12_init 933 = .ok (.invokestatic 250, 3) := by decide +kernel
theorem dX12_init_936 : decode cX12_init 936 = .ok (.lastore, 1) := by decide +kernel
theorem dX12_init_937 : decode cX12_init 937 = .ok (.aload_n 0, 1) := by decide +kernel
theorem dX12_init_938 : decode cX12_init 938 = .ok (.getfield 27, 3) := by decide +kernel
theorem dX12_init_941 : decode cX12_init 941 = .ok (.bipush 33, 2) := by decide +kernel
theorem dX12_init_943 : decode cX12_init 943 = .ok (.ldc_w 298, 3) := by decide +kernel
theorem dX12_init_946 : decode cX12_init 946 = .ok (.invokestatic 250, 3) := by decide +kernel
theorem dX12_init_949 : decode cX12_init 949 = .ok (.lastore, 1) := by decide +kernel
theorem dX12_init_950 : decode cX12_init 950 = .ok (.aload_n 0, 1) := by decide +kernel
theorem dX12_init_951 : decode cX12_init 951 = .ok (.getfield 27, 3) := by decide +kernel
theorem dX12_init_954 : decode cX12_init 954 = .ok (.bipush 34, 2) := by decide +kernel
theorem dX12_init_956 : decode cX12_init 956 = .ok (.ldc_w 300, 3) := by decide +kernel
theorem dX12_init_959 : decode cX12_init 959 = .ok (.invokestatic 250, 3) := by decide +kernel
theorem dX12_init_962 : decode cX12_init 962 = .ok (.lastore, 1) := by decide +kernel
theorem dX12_init_963 : decode cX12_init 963 = .ok (.aload_n 0, 1) := by decide +kernel
theorem dX12_init_964 : decode cX12_init 964 = .ok (.getfield 27, 3) := by decide +kernel
theorem dX12_init_967 : decode cX12_init 967 = .ok (.bipush 35, 2) := by decide +kernel
theorem dX12_init_969 : decode cX12_init 969 = .ok (.ldc_w 302, 3) := by decide +kernel
theorem dX12_init_972 : decode cX12_init 972 = .ok (.invokestatic 250, 3) := by decide +kernel
theorem dX12_init_975 : decode cX12_init 975 = .ok (.lastore, 1) := by decide +kernel
theorem dX12_init_976 : decode cX12_init 976 = .ok (.aload_n 0, 1) := by decide +kernel
theorem dX12_init_977 : decode cX12_init 977 = .ok (.getfield 27, 3) := by decide +kernel
theorem dX12_init_980 : decode cX12_init 980 = .ok (.bipush 36, 2) := by decide +kernel
theorem dX12_init_982 : decode cX12_init 982 = .ok (.ldc_w 304, 3) := by decide +kernel
theorem dX12_init_985 : decode cX12_init 985 = .ok (.invokestatic 250, 3) := by decide +kernel
theorem dX12_init_988 : decode cX12_init 988 = .ok (.lastore, 1) := by decide +kernel
theorem dX12_init_989 : decode cX12_init 989 = .ok (.aload_n 0, 1) := by decide +kernel
theorem dX12_init_990 : decode cX12_init 990 = .ok (.getfield 27, 3) := by decide +kernel
theorem dX12_init_993 : decode cX12_init 993 = .ok (.bipush 37, 2) := by decide +kernel
theorem dX12_init_995 : decode cX12_init 995 = .ok (.ldc_w 306, 3) := by decide +kernel
theorem dX12_init_998 : decode cX12_init 998 = .ok (.invokestatic 250, 3) := by decide +kernel
theorem dX12_init_1001 : decode cX12_init 1001 = .ok (.lastore, 1) := by decide +kernel
theorem dX12_init_1002 : decode cX12_init 1002 = .ok (.aload_n 0, 1) := by decide +kernel
theorem dX12_init_1003 : decode cX12_init 1003 = .ok (.getfield 27, 3) := by decide +kernel
theorem dX12_init_1006 : decode cX12_init 1006 = .ok (.bipush 38, 2) := by decide +kernel
theorem dX12_init_1008 : decode cX12_init 1008 = .ok (.ldc_w 308, 3) := by decide +kernel
theorem dX12_init_1011 : decode cX12_init 1011 = .ok (.invokestatic 250, 3) := by decide +kernel
theorem dX12_init_1014 : decode cX12_init 1014 = .ok (.lastore, 1) := by decide +kernel
theorem dX12_init_1015 : decode cX12_init 1015 = .ok (.aload_n 0, 1) := by decide +kernel
theorem dX12_init_1016 : decode cX12_init 1016 = .ok (.getfield 27, 3) := by decide +kernel
theorem dX12_init_1019 : decode cX12_init 1019 = .ok (.bipush 39, 2) := by decide +kernel
theorem dX12_init_1021 : decode cX12_init 1021 = .ok (.ldc_w 309, 3) := by decide +kernel
theorem dX12_init_1024 : decode cX12_init 1024 = .ok (.invokestatic 250, 3) := by decide +kernel
theorem dX12_init_1027 : decode cX12_init 1027 = .ok (.lastore, 1) := by decide +kernel
theorem dX12_init_1028 : decode cX12_init 1028 = .ok (.aload_n 0, 1) := by decide +kernel
theorem dX12_init_1029 : decode cX12_init 1029 = .ok (.getfield 27, 3) := by decide +kernel
theorem dX12_init_1032 : decode cX12_init 1032 = .ok (.bipush 40, 2) := by decide +kernel
theorem dX12_init_1034 : decode cX12_init 1034 = .ok (.ldc_w 311, 3) := by decide +kernel
theorem dX12_init_1037 : decode cX12_init 1037 = .ok (.invokestatic 250, 3) := by decide +kernel
theorem dX12_init_1040 : decode cX12_init 1040 = .ok (.lastore, 1) := by decide +kernel
theorem dX12_init_1041 : decode cX12_init 1041 = .ok (.aload_n 0, 1) := by decide +kernel
theorem dX12_init_1042 : decode cX12_init 1042 = .ok (.getfield 27, 3) := by decide +kernel
theorem dX12_init_1045 : decode cX12_init 1045 = .ok (.bipush 41, 2) := by decide +kernel
theorem dX12_init_1047 : decode cX12_init 1047 = .ok (.ldc_w 313, 3) := by decide +kernel
theorem dX12_init_1050 : decode cX12_init 1050 = .ok (.invokestatic 250, 3) := by decide +kernel
theorem dX12_init_1053 : decode cX12_init 1053 = .ok (.lastore, 1) := by decide +kernel
theorem dX12_init_1054 : decode cX12_init 1054 = .ok (.aload_n 0, 1) := by decide +kernel
theorem dX12_init_1055 : decode cX12_init 1055 = .ok (.getfield 27, 3) := by decide +kernel
theorem dX12_init_1058 : decode cX12_init 1058 = .ok (.bipush 42, 2) := by decide +kernel
theorem dX12_init_1060 : decode cX12_init 1060 = .ok (.ldc_w 315, 3) := by decide +kernel
theorem dX12_init_1063 : decode cX12_init 1063 = .ok (.invokestatic 250, 3) := by decide +kernel
theorem dX12_init_1066 : decode cX12_init 1066 = .ok (.lastore, 1) := by decide +kernel
theorem dX12_init_1067 : decode cX12_init 1067 = .ok (.aload_n 0, 1) := by decide +kernel
theorem dX12_init_1068 : decode cX12_init 1068 = .ok (.getfield 27, 3) := by decide +kernel
theorem dX12_init_1071 : decode cX12_init 1071 = .ok (.bipush 43, 2) := by decide +kernel
theorem dX12_init_1073 : decode cX12_init 1073 = .ok (.ldc_w 316, 3) := by decide +kernel
theorem dX12_init_1076 : decode cX12_init 1076 = .ok (.invokestatic 250, 3) := by decide +kernel
theorem dX12_init_1079 : decode cX12_init 1079 = .ok (.lastore, 1) := by decide +kernel
theorem dX12_init_1080 : decode cX12_init 1080 = .ok (.aload_n 0, 1) := by decide +kernel
theorem dX12_init_1081 : decode cX12_init 1081 = .ok (.getfield 27, 3) := by decide +kernel
theorem dX12_init_1084 : decode cX12_init 1084 = .ok (.bipush 44, 2) := by decide +kernel
theorem dX12_init_1086 : decode cX12_init 1086 = .ok (.ldc_w 318, 3) := by decide +kernel
theorem dX12_init_1089 : decode cX12_init 1089 = .ok (.invokestatic 250, 3) := by decide +kernel
theorem dX12_init_1092 : decode cX12_init 1092 = .ok (.lastore, 1) := by decide +kernel
theorem dX12_init_1093 : decode cX12_init 1093 = .ok (.aload_n 0, 1) := by decide +kernel
theorem dX12_init_1094 : decode cX12_init 1094 = .ok (.getfield 27, 3) := by decide +kernel
theorem dX12_init_1097 : decode cX12_init 1097 = .ok (.bipush 45, 2) := by decide +kernel
theorem dX12_init_1099 : decode cX12_init 1099 = .ok (.ldc_w 320, 3) := by decide +kernel
theorem dX12_init_1102 : decode cX12_init 1102 = .ok (.invokestatic 250, 3) := by decide +kernel
theorem dX12_init_1105 : decode cX12_init 1105 = .ok (.lastore, 1) := by decide +kernel
theorem dX12_init_1106 : decode cX12_init 1106 = .ok (.aload_n 0, 1) := by decide +kernel
theorem dX12_init_1107 : decode cX12_init 1107 = .ok (.getfield 27, 3) := by decide +kernel
theorem dX12_init_1110 : decode cX12_init 1110 = .ok (.bipush 46, 2) := by decide +kernel
theorem dX12_init_1112 : decode cX12_init 1112 = .ok (.ldc_w 322, 3) := by decide +kernel
theorem dX12_init_1115 : decode cX12_init 1115 = .ok (.invokestatic 250, 3) := by decide +kernel
theorem dX12_init_1118 : decode cX12_init 1118 = .ok (.lastore, 1) := by decide +kernel
theorem dX12_init_1119 : decode cX12_init 1119 = .ok (.aload_n 0, 1) := by decide +kernel
theorem dX12_init_1120 : decode cX12_init 1120 = .ok (.getfield 27, 3) := by decide +kernel
theorem dX12_init_1123 : decode cX12_init 1123 = .ok (.bipush 47, 2) := by decide +kernel
theorem dX12_init_1125 : decode cX12_init 1125 = .ok (.ldc_w 324, 3) := by decide +kernel
theorem dX12_init_1128 : decode cX12_init 1128 = .ok (.invokestatic 250, 3) := by decide +kernel
theorem dX12_init_1131 : decode cX12_init 1131 = .ok (.lastore, 1) := by decide +kernel
theorem dX12_init_1132 : decode cX12_init 1132 = .ok (.aload_n 0, 1) := by decide +kernel
theorem dX12_init_1133 : decode cX12_init 1133 = .ok (.getfield 27, 3) := by decide +kernel
theorem dX12_init_1136 : decode cX12_init 1136 = .ok (.bipush 48, 2) := by decide +kernel
theorem dX12_init_1138 : decode cX12_init 1138 = .ok (.ldc_w 326, 3) := by decide +kernel
theorem dX12_init_1141 : decode cX12_init 1141 = .ok (.invokestatic 250, 3) := by decide +kernel
theorem dX12_init_1144 : decode cX12_init 1144 = .ok (.lastore, 1) := by decide +kernel
theorem dX12_init_1145 : decode cX12_init 1145 = .ok (.aload_n 0, 1) := by decide +kernel
theorem dX12_init_1146 : decode cX12_init 1146 = .ok (.getfield 27, 3) := by decide +kernel
theorem dX12_init_1149 : decode cX12_init 1149 = .ok (.bipush 49, 2) := by decide +kernel
theorem dX12_init_1151 : decode cX12_init 1151 = .ok (.ldc_w 328, 3) := by decide +kernel
theorem dX12_init_1154 : decode cX12_init 1154 = .ok (.invokestatic 250, 3) := by decide +kernel
theorem dX12_init_1157 : decode cX12_init 1157 = .ok (.lastore, 1) := by decide +kernel
theorem dX12_init_1158 : decode cX12_init 1158 = .ok (.return_, 1) := by decide +kernel
def wX12_init (a0 : Nat) (S : kp_S) (post : kp_S → Prop) : Prop :=
  ∀ (b1 : Nat) (T2 : kp_S), b1 ∉ kp_L S → T2 = kp_newA S b1 14 3000 →
  ∀ T3 : kp_S, T3 = kp_sR T2 2401 a0 b1 →
  ∀ (b4 : Nat) (T5 : kp_S), b4 ∉ kp_L T3 → T5 = kp_newA T3 b4 15 50 →
  ∀ T6 : kp_S, T6 = kp_sR T5 2403 a0 b4 →
  ∀ (b7 : Nat) (T8 : kp_S), b7 ∉ kp_L T6 → T8 = kp_newA T6 b7 14 3002 →
  ∀ T9 : kp_S, T9 = kp_sR T8 2404 a0 b7 →
  ∀ (b10 : Nat) (T11 : kp_S), b10 ∉ kp_L T9 → T11 = kp_newA T9 b10 14 3002 →
  ∀ T12 : kp_S, T12 = kp_sR T11 2405 a0 b10 →
  ∀ (b13 : Nat) (T14 : kp_S), b13 ∉ kp_L T12 → T14 = kp_newA T12 b13 15 3002 →
  ∀ T15 : kp_S, T15 = kp_sR T14 2406 a0 b13 →
  ∀ T16 : kp_S, T16 = kp_sI T15 2409 a0 (-1) →
  ∀ (b17 : Nat) (T18 : kp_S), b17 ∉ kp_L T16 → T18 = kp_newA T16 b17 14 4000 →
  ∀ T19 : kp_S, T19 = kp_sR T18 2414 a0 b17 →
  ∀ (b20 : Nat) (T21 : kp_S), b20 ∉ kp_L T19 → T21 = kp_newA T19 b20 14 4000 →
  ∀ T22 : kp_S, T22 = kp_sR T21 2415 a0 b20 →
  ∀ (b23 : Nat) (T24 : kp_S), b23 ∉ kp_L T22 → T24 = kp_newA T22 b23 14 4000 →
  ∀ T25 : kp_S, T25 = kp_sR T24 2416 a0 b23 →
  ∀ (b26 : Nat) (T27 : kp_S), b26 ∉ kp_L T25 → T27 = kp_newA T25 b26 14 640 →
  ∀ T28 : kp_S, T28 = kp_sR T27 2418 a0 b26 →
  ∀ (b29 : Nat) (T30 : kp_S), b29 ∉ kp_L T28 → T30 = kp_newA T28 b29 14 640 →
  ∀ T31 : kp_S, T31 = kp_sR T30 2419 a0 b29 →
  ∀ (b32 : Nat) (T33 : kp_S), b32 ∉ kp_L T31 → T33 = kp_newA T31 b32 14 640 →
  ∀ T34 : kp_S, T34 = kp_sR T33 2420 a0 b32 →
  ∀ (b35 : Nat) (T36 : kp_S), b35 ∉ kp_L T34 → T36 = kp_newA T34 b35 14 640 →
  ∀ T37 : kp_S, T37 = kp_sR T36 2421 a0 b35 →
  ∀ (b38 : Nat) (T39 : kp_S), b38 ∉ kp_L T37 → T39 = kp_newA T37 b38 14 640 →
  ∀ T40 : kp_S, T40 = kp_sR T39 2422 a0 b38 →
  ∀ (b41 : Nat) (T42 : kp_S), b41 ∉ kp_L T40 → T42 = kp_newA T40 b41 14 640 →
  ∀ T43 : kp_S, T43 = kp_sR T42 2423 a0 b41 →
  ∀ (b44 : Nat) (T45 : kp_S), b44 ∉ kp_L T43 → T45 = kp_newA T43 b44 15 320 →
  ∀ T46 : kp_S, T46 = kp_sR T45 2427 a0 b44 →
  ∀ (b47 : Nat) (T48 : kp_S), b47 ∉ kp_L T46 → T48 = kp_newA T46 b47 14 320 →
  ∀ T49 : kp_S, T49 = kp_sR T48 2428 a0 b47 →
  ∀ (b50 : Nat) (T51 : kp_S), b50 ∉ kp_L T49 → T51 = kp_newA T49 b50 14 320 →
  ∀ T52 : kp_S, T52 = kp_sR T51 2429 a0 b50 →
  ∀ (b53 : Nat) (T54 : kp_S), b53 ∉ kp_L T52 → T54 = kp_newA T52 b53 14 320 →
  ∀ T55 : kp_S, T55 = kp_sR T54 2430 a0 b53 →
  ∀ (b56 : Nat) (T57 : kp_S), b56 ∉ kp_L T55 → T57 = kp_newA T55 b56 14 320 →
  ∀ T58 : kp_S, T58 = kp_sR T57 2431 a0 b56 →
  ∀ (b59 : Nat) (T60 : kp_S), b59 ∉ kp_L T58 → T60 = kp_newA T58 b59 14 320 →
  ∀ T61 : kp_S, T61 = kp_sR T60 2432 a0 b59 →
  ∀ (b62 : Nat) (T63 : kp_S), b62 ∉ kp_L T61 → T63 = kp_newA T61 b62 15 1600 →
  ∀ T64 : kp_S, T64 = kp_sR T63 2434 a0 b62 →
  ∀ (b65 : Nat) (T66 : kp_S), b65 ∉ kp_L T64 → T66 = kp_newA T64 b65 14 1600 →
  ∀ T67 : kp_S, T67 = kp_sR T66 2435 a0 b65 →
  ∀ (b68 : Nat) (T69 : kp_S), b68 ∉ kp_L T67 → T69 = kp_newA T67 b68 14 1600 →
  ∀ T70 : kp_S, T70 = kp_sR T69 2436 a0 b68 →
  ∀ (b71 : Nat) (T72 : kp_S), b71 ∉ kp_L T70 → T72 = kp_newA T70 b71 14 1600 →
  ∀ T73 : kp_S, T73 = kp_sR T72 2437 a0 b71 →
  ∀ (b74 : Nat) (T75 : kp_S), b74 ∉ kp_L T73 → T75 = kp_newA T73 b74 15 1600 →
  ∀ T76 : kp_S, T76 = kp_sR T75 2439 a0 b74 →
  ∀ (b77 : Nat) (T78 : kp_S), b77 ∉ kp_L T76 → T78 = kp_newA T76 b77 14 1600 →
  ∀ T79 : kp_S, T79 = kp_sR T78 2440 a0 b77 →
  ∀ (b80 : Nat) (T81 : kp_S), b80 ∉ kp_L T79 → T81 = kp_newA T79 b80 15 20 →
  ∀ T82 : kp_S, T82 = kp_sR T81 2443 a0 b80 →
  ∀ (b83 : Nat) (T84 : kp_S), b83 ∉ kp_L T82 → T84 = kp_newA T82 b83 14 20 →
  ∀ T85 : kp_S, T85 = kp_sR T84 2444 a0 b83 →
  ∀ (b86 : Nat) (T87 : kp_S), b86 ∉ kp_L T85 → T87 = kp_newA T85 b86 14 4000 →
  ∀ T88 : kp_S, T88 = kp_sR T87 2448 a0 b86 →
  ∀ (b89 : Nat) (T90 : kp_S), b89 ∉ kp_L T88 → T90 = kp_newA T88 b89 14 4000 →
  ∀ T91 : kp_S, T91 = kp_sR T90 2449 a0 b89 →
  ∀ (b92 : Nat) (T93 : kp_S), b92 ∉ kp_L T91 → T93 = kp_newA T91 b92 14 4000 →
  ∀ T94 : kp_S, T94 = kp_sR T93 2450 a0 b92 →
  ∀ (b95 : Nat) (T96 : kp_S), b95 ∉ kp_L T94 → T96 = kp_newA T94 b95 14 640 →
  ∀ T97 : kp_S, T97 = kp_sR T96 2451 a0 b95 →
  ∀ (b98 : Nat) (T99 : kp_S), b98 ∉ kp_L T97 → T99 = kp_newA T97 b98 14 640 →
  ∀ T100 : kp_S, T100 = kp_sR T99 2452 a0 b98 →
  ∀ (b101 : Nat) (T102 : kp_S), b101 ∉ kp_L T100 → T102 = kp_newA T100 b101 14 640 →
  ∀ T103 : kp_S, T103 = kp_sR T102 2453 a0 b101 →
  ∀ (b104 : Nat) (T105 : kp_S), b104 ∉ kp_L T103 → T105 = kp_newA T103 b104 14 640 →
  ∀ T106 : kp_S, T106 = kp_sR T105 2454 a0 b104 →
  ∀ (b107 : Nat) (T108 : kp_S), b107 ∉ kp_L T106 → T108 = kp_newA T106 b107 14 640 →
  ∀ T109 : kp_S, T109 = kp_sR T108 2455 a0 b107 →
  ∀ (b110 : Nat) (T111 : kp_S), b110 ∉ kp_L T109 → T111 = kp_newA T109 b110 14 640 →
  ∀ T112 : kp_S, T112 = kp_sR T111 2456 a0 b110 →
  ∀ (b113 : Nat) (T114 : kp_S), b113 ∉ kp_L T112 → T114 = kp_newA T112 b113 14 30 →
  ∀ T115 : kp_S, T115 = kp_sR T114 2457 a0 b113 →
  ∀ (b116 : Nat) (T117 : kp_S), b116 ∉ kp_L T115 → T117 = kp_newA T115 b116 14 30 →
  ∀ T118 : kp_S, T118 = kp_sR T117 2458 a0 b116 →
  ∀ (b119 : Nat) (T120 : kp_S), b119 ∉ kp_L T118 → T120 = kp_newA T118 b119 14 30 →
  ∀ T121 : kp_S, T121 = kp_sR T120 2459 a0 b119 →
  ∀ (b122 : Nat) (T123 : kp_S), b122 ∉ kp_L T121 → T123 = kp_newA T121 b122 14 30 →
  ∀ T124 : kp_S, T124 = kp_sR T123 2460 a0 b122 →
  ∀ (b125 : Nat) (T126 : kp_S), b125 ∉ kp_L T124 → T126 = kp_newA T124 b125 14 30 →
  ∀ T127 : kp_S, T127 = kp_sR T126 2461 a0 b125 →
  ∀ (b128 : Nat) (T129 : kp_S), b128 ∉ kp_L T127 → T129 = kp_newA T127 b128 14 6 →
  ∀ T130 : kp_S, T130 = kp_sR T129 2463 a0 b128 →
  ∀ (b131 : Nat) (T132 : kp_S), b131 ∉ kp_L T130 → T132 = kp_newA T130 b131 16 12 →
  ∀ T133 : kp_S, T133 = kp_sR T132 2464 a0 b131 →
  ∀ (b134 : Nat) (T135 : kp_S), b134 ∉ kp_L T133 → T135 = kp_newA T133 b134 14 6 →
  ∀ T136 : kp_S, T136 = kp_sR T135 2465 a0 b134 →
  ∀ (b137 : Nat) (T138 : kp_S), b137 ∉ kp_L T136 → T138 = kp_newA T136 b137 14 7 →
  ∀ T139 : kp_S, T139 = kp_sR T138 2466 a0 b137 →
  ∀ (b140 : Nat) (T141 : kp_S), b140 ∉ kp_L T139 → T141 = kp_newA T139 b140 14 8 →
  ∀ T142 : kp_S, T142 = kp_sR T141 2467 a0 b140 →
  ∀ (b143 : Nat) (T144 : kp_S), b143 ∉ kp_L T142 → T144 = kp_newA T142 b143 14 300 →
  ∀ T145 : kp_S, T145 = kp_sR T144 2468 a0 b143 →
  ∀ (b146 : Nat) (T147 : kp_S), b146 ∉ kp_L T145 → T147 = kp_newA T145 b146 14 300 →
  ∀ T148 : kp_S, T148 = kp_sR T147 2469 a0 b146 →
  ∀ (b149 : Nat) (T150 : kp_S), b149 ∉ kp_L T148 → T150 = kp_newA T148 b149 14 240 →
  ∀ T151 : kp_S, T151 = kp_sR T150 2488 a0 b149 →
  ∀ (b152 : Nat) (T153 : kp_S), b152 ∉ kp_L T151 → T153 = kp_newA T151 b152 14 240 →
  ∀ T154 : kp_S, T154 = kp_sR T153 2489 a0 b152 →
  ∀ (b155 : Nat) (T156 : kp_S), b155 ∉ kp_L T154 → T156 = kp_newA T154 b155 14 240 →
  ∀ T157 : kp_S, T157 = kp_sR T156 2490 a0 b155 →
  ∀ (b158 : Nat) (T159 : kp_S), b158 ∉ kp_L T157 → T159 = kp_newA T157 b158 14 240 →
  ∀ T160 : kp_S, T160 = kp_sR T159 2491 a0 b158 →
  ∀ (b161 : Nat) (T162 : kp_S), b161 ∉ kp_L T160 → T162 = kp_newA T160 b161 14 240 →
  ∀ T163 : kp_S, T163 = kp_sR T162 2492 a0 b161 →
  ∀ (b164 : Nat) (T165 : kp_S), b164 ∉ kp_L T163 → T165 = kp_newA T163 b164 15 240 →
  ∀ T166 : kp_S, T166 = kp_sR T165 2493 a0 b164 →
  ∀ (b167 : Nat) (T168 : kp_S), b167 ∉ kp_L T166 → T168 = kp_newA T166 b167 15 240 →
  ∀ T169 : kp_S, T169 = kp_sR T168 2494 a0 b167 →
  ∀ (b170 : Nat) (T171 : kp_S), b170 ∉ kp_L T169 → T171 = kp_newA T169 b170 14 240 →
  ∀ T172 : kp_S, T172 = kp_sR T171 2495 a0 b170 →
  ∀ (b173 : Nat) (T174 : kp_S), b173 ∉ kp_L T172 → T174 = kp_newA T172 b173 14 240 →
  ∀ T175 : kp_S, T175 = kp_sR T174 2496 a0 b173 →
  ∀ (b176 : Nat) (T177 : kp_S), b176 ∉ kp_L T175 → T177 = kp_newA T175 b176 14 240 →
  ∀ T178 : kp_S, T178 = kp_sR T177 2497 a0 b176 →
  ∀ (b179 : Nat) (T180 : kp_S), b179 ∉ kp_L T178 → T180 = kp_newA T178 b179 14 240 →
  ∀ T181 : kp_S, T181 = kp_sR T180 2498 a0 b179 →
  ∀ (b182 : Nat) (T183 : kp_S), b182 ∉ kp_L T181 → T183 = kp_newA T181 b182 14 240 →
  ∀ T184 : kp_S, T184 = kp_sR T183 2499 a0 b182 →
  ∀ (b185 : Nat) (T186 : kp_S), b185 ∉ kp_L T184 → T186 = kp_newA T184 b185 14 240 →
  ∀ T187 : kp_S, T187 = kp_sR T186 2500 a0 b185 →
  ∀ (b188 : Nat) (T189 : kp_S), b188 ∉ kp_L T187 → T189 = kp_newA T187 b188 14 13 →
  ∀ T190 : kp_S, T190 = kp_sR T189 2502 a0 b188 →
  ∀ (b191 : Nat) (T192 : kp_S), b191 ∉ kp_L T190 → T192 = kp_newA T190 b191 14 13 →
  ∀ T193 : kp_S, T193 = kp_sR T192 2503 a0 b191 →
  ∀ (b194 : Nat) (T195 : kp_S), b194 ∉ kp_L T193 → T195 = kp_newA T193 b194 14 13 →
  ∀ T196 : kp_S, T196 = kp_sR T195 2504 a0 b194 →
  ∀ (b197 : Nat) (T198 : kp_S), b197 ∉ kp_L T196 → T198 = kp_newA T196 b197 14 13 →
  ∀ T199 : kp_S, T199 = kp_sR T198 2505 a0 b197 →
  ∀ (b200 : Nat) (T201 : kp_S), b200 ∉ kp_L T199 → T201 = kp_newA T199 b200 14 13 →
  ∀ T202 : kp_S, T202 = kp_sR T201 2506 a0 b200 →
  ∀ (b203 : Nat) (T204 : kp_S), b203 ∉ kp_L T202 → T204 = kp_newA T202 b203 14 520 →
  ∀ T205 : kp_S, T205 = kp_sR T204 2507 a0 b203 →
  ∀ (b206 : Nat) (T207 : kp_S), b206 ∉ kp_L T205 → T207 = kp_newA T205 b206 14 520 →
  ∀ T208 : kp_S, T208 = kp_sR T207 2508 a0 b206 →
  ∀ (b209 : Nat) (T210 : kp_S), b209 ∉ kp_L T208 → T210 = kp_newA T208 b209 14 312 →
  ∀ T211 : kp_S, T211 = kp_sR T210 2509 a0 b209 →
  ∀ (b212 : Nat) (T213 : kp_S), b212 ∉ kp_L T211 → T213 = kp_newA T211 b212 14 4000 →
  ∀ T214 : kp_S, T214 = kp_sR T213 2515 a0 b212 →
  ∀ T215 : kp_S, T215 = kp_sI T214 2517 a0 (-1) →
  ∀ T216 : kp_S, T216 = kp_sI T215 2522 a0 (-1) →
  ∃ b217 : Nat, kp_R T216 2403 a0 = some b217 ∧
  wX12_packed 2 T216 (fun z219 T218 =>
  vp_in ((10 : Int32)) (kp_N T218 b217) ∧ ∀ T220 : kp_S, T220 = kp_sB T218 b217 (vp_updL (kp_B T218 b217) (((10 : Int32)).toNatClampNeg) z219) →
  ∃ b221 : Nat, kp_R T220 2403 a0 = some b221 ∧
  wX12_packed 3 T220 (fun z223 T222 =>
  vp_in ((11 : Int32)) (kp_N T222 b221) ∧ ∀ T224 : kp_S, T224 = kp_sB T222 b221 (vp_updL (kp_B T222 b221) (((11 : Int32)).toNatClampNeg) z223) →
  ∃ b225 : Nat, kp_R T224 2403 a0 = some b225 ∧
  wX12_packed 4 T224 (fun z227 T226 =>
  vp_in ((12 : Int32)) (kp_N T226 b225) ∧ ∀ T228 : kp_S, T228 = kp_sB T226 b225 (vp_updL (kp_B T226 b225) (((12 : Int32)).toNatClampNeg) z227) →
  ∃ b229 : Nat, kp_R T228 2403 a0 = some b229 ∧
  wX12_packed 5 T228 (fun z231 T230 =>
  vp_in ((13 : Int32)) (kp_N T230 b229) ∧ ∀ T232 : kp_S, T232 = kp_sB T230 b229 (vp_updL (kp_B T230 b229) (((13 : Int32)).toNatClampNeg) z231) →
  ∃ b233 : Nat, kp_R T232 2403 a0 = some b233 ∧
  wX12_packed 6 T232 (fun z235 T234 =>
  vp_in ((14 : Int32)) (kp_N T234 b233) ∧ ∀ T236 : kp_S, T236 = kp_sB T234 b233 (vp_updL (kp_B T234 b233) (((14 : Int32)).toNatClampNeg) z235) →
  ∃ b237 : Nat, kp_R T236 2403 a0 = some b237 ∧
  wX12_packed 7 T236 (fun z239 T238 =>
  vp_in ((15 : Int32)) (kp_N T238 b237) ∧ ∀ T240 : kp_S, T240 = kp_sB T238 b237 (vp_updL (kp_B T238 b237) (((15 : Int32)).toNatClampNeg) z239) →
  ∃ b241 : Nat, kp_R T240 2403 a0 = some b241 ∧
  wX12_packed 8 T240 (fun z243 T242 =>
  vp_in ((16 : Int32)) (kp_N T242 b241) ∧ ∀ T244 : kp_S, T244 = kp_sB T242 b241 (vp_updL (kp_B T242 b241) (((16 : Int32)).toNatClampNeg) z243) →
  ∃ b245 : Nat, kp_R T244 2403 a0 = some b245 ∧
  wX12_packed 9 T244 (fun z247 T246 =>
  vp_in ((17 : Int32)) (kp_N T246 b245) ∧ ∀ T248 : kp_S, T248 = kp_sB T246 b245 (vp_updL (kp_B T246 b245) (((17 : Int32)).toNatClampNeg) z247) →
  ∃ b249 : Nat, kp_R T248 2403 a0 = some b249 ∧
  wX12_packed 10 T248 (fun z251 T250 =>
  vp_in ((18 : Int32)) (kp_N T250 b249) ∧ ∀ T252 : kp_S, T252 = kp_sB T250 b249 (vp_updL (kp_B T250 b249) (((18 : Int32)).toNatClampNeg) z251) →
  ∃ b253 : Nat, kp_R T252 2403 a0 = some b253 ∧
  wX12_packed 11 T252 (fun z255 T254 =>
  vp_in ((19 : Int32)) (kp_N T254 b253) ∧ ∀ T256 : kp_S, T256 = kp_sB T254 b253 (vp_updL (kp_B T254 b253) (((19 : Int32)).toNatClampNeg) z255) →
  ∃ b257 : Nat, kp_R T256 2403 a0 = some b257 ∧
  wX12_packed 12 T256 (fun z259 T258 =>
  vp_in ((20 : Int32)) (kp_N T258 b257) ∧ ∀ T260 : kp_S, T260 = kp_sB T258 b257 (vp_updL (kp_B T258 b257) (((20 : Int32)).toNatClampNeg) z259) →
  ∃ b261 : Nat, kp_R T260 2403 a0 = some b261 ∧
  wX12_packed 13 T260 (fun z263 T262 =>
  vp_in ((21 : Int32)) (kp_N T262 b261) ∧ ∀ T264 : kp_S, T264 = kp_sB T262 b261 (vp_updL (kp_B T262 b261) (((21 : Int32)).toNatClampNeg) z263) →
  ∃ b265 : Nat, kp_R T264 2403 a0 = some b265 ∧
  wX12_packed 14 T264 (fun z267 T266 =>
  vp_in ((22 : Int32)) (kp_N T266 b265) ∧ ∀ T268 : kp_S, T268 = kp_sB T266 b265 (vp_updL (kp_B T266 b265) (((22 : Int32)).toNatClampNeg) z267) →
  ∃ b269 : Nat, kp_R T268 2403 a0 = some b269 ∧
  wX12_packed 15 T268 (fun z271 T270 =>
  vp_in ((23 : Int32)) (kp_N T270 b269) ∧ ∀ T272 : kp_S, T272 = kp_sB T270 b269 (vp_updL (kp_B T270 b269) (((23 : Int32)).toNatClampNeg) z271) →
  ∃ b273 : Nat, kp_R T272 2403 a0 = some b273 ∧
  wX12_packed 16 T272 (fun z275 T274 =>
  vp_in ((24 : Int32)) (kp_N T274 b273) ∧ ∀ T276 : kp_S, T276 = kp_sB T274 b273 (vp_updL (kp_B T274 b273) (((24 : Int32)).toNatClampNeg) z275) →
  ∃ b277 : Nat, kp_R T276 2403 a0 = some b277 ∧
  wX12_packed 17 T276 (fun z279 T278 =>
  vp_in ((25 : Int32)) (kp_N T278 b277) ∧ ∀ T280 : kp_S, T280 = kp_sB T278 b277 (vp_updL (kp_B T278 b277) (((25 : Int32)).toNatClampNeg) z279) →
  ∃ b281 : Nat, kp_R T280 2403 a0 = some b281 ∧
  wX12_packed 18 T280 (fun z283 T282 =>
  vp_in ((26 : Int32)) (kp_N T282 b281) ∧ ∀ T284 : kp_S, T284 = kp_sB T282 b281 (vp_updL (kp_B T282 b281) (((26 : Int32)).toNatClampNeg) z283) →
  ∃ b285 : Nat, kp_R T284 2403 a0 = some b285 ∧
  wX12_packed 19 T284 (fun z287 T286 =>
  vp_in ((27 : Int32)) (kp_N T286 b285) ∧ ∀ T288 : kp_S, T288 = kp_sB T286 b285 (vp_updL (kp_B T286 b285) (((27 : Int32)).toNatClampNeg) z287) →
  ∃ b289 : Nat, kp_R T288 2403 a0 = some b289 ∧
  wX12_packed 20 T288 (fun z291 T290 =>
  vp_in ((28 : Int32)) (kp_N T290 b289) ∧ ∀ T292 : kp_S, T292 = kp_sB T290 b289 (vp_updL (kp_B T290 b289) (((28 : Int32)).toNatClampNeg) z291) →
  ∃ b293 : Nat, kp_R T292 2403 a0 = some b293 ∧
  wX12_packed 21 T292 (fun z295 T294 =>
  vp_in ((29 : Int32)) (kp_N T294 b293) ∧ ∀ T296 : kp_S, T296 = kp_sB T294 b293 (vp_updL (kp_B T294 b293) (((29 : Int32)).toNatClampNeg) z295) →
  ∃ b297 : Nat, kp_R T296 2403 a0 = some b297 ∧
  wX12_packed 22 T296 (fun z299 T298 =>
  vp_in ((30 : Int32)) (kp_N T298 b297) ∧ ∀ T300 : kp_S, T300 = kp_sB T298 b297 (vp_updL (kp_B T298 b297) (((30 : Int32)).toNatClampNeg) z299) →
  ∃ b301 : Nat, kp_R T300 2403 a0 = some b301 ∧
  wX12_packed 23 T300 (fun z303 T302 =>
  vp_in ((31 : Int32)) (kp_N T302 b301) ∧ ∀ T304 : kp_S, T304 = kp_sB T302 b301 (vp_updL (kp_B T302 b301) (((31 : Int32)).toNatClampNeg) z303) →
  ∃ b305 : Nat, kp_R T304 2403 a0 = some b305 ∧
  wX12_packed 24 T304 (fun z307 T306 =>
  vp_in ((32 : Int32)) (kp_N T306 b305) ∧ ∀ T308 : kp_S, T308 = kp_sB T306 b305 (vp_updL (kp_B T306 b305) (((32 : Int32)).toNatClampNeg) z307) →
  ∃ b309 : Nat, kp_R T308 2403 a0 = some b309 ∧
  wX12_packed 25 T308 (fun z311 T310 =>
  vp_in ((33 : Int32)) (kp_N T310 b309) ∧ ∀ T312 : kp_S, T312 = kp_sB T310 b309 (vp_updL (kp_B T310 b309) (((33 : Int32)).toNatClampNeg) z311) →
  ∃ b313 : Nat, kp_R T312 2403 a0 = some b313 ∧
  wX12_packed 26 T312 (fun z315 T314 =>
  vp_in ((34 : Int32)) (kp_N T314 b313) ∧ ∀ T316 : kp_S, T316 = kp_sB T314 b313 (vp_updL (kp_B T314 b313) (((34 : Int32)).toNatClampNeg) z315) →
  ∃ b317 : Nat, kp_R T316 2403 a0 = some b317 ∧
  wX12_packed 27 T316 (fun z319 T318 =>
  vp_in ((35 : Int32)) (kp_N T318 b317) ∧ ∀ T320 : kp_S, T320 = kp_sB T318 b317 (vp_updL (kp_B T318 b317) (((35 : Int32)).toNatClampNeg) z319) →
  ∃ b321 : Nat, kp_R T320 2403 a0 = some b321 ∧
  wX12_packed 28 T320 (fun z323 T322 =>
  vp_in ((36 : Int32)) (kp_N T322 b321) ∧ ∀ T324 : kp_S, T324 = kp_sB T322 b321 (vp_updL (kp_B T322 b321) (((36 : Int32)).toNatClampNeg) z323) →
  ∃ b325 : Nat, kp_R T324 2403 a0 = some b325 ∧
  wX12_packed 29 T324 (fun z327 T326 =>
  vp_in ((37 : Int32)) (kp_N T326 b325) ∧ ∀ T328 : kp_S, T328 = kp_sB T326 b325 (vp_updL (kp_B T326 b325) (((37 : Int32)).toNatClampNeg) z327) →
  ∃ b329 : Nat, kp_R T328 2403 a0 = some b329 ∧
  wX12_packed 30 T328 (fun z331 T330 =>
  vp_in ((38 : Int32)) (kp_N T330 b329) ∧ ∀ T332 : kp_S, T332 = kp_sB T330 b329 (vp_updL (kp_B T330 b329) (((38 : Int32)).toNatClampNeg) z331) →
  ∃ b333 : Nat, kp_R T332 2403 a0 = some b333 ∧
  wX12_packed 31 T332 (fun z335 T334 =>
  vp_in ((39 : Int32)) (kp_N T334 b333) ∧ ∀ T336 : kp_S, T336 = kp_sB T334 b333 (vp_updL (kp_B T334 b333) (((39 : Int32)).toNatClampNeg) z335) →
  ∃ b337 : Nat, kp_R T336 2403 a0 = some b337 ∧
  wX12_packed 32 T336 (fun z339 T338 =>
  vp_in ((40 : Int32)) (kp_N T338 b337) ∧ ∀ T340 : kp_S, T340 = kp_sB T338 b337 (vp_updL (kp_B T338 b337) (((40 : Int32)).toNatClampNeg) z339) →
  ∃ b341 : Nat, kp_R T340 2403 a0 = some b341 ∧
  wX12_packed 33 T340 (fun z343 T342 =>
  vp_in ((41 : Int32)) (kp_N T342 b341) ∧ ∀ T344 : kp_S, T344 = kp_sB T342 b341 (vp_updL (kp_B T342 b341) (((41 : Int32)).toNatClampNeg) z343) →
  ∃ b345 : Nat, kp_R T344 2403 a0 = some b345 ∧
  wX12_packed 34 T344 (fun z347 T346 =>
  vp_in ((42 : Int32)) (kp_N T346 b345) ∧ ∀ T348 : kp_S, T348 = kp_sB T346 b345 (vp_updL (kp_B T346 b345) (((42 : Int32)).toNatClampNeg) z347) →
  ∃ b349 : Nat, kp_R T348 2403 a0 = some b349 ∧
  wX12_packed 35 T348 (fun z351 T350 =>
  vp_in ((43 : Int32)) (kp_N T350 b349) ∧ ∀ T352 : kp_S, T352 = kp_sB T350 b349 (vp_updL (kp_B T350 b349) (((43 : Int32)).toNatClampNeg) z351) →
  ∃ b353 : Nat, kp_R T352 2403 a0 = some b353 ∧
  wX12_packed 36 T352 (fun z355 T354 =>
  vp_in ((44 : Int32)) (kp_N T354 b353) ∧ ∀ T356 : kp_S, T356 = kp_sB T354 b353 (vp_updL (kp_B T354 b353) (((44 : Int32)).toNatClampNeg) z355) →
  ∃ b357 : Nat, kp_R T356 2403 a0 = some b357 ∧
  wX12_packed 37 T356 (fun z359 T358 =>
  vp_in ((45 : Int32)) (kp_N T358 b357) ∧ ∀ T360 : kp_S, T360 = kp_sB T358 b357 (vp_updL (kp_B T358 b357) (((45 : Int32)).toNatClampNeg) z359) →
  ∃ b361 : Nat, kp_R T360 2403 a0 = some b361 ∧
  wX12_packed 38 T360 (fun z363 T362 =>
  vp_in ((46 : Int32)) (kp_N T362 b361) ∧ ∀ T364 : kp_S, T364 = kp_sB T362 b361 (vp_updL (kp_B T362 b361) (((46 : Int32)).toNatClampNeg) z363) →
  ∃ b365 : Nat, kp_R T364 2403 a0 = some b365 ∧
  wX12_packed 39 T364 (fun z367 T366 =>
  vp_in ((47 : Int32)) (kp_N T366 b365) ∧ ∀ T368 : kp_S, T368 = kp_sB T366 b365 (vp_updL (kp_B T366 b365) (((47 : Int32)).toNatClampNeg) z367) →
  ∃ b369 : Nat, kp_R T368 2403 a0 = some b369 ∧
  wX12_packed 40 T368 (fun z371 T370 =>
  vp_in ((48 : Int32)) (kp_N T370 b369) ∧ ∀ T372 : kp_S, T372 = kp_sB T370 b369 (vp_updL (kp_B T370 b369) (((48 : Int32)).toNatClampNeg) z371) →
  ∃ b373 : Nat, kp_R T372 2403 a0 = some b373 ∧
  wX12_packed 41 T372 (fun z375 T374 =>
  vp_in ((49 : Int32)) (kp_N T374 b373) ∧ ∀ T376 : kp_S, T376 = kp_sB T374 b373 (vp_updL (kp_B T374 b373) (((49 : Int32)).toNatClampNeg) z375) →
  post T376))))))))))))))))))))))))))))))))))))))))
set_option maxHeartbeats 4000000 in
set_option maxRecDepth 100000 in
theorem c_X12_init (l : Launch) (D : va_G) (cy : Nat → ClassId) (ad : (Nat → Nat) × (Nat → Nat)) (S : kp_S) (a0 : Nat) (post : kp_S → Prop) (hS : kp_ok S) (f_a0 : kp_is S a0 12) (hw : wX12_init a0 S post) : kp_M l yX12_init cX12_init 1 none { frames := 5, cells := 71, slots := 64622, locals := 108 } D cy ad S [.ref a0] 71 64622 (fun A => kp_Qv D cy A S post) := by
  refine kp_start (own := RX12) (by decide) rfl (Nat.le_of_ble_eq_true rfl) hS ?_
  intro p e s m below meth c A ls X hr hlocks hname h hl
  have hle : kp_le S S := kp_le.rf
  have hl : lv_has ls 1 [(0, .ref a0)] := hl
  unfold wX12_init at hw
  have h : kp_H D cy A S s.heap s.heap [] := h
  revert h
  intro h
  refine lv_aload_n X.1 X.2.1 dX12_init_0 rfl (lv_at hl 0 rfl) ?_
  refine kp_objInit X hl.1 oi_12_17 (by decide) (by decide) dX12_init_1 ?_
  refine lv_aload_n X.1 X.2.1 dX12_init_4 rfl (lv_at hl 0 rfl) ?_
  refine lv_sipush (v := 3000) X.1 X.2.1 dX12_init_5 (by decide) ?_
  refine kp_newi (n := 3000) X h ac_14 (by decide) (by decide) (by decide) (by decide) (by decide) dX12_init_8 (fun b1 T2 n_b1 e_T2 l_T2 f_b1 H h => ?_)
  have hw := hw b1 T2 n_b1 e_T2
  have f_a0 := l_T2.is f_a0
  have hle := hle.tr l_T2
  refine W.widen (k := 1) (n := 3000) (by decide) (by decide) ?_
  refine kp_putRF X hname h f_a0 ff_12_23 f_b1 rfl ⟨by decide, by decide⟩ ⟨rfl, rfl⟩ dX12_init_10 (fun T3 e_T3 l_T3 H locs h => ?_)
  have hw := hw T3 e_T3
  have f_a0 := l_T3.is f_a0
  have hle := hle.tr l_T3
  refine lv_aload_n X.1 X.2.1 dX12_init_13 rfl (lv_at hl 0 rfl) ?_
  refine lv_bipush (v := 50) X.1 X.2.1 dX12_init_14 (by decide) ?_
  refine kp_newl (n := 50) X h ac_15 (by decide) (by decide) (by decide) (by decide) (by decide) dX12_init_16 (fun b4 T5 n_b4 e_T5 l_T5 f_b4 H h => ?_)
  have hw := hw b4 T5 n_b4 e_T5
  have f_a0 := l_T5.is f_a0
  have hle := hle.tr l_T5
  refine W.widen (k := 2) (n := 3050) (by decide) (by decide) ?_
  refine kp_putRF X hname h f_a0 ff_12_27 f_b4 rfl ⟨by decide, by decide⟩ ⟨rfl, rfl⟩ dX12_init_18 (fun T6 e_T6 l_T6 H locs h => ?_)
  have hw := hw T6 e_T6
  have f_a0 := l_T6.is f_a0
  have hle := hle.tr l_T6
  refine lv_aload_n X.1 X.2.1 dX12_init_21 rfl (lv_at hl 0 rfl) ?_
  refine lv_sipush (v := 3002) X.1 X.2.1 dX12_init_22 (by decide) ?_
  refine kp_newi (n := 3002) X h ac_14 (by decide) (by decide) (by decide) (by decide) (by decide) dX12_init_25 (fun b7 T8 n_b7 e_T8 l_T8 f_b7 H h => ?_)
  have hw := hw b7 T8 n_b7 e_T8
  have f_a0 := l_T8.is f_a0
  have hle := hle.tr l_T8
  refine W.widen (k := 3) (n := 6052) (by decide) (by decide) ?_
  refine kp_putRF X hname h f_a0 ff_12_31 f_b7 rfl ⟨by decide, by decide⟩ ⟨rfl, rfl⟩ dX12_init_27 (fun T9 e_T9 l_T9 H locs h => ?_)
  have hw := hw T9 e_T9
  have f_a0 := l_T9.is f_a0
  have hle := hle.tr l_T9
  refine lv_aload_n X.1 X.2.1 dX12_init_30 rfl (lv_at hl 0 rfl) ?_
  refine lv_sipush (v := 3002) X.1 X.2.1 dX12_init_31 (by decide) ?_
  refine kp_newi (n := 3002) X h ac_14 (by decide) (by decide) (by decide) (by decide) (by decide) dX12_init_34 (fun b10 T11 n_b10 e_T11 l_T11 f_b10 H h => ?_)
  have hw := hw b10 T11 n_b10 e_T11
  have f_a0 := l_T11.is f_a0
  have hle := hle.tr l_T11
  refine W.widen (k := 4) (n := 9054) (by decide) (by decide) ?_
  refine kp_putRF X hname h f_a0 ff_12_34 f_b10 rfl ⟨by decide, by decide⟩ ⟨rfl, rfl⟩ dX12_init_36 (fun T12 e_T12 l_T12 H locs h => ?_)
  have hw := hw T12 e_T12
  have f_a0 := l_T12.is f_a0
  have hle := hle.tr l_T12
  refine lv_aload_n X.1 X.2.1 dX12_init_39 rfl (lv_at hl 0 rfl) ?_
  refine lv_sipush (v := 3002) X.1 X.2.1 dX12_init_40 (by decide) ?_
  refine kp_newl (n := 3002) X h ac_15 (by decide) (by decide) (by decide) (by decide) (by decide) dX12_init_43 (fun b13 T14 n_b13 e_T14 l_T14 f_b13 H h => ?_)
  have hw := hw b13 T14 n_b13 e_T14
  have f_a0 := l_T14.is f_a0
  have hle := hle.tr l_T14
  refine W.widen (k := 5) (n := 12056) (by decide) (by decide) ?_
  refine kp_putRF X hname h f_a0 ff_12_37 f_b13 rfl ⟨by decide, by decide⟩ ⟨rfl, rfl⟩ dX12_init_45 (fun T15 e_T15 l_T15 H locs h => ?_)
  have hw := hw T15 e_T15
  have f_a0 := l_T15.is f_a0
  have hle := hle.tr l_T15
  refine lv_aload_n X.1 X.2.1 dX12_init_48 rfl (lv_at hl 0 rfl) ?_
  refine lv_iconst (v := (-1)) X.1 X.2.1 dX12_init_49 (by decide) ?_
  refine kp_putI X h f_a0 fp_12_40 rfl ⟨rfl, rfl⟩ dX12_init_50 (fun T16 e_T16 l_T16 H locs h => ?_)
  have hw := hw T16 e_T16
  have f_a0 := l_T16.is f_a0
  have hle := hle.tr l_T16
  refine lv_aload_n X.1 X.2.1 dX12_init_53 rfl (lv_at hl 0 rfl) ?_
  refine lv_sipush (v := 4000) X.1 X.2.1 dX12_init_54 (by decide) ?_
  refine kp_newi (n := 4000) X h ac_14 (by decide) (by decide) (by decide) (by decide) (by decide) dX12_init_57 (fun b17 T18 n_b17 e_T18 l_T18 f_b17 H h => ?_)
  have hw := hw b17 T18 n_b17 e_T18
  have f_a0 := l_T18.is f_a0
  have hle := hle.tr l_T18
  refine W.widen (k := 6) (n := 16056) (by decide) (by decide) ?_
  refine kp_putRF X hname h f_a0 ff_12_43 f_b17 rfl ⟨by decide, by decide⟩ ⟨rfl, rfl⟩ dX12_init_59 (fun T19 e_T19 l_T19 H locs h => ?_)
  have hw := hw T19 e_T19
  have f_a0 := l_T19.is f_a0
  have hle := hle.tr l_T19
  refine lv_aload_n X.1 X.2.1 dX12_init_62 rfl (lv_at hl 0 rfl) ?_
  refine lv_sipush (v := 4000) X.1 X.2.1 dX12_init_63 (by decide) ?_
  refine kp_newi (n := 4000) X h ac_14 (by decide) (by decide) (by decide) (by decide) (by decide) dX12_init_66 (fun b20 T21 n_b20 e_T21 l_T21 f_b20 H h => ?_)
  have hw := hw b20 T21 n_b20 e_T21
  have f_a0 := l_T21.is f_a0
  have hle := hle.tr l_T21
  refine W.widen (k := 7) (n := 20056) (by decide) (by decide) ?_
  refine kp_putRF X hname h f_a0 ff_12_46 f_b20 rfl ⟨by decide, by decide⟩ ⟨rfl, rfl⟩ dX12_init_68 (fun T22 e_T22 l_T22 H locs h => ?_)
  have hw := hw T22 e_T22
  have f_a0 := l_T22.is f_a0
  have hle := hle.tr l_T22
  refine lv_aload_n X.1 X.2.1 dX12_init_71 rfl (lv_at hl 0 rfl) ?_
  refine lv_sipush (v := 4000) X.1 X.2.1 dX12_init_72 (by decide) ?_
  refine kp_newi (n := 4000) X h ac_14 (by decide) (by decide) (by decide) (by decide) (by decide) dX12_init_75 (fun b23 T24 n_b23 e_T24 l_T24 f_b23 H h => ?_)
  have hw := hw b23 T24 n_b23 e_T24
  have f_a0 := l_T24.is f_a0
  have hle := hle.tr l_T24
  refine W.widen (k := 8) (n := 24056) (by decide) (by decide) ?_
  refine kp_putRF X hname h f_a0 ff_12_49 f_b23 rfl ⟨by decide, by decide⟩ ⟨rfl, rfl⟩ dX12_init_77 (fun T25 e_T25 l_T25 H locs h => ?_)
  have hw := hw T25 e_T25
  have f_a0 := l_T25.is f_a0
  have hle := hle.tr l_T25
  refine lv_aload_n X.1 X.2.1 dX12_init_80 rfl (lv_at hl 0 rfl) ?_
  refine lv_sipush (v := 640) X.1 X.2.1 dX12_init_81 (by decide) ?_
  refine kp_newi (n := 640) X h ac_14 (by decide) (by decide) (by decide) (by decide) (by decide) dX12_init_84 (fun b26 T27 n_b26 e_T27 l_T27 f_b26 H h => ?_)
  have hw := hw b26 T27 n_b26 e_T27
  have f_a0 := l_T27.is f_a0
  have hle := hle.tr l_T27
  refine W.widen (k := 9) (n := 24696) (by decide) (by decide) ?_
  refine kp_putRF X hname h f_a0 ff_12_52 f_b26 rfl ⟨by decide, by decide⟩ ⟨rfl, rfl⟩ dX12_init_86 (fun T28 e_T28 l_T28 H locs h => ?_)
  have hw := hw T28 e_T28
  have f_a0 := l_T28.is f_a0
  have hle := hle.tr l_T28
  refine lv_aload_n X.1 X.2.1 dX12_init_89 rfl (lv_at hl 0 rfl) ?_
  refine lv_sipush (v := 640) X.1 X.2.1 dX12_init_90 (by decide) ?_
  refine kp_newi (n := 640) X h ac_14 (by decide) (by decide) (by decide) (by decide) (by decide) dX12_init_93 (fun b29 T30 n_b29 e_T30 l_T30 f_b29 H h => ?_)
  have hw := hw b29 T30 n_b29 e_T30
  have f_a0 := l_T30.is f_a0
  have hle := hle.tr l_T30
  refine W.widen (k := 10) (n := 25336) (by decide) (by decide) ?_
  refine kp_putRF X hname h f_a0 ff_12_55 f_b29 rfl ⟨by decide, by decide⟩ ⟨rfl, rfl⟩ dX12_init_95 (fun T31 e_T31 l_T31 H locs h => ?_)
  have hw := hw T31 e_T31
  have f_a0 := l_T31.is f_a0
  have hle := hle.tr l_T31
  refine lv_aload_n X.1 X.2.1 dX12_init_98 rfl (lv_at hl 0 rfl) ?_
  refine lv_sipush (v := 640) X.1 X.2.1 dX12_init_99 (by decide) ?_
  refine kp_newi (n := 640) X h ac_14 (by decide) (by decide) (by decide) (by decide) (by decide) dX12_init_102 (fun b32 T33 n_b32 e_T33 l_T33 f_b32 H h => ?_)
  have hw := hw b32 T33 n_b32 e_T33
  have f_a0 := l_T33.is f_a0
  have hle := hle.tr l_T33
  refine W.widen (k := 11) (n := 25976) (by decide) (by decide) ?_
  refine kp_putRF X hname h f_a0 ff_12_58 f_b32 rfl ⟨by decide, by decide⟩ ⟨rfl, rfl⟩ dX12_init_104 (fun T34 e_T34 l_T34 H locs h => ?_)
  have hw := hw T34 e_T34
  have f_a0 := l_T34.is f_a0
  have hle := hle.tr l_T34
  refine lv_aload_n X.1 X.2.1 dX12_init_107 rfl (lv_at hl 0 rfl) ?_
  refine lv_sipush (v := 640) X.1 X.2.1 dX12_init_108 (by decide) ?_
  refine kp_newi (n := 640) X h ac_14 (by decide) (by decide) (by decide) (by decide) (by decide) dX12_init_111 (fun b35 T36 n_b35 e_T36 l_T36 f_b35 H h => ?_)
  have hw := hw b35 T36 n_b35 e_T36
  have f_a0 := l_T36.is f_a0
  have hle := hle.tr l_T36
  refine W.widen (k := 12) (n := 26616) (by decide) (by decide) ?_
  refine kp_putRF X hname h f_a0 ff_12_61 f_b35 rfl ⟨by decide, by decide⟩ ⟨rfl, rfl⟩ dX12_init_113 (fun T37 e_T37 l_T37 H locs h => ?_)
  have hw := hw T37 e_T37
  have f_a0 := l_T37.is f_a0
  have hle := hle.tr l_T37
  refine lv_aload_n X.1 X.2.1 dX12_init_116 rfl (lv_at hl 0 rfl) ?_
  refine lv_sipush (v := 640) X.1 X.2.1 dX12_init_117 (by decide) ?_
  refine kp_newi (n := 640) X h ac_14 (by decide) (by decide) (by decide) (by decide) (by decide) dX12_init_120 (fun b38 T39 n_b38 e_T39 l_T39 f_b38 H h => ?_)
  have hw := hw b38 T39 n_b38 e_T39
  have f_a0 := l_T39.is f_a0
  have hle := hle.tr l_T39
  refine W.widen (k := 13) (n := 27256) (by decide) (by decide) ?_
  refine kp_putRF X hname h f_a0 ff_12_64 f_b38 rfl ⟨by decide, by decide⟩ ⟨rfl, rfl⟩ dX12_init_122 (fun T40 e_T40 l_T40 H locs h => ?_)
  have hw := hw T40 e_T40
  have f_a0 := l_T40.is f_a0
  have hle := hle.tr l_T40
  refine lv_aload_n X.1 X.2.1 dX12_init_125 rfl (lv_at hl 0 rfl) ?_
  refine lv_sipush (v := 640) X.1 X.2.1 dX12_init_126 (by decide) ?_
  refine kp_newi (n := 640) X h ac_14 (by decide) (by decide) (by decide) (by decide) (by decide) dX12_init_129 (fun b41 T42 n_b41 e_T42 l_T42 f_b41 H h => ?_)
  have hw := hw b41 T42 n_b41 e_T42
  have f_a0 := l_T42.is f_a0
  have hle := hle.tr l_T42
  refine W.widen (k := 14) (n := 27896) (by decide) (by decide) ?_
  refine kp_putRF X hname h f_a0 ff_12_67 f_b41 rfl ⟨by decide, by decide⟩ ⟨rfl, rfl⟩ dX12_init_131 (fun T43 e_T43 l_T43 H locs h => ?_)
  have hw := hw T43 e_T43
  have f_a0 := l_T43.is f_a0
  have hle := hle.tr l_T43
  refine lv_aload_n X.1 X.2.1 dX12_init_134 rfl (lv_at hl 0 rfl) ?_
  refine lv_sipush (v := 320) X.1 X.2.1 dX12_init_135 (by decide) ?_
  refine kp_newl (n := 320) X h ac_15 (by decide) (by decide) (by decide) (by decide) (by decide) dX12_init_138 (fun b44 T45 n_b44 e_T45 l_T45 f_b44 H h => ?_)
  have hw := hw b44 T45 n_b44 e_T45
  have f_a0 := l_T45.is f_a0
  have hle := hle.tr l_T45
  refine W.widen (k := 15) (n := 28216) (by decide) (by decide) ?_
  refine kp_putRF X hname h f_a0 ff_12_70 f_b44 rfl ⟨by decide, by decide⟩ ⟨rfl, rfl⟩ dX12_init_140 (fun T46 e_T46 l_T46 H locs h => ?_)
  have hw := hw T46 e_T46
  have f_a0 := l_T46.is f_a0
  have hle := hle.tr l_T46
  refine lv_aload_n X.1 X.2.1 dX12_init_143 rfl (lv_at hl 0 rfl) ?_
  refine lv_sipush (v := 320) X.1 X.2.1 dX12_init_144 (by decide) ?_
  refine kp_newi (n := 320) X h ac_14 (by decide) (by decide) (by decide) (by decide) (by decide) dX12_init_147 (fun b47 T48 n_b47 e_T48 l_T48 f_b47 H h => ?_)
  have hw := hw b47 T48 n_b47 e_T48
  have f_a0 := l_T48.is f_a0
  have hle := hle.tr l_T48
  refine W.widen (k := 16) (n := 28536) (by decide) (by decide) ?_
  refine kp_putRF X hname h f_a0 ff_12_73 f_b47 rfl ⟨by decide, by decide⟩ ⟨rfl, rfl⟩ dX12_init_149 (fun T49 e_T49 l_T49 H locs h => ?_)
  have hw := hw T49 e_T49
  have f_a0 := l_T49.is f_a0
  have hle := hle.tr l_T49
  refine lv_aload_n X.1 X.2.1 dX12_init_152 rfl (lv_at hl 0 rfl) ?_
  refine lv_sipush (v := 320) X.1 X.2.1 dX12_init_153 (by decide) ?_
  refine kp_newi (n := 320) X h ac_14 (by decide) (by decide) (by decide) (by decide) (by decide) dX12_init_156 (fun b50 T51 n_b50 e_T51 l_T51 f_b50 H h => ?_)
  have hw := hw b50 T51 n_b50 e_T51
  have f_a0 := l_T51.is f_a0
  have hle := hle.tr l_T51
  refine W.widen (k := 17) (n := 28856) (by decide) (by decide) ?_
  refine kp_putRF X hname h f_a0 ff_12_76 f_b50 rfl ⟨by decide, by decide⟩ ⟨rfl, rfl⟩ dX12_init_158 (fun T52 e_T52 l_T52 H locs h => ?_)
  have hw := hw T52 e_T52
  have f_a0 := l_T52.is f_a0
  have hle := hle.tr l_T52
  refine lv_aload_n X.1 X.2.1 dX12_init_161 rfl (lv_at hl 0 rfl) ?_
  refine lv_sipush (v := 320) X.1 X.2.1 dX12_init_162 (by decide) ?_
  refine kp_newi (n := 320) X h ac_14 (by decide) (by decide) (by decide) (by decide) (by decide) dX12_init_165 (fun b53 T54 n_b53 e_T54 l_T54 f_b53 H h => ?_)
  have hw := hw b53 T54 n_b53 e_T54
  have f_a0 := l_T54.is f_a0
  have hle := hle.tr l_T54
  refine W.widen (k := 18) (n := 29176) (by decide) (by decide) ?_
  refine kp_putRF X hname h f_a0 ff_12_79 f_b53 rfl ⟨by decide, by decide⟩ ⟨rfl, rfl⟩ dX12_init_167 (fun T55 e_T55 l_T55 H locs h => ?_)
  have hw := hw T55 e_T55
  have f_a0 := l_T55.is f_a0
  have hle := hle.tr l_T55
  refine lv_aload_n X.1 X.2.1 dX12_init_170 rfl (lv_at hl 0 rfl) ?_
  refine lv_sipush (v := 320) X.1 X.2.1 dX12_init_171 (by decide) ?_
  refine kp_newi (n := 320) X h ac_14 (by decide) (by decide) (by decide) (by decide) (by decide) dX12_init_174 (fun b56 T57 n_b56 e_T57 l_T57 f_b56 H h => ?_)
  have hw := hw b56 T57 n_b56 e_T57
  have f_a0 := l_T57.is f_a0
  have hle := hle.tr l_T57
  refine W.widen (k := 19) (n := 29496) (by decide) (by decide) ?_
  refine kp_putRF X hname h f_a0 ff_12_82 f_b56 rfl ⟨by decide, by decide⟩ ⟨rfl, rfl⟩ dX12_init_176 (fun T58 e_T58 l_T58 H locs h => ?_)
  have hw := hw T58 e_T58
  have f_a0 := l_T58.is f_a0
  have hle := hle.tr l_T58
  refine lv_aload_n X.1 X.2.1 dX12_init_179 rfl (lv_at hl 0 rfl) ?_
  refine lv_sipush (v := 320) X.1 X.2.1 dX12_init_180 (by decide) ?_
  refine kp_newi (n := 320) X h ac_14 (by decide) (by decide) (by decide) (by decide) (by decide) dX12_init_183 (fun b59 T60 n_b59 e_T60 l_T60 f_b59 H h => ?_)
  have hw := hw b59 T60 n_b59 e_T60
  have f_a0 := l_T60.is f_a0
  have hle := hle.tr l_T60
  refine W.widen (k := 20) (n := 29816) (by decide) (by decide) ?_
  refine kp_putRF X hname h f_a0 ff_12_85 f_b59 rfl ⟨by decide, by decide⟩ ⟨rfl, rfl⟩ dX12_init_185 (fun T61 e_T61 l_T61 H locs h => ?_)
  have hw := hw T61 e_T61
  have f_a0 := l_T61.is f_a0
  have hle := hle.tr l_T61
  refine lv_aload_n X.1 X.2.1 dX12_init_188 rfl (lv_at hl 0 rfl) ?_
  refine lv_sipush (v := 1600) X.1 X.2.1 dX12_init_189 (by decide) ?_
  refine kp_newl (n := 1600) X h ac_15 (by decide) (by decide) (by decide) (by decide) (by decide) dX12_init_192 (fun b62 T63 n_b62 e_T63 l_T63 f_b62 H h => ?_)
  have hw := hw b62 T63 n_b62 e_T63
  have f_a0 := l_T63.is f_a0
  have hle := hle.tr l_T63
  refine W.widen (k := 21) (n := 31416) (by decide) (by decide) ?_
  refine kp_putRF X hname h f_a0 ff_12_88 f_b62 rfl ⟨by decide, by decide⟩ ⟨rfl, rfl⟩ dX12_init_194 (fun T64 e_T64 l_T64 H locs h => ?_)
  have hw := hw T64 e_T64
  have f_a0 := l_T64.is f_a0
  have hle := hle.tr l_T64
  refine lv_aload_n X.1 X.2.1 dX12_init_197 rfl (lv_at hl 0 rfl) ?_
  refine lv_sipush (v := 1600) X.1 X.2.1 dX12_init_198 (by decide) ?_
  refine kp_newi (n := 1600) X h ac_14 (by decide) (by decide) (by decide) (by decide) (by decide) dX12_init_201 (fun b65 T66 n_b65 e_T66 l_T66 f_b65 H h => ?_)
  have hw := hw b65 T66 n_b65 e_T66
  have f_a0 := l_T66.is f_a0
  have hle := hle.tr l_T66
  refine W.widen (k := 22) (n := 33016) (by decide) (by decide) ?_
  refine kp_putRF X hname h f_a0 ff_12_91 f_b65 rfl ⟨by decide, by decide⟩ ⟨rfl, rfl⟩ dX12_init_203 (fun T67 e_T67 l_T67 H locs h => ?_)
  have hw := hw T67 e_T67
  have f_a0 := l_T67.is f_a0
  have hle := hle.tr l_T67
  refine lv_aload_n X.1 X.2.1 dX12_init_206 rfl (lv_at hl 0 rfl) ?_
  refine lv_sipush (v := 1600) X.1 X.2.1 dX12_init_207 (by decide) ?_
  refine kp_newi (n := 1600) X h ac_14 (by decide) (by decide) (by decide) (by decide) (by decide) dX12_init_210 (fun b68 T69 n_b68 e_T69 l_T69 f_b68 H h => ?_)
  have hw := hw b68 T69 n_b68 e_T69
  have f_a0 := l_T69.is f_a0
  have hle := hle.tr l_T69
  refine W.widen (k := 23) (n := 34616) (by decide) (by decide) ?_
  refine kp_putRF X hname h f_a0 ff_12_94 f_b68 rfl ⟨by decide, by decide⟩ ⟨rfl, rfl⟩ dX12_init_212 (fun T70 e_T70 l_T70 H locs h => ?_)
  have hw := hw T70 e_T70
  have f_a0 := l_T70.is f_a0
  have hle := hle.tr l_T70
  refine lv_aload_n X.1 X.2.1 dX12_init_215 rfl (lv_at hl 0 rfl) ?_
  refine lv_sipush (v := 1600) X.1 X.2.1 dX12_init_216 (by decide) ?_
  refine kp_newi (n := 1600) X h ac_14 (by decide) (by decide) (by decide) (by decide) (by decide) dX12_init_219 (fun b71 T72 n_b71 e_T72 l_T72 f_b71 H h => ?_)
  have hw := hw b71 T72 n_b71 e_T72
  have f_a0 := l_T72.is f_a0
  have hle := hle.tr l_T72
  refine W.widen (k := 24) (n := 36216) (by decide) (by decide) ?_
  refine kp_putRF X hname h f_a0 ff_12_97 f_b71 rfl ⟨by decide, by decide⟩ ⟨rfl, rfl⟩ dX12_init_221 (fun T73 e_T73 l_T73 H locs h => ?_)
  have hw := hw T73 e_T73
  have f_a0 := l_T73.is f_a0
  have hle := hle.tr l_T73
  refine lv_aload_n X.1 X.2.1 dX12_init_224 rfl (lv_at hl 0 rfl) ?_
  refine lv_sipush (v := 1600) X.1 X.2.1 dX12_init_225 (by decide) ?_
  refine kp_newl (n := 1600) X h ac_15 (by decide) (by decide) (by decide) (by decide) (by decide) dX12_init_228 (fun b74 T75 n_b74 e_T75 l_T75 f_b74 H h => ?_)
  have hw := hw b74 T75 n_b74 e_T75
  have f_a0 := l_T75.is f_a0
  have hle := hle.tr l_T75
  refine W.widen (k := 25) (n := 37816) (by decide) (by decide) ?_
  refine kp_putRF X hname h f_a0 ff_12_100 f_b74 rfl ⟨by decide, by decide⟩ ⟨rfl, rfl⟩ dX12_init_230 (fun T76 e_T76 l_T76 H locs h => ?_)
  have hw := hw T76 e_T76
  have f_a0 := l_T76.is f_a0
  have hle := hle.tr l_T76
  refine lv_aload_n X.1 X.2.1 dX12_init_233 rfl (lv_at hl 0 rfl) ?_
  refine lv_sipush (v := 1600) X.1 X.2.1 dX12_init_234 (by decide) ?_
  refine kp_newi (n := 1600) X h ac_14 (by decide) (by decide) (by decide) (by decide) (by decide) dX12_init_237 (fun b77 T78 n_b77 e_T78 l_T78 f_b77 H h => ?_)
  have hw := hw b77 T78 n_b77 e_T78
  have f_a0 := l_T78.is f_a0
  have hle := hle.tr l_T78
  refine W.widen (k := 26) (n := 39416) (by decide) (by decide) ?_
  refine kp_putRF X hname h f_a0 ff_12_103 f_b77 rfl ⟨by decide, by decide⟩ ⟨rfl, rfl⟩ dX12_init_239 (fun T79 e_T79 l_T79 H locs h => ?_)
  have hw := hw T79 e_T79
  have f_a0 := l_T79.is f_a0
  have hle := hle.tr l_T79
  refine lv_aload_n X.1 X.2.1 dX12_init_242 rfl (lv_at hl 0 rfl) ?_
  refine lv_bipush (v := 20) X.1 X.2.1 dX12_init_243 (by decide) ?_
  refine kp_newl (n := 20) X h ac_15 (by decide) (by decide) (by decide) (by decide) (by decide) dX12_init_245 (fun b80 T81 n_b80 e_T81 l_T81 f_b80 H h => ?_)
  have hw := hw b80 T81 n_b80 e_T81
  have f_a0 := l_T81.is f_a0
  have hle := hle.tr l_T81
  refine W.widen (k := 27) (n := 39436) (by decide) (by decide) ?_
  refine kp_putRF X hname h f_a0 ff_12_106 f_b80 rfl ⟨by decide, by decide⟩ ⟨rfl, rfl⟩ dX12_init_247 (fun T82 e_T82 l_T82 H locs h => ?_)
  have hw := hw T82 e_T82
  have f_a0 := l_T82.is f_a0
  have hle := hle.tr l_T82
  refine lv_aload_n X.1 X.2.1 dX12_init_250 rfl (lv_at hl 0 rfl) ?_
  refine lv_bipush (v := 20) X.1 X.2.1 dX12_init_251 (by decide) ?_
  refine kp_newi (n := 20) X h ac_14 (by decide) (by decide) (by decide) (by decide) (by decide) dX12_init_253 (fun b83 T84 n_b83 e_T84 l_T84 f_b83 H h => ?_)
  have hw := hw b83 T84 n_b83 e_T84
  have f_a0 := l_T84.is f_a0
  have hle := hle.tr l_T84
  refine W.widen (k := 28) (n := 39456) (by decide) (by decide) ?_
  refine kp_putRF X hname h f_a0 ff_12_109 f_b83 rfl ⟨by decide, by decide⟩ ⟨rfl, rfl⟩ dX12_init_255 (fun T85 e_T85 l_T85 H locs h => ?_)
  have hw := hw T85 e_T85
  have f_a0 := l_T85.is f_a0
  have hle := hle.tr l_T85
  refine lv_aload_n X.1 X.2.1 dX12_init_258 rfl (lv_at hl 0 rfl) ?_
  refine lv_sipush (v := 4000) X.1 X.2.1 dX12_init_259 (by decide) ?_
  refine kp_newi (n := 4000) X h ac_14 (by decide) (by decide) (by decide) (by decide) (by decide) dX12_init_262 (fun b86 T87 n_b86 e_T87 l_T87 f_b86 H h => ?_)
  have hw := hw b86 T87 n_b86 e_T87
  have f_a0 := l_T87.is f_a0
  have hle := hle.tr l_T87
  refine W.widen (k := 29) (n := 43456) (by decide) (by decide) ?_
  refine kp_putRF X hname h f_a0 ff_12_112 f_b86 rfl ⟨by decide, by decide⟩ ⟨rfl, rfl⟩ dX12_init_264 (fun T88 e_T88 l_T88 H locs h => ?_)
  have hw := hw T88 e_T88
  have f_a0 := l_T88.is f_a0
  have hle := hle.tr l_T88
  refine lv_aload_n X.1 X.2.1 dX12_init_267 rfl (lv_at hl 0 rfl) ?_
  refine lv_sipush (v := 4000) X.1 X.2.1 dX12_init_268 (by decide) ?_
  refine kp_newi (n := 4000) X h ac_14 (by decide) (by decide) (by decide) (by decide) (by decide) dX12_init_271 (fun b89 T90 n_b89 e_T90 l_T90 f_b89 H h => ?_)
  have hw := hw b89 T90 n_b89 e_T90
  have f_a0 := l_T90.is f_a0
  have hle := hle.tr l_T90
  refine W.widen (k := 30) (n := 47456) (by decide) (by decide) ?_
  refine kp_putRF X hname h f_a0 ff_12_115 f_b89 rfl ⟨by decide, by decide⟩ ⟨rfl, rfl⟩ dX12_init_273 (fun T91 e_T91 l_T91 H locs h => ?_)
  have hw := hw T91 e_T91
  have f_a0 := l_T91.is f_a0
  have hle := hle.tr l_T91
  refine lv_aload_n X.1 X.2.1 dX12_init_276 rfl (lv_at hl 0 rfl) ?_
  refine lv_sipush (v := 4000) X.1 X.2.1 dX12_init_277 (by decide) ?_
  refine kp_newi (n := 4000) X h ac_14 (by decide) (by decide) (by decide) (by decide) (by decide) dX12_init_280 (fun b92 T93 n_b92 e_T93 l_T93 f_b92 H h => ?_)
  have hw := hw b92 T93 n_b92 e_T93
  have f_a0 := l_T93.is f_a0
  have hle := hle.tr l_T93
  refine W.widen (k := 31) (n := 51456) (by decide) (by decide) ?_
  refine kp_putRF X hname h f_a0 ff_12_118 f_b92 rfl ⟨by decide, by decide⟩ ⟨rfl, rfl⟩ dX12_init_282 (fun T94 e_T94 l_T94 H locs h => ?_)
  have hw := hw T94 e_T94
  have f_a0 := l_T94.is f_a0
  have hle := hle.tr l_T94
  refine lv_aload_n X.1 X.2.1 dX12_init_285 rfl (lv_at hl 0 rfl) ?_
  refine lv_sipush (v := 640) X.1 X.2.1 dX12_init_286 (by decide) ?_
  refine kp_newi (n := 640) X h ac_14 (by decide) (by decide) (by decide) (by decide) (by decide) dX12_init_289 (fun b95 T96 n_b95 e_T96 l_T96 f_b95 H h => ?_)
  have hw := hw b95 T96 n_b95 e_T96
  have f_a0 := l_T96.is f_a0
  have hle := hle.tr l_T96
  refine W.widen (k := 32) (n := 52096) (by decide) (by decide) ?_
  refine kp_putRF X hname h f_a0 ff_12_121 f_b95 rfl ⟨by decide, by decide⟩ ⟨rfl, rfl⟩ dX12_init_291 (fun T97 e_T97 l_T97 H locs h => ?_)
  have hw := hw T97 e_T97
  have f_a0 := l_T97.is f_a0
  have hle := hle.tr l_T97
  refine lv_aload_n X.1 X.2.1 dX12_init_294 rfl (lv_at hl 0 rfl) ?_
  refine lv_sipush (v := 640) X.1 X.2.1 dX12_init_295 (by decide) ?_
  refine kp_newi (n := 640) X h ac_14 (by decide) (by decide) (by decide) (by decide) (by decide) dX12_init_298 (fun b98 T99 n_b98 e_T99 l_T99 f_b98 H h => ?_)
  have hw := hw b98 T99 n_b98 e_T99
  have f_a0 := l_T99.is f_a0
  have hle := hle.tr l_T99
  refine W.widen (k := 33) (n := 52736) (by decide) (by decide) ?_
  refine kp_putRF X hname h f_a0 ff_12_124 f_b98 rfl ⟨by decide, by decide⟩ ⟨rfl, rfl⟩ dX12_init_300 (fun T100 e_T100 l_T100 H locs h => ?_)
  have hw := hw T100 e_T100
  have f_a0 := l_T100.is f_a0
  have hle := hle.tr l_T100
  refine lv_aload_n X.1 X.2.1 dX12_init_303 rfl (lv_at hl 0 rfl) ?_
  refine lv_sipush (v := 640) X.1 X.2.1 dX12_init_304 (by decide) ?_
  refine kp_newi (n := 640) X h ac_14 (by decide) (by decide) (by decide) (by decide) (by decide) dX12_init_307 (fun b101 T102 n_b101 e_T102 l_T102 f_b101 H h => ?_)
  have hw := hw b101 T102 n_b101 e_T102
  have f_a0 := l_T102.is f_a0
  have hle := hle.tr l_T102
  refine W.widen (k := 34) (n := 53376) (by decide) (by decide) ?_
  refine kp_putRF X hname h f_a0 ff_12_127 f_b101 rfl ⟨by decide, by decide⟩ ⟨rfl, rfl⟩ dX12_init_309 (fun T103 e_T103 l_T103 H locs h => ?_)
  have hw := hw T103 e_T103
  have f_a0 := l_T103.is f_a0
  have hle := hle.tr l_T103
  refine lv_aload_n X.1 X.2.1 dX12_init_312 rfl (lv_at hl 0 rfl) ?_
  refine lv_sipush (v := 640) X.1 X.2.1 dX12_init_313 (by decide) ?_
  refine kp_newi (n := 640) X h ac_14 (by decide) (by decide) (by decide) (by decide) (by decide) dX12_init_316 (fun b104 T105 n_b104 e_T105 l_T105 f_b104 H h => ?_)
  have hw := hw b104 T105 n_b104 e_T105
  have f_a0 := l_T105.is f_a0
  have hle := hle.tr l_T105
  refine W.widen (k := 35) (n := 54016) (by decide) (by decide) ?_
  refine kp_putRF X hname h f_a0 ff_12_130 f_b104 rfl ⟨by decide, by decide⟩ ⟨rfl, rfl⟩ dX12_init_318 (fun T106 e_T106 l_T106 H locs h => ?_)
  have hw := hw T106 e_T106
  have f_a0 := l_T106.is f_a0
  have hle := hle.tr l_T106
  refine lv_aload_n X.1 X.2.1 dX12_init_321 rfl (lv_at hl 0 rfl) ?_
  refine lv_sipush (v := 640) X.1 X.2.1 dX12_init_322 (by decide) ?_
  refine kp_newi (n := 640) X h ac_14 (by decide) (by decide) (by decide) (by decide) (by decide) dX12_init_325 (fun b107 T108 n_b107 e_T108 l_T108 f_b107 H h => ?_)
  have hw := hw b107 T108 n_b107 e_T108
  have f_a0 := l_T108.is f_a0
  have hle := hle.tr l_T108
  refine W.widen (k := 36) (n := 54656) (by decide) (by decide) ?_
  refine kp_putRF X hname h f_a0 ff_12_133 f_b107 rfl ⟨by decide, by decide⟩ ⟨rfl, rfl⟩ dX12_init_327 (fun T109 e_T109 l_T109 H locs h => ?_)
  have hw := hw T109 e_T109
  have f_a0 := l_T109.is f_a0
  have hle := hle.tr l_T109
  refine lv_aload_n X.1 X.2.1 dX12_init_330 rfl (lv_at hl 0 rfl) ?_
  refine lv_sipush (v := 640) X.1 X.2.1 dX12_init_331 (by decide) ?_
  refine kp_newi (n := 640) X h ac_14 (by decide) (by decide) (by decide) (by decide) (by decide) dX12_init_334 (fun b110 T111 n_b110 e_T111 l_T111 f_b110 H h => ?_)
  have hw := hw b110 T111 n_b110 e_T111
  have f_a0 := l_T111.is f_a0
  have hle := hle.tr l_T111
  refine W.widen (k := 37) (n := 55296) (by decide) (by decide) ?_
  refine kp_putRF X hname h f_a0 ff_12_136 f_b110 rfl ⟨by decide, by decide⟩ ⟨rfl, rfl⟩ dX12_init_336 (fun T112 e_T112 l_T112 H locs h => ?_)
  have hw := hw T112 e_T112
  have f_a0 := l_T112.is f_a0
  have hle := hle.tr l_T112
  refine lv_aload_n X.1 X.2.1 dX12_init_339 rfl (lv_at hl 0 rfl) ?_
  refine lv_bipush (v := 30) X.1 X.2.1 dX12_init_340 (by decide) ?_
  refine kp_newi (n := 30) X h ac_14 (by decide) (by decide) (by decide) (by decide) (by decide) dX12_init_342 (fun b113 T114 n_b113 e_T114 l_T114 f_b113 H h => ?_)
  have hw := hw b113 T114 n_b113 e_T114
  have f_a0 := l_T114.is f_a0
  have hle := hle.tr l_T114
  refine W.widen (k := 38) (n := 55326) (by decide) (by decide) ?_
  refine kp_putRF X hname h f_a0 ff_12_139 f_b113 rfl ⟨by decide, by decide⟩ ⟨rfl, rfl⟩ dX12_init_344 (fun T115 e_T115 l_T115 H locs h => ?_)
  have hw := hw T115 e_T115
  have f_a0 := l_T115.is f_a0
  have hle := hle.tr l_T115
  refine lv_aload_n X.1 X.2.1 dX12_init_347 rfl (lv_at hl 0 rfl) ?_
  refine lv_bipush (v := 30) X.1 X.2.1 dX12_init_348 (by decide) ?_
  refine kp_newi (n := 30) X h ac_14 (by decide) (by decide) (by decide) (by decide) (by decide) dX12_init_350 (fun b116 T117 n_b116 e_T117 l_T117 f_b116 H h => ?_)
  have hw := hw b116 T117 n_b116 e_T117
  have f_a0 := l_T117.is f_a0
  have hle := hle.tr l_T117
  refine W.widen (k := 39) (n := 55356) (by decide) (by decide) ?_
  refine kp_putRF X hname h f_a0 ff_12_142 f_b116 rfl ⟨by decide, by decide⟩ ⟨rfl, rfl⟩ dX12_init_352 (fun T118 e_T118 l_T118 H locs h => ?_)
  have hw := hw T118 e_T118
  have f_a0 := l_T118.is f_a0
  have hle := hle.tr l_T118
  refine lv_aload_n X.1 X.2.1 dX12_init_355 rfl (lv_at hl 0 rfl) ?_
  refine lv_bipush (v := 30) X.1 X.2.1 dX12_init_356 (by decide) ?_
  refine kp_newi (n := 30) X h ac_14 (by decide) (by decide) (by decide) (by decide) (by decide) dX12_init_358 (fun b119 T120 n_b119 e_T120 l_T120 f_b119 H h => ?_)
  have hw := hw b119 T120 n_b119 e_T120
  have f_a0 := l_T120.is f_a0
  have hle := hle.tr l_T120
  refine W.widen (k := 40) (n := 55386) (by decide) (by decide) ?_
  refine kp_putRF X hname h f_a0 ff_12_145 f_b119 rfl ⟨by decide, by decide⟩ ⟨rfl, rfl⟩ dX12_init_360 (fun T121 e_T121 l_T121 H locs h => ?_)
  have hw := hw T121 e_T121
  have f_a0 := l_T121.is f_a0
  have hle := hle.tr l_T121
  refine lv_aload_n X.1 X.2.1 dX12_init_363 rfl (lv_at hl 0 rfl) ?_
  refine lv_bipush (v := 30) X.1 X.2.1 dX12_init_364 (by decide) ?_
  refine kp_newi (n := 30) X h ac_14 (by decide) (by decide) (by decide) (by decide) (by decide) dX12_init_366 (fun b122 T123 n_b122 e_T123 l_T123 f_b122 H h => ?_)
  have hw := hw b122 T123 n_b122 e_T123
  have f_a0 := l_T123.is f_a0
  have hle := hle.tr l_T123
  refine W.widen (k := 41) (n := 55416) (by decide) (by decide) ?_
  refine kp_putRF X hname h f_a0 ff_12_148 f_b122 rfl ⟨by decide, by decide⟩ ⟨rfl, rfl⟩ dX12_init_368 (fun T124 e_T124 l_T124 H locs h => ?_)
  have hw := hw T124 e_T124
  have f_a0 := l_T124.is f_a0
  have hle := hle.tr l_T124
  refine lv_aload_n X.1 X.2.1 dX12_init_371 rfl (lv_at hl 0 rfl) ?_
  refine lv_bipush (v := 30) X.1 X.2.1 dX12_init_372 (by decide) ?_
  refine kp_newi (n := 30) X h ac_14 (by decide) (by decide) (by decide) (by decide) (by decide) dX12_init_374 (fun b125 T126 n_b125 e_T126 l_T126 f_b125 H h => ?_)
  have hw := hw b125 T126 n_b125 e_T126
  have f_a0 := l_T126.is f_a0
  have hle := hle.tr l_T126
  refine W.widen (k := 42) (n := 55446) (by decide) (by decide) ?_
  refine kp_putRF X hname h f_a0 ff_12_151 f_b125 rfl ⟨by decide, by decide⟩ ⟨rfl, rfl⟩ dX12_init_376 (fun T127 e_T127 l_T127 H locs h => ?_)
  have hw := hw T127 e_T127
  have f_a0 := l_T127.is f_a0
  have hle := hle.tr l_T127
  refine lv_aload_n X.1 X.2.1 dX12_init_379 rfl (lv_at hl 0 rfl) ?_
  refine lv_bipush (v := 6) X.1 X.2.1 dX12_init_380 (by decide) ?_
  refine kp_newi (n := 6) X h ac_14 (by decide) (by decide) (by decide) (by decide) (by decide) dX12_init_382 (fun b128 T129 n_b128 e_T129 l_T129 f_b128 H h => ?_)
  have hw := hw b128 T129 n_b128 e_T129
  have f_a0 := l_T129.is f_a0
  have hle := hle.tr l_T129
  refine W.widen (k := 43) (n := 55452) (by decide) (by decide) ?_
  refine kp_putRF X hname h f_a0 ff_12_154 f_b128 rfl ⟨by decide, by decide⟩ ⟨rfl, rfl⟩ dX12_init_384 (fun T130 e_T130 l_T130 H locs h => ?_)
  have hw := hw T130 e_T130
  have f_a0 := l_T130.is f_a0
  have hle := hle.tr l_T130
  refine lv_aload_n X.1 X.2.1 dX12_init_387 rfl (lv_at hl 0 rfl) ?_
  refine lv_bipush (v := 12) X.1 X.2.1 dX12_init_388 (by decide) ?_
  refine kp_newz (n := 12) X h ac_16 (by decide) (by decide) (by decide) (by decide) (by decide) dX12_init_390 (fun b131 T132 n_b131 e_T132 l_T132 f_b131 H h => ?_)
  have hw := hw b131 T132 n_b131 e_T132
  have f_a0 := l_T132.is f_a0
  have hle := hle.tr l_T132
  refine W.widen (k := 44) (n := 55464) (by decide) (by decide) ?_
  refine kp_putRF X hname h f_a0 ff_12_157 f_b131 rfl ⟨by decide, by decide⟩ ⟨rfl, rfl⟩ dX12_init_392 (fun T133 e_T133 l_T133 H locs h => ?_)
  have hw := hw T133 e_T133
  have f_a0 := l_T133.is f_a0
  have hle := hle.tr l_T133
  refine lv_aload_n X.1 X.2.1 dX12_init_395 rfl (lv_at hl 0 rfl) ?_
  refine lv_bipush (v := 6) X.1 X.2.1 dX12_init_396 (by decide) ?_
  refine kp_newi (n := 6) X h ac_14 (by decide) (by decide) (by decide) (by decide) (by decide) dX12_init_398 (fun b134 T135 n_b134 e_T135 l_T135 f_b134 H h => ?_)
  have hw := hw b134 T135 n_b134 e_T135
  have f_a0 := l_T135.is f_a0
  have hle := hle.tr l_T135
  refine W.widen (k := 45) (n := 55470) (by decide) (by decide) ?_
  refine kp_putRF X hname h f_a0 ff_12_161 f_b134 rfl ⟨by decide, by decide⟩ ⟨rfl, rfl⟩ dX12_init_400 (fun T136 e_T136 l_T136 H locs h => ?_)
  have hw := hw T136 e_T136
  have f_a0 := l_T136.is f_a0
  have hle := hle.tr l_T136
  refine lv_aload_n X.1 X.2.1 dX12_init_403 rfl (lv_at hl 0 rfl) ?_
  refine lv_bipush (v := 7) X.1 X.2.1 dX12_init_404 (by decide) ?_
  refine kp_newi (n := 7) X h ac_14 (by decide) (by decide) (by decide) (by decide) (by decide) dX12_init_406 (fun b137 T138 n_b137 e_T138 l_T138 f_b137 H h => ?_)
  have hw := hw b137 T138 n_b137 e_T138
  have f_a0 := l_T138.is f_a0
  have hle := hle.tr l_T138
  refine W.widen (k := 46) (n := 55477) (by decide) (by decide) ?_
  refine kp_putRF X hname h f_a0 ff_12_164 f_b137 rfl ⟨by decide, by decide⟩ ⟨rfl, rfl⟩ dX12_init_408 (fun T139 e_T139 l_T139 H locs h => ?_)
  have hw := hw T139 e_T139
  have f_a0 := l_T139.is f_a0
  have hle := hle.tr l_T139
  refine lv_aload_n X.1 X.2.1 dX12_init_411 rfl (lv_at hl 0 rfl) ?_
  refine lv_bipush (v := 8) X.1 X.2.1 dX12_init_412 (by decide) ?_
  refine kp_newi (n := 8) X h ac_14 (by decide) (by decide) (by decide) (by decide) (by decide) dX12_init_414 (fun b140 T141 n_b140 e_T141 l_T141 f_b140 H h => ?_)
  have hw := hw b140 T141 n_b140 e_T141
  have f_a0 := l_T141.is f_a0
  have hle := hle.tr l_T141
  refine W.widen (k := 47) (n := 55485) (by decide) (by decide) ?_
  refine kp_putRF X hname h f_a0 ff_12_167 f_b140 rfl ⟨by decide, by decide⟩ ⟨rfl, rfl⟩ dX12_init_416 (fun T142 e_T142 l_T142 H locs h => ?_)
  have hw := hw T142 e_T142
  have f_a0 := l_T142.is f_a0
  have hle := hle.tr l_T142
  refine lv_aload_n X.1 X.2.1 dX12_init_419 rfl (lv_at hl 0 rfl) ?_
  refine lv_sipush (v := 300) X.1 X.2.1 dX12_init_420 (by decide) ?_
  refine kp_newi (n := 300) X h ac_14 (by decide) (by decide) (by decide) (by decide) (by decide) dX12_init_423 (fun b143 T144 n_b143 e_T144 l_T144 f_b143 H h => ?_)
  have hw := hw b143 T144 n_b143 e_T144
  have f_a0 := l_T144.is f_a0
  have hle := hle.tr l_T144
  refine W.widen (k := 48) (n := 55785) (by decide) (by decide) ?_
  refine kp_putRF X hname h f_a0 ff_12_170 f_b143 rfl ⟨by decide, by decide⟩ ⟨rfl, rfl⟩ dX12_init_425 (fun T145 e_T145 l_T145 H locs h => ?_)
  have hw := hw T145 e_T145
  have f_a0 := l_T145.is f_a0
  have hle := hle.tr l_T145
  refine lv_aload_n X.1 X.2.1 dX12_init_428 rfl (lv_at hl 0 rfl) ?_
  refine lv_sipush (v := 300) X.1 X.2.1 dX12_init_429 (by decide) ?_
  refine kp_newi (n := 300) X h ac_14 (by decide) (by decide) (by decide) (by decide) (by decide) dX12_init_432 (fun b146 T147 n_b146 e_T147 l_T147 f_b146 H h => ?_)
  have hw := hw b146 T147 n_b146 e_T147
  have f_a0 := l_T147.is f_a0
  have hle := hle.tr l_T147
  refine W.widen (k := 49) (n := 56085) (by decide) (by decide) ?_
  refine kp_putRF X hname h f_a0 ff_12_173 f_b146 rfl ⟨by decide, by decide⟩ ⟨rfl, rfl⟩ dX12_init_434 (fun T148 e_T148 l_T148 H locs h => ?_)
  have hw := hw T148 e_T148
  have f_a0 := l_T148.is f_a0
  have hle := hle.tr l_T148
  refine lv_aload_n X.1 X.2.1 dX12_init_437 rfl (lv_at hl 0 rfl) ?_
  refine lv_sipush (v := 240) X.1 X.2.1 dX12_init_438 (by decide) ?_
  refine kp_newi (n := 240) X h ac_14 (by decide) (by decide) (by decide) (by decide) (by decide) dX12_init_441 (fun b149 T150 n_b149 e_T150 l_T150 f_b149 H h => ?_)
  have hw := hw b149 T150 n_b149 e_T150
  have f_a0 := l_T150.is f_a0
  have hle := hle.tr l_T150
  refine W.widen (k := 50) (n := 56325) (by decide) (by decide) ?_
  refine kp_putRF X hname h f_a0 ff_12_176 f_b149 rfl ⟨by decide, by decide⟩ ⟨rfl, rfl⟩ dX12_init_443 (fun T151 e_T151 l_T151 H locs h => ?_)
  have hw := hw T151 e_T151
  have f_a0 := l_T151.is f_a0
  have hle := hle.tr l_T151
  refine lv_aload_n X.1 X.2.1 dX12_init_446 rfl (lv_at hl 0 rfl) ?_
  refine lv_sipush (v := 240) X.1 X.2.1 dX12_init_447 (by decide) ?_
  refine kp_newi (n := 240) X h ac_14 (by decide) (by decide) (by decide) (by decide) (by decide) dX12_init_450 (fun b152 T153 n_b152 e_T153 l_T153 f_b152 H h => ?_)
  have hw := hw b152 T153 n_b152 e_T153
  have f_a0 := l_T153.is f_a0
  have hle := hle.tr l_T153
  refine W.widen (k := 51) (n := 56565) (by decide) (by decide) ?_
  refine kp_putRF X hname h f_a0 ff_12_179 f_b152 rfl ⟨by decide, by decide⟩ ⟨rfl, rfl⟩ dX12_init_452 (fun T154 e_T154 l_T154 H locs h => ?_)
  have hw := hw T154 e_T154
  have f_a0 := l_T154.is f_a0
  have hle := hle.tr l_T154
  refine lv_aload_n X.1 X.2.1 dX12_init_455 rfl (lv_at hl 0 rfl) ?_
  refine lv_sipush (v := 240) X.1 X.2.1 dX12_init_456 (by decide) ?_
  refine kp_newi (n := 240) X h ac_14 (by decide) (by decide) (by decide) (by decide) (by decide) dX12_init_459 (fun b155 T156 n_b155 e_T156 l_T156 f_b155 H h => ?_)
  have hw := hw b155 T156 n_b155 e_T156
  have f_a0 := l_T156.is f_a0
  have hle := hle.tr l_T156
  refine W.widen (k := 52) (n := 56805) (by decide) (by decide) ?_
  refine kp_putRF X hname h f_a0 ff_12_182 f_b155 rfl ⟨by decide, by decide⟩ ⟨rfl, rfl⟩ dX12_init_461 (fun T157 e_T157 l_T157 H locs h => ?_)
  have hw := hw T157 e_T157
  have f_a0 := l_T157.is f_a0
  have hle := hle.tr l_T157
  refine lv_aload_n X.1 X.2.1 dX12_init_464 rfl (lv_at hl 0 rfl) ?_
  refine lv_sipush (v := 240) X.1 X.2.1 dX12_init_465 (by decide) ?_
  refine kp_newi (n := 240) X h ac_14 (by decide) (by decide) (by decide) (by decide) (by decide) dX12_init_468 (fun b158 T159 n_b158 e_T159 l_T159 f_b158 H h => ?_)
  have hw := hw b158 T159 n_b158 e_T159
  have f_a0 := l_T159.is f_a0
  have hle := hle.tr l_T159
  refine W.widen (k := 53) (n := 57045) (by decide) (by decide) ?_
  refine kp_putRF X hname h f_a0 ff_12_185 f_b158 rfl ⟨by decide, by decide⟩ ⟨rfl, rfl⟩ dX12_init_470 (fun T160 e_T160 l_T160 H locs h => ?_)
  have hw := hw T160 e_T160
  have f_a0 := l_T160.is f_a0
  have hle := hle.tr l_T160
  refine lv_aload_n X.1 X.2.1 dX12_init_473 rfl (lv_at hl 0 rfl) ?_
  refine lv_sipush (v := 240) X.1 X.2.1 dX12_init_474 (by decide) ?_
  refine kp_newi (n := 240) X h ac_14 (by decide) (by decide) (by decide) (by decide) (by decide) dX12_init_477 (fun b161 T162 n_b161 e_T162 l_T162 f_b161 H h => ?_)
  have hw := hw b161 T162 n_b161 e_T162
  have f_a0 := l_T162.is f_a0
  have hle := hle.tr l_T162
  refine W.widen (k := 54) (n := 57285) (by decide) (by decide) ?_
  refine kp_putRF X hname h f_a0 ff_12_188 f_b161 rfl ⟨by decide, by decide⟩ ⟨rfl, rfl⟩ dX12_init_479 (fun T163 e_T163 l_T163 H locs h => ?_)
  have hw := hw T163 e_T163
  have f_a0 := l_T163.is f_a0
  have hle := hle.tr l_T163
  refine lv_aload_n X.1 X.2.1 dX12_init_482 rfl (lv_at hl 0 rfl) ?_
  refine lv_sipush (v := 240) X.1 X.2.1 dX12_init_483 (by decide) ?_
  refine kp_newl (n := 240) X h ac_15 (by decide) (by decide) (by decide) (by decide) (by decide) dX12_init_486 (fun b164 T165 n_b164 e_T165 l_T165 f_b164 H h => ?_)
  have hw := hw b164 T165 n_b164 e_T165
  have f_a0 := l_T165.is f_a0
  have hle := hle.tr l_T165
  refine W.widen (k := 55) (n := 57525) (by decide) (by decide) ?_
  refine kp_putRF X hname h f_a0 ff_12_191 f_b164 rfl ⟨by decide, by decide⟩ ⟨rfl, rfl⟩ dX12_init_488 (fun T166 e_T166 l_T166 H locs h => ?_)
  have hw := hw T166 e_T166
  have f_a0 := l_T166.is f_a0
  have hle := hle.tr l_T166
  refine lv_aload_n X.1 X.2.1 dX12_init_491 rfl (lv_at hl 0 rfl) ?_
  refine lv_sipush (v := 240) X.1 X.2.1 dX12_init_492 (by decide) ?_
  refine kp_newl (n := 240) X h ac_15 (by decide) (by decide) (by decide) (by decide) (by decide) dX12_init_495 (fun b167 T168 n_b167 e_T168 l_T168 f_b167 H h => ?_)
  have hw := hw b167 T168 n_b167 e_T168
  have f_a0 := l_T168.is f_a0
  have hle := hle.tr l_T168
  refine W.widen (k := 56) (n := 57765) (by decide) (by decide) ?_
  refine kp_putRF X hname h f_a0 ff_12_194 f_b167 rfl ⟨by decide, by decide⟩ ⟨rfl, rfl⟩ dX12_init_497 (fun T169 e_T169 l_T169 H locs h => ?_)
  have hw := hw T169 e_T169
  have f_a0 := l_T169.is f_a0
  have hle := hle.tr l_T169
  refine lv_aload_n X.1 X.2.1 dX12_init_500 rfl (lv_at hl 0 rfl) ?_
  refine lv_sipush (v := 240) X.1 X.2.1 dX12_init_501 (by decide) ?_
  refine kp_newi (n := 240) X h ac_14 (by decide) (by decide) (by decide) (by decide) (by decide) dX12_init_504 (fun b170 T171 n_b170 e_T171 l_T171 f_b170 H h => ?_)
  have hw := hw b170 T171 n_b170 e_T171
  have f_a0 := l_T171.is f_a0
  have hle := hle.tr l_T171
  refine W.widen (k := 57) (n := 58005) (by decide) (by decide) ?_
  refine kp_putRF X hname h f_a0 ff_12_197 f_b170 rfl ⟨by decide, by decide⟩ ⟨rfl, rfl⟩ dX12_init_506 (fun T172 e_T172 l_T172 H locs h => ?_)
  have hw := hw T172 e_T172
  have f_a0 := l_T172.is f_a0
  have hle := hle.tr l_T172
  refine lv_aload_n X.1 X.2.1 dX12_init_509 rfl (lv_at hl 0 rfl) ?_
  refine lv_sipush (v := 240) X.1 X.2.1 dX12_init_510 (by decide) ?_
  refine kp_newi (n := 240) X h ac_14 (by decide) (by decide) (by decide) (by decide) (by decide) dX12_init_513 (fun b173 T174 n_b173 e_T174 l_T174 f_b173 H h => ?_)
  have hw := hw b173 T174 n_b173 e_T174
  have f_a0 := l_T174.is f_a0
  have hle := hle.tr l_T174
  refine W.widen (k := 58) (n := 58245) (by decide) (by decide) ?_
  refine kp_putRF X hname h f_a0 ff_12_200 f_b173 rfl ⟨by decide, by decide⟩ ⟨rfl, rfl⟩ dX12_init_515 (fun T175 e_T175 l_T175 H locs h => ?_)
  have hw := hw T175 e_T175
  have f_a0 := l_T175.is f_a0
  have hle := hle.tr l_T175
  refine lv_aload_n X.1 X.2.1 dX12_init_518 rfl (lv_at hl 0 rfl) ?_
  refine lv_sipush (v := 240) X.1 X.2.1 dX12_init_519 (by decide) ?_
  refine kp_newi (n := 240) X h ac_14 (by decide) (by decide) (by decide) (by decide) (by decide) dX12_init_522 (fun b176 T177 n_b176 e_T177 l_T177 f_b176 H h => ?_)
  have hw := hw b176 T177 n_b176 e_T177
  have f_a0 := l_T177.is f_a0
  have hle := hle.tr l_T177
  refine W.widen (k := 59) (n := 58485) (by decide) (by decide) ?_
  refine kp_putRF X hname h f_a0 ff_12_203 f_b176 rfl ⟨by decide, by decide⟩ ⟨rfl, rfl⟩ dX12_init_524 (fun T178 e_T178 l_T178 H locs h => ?_)
  have hw := hw T178 e_T178
  have f_a0 := l_T178.is f_a0
  have hle := hle.tr l_T178
  refine lv_aload_n X.1 X.2.1 dX12_init_527 rfl (lv_at hl 0 rfl) ?_
  refine lv_sipush (v := 240) X.1 X.2.1 dX12_init_528 (by decide) ?_
  refine kp_newi (n := 240) X h ac_14 (by decide) (by decide) (by decide) (by decide) (by decide) dX12_init_531 (fun b179 T180 n_b179 e_T180 l_T180 f_b179 H h => ?_)
  have hw := hw b179 T180 n_b179 e_T180
  have f_a0 := l_T180.is f_a0
  have hle := hle.tr l_T180
  refine W.widen (k := 60) (n := 58725) (by decide) (by decide) ?_
  refine kp_putRF X hname h f_a0 ff_12_206 f_b179 rfl ⟨by decide, by decide⟩ ⟨rfl, rfl⟩ dX12_init_533 (fun T181 e_T181 l_T181 H locs h => ?_)
  have hw := hw T181 e_T181
  have f_a0 := l_T181.is f_a0
  have hle := hle.tr l_T181
  refine lv_aload_n X.1 X.2.1 dX12_init_536 rfl (lv_at hl 0 rfl) ?_
  refine lv_sipush (v := 240) X.1 X.2.1 dX12_init_537 (by decide) ?_
  refine kp_newi (n := 240) X h ac_14 (by decide) (by decide) (by decide) (by decide) (by decide) dX12_init_540 (fun b182 T183 n_b182 e_T183 l_T183 f_b182 H h => ?_)
  have hw := hw b182 T183 n_b182 e_T183
  have f_a0 := l_T183.is f_a0
  have hle := hle.tr l_T183
  refine W.widen (k := 61) (n := 58965) (by decide) (by decide) ?_
  refine kp_putRF X hname h f_a0 ff_12_209 f_b182 rfl ⟨by decide, by decide⟩ ⟨rfl, rfl⟩ dX12_init_542 (fun T184 e_T184 l_T184 H locs h => ?_)
  have hw := hw T184 e_T184
  have f_a0 := l_T184.is f_a0
  have hle := hle.tr l_T184
  refine lv_aload_n X.1 X.2.1 dX12_init_545 rfl (lv_at hl 0 rfl) ?_
  refine lv_sipush (v := 240) X.1 X.2.1 dX12_init_546 (by decide) ?_
  refine kp_newi (n := 240) X h ac_14 (by decide) (by decide) (by decide) (by decide) (by decide) dX12_init_549 (fun b185 T186 n_b185 e_T186 l_T186 f_b185 H h => ?_)
  have hw := hw b185 T186 n_b185 e_T186
  have f_a0 := l_T186.is f_a0
  have hle := hle.tr l_T186
  refine W.widen (k := 62) (n := 59205) (by decide) (by decide) ?_
  refine kp_putRF X hname h f_a0 ff_12_212 f_b185 rfl ⟨by decide, by decide⟩ ⟨rfl, rfl⟩ dX12_init_551 (fun T187 e_T187 l_T187 H locs h => ?_)
  have hw := hw T187 e_T187
  have f_a0 := l_T187.is f_a0
  have hle := hle.tr l_T187
  refine lv_aload_n X.1 X.2.1 dX12_init_554 rfl (lv_at hl 0 rfl) ?_
  refine lv_bipush (v := 13) X.1 X.2.1 dX12_init_555 (by decide) ?_
  refine kp_newi (n := 13) X h ac_14 (by decide) (by decide) (by decide) (by decide) (by decide) dX12_init_557 (fun b188 T189 n_b188 e_T189 l_T189 f_b188 H h => ?_)
  have hw := hw b188 T189 n_b188 e_T189
  have f_a0 := l_T189.is f_a0
  have hle := hle.tr l_T189
  refine W.widen (k := 63) (n := 59218) (by decide) (by decide) ?_
  refine kp_putRF X hname h f_a0 ff_12_215 f_b188 rfl ⟨by decide, by decide⟩ ⟨rfl, rfl⟩ dX12_init_559 (fun T190 e_T190 l_T190 H locs h => ?_)
  have hw := hw T190 e_T190
  have f_a0 := l_T190.is f_a0
  have hle := hle.tr l_T190
  refine lv_aload_n X.1 X.2.1 dX12_init_562 rfl (lv_at hl 0 rfl) ?_
  refine lv_bipush (v := 13) X.1 X.2.1 dX12_init_563 (by decide) ?_
  refine kp_newi (n := 13) X h ac_14 (by decide) (by decide) (by decide) (by decide) (by decide) dX12_init_565 (fun b191 T192 n_b191 e_T192 l_T192 f_b191 H h => ?_)
  have hw := hw b191 T192 n_b191 e_T192
  have f_a0 := l_T192.is f_a0
  have hle := hle.tr l_T192
  refine W.widen (k := 64) (n := 59231) (by decide) (by decide) ?_
  refine kp_putRF X hname h f_a0 ff_12_218 f_b191 rfl ⟨by decide, by decide⟩ ⟨rfl, rfl⟩ dX12_init_567 (fun T193 e_T193 l_T193 H locs h => ?_)
  have hw := hw T193 e_T193
  have f_a0 := l_T193.is f_a0
  have hle := hle.tr l_T193
  refine lv_aload_n X.1 X.2.1 dX12_init_570 rfl (lv_at hl 0 rfl) ?_
  refine lv_bipush (v := 13) X.1 X.2.1 dX12_init_571 (by decide) ?_
  refine kp_newi (n := 13) X h ac_14 (by decide) (by decide) (by decide) (by decide) (by decide) dX12_init_573 (fun b194 T195 n_b194 e_T195 l_T195 f_b194 H h => ?_)
  have hw := hw b194 T195 n_b194 e_T195
  have f_a0 := l_T195.is f_a0
  have hle := hle.tr l_T195
  refine W.widen (k := 65) (n := 59244) (by decide) (by decide) ?_
  refine kp_putRF X hname h f_a0 ff_12_221 f_b194 rfl ⟨by decide, by decide⟩ ⟨rfl, rfl⟩ dX12_init_575 (fun T196 e_T196 l_T196 H locs h => ?_)
  have hw := hw T196 e_T196
  have f_a0 := l_T196.is f_a0
  have hle := hle.tr l_T196
  refine lv_aload_n X.1 X.2.1 dX12_init_578 rfl (lv_at hl 0 rfl) ?_
  refine lv_bipush (v := 13) X.1 X.2.1 dX12_init_579 (by decide) ?_
  refine kp_newi (n := 13) X h ac_14 (by decide) (by decide) (by decide) (by decide) (by decide) dX12_init_581 (fun b197 T198 n_b197 e_T198 l_T198 f_b197 H h => ?_)
  have hw := hw b197 T198 n_b197 e_T198
  have f_a0 := l_T198.is f_a0
  have hle := hle.tr l_T198
  refine W.widen (k := 66) (n := 59257) (by decide) (by decide) ?_
  refine kp_putRF X hname h f_a0 ff_12_224 f_b197 rfl ⟨by decide, by decide⟩ ⟨rfl, rfl⟩ dX12_init_583 (fun T199 e_T199 l_T199 H locs h => ?_)
  have hw := hw T199 e_T199
  have f_a0 := l_T199.is f_a0
  have hle := hle.tr l_T199
  refine lv_aload_n X.1 X.2.1 dX12_init_586 rfl (lv_at hl 0 rfl) ?_
  refine lv_bipush (v := 13) X.1 X.2.1 dX12_init_587 (by decide) ?_
  refine kp_newi (n := 13) X h ac_14 (by decide) (by decide) (by decide) (by decide) (by decide) dX12_init_589 (fun b200 T201 n_b200 e_T201 l_T201 f_b200 H h => ?_)
  have hw := hw b200 T201 n_b200 e_T201
  have f_a0 := l_T201.is f_a0
  have hle := hle.tr l_T201
  refine W.widen (k := 67) (n := 59270) (by decide) (by decide) ?_
  refine kp_putRF X hname h f_a0 ff_12_227 f_b200 rfl ⟨by decide, by decide⟩ ⟨rfl, rfl⟩ dX12_init_591 (fun T202 e_T202 l_T202 H locs h => ?_)
  have hw := hw T202 e_T202
  have f_a0 := l_T202.is f_a0
  have hle := hle.tr l_T202
  refine lv_aload_n X.1 X.2.1 dX12_init_594 rfl (lv_at hl 0 rfl) ?_
  refine lv_sipush (v := 520) X.1 X.2.1 dX12_init_595 (by decide) ?_
  refine kp_newi (n := 520) X h ac_14 (by decide) (by decide) (by decide) (by decide) (by decide) dX12_init_598 (fun b203 T204 n_b203 e_T204 l_T204 f_b203 H h => ?_)
  have hw := hw b203 T204 n_b203 e_T204
  have f_a0 := l_T204.is f_a0
  have hle := hle.tr l_T204
  refine W.widen (k := 68) (n := 59790) (by decide) (by decide) ?_
  refine kp_putRF X hname h f_a0 ff_12_230 f_b203 rfl ⟨by decide, by decide⟩ ⟨rfl, rfl⟩ dX12_init_600 (fun T205 e_T205 l_T205 H locs h => ?_)
  have hw := hw T205 e_T205
  have f_a0 := l_T205.is f_a0
  have hle := hle.tr l_T205
  refine lv_aload_n X.1 X.2.1 dX12_init_603 rfl (lv_at hl 0 rfl) ?_
  refine lv_sipush (v := 520) X.1 X.2.1 dX12_init_604 (by decide) ?_
  refine kp_newi (n := 520) X h ac_14 (by decide) (by decide) (by decide) (by decide) (by decide) dX12_init_607 (fun b206 T207 n_b206 e_T207 l_T207 f_b206 H h => ?_)
  have hw := hw b206 T207 n_b206 e_T207
  have f_a0 := l_T207.is f_a0
  have hle := hle.tr l_T207
  refine W.widen (k := 69) (n := 60310) (by decide) (by decide) ?_
  refine kp_putRF X hname h f_a0 ff_12_233 f_b206 rfl ⟨by decide, by decide⟩ ⟨rfl, rfl⟩ dX12_init_609 (fun T208 e_T208 l_T208 H locs h => ?_)
  have hw := hw T208 e_T208
  have f_a0 := l_T208.is f_a0
  have hle := hle.tr l_T208
  refine lv_aload_n X.1 X.2.1 dX12_init_612 rfl (lv_at hl 0 rfl) ?_
  refine lv_sipush (v := 312) X.1 X.2.1 dX12_init_613 (by decide) ?_
  refine kp_newi (n := 312) X h ac_14 (by decide) (by decide) (by decide) (by decide) (by decide) dX12_init_616 (fun b209 T210 n_b209 e_T210 l_T210 f_b209 H h => ?_)
  have hw := hw b209 T210 n_b209 e_T210
  have f_a0 := l_T210.is f_a0
  have hle := hle.tr l_T210
  refine W.widen (k := 70) (n := 60622) (by decide) (by decide) ?_
  refine kp_putRF X hname h f_a0 ff_12_236 f_b209 rfl ⟨by decide, by decide⟩ ⟨rfl, rfl⟩ dX12_init_618 (fun T211 e_T211 l_T211 H locs h => ?_)
  have hw := hw T211 e_T211
  have f_a0 := l_T211.is f_a0
  have hle := hle.tr l_T211
  refine lv_aload_n X.1 X.2.1 dX12_init_621 rfl (lv_at hl 0 rfl) ?_
  refine lv_sipush (v := 4000) X.1 X.2.1 dX12_init_622 (by decide) ?_
  refine kp_newi (n := 4000) X h ac_14 (by decide) (by decide) (by decide) (by decide) (by decide) dX12_init_625 (fun b212 T213 n_b212 e_T213 l_T213 f_b212 H h => ?_)
  have hw := hw b212 T213 n_b212 e_T213
  have f_a0 := l_T213.is f_a0
  have hle := hle.tr l_T213
  refine W.widen (k := 71) (n := 64622) (by decide) (by decide) ?_
  refine kp_putRF X hname h f_a0 ff_12_239 f_b212 rfl ⟨by decide, by decide⟩ ⟨rfl, rfl⟩ dX12_init_627 (fun T214 e_T214 l_T214 H locs h => ?_)
  have hw := hw T214 e_T214
  have f_a0 := l_T214.is f_a0
  have hle := hle.tr l_T214
  refine lv_aload_n X.1 X.2.1 dX12_init_630 rfl (lv_at hl 0 rfl) ?_
  refine lv_iconst (v := (-1)) X.1 X.2.1 dX12_init_631 (by decide) ?_
  refine kp_putI X h f_a0 fp_12_242 rfl ⟨rfl, rfl⟩ dX12_init_632 (fun T215 e_T215 l_T215 H locs h => ?_)
  have hw := hw T215 e_T215
  have f_a0 := l_T215.is f_a0
  have hle := hle.tr l_T215
  refine lv_aload_n X.1 X.2.1 dX12_init_635 rfl (lv_at hl 0 rfl) ?_
  refine lv_iconst (v := (-1)) X.1 X.2.1 dX12_init_636 (by decide) ?_
  refine kp_putI X h f_a0 fp_12_245 rfl ⟨rfl, rfl⟩ dX12_init_637 (fun T216 e_T216 l_T216 H locs h => ?_)
  have hw := hw T216 e_T216
  have f_a0 := l_T216.is f_a0
  have hle := hle.tr l_T216
  refine lv_aload_n X.1 X.2.1 dX12_init_640 rfl (lv_at hl 0 rfl) ?_
  obtain ⟨b217, e_b217, hw⟩ := hw
  have f_b217 := h.2.2.2.rf (c := 12) (k := 3) f_a0 (by decide) (by decide) e_b217 (t := 15) rfl
  refine kp_get X h f_a0 ff_12_27.l (v := .ref b217) (congrArg va_rf e_b217) dX12_init_641 ?_
  refine lv_bipush (v := 10) X.1 X.2.1 dX12_init_644 (by decide) ?_
  refine kp_ldcs X 2 rfl dX12_init_646 ?_
  refine kp_calll X h (kp_runS (rm := { frames := 4, cells := 0, slots := 0, locals := 85 }) (mc := 0) (ms := 0) (rest := [.int 10, .ref b217]) (Qc := fun A => kp_Ql D cy A T216 _) X h (c_X12_packed l D cy ad T216 2 _ h.2.2.2 (by decide) hw) cs_12_250 ⟨by decide, by decide, rfl, rfl, by decide, by decide⟩ rfl hl.1 rfl (Nat.le_of_ble_eq_true rfl) dX12_init_648) (fun z219 T218 hw l_T218 H locs h => ?_)
  have f_a0 := l_T218.is f_a0
  have f_b217 := l_T218.is f_b217
  have hle := hle.tr l_T218
  obtain ⟨hi, hw⟩ := hw
  refine kp_last X h f_b217 hi dX12_init_651 (fun T220 e_T220 l_T220 H locs h => ?_)
  have hw := hw T220 e_T220
  have f_a0 := l_T220.is f_a0
  have hle := hle.tr l_T220
  refine lv_aload_n X.1 X.2.1 dX12_init_652 rfl (lv_at hl 0 rfl) ?_
  obtain ⟨b221, e_b221, hw⟩ := hw
  have f_b221 := h.2.2.2.rf (c := 12) (k := 3) f_a0 (by decide) (by decide) e_b221 (t := 15) rfl
  refine kp_get X h f_a0 ff_12_27.l (v := .ref b221) (congrArg va_rf e_b221) dX12_init_653 ?_
  refine lv_bipush (v := 11) X.1 X.2.1 dX12_init_656 (by decide) ?_
  refine kp_ldcs X 3 rfl dX12_init_658 ?_
  refine kp_calll X h (kp_runS (rm := { frames := 4, cells := 0, slots := 0, locals := 85 }) (mc := 0) (ms := 0) (rest := [.int 11, .ref b221]) (Qc := fun A => kp_Ql D cy A T220 _) X h (c_X12_packed l D cy ad T220 3 _ h.2.2.2 (by decide) hw) cs_12_250 ⟨by decide, by decide, rfl, rfl, by decide, by decide⟩ rfl hl.1 rfl (Nat.le_of_ble_eq_true rfl) dX12_init_660) (fun z223 T222 hw l_T222 H locs h => ?_)
  have f_a0 := l_T222.is f_a0
  have f_b221 := l_T222.is f_b221
  have hle := hle.tr l_T222
  obtain ⟨hi, hw⟩ := hw
  refine kp_last X h f_b221 hi dX12_init_663 (fun T224 e_T224 l_T224 H locs h => ?_)
  have hw := hw T224 e_T224
  have f_a0 := l_T224.is f_a0
  have hle := hle.tr l_T224
  refine lv_aload_n X.1 X.2.1 dX12_init_664 rfl (lv_at hl 0 rfl) ?_
  obtain ⟨b225, e_b225, hw⟩ := hw
  have f_b225 := h.2.2.2.rf (c := 12) (k := 3) f_a0 (by decide) (by decide) e_b225 (t := 15) rfl
  refine kp_get X h f_a0 ff_12_27.l (v := .ref b225) (congrArg va_rf e_b225) dX12_init_665 ?_
  refine lv_bipush (v := 12) X.1 X.2.1 dX12_init_668 (by decide) ?_
  refine kp_ldcsw X 4 rfl dX12_init_670 ?_
  refine kp_calll X h (kp_runS (rm := { frames := 4, cells := 0, slots := 0, locals := 85 }) (mc := 0) (ms := 0) (rest := [.int 12, .ref b225]) (Qc := fun A => kp_Ql D cy A T224 _) X h (c_X12_packed l D cy ad T224 4 _ h.2.2.2 (by decide) hw) cs_12_250 ⟨by decide, by decide, rfl, rfl, by decide, by decide⟩ rfl hl.1 rfl (Nat.le_of_ble_eq_true rfl) dX12_init_673) (fun z227 T226 hw l_T226 H locs h => ?_)
  have f_a0 := l_T226.is f_a0
  have f_b225 := l_T226.is f_b225
  have hle := hle.tr l_T226
  obtain ⟨hi, hw⟩ := hw
  refine kp_last X h f_b225 hi dX12_init_676 (fun T228 e_T228 l_T228 H locs h => ?_)
  have hw := hw T228 e_T228
  have f_a0 := l_T228.is f_a0
  have hle := hle.tr l_T228
  refine lv_aload_n X.1 X.2.1 dX12_init_677 rfl (lv_at hl 0 rfl) ?_
  obtain ⟨b229, e_b229, hw⟩ := hw
  have f_b229 := h.2.2.2.rf (c := 12) (k := 3) f_a0 (by decide) (by decide) e_b229 (t := 15) rfl
  refine kp_get X h f_a0 ff_12_27.l (v := .ref b229) (congrArg va_rf e_b229) dX12_init_678 ?_
  refine lv_bipush (v := 13) X.1 X.2.1 dX12_init_681 (by decide) ?_
  refine kp_ldcsw X 5 rfl dX12_init_683 ?_
  refine kp_calll X h (kp_runS (rm := { frames := 4, cells := 0, slots := 0, locals := 85 }) (mc := 0) (ms := 0) (rest := [.int 13, .ref b229]) (Qc := fun A => kp_Ql D cy A T228 _) X h (c_X12_packed l D cy ad T228 5 _ h.2.2.2 (by decide) hw) cs_12_250 ⟨by decide, by decide, rfl, rfl, by decide, by decide⟩ rfl hl.1 rfl (Nat.le_of_ble_eq_true rfl) dX12_init_686) (fun z231 T230 hw l_T230 H locs h => ?_)
  have f_a0 := l_T230.is f_a0
  have f_b229 := l_T230.is f_b229
  have hle := hle.tr l_T230
  obtain ⟨hi, hw⟩ := hw
  refine kp_last X h f_b229 hi dX12_init_689 (fun T232 e_T232 l_T232 H locs h => ?_)
  have hw := hw T232 e_T232
  have f_a0 := l_T232.is f_a0
  have hle := hle.tr l_T232
  refine lv_aload_n X.1 X.2.1 dX12_init_690 rfl (lv_at hl 0 rfl) ?_
  obtain ⟨b233, e_b233, hw⟩ := hw
  have f_b233 := h.2.2.2.rf (c := 12) (k := 3) f_a0 (by decide) (by decide) e_b233 (t := 15) rfl
  refine kp_get X h f_a0 ff_12_27.l (v := .ref b233) (congrArg va_rf e_b233) dX12_init_691 ?_
  refine lv_bipush (v := 14) X.1 X.2.1 dX12_init_694 (by decide) ?_
  refine kp_ldcsw X 6 rfl dX12_init_696 ?_
  refine kp_calll X h (kp_runS (rm := { frames := 4, cells := 0, slots := 0, locals := 85 }) (mc := 0) (ms := 0) (rest := [.int 14, .ref b233]) (Qc := fun A => kp_Ql D cy A T232 _) X h (c_X12_packed l D cy ad T232 6 _ h.2.2.2 (by decide) hw) cs_12_250 ⟨by decide, by decide, rfl, rfl, by decide, by decide⟩ rfl hl.1 rfl (Nat.le_of_ble_eq_true rfl) dX12_init_699) (fun z235 T234 hw l_T234 H locs h => ?_)
  have f_a0 := l_T234.is f_a0
  have f_b233 := l_T234.is f_b233
  have hle := hle.tr l_T234
  obtain ⟨hi, hw⟩ := hw
  refine kp_last X h f_b233 hi dX12_init_702 (fun T236 e_T236 l_T236 H locs h => ?_)
  have hw := hw T236 e_T236
  have f_a0 := l_T236.is f_a0
  have hle := hle.tr l_T236
  refine lv_aload_n X.1 X.2.1 dX12_init_703 rfl (lv_at hl 0 rfl) ?_
  obtain ⟨b237, e_b237, hw⟩ := hw
  have f_b237 := h.2.2.2.rf (c := 12) (k := 3) f_a0 (by decide) (by decide) e_b237 (t := 15) rfl
  refine kp_get X h f_a0 ff_12_27.l (v := .ref b237) (congrArg va_rf e_b237) dX12_init_704 ?_
  refine lv_bipush (v := 15) X.1 X.2.1 dX12_init_707 (by decide) ?_
  refine kp_ldcsw X 7 rfl dX12_init_709 ?_
  refine kp_calll X h (kp_runS (rm := { frames := 4, cells := 0, slots := 0, locals := 85 }) (mc := 0) (ms := 0) (rest := [.int 15, .ref b237]) (Qc := fun A => kp_Ql D cy A T236 _) X h (c_X12_packed l D cy ad T236 7 _ h.2.2.2 (by decide) hw) cs_12_250 ⟨by decide, by decide, rfl, rfl, by decide, by decide⟩ rfl hl.1 rfl (Nat.le_of_ble_eq_true rfl) dX12_init_712) (fun z239 T238 hw l_T238 H locs h => ?_)
  have f_a0 := l_T238.is f_a0
  have f_b237 := l_T238.is f_b237
  have hle := hle.tr l_T238
  obtain ⟨hi, hw⟩ := hw
  refine kp_last X h f_b237 hi dX12_init_715 (fun T240 e_T240 l_T240 H locs h => ?_)
  have hw := hw T240 e_T240
  have f_a0 := l_T240.is f_a0
  have hle := hle.tr l_T240
  refine lv_aload_n X.1 X.2.1 dX12_init_716 rfl (lv_at hl 0 rfl) ?_
  obtain ⟨b241, e_b241, hw⟩ := hw
  have f_b241 := h.2.2.2.rf (c := 12) (k := 3) f_a0 (by decide) (by decide) e_b241 (t := 15) rfl
  refine kp_get X h f_a0 ff_12_27.l (v := .ref b241) (congrArg va_rf e_b241) dX12_init_717 ?_
  refine lv_bipush (v := 16) X.1 X.2.1 dX12_init_720 (by decide) ?_
  refine kp_ldcsw X 8 rfl dX12_init_722 ?_
  refine kp_calll X h (kp_runS (rm := { frames := 4, cells := 0, slots := 0, locals := 85 }) (mc := 0) (ms := 0) (rest := [.int 16, .ref b241]) (Qc := fun A => kp_Ql D cy A T240 _) X h (c_X12_packed l D cy ad T240 8 _ h.2.2.2 (by decide) hw) cs_12_250 ⟨by decide, by decide, rfl, rfl, by decide, by decide⟩ rfl hl.1 rfl (Nat.le_of_ble_eq_true rfl) dX12_init_725) (fun z243 T242 hw l_T242 H locs h => ?_)
  have f_a0 := l_T242.is f_a0
  have f_b241 := l_T242.is f_b241
  have hle := hle.tr l_T242
  obtain ⟨hi, hw⟩ := hw
  refine kp_last X h f_b241 hi dX12_init_728 (fun T244 e_T244 l_T244 H locs h => ?_)
  have hw := hw T244 e_T244
  have f_a0 := l_T244.is f_a0
  have hle := hle.tr l_T244
  refine lv_aload_n X.1 X.2.1 dX12_init_729 rfl (lv_at hl 0 rfl) ?_
  obtain ⟨b245, e_b245, hw⟩ := hw
  have f_b245 := h.2.2.2.rf (c := 12) (k := 3) f_a0 (by decide) (by decide) e_b245 (t := 15) rfl
  refine kp_get X h f_a0 ff_12_27.l (v := .ref b245) (congrArg va_rf e_b245) dX12_init_730 ?_
  refine lv_bipush (v := 17) X.1 X.2.1 dX12_init_733 (by decide) ?_
  refine kp_ldcsw X 9 rfl dX12_init_735 ?_
  refine kp_calll X h (kp_runS (rm := { frames := 4, cells := 0, slots := 0, locals := 85 }) (mc := 0) (ms := 0) (rest := [.int 17, .ref b245]) (Qc := fun A => kp_Ql D cy A T244 _) X h (c_X12_packed l D cy ad T244 9 _ h.2.2.2 (by decide) hw) cs_12_250 ⟨by decide, by decide, rfl, rfl, by decide, by decide⟩ rfl hl.1 rfl (Nat.le_of_ble_eq_true rfl) dX12_init_738) (fun z247 T246 hw l_T246 H locs h => ?_)
  have f_a0 := l_T246.is f_a0
  have f_b245 := l_T246.is f_b245
  have hle := hle.tr l_T246
  obtain ⟨hi, hw⟩ := hw
  refine kp_last X h f_b245 hi dX12_init_741 (fun T248 e_T248 l_T248 H locs h => ?_)
  have hw := hw T248 e_T248
  have f_a0 := l_T248.is f_a0
  have hle := hle.tr l_T248
  refine lv_aload_n X.1 X.2.1 dX12_init_742 rfl (lv_at hl 0 rfl) ?_
  obtain ⟨b249, e_b249, hw⟩ := hw
  have f_b249 := h.2.2.2.rf (c := 12) (k := 3) f_a0 (by decide) (by decide) e_b249 (t := 15) rfl
  refine kp_get X h f_a0 ff_12_27.l (v := .ref b249) (congrArg va_rf e_b249) dX12_init_743 ?_
  refine lv_bipush (v := 18) X.1 X.2.1 dX12_init_746 (by decide) ?_
  refine kp_ldcsw X 10 rfl dX12_init_748 ?_
  refine kp_calll X h (kp_runS (rm := { frames := 4, cells := 0, slots := 0, locals := 85 }) (mc := 0) (ms := 0) (rest := [.int 18, .ref b249]) (Qc := fun A => kp_Ql D cy A T248 _) X h (c_X12_packed l D cy ad T248 10 _ h.2.2.2 (by decide) hw) cs_12_250 ⟨by decide, by decide, rfl, rfl, by decide, by decide⟩ rfl hl.1 rfl (Nat.le_of_ble_eq_true rfl) dX12_init_751) (fun z251 T250 hw l_T250 H locs h => ?_)
  have f_a0 := l_T250.is f_a0
  have f_b249 := l_T250.is f_b249
  have hle := hle.tr l_T250
  obtain ⟨hi, hw⟩ := hw
  refine kp_last X h f_b249 hi dX12_init_754 (fun T252 e_T252 l_T252 H locs h => ?_)
  have hw := hw T252 e_T252
  have f_a0 := l_T252.is f_a0
  have hle := hle.tr l_T252
  refine lv_aload_n X.1 X.2.1 dX12_init_755 rfl (lv_at hl 0 rfl) ?_
  obtain ⟨b253, e_b253, hw⟩ := hw
  have f_b253 := h.2.2.2.rf (c := 12) (k := 3) f_a0 (by decide) (by decide) e_b253 (t := 15) rfl
  refine kp_get X h f_a0 ff_12_27.l (v := .ref b253) (congrArg va_rf e_b253) dX12_init_756 ?_
  refine lv_bipush (v := 19) X.1 X.2.1 dX12_init_759 (by decide) ?_
  refine kp_ldcsw X 11 rfl dX12_init_761 ?_
  refine kp_calll X h (kp_runS (rm := { frames := 4, cells := 0, slots := 0, locals := 85 }) (mc := 0) (ms := 0) (rest := [.int 19, .ref b253]) (Qc := fun A => kp_Ql D cy A T252 _) X h (c_X12_packed l D cy ad T252 11 _ h.2.2.2 (by decide) hw) cs_12_250 ⟨by decide, by decide, rfl, rfl, by decide, by decide⟩ rfl hl.1 rfl (Nat.le_of_ble_eq_true rfl) dX12_init_764) (fun z255 T254 hw l_T254 H locs h => ?_)
  have f_a0 := l_T254.is f_a0
  have f_b253 := l_T254.is f_b253
  have hle := hle.tr l_T254
  obtain ⟨hi, hw⟩ := hw
  refine kp_last X h f_b253 hi dX12_init_767 (fun T256 e_T256 l_T256 H locs h => ?_)
  have hw := hw T256 e_T256
  have f_a0 := l_T256.is f_a0
  have hle := hle.tr l_T256
  refine lv_aload_n X.1 X.2.1 dX12_init_768 rfl (lv_at hl 0 rfl) ?_
  obtain ⟨b257, e_b257, hw⟩ := hw
  have f_b257 := h.2.2.2.rf (c := 12) (k := 3) f_a0 (by decide) (by decide) e_b257 (t := 15) rfl
  refine kp_get X h f_a0 ff_12_27.l (v := .ref b257) (congrArg va_rf e_b257) dX12_init_769 ?_
  refine lv_bipush (v := 20) X.1 X.2.1 dX12_init_772 (by decide) ?_
  refine kp_ldcsw X 12 rfl dX12_init_774 ?_
  refine kp_calll X h (kp_runS (rm := { frames := 4, cells := 0, slots := 0, locals := 85 }) (mc := 0) (ms := 0) (rest := [.int 20, .ref b257]) (Qc := fun A => kp_Ql D cy A T256 _) X h (c_X12_packed l D cy ad T256 12 _ h.2.2.2 (by decide) hw) cs_12_250 ⟨by decide, by decide, rfl, rfl, by decide, by decide⟩ rfl hl.1 rfl (Nat.le_of_ble_eq_true rfl) dX12_init_777) (fun z259 T258 hw l_T258 H locs h => ?_)
  have f_a0 := l_T258.is f_a0
  have f_b257 := l_T258.is f_b257
  have hle := hle.tr l_T258
  obtain ⟨hi, hw⟩ := hw
  refine kp_last X h f_b257 hi dX12_init_780 (fun T260 e_T260 l_T260 H locs h => ?_)
  have hw := hw T260 e_T260
  have f_a0 := l_T260.is f_a0
  have hle := hle.tr l_T260
  refine lv_aload_n X.1 X.2.1 dX12_init_781 rfl (lv_at hl 0 rfl) ?_
  obtain ⟨b261, e_b261, hw⟩ := hw
  have f_b261 := h.2.2.2.rf (c := 12) (k := 3) f_a0 (by decide) (by decide) e_b261 (t := 15) rfl
  refine kp_get X h f_a0 ff_12_27.l (v := .ref b261) (congrArg va_rf e_b261) dX12_init_782 ?_
  refine lv_bipush (v := 21) X.1 X.2.1 dX12_init_785 (by decide) ?_
  refine kp_ldcsw X 13 rfl dX12_init_787 ?_
  refine kp_calll X h (kp_runS (rm := { frames := 4, cells := 0, slots := 0, locals := 85 }) (mc := 0) (ms := 0) (rest := [.int 21, .ref b261]) (Qc := fun A => kp_Ql D cy A T260 _) X h (c_X12_packed l D cy ad T260 13 _ h.2.2.2 (by decide) hw) cs_12_250 ⟨by decide, by decide, rfl, rfl, by decide, by decide⟩ rfl hl.1 rfl (Nat.le_of_ble_eq_true rfl) dX12_init_790) (fun z263 T262 hw l_T262 H locs h => ?_)
  have f_a0 := l_T262.is f_a0
  have f_b261 := l_T262.is f_b261
  have hle := hle.tr l_T262
  obtain ⟨hi, hw⟩ := hw
  refine kp_last X h f_b261 hi dX12_init_793 (fun T264 e_T264 l_T264 H locs h => ?_)
  have hw := hw T264 e_T264
  have f_a0 := l_T264.is f_a0
  have hle := hle.tr l_T264
  refine lv_aload_n X.1 X.2.1 dX12_init_794 rfl (lv_at hl 0 rfl) ?_
  obtain ⟨b265, e_b265, hw⟩ := hw
  have f_b265 := h.2.2.2.rf (c := 12) (k := 3) f_a0 (by decide) (by decide) e_b265 (t := 15) rfl
  refine kp_get X h f_a0 ff_12_27.l (v := .ref b265) (congrArg va_rf e_b265) dX12_init_795 ?_
  refine lv_bipush (v := 22) X.1 X.2.1 dX12_init_798 (by decide) ?_
  refine kp_ldcsw X 14 rfl dX12_init_800 ?_
  refine kp_calll X h (kp_runS (rm := { frames := 4, cells := 0, slots := 0, locals := 85 }) (mc := 0) (ms := 0) (rest := [.int 22, .ref b265]) (Qc := fun A => kp_Ql D cy A T264 _) X h (c_X12_packed l D cy ad T264 14 _ h.2.2.2 (by decide) hw) cs_12_250 ⟨by decide, by decide, rfl, rfl, by decide, by decide⟩ rfl hl.1 rfl (Nat.le_of_ble_eq_true rfl) dX12_init_803) (fun z267 T266 hw l_T266 H locs h => ?_)
  have f_a0 := l_T266.is f_a0
  have f_b265 := l_T266.is f_b265
  have hle := hle.tr l_T266
  obtain ⟨hi, hw⟩ := hw
  refine kp_last X h f_b265 hi dX12_init_806 (fun T268 e_T268 l_T268 H locs h => ?_)
  have hw := hw T268 e_T268
  have f_a0 := l_T268.is f_a0
  have hle := hle.tr l_T268
  refine lv_aload_n X.1 X.2.1 dX12_init_807 rfl (lv_at hl 0 rfl) ?_
  obtain ⟨b269, e_b269, hw⟩ := hw
  have f_b269 := h.2.2.2.rf (c := 12) (k := 3) f_a0 (by decide) (by decide) e_b269 (t := 15) rfl
  refine kp_get X h f_a0 ff_12_27.l (v := .ref b269) (congrArg va_rf e_b269) dX12_init_808 ?_
  refine lv_bipush (v := 23) X.1 X.2.1 dX12_init_811 (by decide) ?_
  refine kp_ldcsw X 15 rfl dX12_init_813 ?_
  refine kp_calll X h (kp_runS (rm := { frames := 4, cells := 0, slots := 0, locals := 85 }) (mc := 0) (ms := 0) (rest := [.int 23, .ref b269]) (Qc := fun A => kp_Ql D cy A T268 _) X h (c_X12_packed l D cy ad T268 15 _ h.2.2.2 (by decide) hw) cs_12_250 ⟨by decide, by decide, rfl, rfl, by decide, by decide⟩ rfl hl.1 rfl (Nat.le_of_ble_eq_true rfl) dX12_init_816) (fun z271 T270 hw l_T270 H locs h => ?_)
  have f_a0 := l_T270.is f_a0
  have f_b269 := l_T270.is f_b269
  have hle := hle.tr l_T270
  obtain ⟨hi, hw⟩ := hw
  refine kp_last X h f_b269 hi dX12_init_819 (fun T272 e_T272 l_T272 H locs h => ?_)
  have hw := hw T272 e_T272
  have f_a0 := l_T272.is f_a0
  have hle := hle.tr l_T272
  refine lv_aload_n X.1 X.2.1 dX12_init_820 rfl (lv_at hl 0 rfl) ?_
  obtain ⟨b273, e_b273, hw⟩ := hw
  have f_b273 := h.2.2.2.rf (c := 12) (k := 3) f_a0 (by decide) (by decide) e_b273 (t := 15) rfl
  refine kp_get X h f_a0 ff_12_27.l (v := .ref b273) (congrArg va_rf e_b273) dX12_init_821 ?_
  refine lv_bipush (v := 24) X.1 X.2.1 dX12_init_824 (by decide) ?_
  refine kp_ldcsw X 16 rfl dX12_init_826 ?_
  refine kp_calll X h (kp_runS (rm := { frames := 4, cells := 0, slots := 0, locals := 85 }) (mc := 0) (ms := 0) (rest := [.int 24, .ref b273]) (Qc := fun A => kp_Ql D cy A T272 _) X h (c_X12_packed l D cy ad T272 16 _ h.2.2.2 (by decide) hw) cs_12_250 ⟨by decide, by decide, rfl, rfl, by decide, by decide⟩ rfl hl.1 rfl (Nat.le_of_ble_eq_true rfl) dX12_init_829) (fun z275 T274 hw l_T274 H locs h => ?_)
  have f_a0 := l_T274.is f_a0
  have f_b273 := l_T274.is f_b273
  have hle := hle.tr l_T274
  obtain ⟨hi, hw⟩ := hw
  refine kp_last X h f_b273 hi dX12_init_832 (fun T276 e_T276 l_T276 H locs h => ?_)
  have hw := hw T276 e_T276
  have f_a0 := l_T276.is f_a0
  have hle := hle.tr l_T276
  refine lv_aload_n X.1 X.2.1 dX12_init_833 rfl (lv_at hl 0 rfl) ?_
  obtain ⟨b277, e_b277, hw⟩ := hw
  have f_b277 := h.2.2.2.rf (c := 12) (k := 3) f_a0 (by decide) (by decide) e_b277 (t := 15) rfl
  refine kp_get X h f_a0 ff_12_27.l (v := .ref b277) (congrArg va_rf e_b277) dX12_init_834 ?_
  refine lv_bipush (v := 25) X.1 X.2.1 dX12_init_837 (by decide) ?_
  refine kp_ldcsw X 17 rfl dX12_init_839 ?_
  refine kp_calll X h (kp_runS (rm := { frames := 4, cells := 0, slots := 0, locals := 85 }) (mc := 0) (ms := 0) (rest := [.int 25, .ref b277]) (Qc := fun A => kp_Ql D cy A T276 _) X h (c_X12_packed l D cy ad T276 17 _ h.2.2.2 (by decide) hw) cs_12_250 ⟨by decide, by decide, rfl, rfl, by decide, by decide⟩ rfl hl.1 rfl (Nat.le_of_ble_eq_true rfl) dX12_init_842) (fun z279 T278 hw l_T278 H locs h => ?_)
  have f_a0 := l_T278.is f_a0
  have f_b277 := l_T278.is f_b277
  have hle := hle.tr l_T278
  obtain ⟨hi, hw⟩ := hw
  refine kp_last X h f_b277 hi dX12_init_845 (fun T280 e_T280 l_T280 H locs h => ?_)
  have hw := hw T280 e_T280
  have f_a0 := l_T280.is f_a0
  have hle := hle.tr l_T280
  refine lv_aload_n X.1 X.2.1 dX12_init_846 rfl (lv_at hl 0 rfl) ?_
  obtain ⟨b281, e_b281, hw⟩ := hw
  have f_b281 := h.2.2.2.rf (c := 12) (k := 3) f_a0 (by decide) (by decide) e_b281 (t := 15) rfl
  refine kp_get X h f_a0 ff_12_27.l (v := .ref b281) (congrArg va_rf e_b281) dX12_init_847 ?_
  refine lv_bipush (v := 26) X.1 X.2.1 dX12_init_850 (by decide) ?_
  refine kp_ldcsw X 18 rfl dX12_init_852 ?_
  refine kp_calll X h (kp_runS (rm := { frames := 4, cells := 0, slots := 0, locals := 85 }) (mc := 0) (ms := 0) (rest := [.int 26, .ref b281]) (Qc := fun A => kp_Ql D cy A T280 _) X h (c_X12_packed l D cy ad T280 18 _ h.2.2.2 (by decide) hw) cs_12_250 ⟨by decide, by decide, rfl, rfl, by decide, by decide⟩ rfl hl.1 rfl (Nat.le_of_ble_eq_true rfl) dX12_init_855) (fun z283 T282 hw l_T282 H locs h => ?_)
  have f_a0 := l_T282.is f_a0
  have f_b281 := l_T282.is f_b281
  have hle := hle.tr l_T282
  obtain ⟨hi, hw⟩ := hw
  refine kp_last X h f_b281 hi dX12_init_858 (fun T284 e_T284 l_T284 H locs h => ?_)
  have hw := hw T284 e_T284
  have f_a0 := l_T284.is f_a0
  have hle := hle.tr l_T284
  refine lv_aload_n X.1 X.2.1 dX12_init_859 rfl (lv_at hl 0 rfl) ?_
  obtain ⟨b285, e_b285, hw⟩ := hw
  have f_b285 := h.2.2.2.rf (c := 12) (k := 3) f_a0 (by decide) (by decide) e_b285 (t := 15) rfl
  refine kp_get X h f_a0 ff_12_27.l (v := .ref b285) (congrArg va_rf e_b285) dX12_init_860 ?_
  refine lv_bipush (v := 27) X.1 X.2.1 dX12_init_863 (by decide) ?_
  refine kp_ldcsw X 19 rfl dX12_init_865 ?_
  refine kp_calll X h (kp_runS (rm := { frames := 4, cells := 0, slots := 0, locals := 85 }) (mc := 0) (ms := 0) (rest := [.int 27, .ref b285]) (Qc := fun A => kp_Ql D cy A T284 _) X h (c_X12_packed l D cy ad T284 19 _ h.2.2.2 (by decide) hw) cs_12_250 ⟨by decide, by decide, rfl, rfl, by decide, by decide⟩ rfl hl.1 rfl (Nat.le_of_ble_eq_true rfl) dX12_init_868) (fun z287 T286 hw l_T286 H locs h => ?_)
  have f_a0 := l_T286.is f_a0
  have f_b285 := l_T286.is f_b285
  have hle := hle.tr l_T286
  obtain ⟨hi, hw⟩ := hw
  refine kp_last X h f_b285 hi dX12_init_871 (fun T288 e_T288 l_T288 H locs h => ?_)
  have hw := hw T288 e_T288
  have f_a0 := l_T288.is f_a0
  have hle := hle.tr l_T288
  refine lv_aload_n X.1 X.2.1 dX12_init_872 rfl (lv_at hl 0 rfl) ?_
  obtain ⟨b289, e_b289, hw⟩ := hw
  have f_b289 := h.2.2.2.rf (c := 12) (k := 3) f_a0 (by decide) (by decide) e_b289 (t := 15) rfl
  refine kp_get X h f_a0 ff_12_27.l (v := .ref b289) (congrArg va_rf e_b289) dX12_init_873 ?_
  refine lv_bipush (v := 28) X.1 X.2.1 dX12_init_876 (by decide) ?_
  refine kp_ldcsw X 20 rfl dX12_init_878 ?_
  refine kp_calll X h (kp_runS (rm := { frames := 4, cells := 0, slots := 0, locals := 85 }) (mc := 0) (ms := 0) (rest := [.int 28, .ref b289]) (Qc := fun A => kp_Ql D cy A T288 _) X h (c_X12_packed l D cy ad T288 20 _ h.2.2.2 (by decide) hw) cs_12_250 ⟨by decide, by decide, rfl, rfl, by decide, by decide⟩ rfl hl.1 rfl (Nat.le_of_ble_eq_true rfl) dX12_init_881) (fun z291 T290 hw l_T290 H locs h => ?_)
  have f_a0 := l_T290.is f_a0
  have f_b289 := l_T290.is f_b289
  have hle := hle.tr l_T290
  obtain ⟨hi, hw⟩ := hw
  refine kp_last X h f_b289 hi dX12_init_884 (fun T292 e_T292 l_T292 H locs h => ?_)
  have hw := hw T292 e_T292
  have f_a0 := l_T292.is f_a0
  have hle := hle.tr l_T292
  refine lv_aload_n X.1 X.2.1 dX12_init_885 rfl (lv_at hl 0 rfl) ?_
  obtain ⟨b293, e_b293, hw⟩ := hw
  have f_b293 := h.2.2.2.rf (c := 12) (k := 3) f_a0 (by decide) (by decide) e_b293 (t := 15) rfl
  refine kp_get X h f_a0 ff_12_27.l (v := .ref b293) (congrArg va_rf e_b293) dX12_init_886 ?_
  refine lv_bipush (v := 29) X.1 X.2.1 dX12_init_889 (by decide) ?_
  refine kp_ldcsw X 21 rfl dX12_init_891 ?_
  refine kp_calll X h (kp_runS (rm := { frames := 4, cells := 0, slots := 0, locals := 85 }) (mc := 0) (ms := 0) (rest := [.int 29, .ref b293]) (Qc := fun A => kp_Ql D cy A T292 _) X h (c_X12_packed l D cy ad T292 21 _ h.2.2.2 (by decide) hw) cs_12_250 ⟨by decide, by decide, rfl, rfl, by decide, by decide⟩ rfl hl.1 rfl (Nat.le_of_ble_eq_true rfl) dX12_init_894) (fun z295 T294 hw l_T294 H locs h => ?_)
  have f_a0 := l_T294.is f_a0
  have f_b293 := l_T294.is f_b293
  have hle := hle.tr l_T294
  obtain ⟨hi, hw⟩ := hw
  refine kp_last X h f_b293 hi dX12_init_897 (fun T296 e_T296 l_T296 H locs h => ?_)
  have hw := hw T296 e_T296
  have f_a0 := l_T296.is f_a0
  have hle := hle.tr l_T296
  refine lv_aload_n X.1 X.2.1 dX12_init_898 rfl (lv_at hl 0 rfl) ?_
  obtain ⟨b297, e_b297, hw⟩ := hw
  have f_b297 := h.2.2.2.rf (c := 12) (k := 3) f_a0 (by decide) (by decide) e_b297 (t := 15) rfl
  refine kp_get X h f_a0 ff_12_27.l (v := .ref b297) (congrArg va_rf e_b297) dX12_init_899 ?_
  refine lv_bipush (v := 30) X.1 X.2.1 dX12_init_902 (by decide) ?_
  refine kp_ldcsw X 22 rfl dX12_init_904 ?_
  refine kp_calll X h (kp_runS (rm := { frames := 4, cells := 0, slots := 0, locals := 85 }) (mc := 0) (ms := 0) (rest := [.int 30, .ref b297]) (Qc := fun A => kp_Ql D cy A T296 _) X h (c_X12_packed l D cy ad T296 22 _ h.2.2.2 (by decide) hw) cs_12_250 ⟨by decide, by decide, rfl, rfl, by decide, by decide⟩ rfl hl.1 rfl (Nat.le_of_ble_eq_true rfl) dX12_init_907) (fun z299 T298 hw l_T298 H locs h => ?_)
  have f_a0 := l_T298.is f_a0
  have f_b297 := l_T298.is f_b297
  have hle := hle.tr l_T298
  obtain ⟨hi, hw⟩ := hw
  refine kp_last X h f_b297 hi dX12_init_910 (fun T300 e_T300 l_T300 H locs h => ?_)
  have hw := hw T300 e_T300
  have f_a0 := l_T300.is f_a0
  have hle := hle.tr l_T300
  refine lv_aload_n X.1 X.2.1 dX12_init_911 rfl (lv_at hl 0 rfl) ?_
  obtain ⟨b301, e_b301, hw⟩ := hw
  have f_b301 := h.2.2.2.rf (c := 12) (k := 3) f_a0 (by decide) (by decide) e_b301 (t := 15) rfl
  refine kp_get X h f_a0 ff_12_27.l (v := .ref b301) (congrArg va_rf e_b301) dX12_init_912 ?_
  refine lv_bipush (v := 31) X.1 X.2.1 dX12_init_915 (by decide) ?_
  refine kp_ldcsw X 23 rfl dX12_init_917 ?_
  refine kp_calll X h (kp_runS (rm := { frames := 4, cells := 0, slots := 0, locals := 85 }) (mc := 0) (ms := 0) (rest := [.int 31, .ref b301]) (Qc := fun A => kp_Ql D cy A T300 _) X h (c_X12_packed l D cy ad T300 23 _ h.2.2.2 (by decide) hw) cs_12_250 ⟨by decide, by decide, rfl, rfl, by decide, by decide⟩ rfl hl.1 rfl (Nat.le_of_ble_eq_true rfl) dX12_init_920) (fun z303 T302 hw l_T302 H locs h => ?_)
  have f_a0 := l_T302.is f_a0
  have f_b301 := l_T302.is f_b301
  have hle := hle.tr l_T302
  obtain ⟨hi, hw⟩ := hw
  refine kp_last X h f_b301 hi dX12_init_923 (fun T304 e_T304 l_T304 H locs h => ?_)
  have hw := hw T304 e_T304
  have f_a0 := l_T304.is f_a0
  have hle := hle.tr l_T304
  refine lv_aload_n X.1 X.2.1 dX12_init_924 rfl (lv_at hl 0 rfl) ?_
  obtain ⟨b305, e_b305, hw⟩ := hw
  have f_b305 := h.2.2.2.rf (c := 12) (k := 3) f_a0 (by decide) (by decide) e_b305 (t := 15) rfl
  refine kp_get X h f_a0 ff_12_27.l (v := .ref b305) (congrArg va_rf e_b305) dX12_init_925 ?_
  refine lv_bipush (v := 32) X.1 X.2.1 dX12_init_928 (by decide) ?_
  refine kp_ldcsw X 24 rfl dX12_init_930 ?_
  refine kp_calll X h (kp_runS (rm := { frames := 4, cells := 0, slots := 0, locals := 85 }) (mc := 0) (ms := 0) (rest := [.int 32, .ref b305]) (Qc := fun A => kp_Ql D cy A T304 _) X h (c_X12_packed l D cy ad T304 24 _ h.2.2.2 (by decide) hw) cs_12_250 ⟨by decide, by decide, rfl, rfl, by decide, by decide⟩ rfl hl.1 rfl (Nat.le_of_ble_eq_true rfl) dX12_init_933) (fun z307 T306 hw l_T306 H locs h => ?_)
  have f_a0 := l_T306.is f_a0
  have f_b305 := l_T306.is f_b305
  have hle := hle.tr l_T306
  obtain ⟨hi, hw⟩ := hw
  refine kp_last X h f_b305 hi dX12_init_936 (fun T308 e_T308 l_T308 H locs h => ?_)
  have hw := hw T308 e_T308
  have f_a0 := l_T308.is f_a0
  have hle := hle.tr l_T308
  refine lv_aload_n X.1 X.2.1 dX12_init_937 rfl (lv_at hl 0 rfl) ?_
  obtain ⟨b309, e_b309, hw⟩ := hw
  have f_b309 := h.2.2.2.rf (c := 12) (k := 3) f_a0 (by decide) (by decide) e_b309 (t := 15) rfl
  refine kp_get X h f_a0 ff_12_27.l (v := .ref b309) (congrArg va_rf e_b309) dX12_init_938 ?_
  refine lv_bipush (v := 33) X.1 X.2.1 dX12_init_941 (by decide) ?_
  refine kp_ldcsw X 25 rfl dX12_init_943 ?_
  refine kp_calll X h (kp_runS (rm := { frames := 4, cells := 0, slots := 0, locals := 85 }) (mc := 0) (ms := 0) (rest := [.int 33, .ref b309]) (Qc := fun A => kp_Ql D cy A T308 _) X h (c_X12_packed l D cy ad T308 25 _ h.2.2.2 (by decide) hw) cs_12_250 ⟨by decide, by decide, rfl, rfl, by decide, by decide⟩ rfl hl.1 rfl (Nat.le_of_ble_eq_true rfl) dX12_init_946) (fun z311 T310 hw l_T310 H locs h => ?_)
  have f_a0 := l_T310.is f_a0
  have f_b309 := l_T310.is f_b309
  have hle := hle.tr l_T310
  obtain ⟨hi, hw⟩ := hw
  refine kp_last X h f_b309 hi dX12_init_949 (fun T312 e_T312 l_T312 H locs h => ?_)
  have hw := hw T312 e_T312
  have f_a0 := l_T312.is f_a0
  have hle := hle.tr l_T312
  refine lv_aload_n X.1 X.2.1 dX12_init_950 rfl (lv_at hl 0 rfl) ?_
  obtain ⟨b313, e_b313, hw⟩ := hw
  have f_b313 := h.2.2.2.rf (c := 12) (k := 3) f_a0 (by decide) (by decide) e_b313 (t := 15) rfl
  refine kp_get X h f_a0 ff_12_27.l (v := .ref b313) (congrArg va_rf e_b313) dX12_init_951 ?_
  refine lv_bipush (v := 34) X.1 X.2.1 dX12_init_954 (by decide) ?_
  refine kp_ldcsw X 26 rfl dX12_init_956 ?_
  refine kp_calll X h (kp_runS (rm := { frames := 4, cells := 0, slots := 0, locals := 85 }) (mc := 0) (ms := 0) (rest := [.int 34, .ref b313]) (Qc := fun A => kp_Ql D cy A T312 _) X h (c_X12_packed l D cy ad T312 26 _ h.2.2.2 (by decide) hw) cs_12_250 ⟨by decide, by decide, rfl, rfl, by decide, by decide⟩ rfl hl.1 rfl (Nat.le_of_ble_eq_true rfl) dX12_init_959) (fun z315 T314 hw l_T314 H locs h => ?_)
  have f_a0 := l_T314.is f_a0
  have f_b313 := l_T314.is f_b313
  have hle := hle.tr l_T314
  obtain ⟨hi, hw⟩ := hw
  refine kp_last X h f_b313 hi dX12_init_962 (fun T316 e_T316 l_T316 H locs h => ?_)
  have hw := hw T316 e_T316
  have f_a0 := l_T316.is f_a0
  have hle := hle.tr l_T316
  refine lv_aload_n X.1 X.2.1 dX12_init_963 rfl (lv_at hl 0 rfl) ?_
  obtain ⟨b317, e_b317, hw⟩ := hw
  have f_b317 := h.2.2.2.rf (c := 12) (k := 3) f_a0 (by decide) (by decide) e_b317 (t := 15) rfl
  refine kp_get X h f_a0 ff_12_27.l (v := .ref b317) (congrArg va_rf e_b317) dX12_init_964 ?_
  refine lv_bipush (v := 35) X.1 X.2.1 dX12_init_967 (by decide) ?_
  refine kp_ldcsw X 27 rfl dX12_init_969 ?_
  refine kp_calll X h (kp_runS (rm := { frames := 4, cells := 0, slots := 0, locals := 85 }) (mc := 0) (ms := 0) (rest := [.int 35, .ref b317]) (Qc := fun A => kp_Ql D cy A T316 _) X h (c_X12_packed l D cy ad T316 27 _ h.2.2.2 (by decide) hw) cs_12_250 ⟨by decide, by decide, rfl, rfl, by decide, by decide⟩ rfl hl.1 rfl (Nat.le_of_ble_eq_true rfl) dX12_init_972) (fun z319 T318 hw l_T318 H locs h => ?_)
  have f_a0 := l_T318.is f_a0
  have f_b317 := l_T318.is f_b317
  have hle := hle.tr l_T318
  obtain ⟨hi, hw⟩ := hw
  refine kp_last X h f_b317 hi dX12_init_975 (fun T320 e_T320 l_T320 H locs h => ?_)
  have hw := hw T320 e_T320
  have f_a0 := l_T320.is f_a0
  have hle := hle.tr l_T320
  refine lv_aload_n X.1 X.2.1 dX12_init_976 rfl (lv_at hl 0 rfl) ?_
  obtain ⟨b321, e_b321, hw⟩ := hw
  have f_b321 := h.2.2.2.rf (c := 12) (k := 3) f_a0 (by decide) (by decide) e_b321 (t := 15) rfl
  refine kp_get X h f_a0 ff_12_27.l (v := .ref b321) (congrArg va_rf e_b321) dX12_init_977 ?_
  refine lv_bipush (v := 36) X.1 X.2.1 dX12_init_980 (by decide) ?_
  refine kp_ldcsw X 28 rfl dX12_init_982 ?_
  refine kp_calll X h (kp_runS (rm := { frames := 4, cells := 0, slots := 0, locals := 85 }) (mc := 0) (ms := 0) (rest := [.int 36, .ref b321]) (Qc := fun A => kp_Ql D cy A T320 _) X h (c_X12_packed l D cy ad T320 28 _ h.2.2.2 (by decide) hw) cs_12_250 ⟨by decide, by decide, rfl, rfl, by decide, by decide⟩ rfl hl.1 rfl (Nat.le_of_ble_eq_true rfl) dX12_init_985) (fun z323 T322 hw l_T322 H locs h => ?_)
  have f_a0 := l_T322.is f_a0
  have f_b321 := l_T322.is f_b321
  have hle := hle.tr l_T322
  obtain ⟨hi, hw⟩ := hw
  refine kp_last X h f_b321 hi dX12_init_988 (fun T324 e_T324 l_T324 H locs h => ?_)
  have hw := hw T324 e_T324
  have f_a0 := l_T324.is f_a0
  have hle := hle.tr l_T324
  refine lv_aload_n X.1 X.2.1 dX12_init_989 rfl (lv_at hl 0 rfl) ?_
  obtain ⟨b325, e_b325, hw⟩ := hw
  have f_b325 := h.2.2.2.rf (c := 12) (k := 3) f_a0 (by decide) (by decide) e_b325 (t := 15) rfl
  refine kp_get X h f_a0 ff_12_27.l (v := .ref b325) (congrArg va_rf e_b325) dX12_init_990 ?_
  refine lv_bipush (v := 37) X.1 X.2.1 dX12_init_993 (by decide) ?_
  refine kp_ldcsw X 29 rfl dX12_init_995 ?_
  refine kp_calll X h (kp_runS (rm := { frames := 4, cells := 0, slots := 0, locals := 85 }) (mc := 0) (ms := 0) (rest := [.int 37, .ref b325]) (Qc := fun A => kp_Ql D cy A T324 _) X h (c_X12_packed l D cy ad T324 29 _ h.2.2.2 (by decide) hw) cs_12_250 ⟨by decide, by decide, rfl, rfl, by decide, by decide⟩ rfl hl.1 rfl (Nat.le_of_ble_eq_true rfl) dX12_init_998) (fun z327 T326 hw l_T326 H locs h => ?_)
  have f_a0 := l_T326.is f_a0
  have f_b325 := l_T326.is f_b325
  have hle := hle.tr l_T326
  obtain ⟨hi, hw⟩ := hw
  refine kp_last X h f_b325 hi dX12_init_1001 (fun T328 e_T328 l_T328 H locs h => ?_)
  have hw := hw T328 e_T328
  have f_a0 := l_T328.is f_a0
  have hle := hle.tr l_T328
  refine lv_aload_n X.1 X.2.1 dX12_init_1002 rfl (lv_at hl 0 rfl) ?_
  obtain ⟨b329, e_b329, hw⟩ := hw
  have f_b329 := h.2.2.2.rf (c := 12) (k := 3) f_a0 (by decide) (by decide) e_b329 (t := 15) rfl
  refine kp_get X h f_a0 ff_12_27.l (v := .ref b329) (congrArg va_rf e_b329) dX12_init_1003 ?_
  refine lv_bipush (v := 38) X.1 X.2.1 dX12_init_1006 (by decide) ?_
  refine kp_ldcsw X 30 rfl dX12_init_1008 ?_
  refine kp_calll X h (kp_runS (rm := { frames := 4, cells := 0, slots := 0, locals := 85 }) (mc := 0) (ms := 0) (rest := [.int 38, .ref b329]) (Qc := fun A => kp_Ql D cy A T328 _) X h (c_X12_packed l D cy ad T328 30 _ h.2.2.2 (by decide) hw) cs_12_250 ⟨by decide, by decide, rfl, rfl, by decide, by decide⟩ rfl hl.1 rfl (Nat.le_of_ble_eq_true rfl) dX12_init_1011) (fun z331 T330 hw l_T330 H locs h => ?_)
  have f_a0 := l_T330.is f_a0
  have f_b329 := l_T330.is f_b329
  have hle := hle.tr l_T330
  obtain ⟨hi, hw⟩ := hw
  refine kp_last X h f_b329 hi dX12_init_1014 (fun T332 e_T332 l_T332 H locs h => ?_)
  have hw := hw T332 e_T332
  have f_a0 := l_T332.is f_a0
  have hle := hle.tr l_T332
  refine lv_aload_n X.1 X.2.1 dX12_init_1015 rfl (lv_at hl 0 rfl) ?_
  obtain ⟨b333, e_b333, hw⟩ := hw
  have f_b333 := h.2.2.2.rf (c := 12) (k := 3) f_a0 (by decide) (by decide) e_b333 (t := 15) rfl
  refine kp_get X h f_a0 ff_12_27.l (v := .ref b333) (congrArg va_rf e_b333) dX12_init_1016 ?_
  refine lv_bipush (v := 39) X.1 X.2.1 dX12_init_1019 (by decide) ?_
  refine kp_ldcsw X 31 rfl dX12_init_1021 ?_
  refine kp_calll X h (kp_runS (rm := { frames := 4, cells := 0, slots := 0, locals := 85 }) (mc := 0) (ms := 0) (rest := [.int 39, .ref b333]) (Qc := fun A => kp_Ql D cy A T332 _) X h (c_X12_packed l D cy ad T332 31 _ h.2.2.2 (by decide) hw) cs_12_250 ⟨by decide, by decide, rfl, rfl, by decide, by decide⟩ rfl hl.1 rfl (Nat.le_of_ble_eq_true rfl) dX12_init_1024) (fun z335 T334 hw l_T334 H locs h => ?_)
  have f_a0 := l_T334.is f_a0
  have f_b333 := l_T334.is f_b333
  have hle := hle.tr l_T334
  obtain ⟨hi, hw⟩ := hw
  refine kp_last X h f_b333 hi dX12_init_1027 (fun T336 e_T336 l_T336 H locs h => ?_)
  have hw := hw T336 e_T336
  have f_a0 := l_T336.is f_a0
  have hle := hle.tr l_T336
  refine lv_aload_n X.1 X.2.1 dX12_init_1028 rfl (lv_at hl 0 rfl) ?_
  obtain ⟨b337, e_b337, hw⟩ := hw
  have f_b337 := h.2.2.2.rf (c := 12) (k := 3) f_a0 (by decide) (by decide) e_b337 (t := 15) rfl
  refine kp_get X h f_a0 ff_12_27.l (v := .ref b337) (congrArg va_rf e_b337) dX12_init_1029 ?_
  refine lv_bipush (v := 40) X.1 X.2.1 dX12_init_1032 (by decide) ?_
  refine kp_ldcsw X 32 rfl dX12_init_1034 ?_
  refine kp_calll X h (kp_runS (rm := { frames := 4, cells := 0, slots := 0, locals := 85 }) (mc := 0) (ms := 0) (rest := [.int 40, .ref b337]) (Qc := fun A => kp_Ql D cy A T336 _) X h (c_X12_packed l D cy ad T336 32 _ h.2.2.2 (by decide) hw) cs_12_250 ⟨by decide, by decide, rfl, rfl, by decide, by decide⟩ rfl hl.1 rfl (Nat.le_of_ble_eq_true rfl) dX12_init_1037) (fun z339 T338 hw l_T338 H locs h => ?_)
  have f_a0 := l_T338.is f_a0
  have f_b337 := l_T338.is f_b337
  have hle := hle.tr l_T338
  obtain ⟨hi, hw⟩ := hw
  refine kp_last X h f_b337 hi dX12_init_1040 (fun T340 e_T340 l_T340 H locs h => ?_)
  have hw := hw T340 e_T340
  have f_a0 := l_T340.is f_a0
  have hle := hle.tr l_T340
  refine lv_aload_n X.1 X.2.1 dX12_init_1041 rfl (lv_at hl 0 rfl) ?_
  obtain ⟨b341, e_b341, hw⟩ := hw
  have f_b341 := h.2.2.2.rf (c := 12) (k := 3) f_a0 (by decide) (by decide) e_b341 (t := 15) rfl
  refine kp_get X h f_a0 ff_12_27.l (v := .ref b341) (congrArg va_rf e_b341) dX12_init_1042 ?_
  refine lv_bipush (v := 41) X.1 X.2.1 dX12_init_1045 (by decide) ?_
  refine kp_ldcsw X 33 rfl dX12_init_1047 ?_
  refine kp_calll X h (kp_runS (rm := { frames := 4, cells := 0, slots := 0, locals := 85 }) (mc := 0) (ms := 0) (rest := [.int 41, .ref b341]) (Qc := fun A => kp_Ql D cy A T340 _) X h (c_X12_packed l D cy ad T340 33 _ h.2.2.2 (by decide) hw) cs_12_250 ⟨by decide, by decide, rfl, rfl, by decide, by decide⟩ rfl hl.1 rfl (Nat.le_of_ble_eq_true rfl) dX12_init_1050) (fun z343 T342 hw l_T342 H locs h => ?_)
  have f_a0 := l_T342.is f_a0
  have f_b341 := l_T342.is f_b341
  have hle := hle.tr l_T342
  obtain ⟨hi, hw⟩ := hw
  refine kp_last X h f_b341 hi dX12_init_1053 (fun T344 e_T344 l_T344 H locs h => ?_)
  have hw := hw T344 e_T344
  have f_a0 := l_T344.is f_a0
  have hle := hle.tr l_T344
  refine lv_aload_n X.1 X.2.1 dX12_init_1054 rfl (lv_at hl 0 rfl) ?_
  obtain ⟨b345, e_b345, hw⟩ := hw
  have f_b345 := h.2.2.2.rf (c := 12) (k := 3) f_a0 (by decide) (by decide) e_b345 (t := 15) rfl
  refine kp_get X h f_a0 ff_12_27.l (v := .ref b345) (congrArg va_rf e_b345) dX12_init_1055 ?_
  refine lv_bipush (v := 42) X.1 X.2.1 dX12_init_1058 (by decide) ?_
  refine kp_ldcsw X 34 rfl dX12_init_1060 ?_
  refine kp_calll X h (kp_runS (rm := { frames := 4, cells := 0, slots := 0, locals := 85 }) (mc := 0) (ms := 0) (rest := [.int 42, .ref b345]) (Qc := fun A => kp_Ql D cy A T344 _) X h (c_X12_packed l D cy ad T344 34 _ h.2.2.2 (by decide) hw) cs_12_250 ⟨by decide, by decide, rfl, rfl, by decide, by decide⟩ rfl hl.1 rfl (Nat.le_of_ble_eq_true rfl) dX12_init_1063) (fun z347 T346 hw l_T346 H locs h => ?_)
  have f_a0 := l_T346.is f_a0
  have f_b345 := l_T346.is f_b345
  have hle := hle.tr l_T346
  obtain ⟨hi, hw⟩ := hw
  refine kp_last X h f_b345 hi dX12_init_1066 (fun T348 e_T348 l_T348 H locs h => ?_)
  have hw := hw T348 e_T348
  have f_a0 := l_T348.is f_a0
  have hle := hle.tr l_T348
  refine lv_aload_n X.1 X.2.1 dX12_init_1067 rfl (lv_at hl 0 rfl) ?_
  obtain ⟨b349, e_b349, hw⟩ := hw
  have f_b349 := h.2.2.2.rf (c := 12) (k := 3) f_a0 (by decide) (by decide) e_b349 (t := 15) rfl
  refine kp_get X h f_a0 ff_12_27.l (v := .ref b349) (congrArg va_rf e_b349) dX12_init_1068 ?_
  refine lv_bipush (v := 43) X.1 X.2.1 dX12_init_1071 (by decide) ?_
  refine kp_ldcsw X 35 rfl dX12_init_1073 ?_
  refine kp_calll X h (kp_runS (rm := { frames := 4, cells := 0, slots := 0, locals := 85 }) (mc := 0) (ms := 0) (rest := [.int 43, .ref b349]) (Qc := fun A => kp_Ql D cy A T348 _) X h (c_X12_packed l D cy ad T348 35 _ h.2.2.2 (by decide) hw) cs_12_250 ⟨by decide, by decide, rfl, rfl, by decide, by decide⟩ rfl hl.1 rfl (Nat.le_of_ble_eq_true rfl) dX12_init_1076) (fun z351 T350 hw l_T350 H locs h => ?_)
  have f_a0 := l_T350.is f_a0
  have f_b349 := l_T350.is f_b349
  have hle := hle.tr l_T350
  obtain ⟨hi, hw⟩ := hw
  refine kp_last X h f_b349 hi dX12_init_1079 (fun T352 e_T352 l_T352 H locs h => ?_)
  have hw := hw T352 e_T352
  have f_a0 := l_T352.is f_a0
  have hle := hle.tr l_T352
  refine lv_aload_n X.1 X.2.1 dX12_init_1080 rfl (lv_at hl 0 rfl) ?_
  obtain ⟨b353, e_b353, hw⟩ := hw
  have f_b353 := h.2.2.2.rf (c := 12) (k := 3) f_a0 (by decide) (by decide) e_b353 (t := 15) rfl
  refine kp_get X h f_a0 ff_12_27.l (v := .ref b353) (congrArg va_rf e_b353) dX12_init_1081 ?_
  refine lv_bipush (v := 44) X.1 X.2.1 dX12_init_1084 (by decide) ?_
  refine kp_ldcsw X 36 rfl dX12_init_1086 ?_
  refine kp_calll X h (kp_runS (rm := { frames := 4, cells := 0, slots := 0, locals := 85 }) (mc := 0) (ms := 0) (rest := [.int 44, .ref b353]) (Qc := fun A => kp_Ql D cy A T352 _) X h (c_X12_packed l D cy ad T352 36 _ h.2.2.2 (by decide) hw) cs_12_250 ⟨by decide, by decide, rfl, rfl, by decide, by decide⟩ rfl hl.1 rfl (Nat.le_of_ble_eq_true rfl) dX12_init_1089) (fun z355 T354 hw l_T354 H locs h => ?_)
  have f_a0 := l_T354.is f_a0
  have f_b353 := l_T354.is f_b353
  have hle := hle.tr l_T354
  obtain ⟨hi, hw⟩ := hw
  refine kp_last X h f_b353 hi dX12_init_1092 (fun T356 e_T356 l_T356 H locs h => ?_)
  have hw := hw T356 e_T356
  have f_a0 := l_T356.is f_a0
  have hle := hle.tr l_T356
  refine lv_aload_n X.1 X.2.1 dX12_init_1093 rfl (lv_at hl 0 rfl) ?_
  obtain ⟨b357, e_b357, hw⟩ := hw
  have f_b357 := h.2.2.2.rf (c := 12) (k := 3) f_a0 (by decide) (by decide) e_b357 (t := 15) rfl
  refine kp_get X h f_a0 ff_12_27.l (v := .ref b357) (congrArg va_rf e_b357) dX12_init_1094 ?_
  refine lv_bipush (v := 45) X.1 X.2.1 dX12_init_1097 (by decide) ?_
  refine kp_ldcsw X 37 rfl dX12_init_1099 ?_
  refine kp_calll X h (kp_runS (rm := { frames := 4, cells := 0, slots := 0, locals := 85 }) (mc := 0) (ms := 0) (rest := [.int 45, .ref b357]) (Qc := fun A => kp_Ql D cy A T356 _) X h (c_X12_packed l D cy ad T356 37 _ h.2.2.2 (by decide) hw) cs_12_250 ⟨by decide, by decide, rfl, rfl, by decide, by decide⟩ rfl hl.1 rfl (Nat.le_of_ble_eq_true rfl) dX12_init_1102) (fun z359 T358 hw l_T358 H locs h => ?_)
  have f_a0 := l_T358.is f_a0
  have f_b357 := l_T358.is f_b357
  have hle := hle.tr l_T358
  obtain ⟨hi, hw⟩ := hw
  refine kp_last X h f_b357 hi dX12_init_1105 (fun T360 e_T360 l_T360 H locs h => ?_)
  have hw := hw T360 e_T360
  have f_a0 := l_T360.is f_a0
  have hle := hle.tr l_T360
  refine lv_aload_n X.1 X.2.1 dX12_init_1106 rfl (lv_at hl 0 rfl) ?_
  obtain ⟨b361, e_b361, hw⟩ := hw
  have f_b361 := h.2.2.2.rf (c := 12) (k := 3) f_a0 (by decide) (by decide) e_b361 (t := 15) rfl
  refine kp_get X h f_a0 ff_12_27.l (v := .ref b361) (congrArg va_rf e_b361) dX12_init_1107 ?_
  refine lv_bipush (v := 46) X.1 X.2.1 dX12_init_1110 (by decide) ?_
  refine kp_ldcsw X 38 rfl dX12_init_1112 ?_
  refine kp_calll X h (kp_runS (rm := { frames := 4, cells := 0, slots := 0, locals := 85 }) (mc := 0) (ms := 0) (rest := [.int 46, .ref b361]) (Qc := fun A => kp_Ql D cy A T360 _) X h (c_X12_packed l D cy ad T360 38 _ h.2.2.2 (by decide) hw) cs_12_250 ⟨by decide, by decide, rfl, rfl, by decide, by decide⟩ rfl hl.1 rfl (Nat.le_of_ble_eq_true rfl) dX12_init_1115) (fun z363 T362 hw l_T362 H locs h => ?_)
  have f_a0 := l_T362.is f_a0
  have f_b361 := l_T362.is f_b361
  have hle := hle.tr l_T362
  obtain ⟨hi, hw⟩ := hw
  refine kp_last X h f_b361 hi dX12_init_1118 (fun T364 e_T364 l_T364 H locs h => ?_)
  have hw := hw T364 e_T364
  have f_a0 := l_T364.is f_a0
  have hle := hle.tr l_T364
  refine lv_aload_n X.1 X.2.1 dX12_init_1119 rfl (lv_at hl 0 rfl) ?_
  obtain ⟨b365, e_b365, hw⟩ := hw
  have f_b365 := h.2.2.2.rf (c := 12) (k := 3) f_a0 (by decide) (by decide) e_b365 (t := 15) rfl
  refine kp_get X h f_a0 ff_12_27.l (v := .ref b365) (congrArg va_rf e_b365) dX12_init_1120 ?_
  refine lv_bipush (v := 47) X.1 X.2.1 dX12_init_1123 (by decide) ?_
  refine kp_ldcsw X 39 rfl dX12_init_1125 ?_
  refine kp_calll X h (kp_runS (rm := { frames := 4, cells := 0, slots := 0, locals := 85 }) (mc := 0) (ms := 0) (rest := [.int 47, .ref b365]) (Qc := fun A => kp_Ql D cy A T364 _) X h (c_X12_packed l D cy ad T364 39 _ h.2.2.2 (by decide) hw) cs_12_250 ⟨by decide, by decide, rfl, rfl, by decide, by decide⟩ rfl hl.1 rfl (Nat.le_of_ble_eq_true rfl) dX12_init_1128) (fun z367 T366 hw l_T366 H locs h => ?_)
  have f_a0 := l_T366.is f_a0
  have f_b365 := l_T366.is f_b365
  have hle := hle.tr l_T366
  obtain ⟨hi, hw⟩ := hw
  refine kp_last X h f_b365 hi dX12_init_1131 (fun T368 e_T368 l_T368 H locs h => ?_)
  have hw := hw T368 e_T368
  have f_a0 := l_T368.is f_a0
  have hle := hle.tr l_T368
  refine lv_aload_n X.1 X.2.1 dX12_init_1132 rfl (lv_at hl 0 rfl) ?_
  obtain ⟨b369, e_b369, hw⟩ := hw
  have f_b369 := h.2.2.2.rf (c := 12) (k := 3) f_a0 (by decide) (by decide) e_b369 (t := 15) rfl
  refine kp_get X h f_a0 ff_12_27.l (v := .ref b369) (congrArg va_rf e_b369) dX12_init_1133 ?_
  refine lv_bipush (v := 48) X.1 X.2.1 dX12_init_1136 (by decide) ?_
  refine kp_ldcsw X 40 rfl dX12_init_1138 ?_
  refine kp_calll X h (kp_runS (rm := { frames := 4, cells := 0, slots := 0, locals := 85 }) (mc := 0) (ms := 0) (rest := [.int 48, .ref b369]) (Qc := fun A => kp_Ql D cy A T368 _) X h (c_X12_packed l D cy ad T368 40 _ h.2.2.2 (by decide) hw) cs_12_250 ⟨by decide, by decide, rfl, rfl, by decide, by decide⟩ rfl hl.1 rfl (Nat.le_of_ble_eq_true rfl) dX12_init_1141) (fun z371 T370 hw l_T370 H locs h => ?_)
  have f_a0 := l_T370.is f_a0
  have f_b369 := l_T370.is f_b369
  have hle := hle.tr l_T370
  obtain ⟨hi, hw⟩ := hw
  refine kp_last X h f_b369 hi dX12_init_1144 (fun T372 e_T372 l_T372 H locs h => ?_)
  have hw := hw T372 e_T372
  have f_a0 := l_T372.is f_a0
  have hle := hle.tr l_T372
  refine lv_aload_n X.1 X.2.1 dX12_init_1145 rfl (lv_at hl 0 rfl) ?_
  obtain ⟨b373, e_b373, hw⟩ := hw
  have f_b373 := h.2.2.2.rf (c := 12) (k := 3) f_a0 (by decide) (by decide) e_b373 (t := 15) rfl
  refine kp_get X h f_a0 ff_12_27.l (v := .ref b373) (congrArg va_rf e_b373) dX12_init_1146 ?_
  refine lv_bipush (v := 49) X.1 X.2.1 dX12_init_1149 (by decide) ?_
  refine kp_ldcsw X 41 rfl dX12_init_1151 ?_
  refine kp_calll X h (kp_runS (rm := { frames := 4, cells := 0, slots := 0, locals := 85 }) (mc := 0) (ms := 0) (rest := [.int 49, .ref b373]) (Qc := fun A => kp_Ql D cy A T372 _) X h (c_X12_packed l D cy ad T372 41 _ h.2.2.2 (by decide) hw) cs_12_250 ⟨by decide, by decide, rfl, rfl, by decide, by decide⟩ rfl hl.1 rfl (Nat.le_of_ble_eq_true rfl) dX12_init_1154) (fun z375 T374 hw l_T374 H locs h => ?_)
  have f_a0 := l_T374.is f_a0
  have f_b373 := l_T374.is f_b373
  have hle := hle.tr l_T374
  obtain ⟨hi, hw⟩ := hw
  refine kp_last X h f_b373 hi dX12_init_1157 (fun T376 e_T376 l_T376 H locs h => ?_)
  have hw := hw T376 e_T376
  have f_a0 := l_T376.is f_a0
  have hle := hle.tr l_T376
  exact kp_retv X hr hlocks h hle hw dX12_init_1158
