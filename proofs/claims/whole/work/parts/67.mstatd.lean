set_option maxHeartbeats 4000000 in
set_option maxRecDepth 100000 in
theorem c_X12_choose (l : Launch) (D : va_G) (cy : Nat → ClassId) (ad : (Nat → Nat) × (Nat → Nat)) (F L : Nat) (B : Nat → kp_S → (Int64 → kp_S → Prop) → Prop) (hB : ∀ (S : kp_S) (a0 : Nat) (post : Int64 → kp_S → Prop), kp_ok S → kp_is S a0 12 → B a0 S post → kp_M l yX12_block cX12_block 6 (some .long) { frames := F, cells := 0, slots := 0, locals := L } D cy ad S [.ref a0] 0 0 (fun A => kp_Ql D cy A S post)) (hF : 151 ≤ F) (hL : 3211 ≤ L) (S : kp_S) (a0 : Nat) (post : Int64 → kp_S → Prop) (hS : kp_ok S) (f_a0 : kp_is S a0 12) (hw : wX12_choose B a0 S post) : kp_M l yX12_choose cX12_choose 9 (some .long) { frames := F + 1, cells := 0, slots := 0, locals := L + 25 } D cy ad S [.ref a0] 0 0 (fun A => kp_Ql D cy A S post) := by
  refine kp_start (own := RX12) (by decide) rfl (Nat.le_of_ble_eq_true rfl) hS ?_
  intro p e s m below meth c A ls X hr hlocks hname h hl
  have hle : kp_le S S := kp_le.rf
  have hl : lv_has ls 9 [(0, .ref a0)] := hl
  have L222 : ∀ n222 : Nat, ∀ (wn1 : Int64) (xn3 : Int32) (xn5 : Int32) (Sn : kp_S) (H : Heap) (locs : List Loc) (ls : Array Slot), lv_has ls 9 [(0, .ref a0), (1, .long wn1), (3, .int xn3), (5, .int xn5)] → kp_H D cy A Sn s.heap H locs → kp_le S Sn → kp_is Sn a0 12 → wX12_choose_L222 B a0  post n222 wn1 xn3 xn5 Sn → W p l e { frames := F + 1, cells := 0, slots := 0, locals := L + 25 } s m ([.ref a0] : List Value).toArray below meth c H locs 0 0 (MQ below (kp_Ql D cy A S post) ([.ref a0] : List Value).toArray s 0 0 A) (F0 m 222 ls []) := by
    intro n222
    induction n222 with
    | zero => intro wn1 xn3 xn5 Sn H locs ls hl h hle f_a0 hw; exact hw.elim
    | succ n222 ih222 =>
      have j276 : ∀ (wn1 : Int64) (xn3 : Int32) (xn5 : Int32) (Sn : kp_S) (H : Heap) (locs : List Loc) (ls : Array Slot), lv_has ls 9 [(0, .ref a0), (1, .long wn1), (3, .int xn3), (5, .int xn5)] → kp_H D cy A Sn s.heap H locs → kp_le S Sn → kp_is Sn a0 12 → wX12_choose_b276 B a0 wn1 xn3 xn5 (fun wn1_ xn3_ xn5_ S_ => wX12_choose_L222 B a0  post n222 wn1_ xn3_ xn5_ S_) Sn post → W p l e { frames := F + 1, cells := 0, slots := 0, locals := L + 25 } s m ([.ref a0] : List Value).toArray below meth c H locs 0 0 (MQ below (kp_Ql D cy A S post) ([.ref a0] : List Value).toArray s 0 0 A) (F0 m 276 ls []) := by
        intro wn1 xn3 xn5 Sn H locs ls hl h hle f_a0 hw
        unfold wX12_choose_b276 at hw
        obtain ⟨y1001, e_y1001⟩ : ∃ y : Int32, y = xn5 + 1 := ⟨_, rfl⟩
        have hw := hw y1001 e_y1001
        refine lv_iinc (v := y1001) (lv' := [(5, .int y1001), (0, .ref a0), (1, .long wn1), (3, .int xn3)]) X.1 X.2.1 dX12_choose_276 hl (k := 3) rfl (by rw [e_y1001]; rfl) (by decide) rfl (fun ls hl => ?_)
        refine lv_goto (tgt := 222) X.1 X.2.1 dX12_choose_279 (by decide) ?_
        exact ih222 wn1 xn3 y1001 Sn H locs ls (lv_sub hl [1, 2, 3, 0] rfl) h hle f_a0 hw
      intro wn1 xn3 xn5 Sn H locs ls hl h hle f_a0 hw
      unfold wX12_choose_L222 at hw
      refine lv_iload X.1 X.2.1 dX12_choose_222 (lv_at hl 3 rfl) ?_
      refine lv_aload_n X.1 X.2.1 dX12_choose_224 rfl (lv_at hl 0 rfl) ?_
      refine kp_get X h f_a0 fp_12_370.l (v := .int (kp_I Sn 2417 a0)) rfl dX12_choose_225 ?_
      refine lv_icmp_ge (tgt := 282) X.1 X.2.1 dX12_choose_228 (by decide) (fun c2008 => ?_) (fun c2008 => ?_)
      · have hw := hw.1 c2008
        refine lv_lload_n X.1 X.2.1 dX12_choose_282 rfl (lv_at hl 1 rfl) ?_
        exact kp_retl X hr hlocks h hle hw dX12_choose_283
      · have hw := hw.2 c2008
        refine lv_aload_n X.1 X.2.1 dX12_choose_231 rfl (lv_at hl 0 rfl) ?_
        obtain ⟨b2001, e_b2001, hw⟩ := hw
        have f_b2001 := h.2.2.2.rf (c := 12) (k := 14) f_a0 (by decide) (by decide) e_b2001 (t := 14) rfl
        refine kp_get X h f_a0 ff_12_43.l (v := .ref b2001) (congrArg va_rf e_b2001) dX12_choose_232 ?_
        refine lv_iload X.1 X.2.1 dX12_choose_235 (lv_at hl 3 rfl) ?_
        obtain ⟨hi, hw⟩ := hw
        refine kp_iald X h f_b2001 hi dX12_choose_237 ?_
        refine lv_bipush (v := 41) X.1 X.2.1 dX12_choose_238 (by decide) ?_
        refine lv_icmp_ne (tgt := 276) X.1 X.2.1 dX12_choose_240 (by decide) (fun c2007 => ?_) (fun c2007 => ?_)
        · have hw := hw.1 c2007
          exact j276 wn1 xn3 xn5 Sn H locs ls (lv_sub hl [0, 1, 2, 3] rfl) h hle f_a0 hw
        · have hw := hw.2 c2007
          refine lv_aload_n X.1 X.2.1 dX12_choose_243 rfl (lv_at hl 0 rfl) ?_
          obtain ⟨b2002, e_b2002, hw⟩ := hw
          have f_b2002 := h.2.2.2.rf (c := 12) (k := 15) f_a0 (by decide) (by decide) e_b2002 (t := 14) rfl
          refine kp_get X h f_a0 ff_12_46.l (v := .ref b2002) (congrArg va_rf e_b2002) dX12_choose_244 ?_
          refine lv_iload X.1 X.2.1 dX12_choose_247 (lv_at hl 3 rfl) ?_
          obtain ⟨hi, hw⟩ := hw
          refine kp_iald X h f_b2002 hi dX12_choose_249 ?_
          refine lv_iconst (v := (-1)) X.1 X.2.1 dX12_choose_250 (by decide) ?_
          refine lv_icmp_ne (tgt := 276) X.1 X.2.1 dX12_choose_251 (by decide) (fun c2006 => ?_) (fun c2006 => ?_)
          · have hw := hw.1 c2006
            exact j276 wn1 xn3 xn5 Sn H locs ls (lv_sub hl [0, 1, 2, 3] rfl) h hle f_a0 hw
          · have hw := hw.2 c2006
            refine lv_aload_n X.1 X.2.1 dX12_choose_254 rfl (lv_at hl 0 rfl) ?_
            obtain ⟨b2003, e_b2003, hw⟩ := hw
            have f_b2003 := h.2.2.2.rf (c := 12) (k := 16) f_a0 (by decide) (by decide) e_b2003 (t := 14) rfl
            refine kp_get X h f_a0 ff_12_49.l (v := .ref b2003) (congrArg va_rf e_b2003) dX12_choose_255 ?_
            refine lv_iload X.1 X.2.1 dX12_choose_258 (lv_at hl 3 rfl) ?_
            obtain ⟨hi, hw⟩ := hw
            refine kp_iald X h f_b2003 hi dX12_choose_260 ?_
            refine lv_iload_n X.1 X.2.1 dX12_choose_261 rfl (lv_at hl 2 rfl) ?_
            refine lv_icmp_ne (tgt := 276) X.1 X.2.1 dX12_choose_262 (by decide) (fun c2005 => ?_) (fun c2005 => ?_)
            · have hw := hw.1 c2005
              exact j276 wn1 xn3 xn5 Sn H locs ls (lv_sub hl [0, 1, 2, 3] rfl) h hle f_a0 hw
            · have hw := hw.2 c2005
              refine lv_aload_n X.1 X.2.1 dX12_choose_265 rfl (lv_at hl 0 rfl) ?_
              refine kp_get X h f_a0 ff_12_46.l (v := .ref b2002) (congrArg va_rf e_b2002) dX12_choose_266 ?_
              refine lv_iload X.1 X.2.1 dX12_choose_269 (lv_at hl 3 rfl) ?_
              refine lv_aload_n X.1 X.2.1 dX12_choose_271 rfl (lv_at hl 0 rfl) ?_
              refine kp_get X h f_a0 fp_12_370.l (v := .int (kp_I Sn 2417 a0)) rfl dX12_choose_272 ?_
              obtain ⟨hi, hw⟩ := hw
              refine kp_iast X h f_b2002 hi dX12_choose_275 (fun T2004 e_T2004 l_T2004 H locs h => ?_)
              have hw := hw T2004 e_T2004
              have f_a0 := l_T2004.is f_a0
              have f_b2001 := l_T2004.is f_b2001
              have f_b2002 := l_T2004.is f_b2002
              have f_b2003 := l_T2004.is f_b2003
              have hle := hle.tr l_T2004
              have e_b2001 : kp_R T2004 2414 a0 = some b2001 := by rw [e_T2004]; exact e_b2001
              have e_b2002 : kp_R T2004 2415 a0 = some b2002 := by rw [e_T2004]; exact e_b2002
              have e_b2003 : kp_R T2004 2416 a0 = some b2003 := by rw [e_T2004]; exact e_b2003
              exact j276 wn1 xn3 xn5 T2004 H locs ls (lv_sub hl [0, 1, 2, 3] rfl) h hle f_a0 hw
  have j203 : ∀ (wn1 : Int64) (xn3 : Int32) (Sn : kp_S) (H : Heap) (locs : List Loc) (ls : Array Slot), lv_has ls 9 [(0, .ref a0), (1, .long wn1), (3, .int xn3)] → kp_H D cy A Sn s.heap H locs → kp_le S Sn → kp_is Sn a0 12 → wX12_choose_b203 B a0 wn1 xn3  Sn post → W p l e { frames := F + 1, cells := 0, slots := 0, locals := L + 25 } s m ([.ref a0] : List Value).toArray below meth c H locs 0 0 (MQ below (kp_Ql D cy A S post) ([.ref a0] : List Value).toArray s 0 0 A) (F0 m 203 ls []) := by
    intro wn1 xn3 Sn H locs ls hl h hle f_a0 hw
    unfold wX12_choose_b203 at hw
    refine lv_aload_n X.1 X.2.1 dX12_choose_203 rfl (lv_at hl 0 rfl) ?_
    refine lv_bipush (v := 125) X.1 X.2.1 dX12_choose_204 (by decide) ?_
    refine kp_callv X h (kp_runV (rm := { frames := 2, cells := 0, slots := 0, locals := 42 }) (mc := 0) (ms := 0) (rest := []) (Qc := fun A => kp_Qv D cy A Sn _) X h (c_X12_takeSign l D cy ad Sn a0 125 _ h.2.2.2 f_a0 hw) f_a0 cv_12_429 ⟨by dsimp only; omega, by dsimp only; omega, rfl, rfl, by dsimp only; omega, by dsimp only; omega⟩ rfl hl.1 rfl (Nat.le_of_ble_eq_true rfl) dX12_choose_206) (fun T3001 hw l_T3001 H locs h => ?_)
    have f_a0 := l_T3001.is f_a0
    have hle := hle.tr l_T3001
    refine lv_aload_n X.1 X.2.1 dX12_choose_209 rfl (lv_at hl 0 rfl) ?_
    refine lv_dup X.1 X.2.1 dX12_choose_210 rfl ?_
    refine kp_get X h f_a0 fp_12_388.l (v := .int (kp_I T3001 2411 a0)) rfl dX12_choose_211 ?_
    refine lv_iconst (v := 1) X.1 X.2.1 dX12_choose_214 (by decide) ?_
    refine lv_isub X.1 X.2.1 dX12_choose_215 ?_
    refine kp_putI X h f_a0 fp_12_388 rfl ⟨rfl, rfl⟩ dX12_choose_216 (fun T3002 e_T3002 l_T3002 H locs h => ?_)
    have hw := hw T3002 e_T3002
    have f_a0 := l_T3002.is f_a0
    have hle := hle.tr l_T3002
    refine lv_iload_n X.1 X.2.1 dX12_choose_219 rfl (lv_at hl 2 rfl) ?_
    refine lv_istore (lv' := [(5, .int xn3), (0, .ref a0), (1, .long wn1), (3, .int xn3)]) X.1 X.2.1 dX12_choose_220 hl (by decide) rfl (fun ls hl => ?_)
    obtain ⟨n0, hw⟩ := hw
    exact L222 n0 wn1 xn3 xn3 T3002 H locs ls (lv_sub hl [1, 2, 3, 0] rfl) h hle f_a0 hw
  have j190 : ∀ (xn3 : Int32) (wt0 : Int64) (Sn : kp_S) (H : Heap) (locs : List Loc) (ls : Array Slot), lv_has ls 9 [(0, .ref a0), (3, .int xn3)] → kp_H D cy A Sn s.heap H locs → kp_le S Sn → kp_is Sn a0 12 → wX12_choose_b190 B a0 xn3 wt0  Sn post → W p l e { frames := F + 1, cells := 0, slots := 0, locals := L + 25 } s m ([.ref a0] : List Value).toArray below meth c H locs 0 0 (MQ below (kp_Ql D cy A S post) ([.ref a0] : List Value).toArray s 0 0 A) (F0 m 190 ls [.long wt0]) := by
    intro xn3 wt0 Sn H locs ls hl h hle f_a0 hw
    unfold wX12_choose_b190 at hw
    refine lv_lstore_n (lv' := [(1, .long wt0), (0, .ref a0), (3, .int xn3)]) X.1 X.2.1 dX12_choose_190 rfl hl (by decide) rfl (fun ls hl => ?_)
    refine lv_goto (tgt := 203) X.1 X.2.1 dX12_choose_191 (by decide) ?_
    exact j203 wt0 xn3 Sn H locs ls (lv_sub hl [1, 0, 2] rfl) h hle f_a0 hw
  have L47 : ∀ n47 : Nat, ∀ (wn1 : Int64) (xn3 : Int32) (xn4 : Int32) (Sn : kp_S) (H : Heap) (locs : List Loc) (ls : Array Slot), lv_has ls 9 [(0, .ref a0), (1, .long wn1), (3, .int xn3), (4, .int xn4)] → kp_H D cy A Sn s.heap H locs → kp_le S Sn → kp_is Sn a0 12 → wX12_choose_L47 B a0  post n47 wn1 xn3 xn4 Sn → W p l e { frames := F + 1, cells := 0, slots := 0, locals := L + 25 } s m ([.ref a0] : List Value).toArray below meth c H locs 0 0 (MQ below (kp_Ql D cy A S post) ([.ref a0] : List Value).toArray s 0 0 A) (F0 m 47 ls []) := by
    intro n47
    induction n47 with
    | zero => intro wn1 xn3 xn4 Sn H locs ls hl h hle f_a0 hw; exact hw.elim
    | succ n47 ih47 =>
      have j129 : ∀ (wn1 : Int64) (xn3 : Int32) (xn6 : Int32) (xt0 : Int32) (Sn : kp_S) (H : Heap) (locs : List Loc) (ls : Array Slot), lv_has ls 9 [(0, .ref a0), (1, .long wn1), (3, .int xn3), (6, .int xn6)] → kp_H D cy A Sn s.heap H locs → kp_le S Sn → kp_is Sn a0 12 → wX12_choose_b129 B a0 wn1 xn3 xn6 xt0 (fun wn1_ xn3_ xn4_ S_ => wX12_choose_L47 B a0  post n47 wn1_ xn3_ xn4_ S_) Sn post → W p l e { frames := F + 1, cells := 0, slots := 0, locals := L + 25 } s m ([.ref a0] : List Value).toArray below meth c H locs 0 0 (MQ below (kp_Ql D cy A S post) ([.ref a0] : List Value).toArray s 0 0 A) (F0 m 129 ls [.int xt0]) := by
        intro wn1 xn3 xn6 xt0 Sn H locs ls hl h hle f_a0 hw
        unfold wX12_choose_b129 at hw
        refine lv_istore (lv' := [(4, .int xt0), (0, .ref a0), (1, .long wn1), (3, .int xn3), (6, .int xn6)]) X.1 X.2.1 dX12_choose_129 hl (by decide) rfl (fun ls hl => ?_)
        refine lv_aload_n X.1 X.2.1 dX12_choose_131 rfl (lv_at hl 1 rfl) ?_
        refine lv_bipush (v := 41) X.1 X.2.1 dX12_choose_132 (by decide) ?_
        refine lv_iconst (v := (-1)) X.1 X.2.1 dX12_choose_134 (by decide) ?_
        refine lv_iload_n X.1 X.2.1 dX12_choose_135 rfl (lv_at hl 3 rfl) ?_
        refine kp_calli X h (kp_runV (rm := { frames := 0, cells := 0, slots := 0, locals := 0 }) (mc := 0) (ms := 0) (rest := []) (Qc := fun A => kp_Qi D cy A Sn _) X h (c_X12_emit l D cy ad Sn a0 41 (-1) xn3 _ h.2.2.2 f_a0 hw) f_a0 cv_12_451 ⟨by dsimp only; omega, by dsimp only; omega, rfl, rfl, by dsimp only; omega, by dsimp only; omega⟩ rfl hl.1 rfl (Nat.le_of_ble_eq_true rfl) dX12_choose_136) (fun y5002 T5001 hw l_T5001 H locs h => ?_)
        have f_a0 := l_T5001.is f_a0
        have hle := hle.tr l_T5001
        refine lv_pop X.1 X.2.1 dX12_choose_139 rfl ?_
        refine lv_aload_n X.1 X.2.1 dX12_choose_140 rfl (lv_at hl 1 rfl) ?_
        obtain ⟨b5003, e_b5003, hw⟩ := hw
        have f_b5003 := h.2.2.2.rf (c := 12) (k := 15) f_a0 (by decide) (by decide) e_b5003 (t := 14) rfl
        refine kp_get X h f_a0 ff_12_46.l (v := .ref b5003) (congrArg va_rf e_b5003) dX12_choose_141 ?_
        refine lv_iload X.1 X.2.1 dX12_choose_144 (lv_at hl 4 rfl) ?_
        refine lv_aload_n X.1 X.2.1 dX12_choose_146 rfl (lv_at hl 1 rfl) ?_
        refine kp_get X h f_a0 fp_12_370.l (v := .int (kp_I T5001 2417 a0)) rfl dX12_choose_147 ?_
        obtain ⟨hi, hw⟩ := hw
        refine kp_iast X h f_b5003 hi dX12_choose_150 (fun T5004 e_T5004 l_T5004 H locs h => ?_)
        have hw := hw T5004 e_T5004
        have f_a0 := l_T5004.is f_a0
        have f_b5003 := l_T5004.is f_b5003
        have hle := hle.tr l_T5004
        have e_b5003 : kp_R T5004 2415 a0 = some b5003 := by rw [e_T5004]; exact e_b5003
        refine lv_goto (tgt := 47) X.1 X.2.1 dX12_choose_151 (by decide) ?_
        exact ih47 wn1 xn3 xt0 T5004 H locs ls (lv_sub hl [1, 2, 3, 0] rfl) h hle f_a0 hw
      have j124 : ∀ (wn1 : Int64) (xn3 : Int32) (xn6 : Int32) (Sn : kp_S) (H : Heap) (locs : List Loc) (ls : Array Slot), lv_has ls 9 [(0, .ref a0), (1, .long wn1), (3, .int xn3), (6, .int xn6)] → kp_H D cy A Sn s.heap H locs → kp_le S Sn → kp_is Sn a0 12 → wX12_choose_b124 B a0 wn1 xn3 xn6 (fun wn1_ xn3_ xn4_ S_ => wX12_choose_L47 B a0  post n47 wn1_ xn3_ xn4_ S_) Sn post → W p l e { frames := F + 1, cells := 0, slots := 0, locals := L + 25 } s m ([.ref a0] : List Value).toArray below meth c H locs 0 0 (MQ below (kp_Ql D cy A S post) ([.ref a0] : List Value).toArray s 0 0 A) (F0 m 124 ls []) := by
        intro wn1 xn3 xn6 Sn H locs ls hl h hle f_a0 hw
        unfold wX12_choose_b124 at hw
        refine lv_iconst (v := 1) X.1 X.2.1 dX12_choose_124 (by decide) ?_
        refine lv_goto (tgt := 129) X.1 X.2.1 dX12_choose_125 (by decide) ?_
        exact j129 wn1 xn3 xn6 1 Sn H locs ls (lv_sub hl [0, 1, 2, 3] rfl) h hle f_a0 hw
      have j113 : ∀ (xn3 : Int32) (xn4 : Int32) (xn5 : Int32) (xn6 : Int32) (wt0 : Int64) (Sn : kp_S) (H : Heap) (locs : List Loc) (ls : Array Slot), lv_has ls 9 [(0, .ref a0), (3, .int xn3), (4, .int xn4), (5, .int xn5), (6, .int xn6)] → kp_H D cy A Sn s.heap H locs → kp_le S Sn → kp_is Sn a0 12 → wX12_choose_b113 B a0 xn3 xn4 xn5 xn6 wt0 (fun wn1_ xn3_ xn4_ S_ => wX12_choose_L47 B a0  post n47 wn1_ xn3_ xn4_ S_) Sn post → W p l e { frames := F + 1, cells := 0, slots := 0, locals := L + 25 } s m ([.ref a0] : List Value).toArray below meth c H locs 0 0 (MQ below (kp_Ql D cy A S post) ([.ref a0] : List Value).toArray s 0 0 A) (F0 m 113 ls [.long wt0]) := by
        intro xn3 xn4 xn5 xn6 wt0 Sn H locs ls hl h hle f_a0 hw
        unfold wX12_choose_b113 at hw
        refine lv_lstore_n (lv' := [(1, .long wt0), (0, .ref a0), (3, .int xn3), (4, .int xn4), (5, .int xn5), (6, .int xn6)]) X.1 X.2.1 dX12_choose_113 rfl hl (by decide) rfl (fun ls hl => ?_)
        refine lv_iload X.1 X.2.1 dX12_choose_114 (lv_at hl 3 rfl) ?_
        refine lv_if_ne (tgt := 124) X.1 X.2.1 dX12_choose_116 (by decide) (fun c7002 => ?_) (fun c7002 => ?_)
        · have hw := hw.1 c7002
          exact j124 wt0 xn3 xn6 Sn H locs ls (lv_sub hl [1, 0, 2, 5] rfl) h hle f_a0 hw
        · have hw := hw.2 c7002
          refine lv_iload X.1 X.2.1 dX12_choose_119 (lv_at hl 4 rfl) ?_
          refine lv_if_eq (tgt := 128) X.1 X.2.1 dX12_choose_121 (by decide) (fun c7001 => ?_) (fun c7001 => ?_)
          · have hw := hw.1 c7001
            refine lv_iconst (v := 0) X.1 X.2.1 dX12_choose_128 (by decide) ?_
            exact j129 wt0 xn3 xn6 0 Sn H locs ls (lv_sub hl [1, 0, 2, 5] rfl) h hle f_a0 hw
          · have hw := hw.2 c7001
            exact j124 wt0 xn3 xn6 Sn H locs ls (lv_sub hl [1, 0, 2, 5] rfl) h hle f_a0 hw
      have j93 : ∀ (xn3 : Int32) (xn4 : Int32) (xn5 : Int32) (xn6 : Int32) (wt0 : Int64) (Sn : kp_S) (H : Heap) (locs : List Loc) (ls : Array Slot), lv_has ls 9 [(0, .ref a0), (3, .int xn3), (4, .int xn4), (5, .int xn5), (6, .int xn6)] → kp_H D cy A Sn s.heap H locs → kp_le S Sn → kp_is Sn a0 12 → wX12_choose_b93 B a0 xn3 xn4 xn5 xn6 wt0 (fun wn1_ xn3_ xn4_ S_ => wX12_choose_L47 B a0  post n47 wn1_ xn3_ xn4_ S_) Sn post → W p l e { frames := F + 1, cells := 0, slots := 0, locals := L + 25 } s m ([.ref a0] : List Value).toArray below meth c H locs 0 0 (MQ below (kp_Ql D cy A S post) ([.ref a0] : List Value).toArray s 0 0 A) (F0 m 93 ls [.long wt0]) := by
        intro xn3 xn4 xn5 xn6 wt0 Sn H locs ls hl h hle f_a0 hw
        unfold wX12_choose_b93 at hw
        refine lv_lstore_n (lv' := [(1, .long wt0), (0, .ref a0), (3, .int xn3), (4, .int xn4), (5, .int xn5), (6, .int xn6)]) X.1 X.2.1 dX12_choose_93 rfl hl (by decide) rfl (fun ls hl => ?_)
        refine lv_aload_n X.1 X.2.1 dX12_choose_94 rfl (lv_at hl 1 rfl) ?_
        refine kp_calll X h (kp_runV (rm := { frames := F, cells := 0, slots := 0, locals := L }) (mc := 0) (ms := 0) (rest := []) (Qc := fun A => kp_Ql D cy A Sn _) X h (hB Sn a0 _ h.2.2.2 f_a0 hw) f_a0 cv_12_447 ⟨by dsimp only; omega, by dsimp only; omega, rfl, rfl, by dsimp only; omega, by dsimp only; omega⟩ rfl hl.1 rfl (Nat.le_of_ble_eq_true rfl) dX12_choose_95) (fun z8002 T8001 hw l_T8001 H locs h => ?_)
        have f_a0 := l_T8001.is f_a0
        have hle := hle.tr l_T8001
        refine lv_lstore (lv' := [(7, .long z8002), (1, .long wt0), (0, .ref a0), (3, .int xn3), (4, .int xn4), (5, .int xn5), (6, .int xn6)]) X.1 X.2.1 dX12_choose_98 hl (by decide) rfl (fun ls hl => ?_)
        refine lv_iload X.1 X.2.1 dX12_choose_100 (lv_at hl 4 rfl) ?_
        refine lv_if_eq (tgt := 109) X.1 X.2.1 dX12_choose_102 (by decide) (fun c8003 => ?_) (fun c8003 => ?_)
        · have hw := hw.1 c8003
          refine lv_lload_n X.1 X.2.1 dX12_choose_109 rfl (lv_at hl 1 rfl) ?_
          refine lv_lload X.1 X.2.1 dX12_choose_110 (lv_at hl 0 rfl) ?_
          refine lv_lor X.1 X.2.1 dX12_choose_112 ?_
          exact j113 xn3 xn4 xn5 xn6 (wt0 ||| z8002) T8001 H locs ls (lv_sub hl [2, 3, 4, 5, 6] rfl) h hle f_a0 hw
        · have hw := hw.2 c8003
          refine lv_lload_n X.1 X.2.1 dX12_choose_105 rfl (lv_at hl 1 rfl) ?_
          refine lv_goto (tgt := 113) X.1 X.2.1 dX12_choose_106 (by decide) ?_
          exact j113 xn3 xn4 xn5 xn6 wt0 T8001 H locs ls (lv_sub hl [2, 3, 4, 5, 6] rfl) h hle f_a0 hw
      intro wn1 xn3 xn4 Sn H locs ls hl h hle f_a0 hw
      unfold wX12_choose_L47 at hw
      refine lv_aload_n X.1 X.2.1 dX12_choose_47 rfl (lv_at hl 0 rfl) ?_
      refine lv_bipush (v := 48) X.1 X.2.1 dX12_choose_48 (by decide) ?_
      refine kp_calli X h (kp_runV (rm := { frames := 1, cells := 0, slots := 0, locals := 21 }) (mc := 0) (ms := 0) (rest := []) (Qc := fun A => kp_Qi D cy A Sn _) X h (c_X12_skip l D cy ad Sn a0 48 _ h.2.2.2 f_a0 hw) f_a0 cv_12_440 ⟨by dsimp only; omega, by dsimp only; omega, rfl, rfl, by dsimp only; omega, by dsimp only; omega⟩ rfl hl.1 rfl (Nat.le_of_ble_eq_true rfl) dX12_choose_50) (fun y9002 T9001 hw l_T9001 H locs h => ?_)
      have f_a0 := l_T9001.is f_a0
      have hle := hle.tr l_T9001
      refine lv_if_eq (tgt := 154) X.1 X.2.1 dX12_choose_53 (by decide) (fun c9021 => ?_) (fun c9021 => ?_)
      · have hw := hw.1 c9021
        refine lv_aload_n X.1 X.2.1 dX12_choose_154 rfl (lv_at hl 0 rfl) ?_
        refine lv_iconst (v := 4) X.1 X.2.1 dX12_choose_155 (by decide) ?_
        refine lv_iconst (v := 0) X.1 X.2.1 dX12_choose_156 (by decide) ?_
        refine lv_iconst (v := 0) X.1 X.2.1 dX12_choose_157 (by decide) ?_
        refine kp_calli X h (kp_runV (rm := { frames := 0, cells := 0, slots := 0, locals := 0 }) (mc := 0) (ms := 0) (rest := []) (Qc := fun A => kp_Qi D cy A T9001 _) X h (c_X12_emit l D cy ad T9001 a0 4 0 0 _ h.2.2.2 f_a0 hw) f_a0 cv_12_451 ⟨by dsimp only; omega, by dsimp only; omega, rfl, rfl, by dsimp only; omega, by dsimp only; omega⟩ rfl hl.1 rfl (Nat.le_of_ble_eq_true rfl) dX12_choose_158) (fun y9004 T9003 hw l_T9003 H locs h => ?_)
        have f_a0 := l_T9003.is f_a0
        have hle := hle.tr l_T9003
        refine lv_pop X.1 X.2.1 dX12_choose_161 rfl ?_
        refine lv_aload_n X.1 X.2.1 dX12_choose_162 rfl (lv_at hl 0 rfl) ?_
        refine lv_bipush (v := 49) X.1 X.2.1 dX12_choose_163 (by decide) ?_
        refine kp_calli X h (kp_runV (rm := { frames := 1, cells := 0, slots := 0, locals := 21 }) (mc := 0) (ms := 0) (rest := []) (Qc := fun A => kp_Qi D cy A T9003 _) X h (c_X12_skip l D cy ad T9003 a0 49 _ h.2.2.2 f_a0 hw) f_a0 cv_12_440 ⟨by dsimp only; omega, by dsimp only; omega, rfl, rfl, by dsimp only; omega, by dsimp only; omega⟩ rfl hl.1 rfl (Nat.le_of_ble_eq_true rfl) dX12_choose_165) (fun y9006 T9005 hw l_T9005 H locs h => ?_)
        have f_a0 := l_T9005.is f_a0
        have hle := hle.tr l_T9005
        refine lv_if_eq (tgt := 194) X.1 X.2.1 dX12_choose_168 (by decide) (fun c9012 => ?_) (fun c9012 => ?_)
        · have hw := hw.1 c9012
          refine lv_iload X.1 X.2.1 dX12_choose_194 (lv_at hl 3 rfl) ?_
          refine lv_if_ne (tgt := 203) X.1 X.2.1 dX12_choose_196 (by decide) (fun c9008 => ?_) (fun c9008 => ?_)
          · have hw := hw.1 c9008
            exact j203 wn1 xn3 T9005 H locs ls (lv_sub hl [0, 1, 2] rfl) h hle f_a0 hw
          · have hw := hw.2 c9008
            refine lv_lload_n X.1 X.2.1 dX12_choose_199 rfl (lv_at hl 1 rfl) ?_
            refine lv_lconst (v := 1) X.1 X.2.1 dX12_choose_200 (by decide) ?_
            refine lv_lor X.1 X.2.1 dX12_choose_201 ?_
            refine lv_topl (fun z9007 e_z9007 => ?_)
            have hw := hw z9007 e_z9007
            refine lv_lstore_n (lv' := [(1, .long z9007), (0, .ref a0), (3, .int xn3), (4, .int xn4)]) X.1 X.2.1 dX12_choose_202 rfl hl (by decide) rfl (fun ls hl => ?_)
            exact j203 z9007 xn3 T9005 H locs ls (lv_sub hl [1, 0, 2] rfl) h hle f_a0 hw
        · have hw := hw.2 c9012
          refine lv_aload_n X.1 X.2.1 dX12_choose_171 rfl (lv_at hl 0 rfl) ?_
          refine kp_calll X h (kp_runV (rm := { frames := F, cells := 0, slots := 0, locals := L }) (mc := 0) (ms := 0) (rest := []) (Qc := fun A => kp_Ql D cy A T9005 _) X h (hB T9005 a0 _ h.2.2.2 f_a0 hw) f_a0 cv_12_447 ⟨by dsimp only; omega, by dsimp only; omega, rfl, rfl, by dsimp only; omega, by dsimp only; omega⟩ rfl hl.1 rfl (Nat.le_of_ble_eq_true rfl) dX12_choose_172) (fun z9010 T9009 hw l_T9009 H locs h => ?_)
          have f_a0 := l_T9009.is f_a0
          have hle := hle.tr l_T9009
          refine lv_lstore (lv' := [(5, .long z9010), (0, .ref a0), (1, .long wn1), (3, .int xn3), (4, .int xn4)]) X.1 X.2.1 dX12_choose_175 hl (by decide) rfl (fun ls hl => ?_)
          refine lv_iload X.1 X.2.1 dX12_choose_177 (lv_at hl 4 rfl) ?_
          refine lv_if_eq (tgt := 186) X.1 X.2.1 dX12_choose_179 (by decide) (fun c9011 => ?_) (fun c9011 => ?_)
          · have hw := hw.1 c9011
            refine lv_lload_n X.1 X.2.1 dX12_choose_186 rfl (lv_at hl 2 rfl) ?_
            refine lv_lload X.1 X.2.1 dX12_choose_187 (lv_at hl 0 rfl) ?_
            refine lv_lor X.1 X.2.1 dX12_choose_189 ?_
            exact j190 xn3 (wn1 ||| z9010) T9009 H locs ls (lv_sub hl [1, 3] rfl) h hle f_a0 hw
          · have hw := hw.2 c9011
            refine lv_lload_n X.1 X.2.1 dX12_choose_182 rfl (lv_at hl 2 rfl) ?_
            refine lv_goto (tgt := 190) X.1 X.2.1 dX12_choose_183 (by decide) ?_
            exact j190 xn3 wn1 T9009 H locs ls (lv_sub hl [1, 3] rfl) h hle f_a0 hw
      · have hw := hw.2 c9021
        refine lv_aload_n X.1 X.2.1 dX12_choose_56 rfl (lv_at hl 0 rfl) ?_
        refine lv_bipush (v := 26) X.1 X.2.1 dX12_choose_57 (by decide) ?_
        refine kp_calli X h (kp_runV (rm := { frames := 0, cells := 0, slots := 0, locals := 0 }) (mc := 0) (ms := 0) (rest := []) (Qc := fun A => kp_Qi D cy A T9001 _) X h (c_X12_is l D cy ad T9001 a0 26 _ h.2.2.2 f_a0 hw) f_a0 cv_12_379 ⟨by dsimp only; omega, by dsimp only; omega, rfl, rfl, by dsimp only; omega, by dsimp only; omega⟩ rfl hl.1 rfl (Nat.le_of_ble_eq_true rfl) dX12_choose_59) (fun y9014 T9013 hw l_T9013 H locs h => ?_)
        have f_a0 := l_T9013.is f_a0
        have hle := hle.tr l_T9013
        refine lv_istore (lv' := [(5, .int y9014), (0, .ref a0), (1, .long wn1), (3, .int xn3), (4, .int xn4)]) X.1 X.2.1 dX12_choose_62 hl (by decide) rfl (fun ls hl => ?_)
        refine lv_aload_n X.1 X.2.1 dX12_choose_64 rfl (lv_at hl 1 rfl) ?_
        refine lv_iconst (v := 0) X.1 X.2.1 dX12_choose_65 (by decide) ?_
        refine kp_putI X h f_a0 fp_12_471 rfl ⟨by decide, by decide⟩ dX12_choose_66 (fun T9015 e_T9015 l_T9015 H locs h => ?_)
        have hw := hw T9015 e_T9015
        have f_a0 := l_T9015.is f_a0
        have hle := hle.tr l_T9015
        refine lv_aload_n X.1 X.2.1 dX12_choose_69 rfl (lv_at hl 1 rfl) ?_
        refine lv_bipush (v := 59) X.1 X.2.1 dX12_choose_70 (by decide) ?_
        refine lv_bipush (v := 58) X.1 X.2.1 dX12_choose_72 (by decide) ?_
        refine kp_calli X h (kp_runV (rm := { frames := 150, cells := 0, slots := 0, locals := 3185 }) (mc := 0) (ms := 0) (rest := []) (Qc := fun A => kp_Qi D cy A T9015 _) X h (c_X12_list l D cy ad T9015 a0 59 58 _ h.2.2.2 f_a0 hw) f_a0 cv_12_526 ⟨by dsimp only; omega, by dsimp only; omega, rfl, rfl, by dsimp only; omega, by dsimp only; omega⟩ rfl hl.1 rfl (Nat.le_of_ble_eq_true rfl) dX12_choose_74) (fun y9017 T9016 hw l_T9016 H locs h => ?_)
        have f_a0 := l_T9016.is f_a0
        have hle := hle.tr l_T9016
        refine lv_istore (lv' := [(6, .int y9017), (5, .int y9014), (0, .ref a0), (1, .long wn1), (3, .int xn3), (4, .int xn4)]) X.1 X.2.1 dX12_choose_77 hl (by decide) rfl (fun ls hl => ?_)
        refine lv_iload X.1 X.2.1 dX12_choose_79 (lv_at hl 5 rfl) ?_
        refine lv_if_eq (tgt := 88) X.1 X.2.1 dX12_choose_81 (by decide) (fun c9020 => ?_) (fun c9020 => ?_)
        · have hw := hw.1 c9020
          refine lv_aload_n X.1 X.2.1 dX12_choose_88 rfl (lv_at hl 2 rfl) ?_
          refine lv_lload_n X.1 X.2.1 dX12_choose_89 rfl (lv_at hl 3 rfl) ?_
          refine kp_calll X h (kp_runV (rm := { frames := 0, cells := 0, slots := 0, locals := 0 }) (mc := 0) (ms := 0) (rest := []) (Qc := fun A => kp_Ql D cy A T9016 _) X h (c_X12_risky l D cy ad T9016 a0 wn1 _ h.2.2.2 f_a0 hw) f_a0 cv_12_483 ⟨by dsimp only; omega, by dsimp only; omega, rfl, rfl, by dsimp only; omega, by dsimp only; omega⟩ rfl hl.1 rfl (Nat.le_of_ble_eq_true rfl) dX12_choose_90) (fun z9019 T9018 hw l_T9018 H locs h => ?_)
          have f_a0 := l_T9018.is f_a0
          have hle := hle.tr l_T9018
          exact j93 xn3 xn4 y9014 y9017 z9019 T9018 H locs ls (lv_sub hl [2, 4, 5, 1, 0] rfl) h hle f_a0 hw
        · have hw := hw.2 c9020
          refine lv_lload_n X.1 X.2.1 dX12_choose_84 rfl (lv_at hl 3 rfl) ?_
          refine lv_goto (tgt := 93) X.1 X.2.1 dX12_choose_85 (by decide) ?_
          exact j93 xn3 xn4 y9014 y9017 wn1 T9016 H locs ls (lv_sub hl [2, 4, 5, 1, 0] rfl) h hle f_a0 hw
  unfold wX12_choose at hw
  have h : kp_H D cy A S s.heap s.heap [] := h
  revert h
  intro h
  refine lv_aload_n X.1 X.2.1 dX12_choose_0 rfl (lv_at hl 0 rfl) ?_
  refine lv_dup X.1 X.2.1 dX12_choose_1 rfl ?_
  refine kp_get X h f_a0 fp_12_376.l (v := .int (kp_I S 2410 a0)) rfl dX12_choose_2 ?_
  refine lv_iconst (v := 1) X.1 X.2.1 dX12_choose_5 (by decide) ?_
  refine lv_iadd X.1 X.2.1 dX12_choose_6 ?_
  refine kp_putI X h f_a0 fp_12_376 rfl ⟨rfl, rfl⟩ dX12_choose_7 (fun T1 e_T1 l_T1 H locs h => ?_)
  have hw := hw T1 e_T1
  have f_a0 := l_T1.is f_a0
  have hle := hle.tr l_T1
  refine lv_aload_n X.1 X.2.1 dX12_choose_10 rfl (lv_at hl 0 rfl) ?_
  refine kp_callv X h (kp_runV (rm := { frames := 149, cells := 0, slots := 0, locals := 3164 }) (mc := 0) (ms := 0) (rest := []) (Qc := fun A => kp_Qv D cy A T1 _) X h (c_X12_expression_t l D cy ad T1 a0 _ h.2.2.2 f_a0 hw) f_a0 cv_12_520 ⟨by dsimp only; omega, by dsimp only; omega, rfl, rfl, by dsimp only; omega, by dsimp only; omega⟩ rfl hl.1 rfl (Nat.le_of_ble_eq_true rfl) dX12_choose_11) (fun T2 hw l_T2 H locs h => ?_)
  have f_a0 := l_T2.is f_a0
  have hle := hle.tr l_T2
  refine lv_aload_n X.1 X.2.1 dX12_choose_14 rfl (lv_at hl 0 rfl) ?_
  refine lv_lconst (v := 0) X.1 X.2.1 dX12_choose_15 (by decide) ?_
  refine kp_calll X h (kp_runV (rm := { frames := 0, cells := 0, slots := 0, locals := 0 }) (mc := 0) (ms := 0) (rest := []) (Qc := fun A => kp_Ql D cy A T2 _) X h (c_X12_risky l D cy ad T2 a0 0 _ h.2.2.2 f_a0 hw) f_a0 cv_12_483 ⟨by dsimp only; omega, by dsimp only; omega, rfl, rfl, by dsimp only; omega, by dsimp only; omega⟩ rfl hl.1 rfl (Nat.le_of_ble_eq_true rfl) dX12_choose_16) (fun z4 T3 hw l_T3 H locs h => ?_)
  have f_a0 := l_T3.is f_a0
  have hle := hle.tr l_T3
  refine lv_lstore_n (lv' := [(1, .long z4), (0, .ref a0)]) X.1 X.2.1 dX12_choose_19 rfl hl (by decide) rfl (fun ls hl => ?_)
  refine lv_aload_n X.1 X.2.1 dX12_choose_20 rfl (lv_at hl 1 rfl) ?_
  refine lv_bipush (v := 123) X.1 X.2.1 dX12_choose_21 (by decide) ?_
  refine kp_calli X h (kp_runV (rm := { frames := 1, cells := 0, slots := 0, locals := 21 }) (mc := 0) (ms := 0) (rest := []) (Qc := fun A => kp_Qi D cy A T3 _) X h (c_X12_isSign l D cy ad T3 a0 123 _ h.2.2.2 f_a0 hw) f_a0 cv_12_433 ⟨by dsimp only; omega, by dsimp only; omega, rfl, rfl, by dsimp only; omega, by dsimp only; omega⟩ rfl hl.1 rfl (Nat.le_of_ble_eq_true rfl) dX12_choose_23) (fun y6 T5 hw l_T5 H locs h => ?_)
  have f_a0 := l_T5.is f_a0
  have hle := hle.tr l_T5
  refine lv_if_ne (tgt := 35) X.1 X.2.1 dX12_choose_26 (by decide) (fun c10 => ?_) (fun c10 => ?_)
  · have hw := hw.1 c10
    refine lv_aload_n X.1 X.2.1 dX12_choose_35 rfl (lv_at hl 1 rfl) ?_
    refine kp_callv X h (kp_runV (rm := { frames := 0, cells := 0, slots := 0, locals := 0 }) (mc := 0) (ms := 0) (rest := []) (Qc := fun A => kp_Qv D cy A T5 _) X h (c_X12_nest l D cy ad T5 a0 _ h.2.2.2 f_a0 hw) f_a0 cv_12_463 ⟨by dsimp only; omega, by dsimp only; omega, rfl, rfl, by dsimp only; omega, by dsimp only; omega⟩ rfl hl.1 rfl (Nat.le_of_ble_eq_true rfl) dX12_choose_36) (fun T7 hw l_T7 H locs h => ?_)
    have f_a0 := l_T7.is f_a0
    have hle := hle.tr l_T7
    refine lv_aload_n X.1 X.2.1 dX12_choose_39 rfl (lv_at hl 1 rfl) ?_
    refine kp_get X h f_a0 fp_12_370.l (v := .int (kp_I T7 2417 a0)) rfl dX12_choose_40 ?_
    refine lv_topi (fun y8 e_y8 => ?_)
    have hw := hw y8 e_y8
    refine lv_istore_n (lv' := [(3, .int y8), (1, .long z4), (0, .ref a0)]) X.1 X.2.1 dX12_choose_43 rfl hl (by decide) rfl (fun ls hl => ?_)
    refine lv_iconst (v := 0) X.1 X.2.1 dX12_choose_44 (by decide) ?_
    refine lv_istore (lv' := [(4, .int 0), (3, .int y8), (1, .long z4), (0, .ref a0)]) X.1 X.2.1 dX12_choose_45 hl (by decide) rfl (fun ls hl => ?_)
    obtain ⟨n0, hw⟩ := hw
    exact L47 n0 z4 y8 0 T7 _ _ ls (lv_sub hl [3, 2, 1, 0] rfl) h hle f_a0 hw
  · have hw := hw.2 c10
    refine lv_aload_n X.1 X.2.1 dX12_choose_29 rfl (lv_at hl 1 rfl) ?_
    refine kp_callv X h (kp_runV (rm := { frames := 0, cells := 0, slots := 0, locals := 0 }) (mc := 0) (ms := 0) (rest := []) (Qc := fun A => kp_Qv D cy A T5 _) X h (c_X12_wrong l D cy ad T5 a0 _ h.2.2.2 f_a0 hw) f_a0 cv_12_382 ⟨by dsimp only; omega, by dsimp only; omega, rfl, rfl, by dsimp only; omega, by dsimp only; omega⟩ rfl hl.1 rfl (Nat.le_of_ble_eq_true rfl) dX12_choose_30) (fun T9 hw l_T9 H locs h => ?_)
    have f_a0 := l_T9.is f_a0
    have hle := hle.tr l_T9
    refine lv_lconst (v := 0) X.1 X.2.1 dX12_choose_33 (by decide) ?_
    exact kp_retl X hr hlocks h hle hw dX12_choose_34
theorem dX12_named_0 : decode cX12_named 0 = .ok (.aload_n 0, 1) := by decide +kernel
theorem dX12_named_1 : decode cX12_named 1 = .ok (.dup, 1) := by decide +kernel
theorem dX12_named_2 : decode cX12_named 2 = .ok (.getfield 376, 3) := by decide +kernel
theorem dX12_named_5 : decode cX12_named 5 = .ok (.iconst 1, 1) := by decide +kernel
theorem dX12_named_6 : decode cX12_named 6 = .ok (.iadd, 1) := by decide +kernel
theorem dX12_named_7 : decode cX12_named 7 = .ok (.putfield 376, 3) := by decide +kernel
theorem dX12_named_10 : decode cX12_named 10 = .ok (.aload_n 0, 1) := by decide +kernel
theorem dX12_named_11 : decode cX12_named 11 = .ok (.bipush 40, 2) := by decide +kernel
theorem dX12_named_13 : decode cX12_named 13 = .ok (.invokevirtual 433, 3) := by decide +kernel
theorem dX12_named_16 : decode cX12_named 16 = .ok (.ifCond .eq 26, 3) := by decide +kernel
theorem dX12_named_19 : decode cX12_named 19 = .ok (.aload_n 0, 1) := by decide +kernel
theorem dX12_named_20 : decode cX12_named 20 = .ok (.iload_n 1, 1) := by decide +kernel
theorem dX12_named_21 : decode cX12_named 21 = .ok (.invokevirtual 532, 3) := by decide +kernel
theorem dX12_named_24 : decode cX12_named 24 = .ok (.aload_n 0, 1) := by decide +kernel
theorem dX12_named_25 : decode cX12_named 25 = .ok (.bipush 59, 2) := by decide +kernel
theorem dX12_named_27 : decode cX12_named 27 = .ok (.invokevirtual 429, 3) := by decide +kernel
theorem dX12_named_30 : decode cX12_named 30 = .ok (.aload_n 0, 1) := by decide +kernel
theorem dX12_named_31 : decode cX12_named 31 = .ok (.iconst 4, 1) := by decide +kernel
theorem dX12_named_32 : decode cX12_named 32 = .ok (.iconst 0, 1) := by decide +kernel
theorem dX12_named_33 : decode cX12_named 33 = .ok (.iconst 0, 1) := by decide +kernel
theorem dX12_named_34 : decode cX12_named 34 = .ok (.invokevirtual 451, 3) := by decide +kernel
theorem dX12_named_37 : decode cX12_named 37 = .ok (.pop, 1) := by decide +kernel
theorem dX12_named_38 : decode cX12_named 38 = .ok (.ldc2_w 487, 3) := by decide +kernel
theorem dX12_named_41 : decode cX12_named 41 = .ok (.lreturn, 1) := by decide +kernel
theorem dX12_named_42 : decode cX12_named 42 = .ok (.aload_n 0, 1) := by decide +kernel
theorem dX12_named_43 : decode cX12_named 43 = .ok (.sipush 158, 3) := by decide +kernel
theorem dX12_named_46 : decode cX12_named 46 = .ok (.invokevirtual 440, 3) := by decide +kernel
theorem dX12_named_49 : decode cX12_named 49 = .ok (.ifCond .eq 89, 3) := by decide +kernel
theorem dX12_named_52 : decode cX12_named 52 = .ok (.aload_n 0, 1) := by decide +kernel
theorem dX12_named_53 : decode cX12_named 53 = .ok (.getfield 426, 3) := by decide +kernel
theorem dX12_named_56 : decode cX12_named 56 = .ok (.istore_n 2, 1) := by decide +kernel
theorem dX12_named_57 : decode cX12_named 57 = .ok (.iload_n 2, 1) := by decide +kernel
theorem dX12_named_58 : decode cX12_named 58 = .ok (.aload_n 0, 1) := by decide +kernel
theorem dX12_named_59 : decode cX12_named 59 = .ok (.getfield 423, 3) := by decide +kernel
theorem dX12_named_62 : decode cX12_named 62 = .ok (.if_icmp .ge 31, 3) := by decide +kernel
theorem dX12_named_65 : decode cX12_named 65 = .ok (.aload_n 0, 1) := by decide +kernel
theorem dX12_named_66 : decode cX12_named 66 = .ok (.getfield 106, 3) := by decide +kernel
theorem dX12_named_69 : decode cX12_named 69 = .ok (.iload_n 2, 1) := by decide +kernel
theorem dX12_named_70 : decode cX12_named 70 = .ok (.laload, 1) := by decide +kernel
theorem dX12_named_71 : decode cX12_named 71 = .ok (.aload_n 0, 1) := by decide +kernel
theorem dX12_named_72 : decode cX12_named 72 = .ok (.getfield 37, 3) := by decide +kernel
theorem dX12_named_75 : decode cX12_named 75 = .ok (.iload_n 1, 1) := by decide +kernel
theorem dX12_named_76 : decode cX12_named 76 = .ok (.laload, 1) := by decide +kernel
theorem dX12_named_77 : decode cX12_named 77 = .ok (.lcmp, 1) := by decide +kernel
theorem dX12_named_78 : decode cX12_named 78 = .ok (.ifCond .ne 9, 3) := by decide +kernel
theorem dX12_named_81 : decode cX12_named 81 = .ok (.aload_n 0, 1) := by decide +kernel
theorem dX12_named_82 : decode cX12_named 82 = .ok (.iconst 4, 1) := by decide +kernel
theorem dX12_named_83 : decode cX12_named 83 = .ok (.iload_n 1, 1) := by decide +kernel
theorem dX12_named_84 : decode cX12_named 84 = .ok (.invokevirtual 419, 3) := by decide +kernel
theorem dX12_named_87 : decode cX12_named 87 = .ok (.iinc 2 1, 3) := by decide +kernel
theorem dX12_named_90 : decode cX12_named 90 = .ok (.goto (-33), 3) := by decide +kernel
theorem dX12_named_93 : decode cX12_named 93 = .ok (.aload_n 0, 1) := by decide +kernel
theorem dX12_named_94 : decode cX12_named 94 = .ok (.bipush 15, 2) := by decide +kernel
theorem dX12_named_96 : decode cX12_named 96 = .ok (.invokevirtual 379, 3) := by decide +kernel
theorem dX12_named_99 : decode cX12_named 99 = .ok (.ifCond .ne 21, 3) := by decide +kernel
theorem dX12_named_102 : decode cX12_named 102 = .ok (.aload_n 0, 1) := by decide +kernel
theorem dX12_named_103 : decode cX12_named 103 = .ok (.bipush 16, 2) := by decide +kernel
theorem dX12_named_105 : decode cX12_named 105 = .ok (.invokevirtual 379, 3) := by decide +kernel
theorem dX12_named_108 : decode cX12_named 108 = .ok (.ifCond .ne 12, 3) := by decide +kernel
theorem dX12_named_111 : decode cX12_named 111 = .ok (.aload_n 0, 1) := by decide +kernel
theorem dX12_named_112 : decode cX12_named 112 = .ok (.bipush 45, 2) := by decide +kernel
theorem dX12_named_114 : decode cX12_named 114 = .ok (.invokevirtual 379, 3) := by decide +kernel
theorem dX12_named_117 : decode cX12_named 117 = .ok (.ifCond .eq 15, 3) := by decide +kernel
theorem dX12_named_120 : decode cX12_named 120 = .ok (.aload_n 0, 1) := by decide +kernel
theorem dX12_named_121 : decode cX12_named 121 = .ok (.iload_n 1, 1) := by decide +kernel
theorem dX12_named_122 : decode cX12_named 122 = .ok (.aload_n 0, 1) := by decide +kernel
theorem dX12_named_123 : decode cX12_named 123 = .ok (.getfield 37, 3) := by decide +kernel
theorem dX12_named_126 : decode cX12_named 126 = .ok (.iload_n 1, 1) := by decide +kernel
theorem dX12_named_127 : decode cX12_named 127 = .ok (.laload, 1) := by decide +kernel
theorem dX12_named_128 : decode cX12_named 128 = .ok (.invokevirtual 494, 3) := by decide +kernel
theorem dX12_named_131 : decode cX12_named 131 = .ok (.lreturn, 1) := by decide +kernel
theorem dX12_named_132 : decode cX12_named 132 = .ok (.aload_n 0, 1) := by decide +kernel
theorem dX12_named_133 : decode cX12_named 133 = .ok (.invokevirtual 382, 3) := by decide +kernel
theorem dX12_named_136 : decode cX12_named 136 = .ok (.lconst 0, 1) := by decide +kernel
theorem dX12_named_137 : decode cX12_named 137 = .ok (.lreturn, 1) := by decide +kernel
theorem dX12_named_138 : decode cX12_named 138 = .ok (.aload_n 0, 1) := by decide +kernel
theorem dX12_named_139 : decode cX12_named 139 = .ok (.bipush 61, 2) := by decide +kernel
theorem dX12_named_141 : decode cX12_named 141 = .ok (.invokevirtual 429, 3) := by decide +kernel
theorem dX12_named_144 : decode cX12_named 144 = .ok (.aload_n 0, 1) := by decide +kernel
theorem dX12_named_145 : decode cX12_named 145 = .ok (.invokevirtual 408, 3) := by decide +kernel
theorem dX12_named_148 : decode cX12_named 148 = .ok (.ifCond .eq 23, 3) := by decide +kernel
theorem dX12_named_151 : decode cX12_named 151 = .ok (.aload_n 0, 1) := by decide +kernel
theorem dX12_named_152 : decode cX12_named 152 = .ok (.aload_n 0, 1) := by decide +kernel
theorem dX12_named_153 : decode cX12_named 153 = .ok (.getfield 37, 3) := by decide +kernel
theorem dX12_named_156 : decode cX12_named 156 = .ok (.iload_n 1, 1) := by decide +kernel
theorem dX12_named_157 : decode cX12_named 157 = .ok (.laload, 1) := by decide +kernel
theorem dX12_named_158 : decode cX12_named 158 = .ok (.invokevirtual 457, 3) := by decide +kernel
theorem dX12_named_161 : decode cX12_named 161 = .ok (.iconst (-1), 1) := by decide +kernel
theorem dX12_named_162 : decode cX12_named 162 = .ok (.if_icmp .ne 9, 3) := by decide +kernel
theorem dX12_named_165 : decode cX12_named 165 = .ok (.aload_n 0, 1) := by decide +kernel
theorem dX12_named_166 : decode cX12_named 166 = .ok (.iconst 5, 1) := by decide +kernel
theorem dX12_named_167 : decode cX12_named 167 = .ok (.iload_n 1, 1) := by decide +kernel
theorem dX12_named_168 : decode cX12_named 168 = .ok (.invokevirtual 419, 3) := by decide +kernel
theorem dX12_named_171 : decode cX12_named 171 = .ok (.aload_n 0, 1) := by decide +kernel
theorem dX12_named_172 : decode cX12_named 172 = .ok (.invokevirtual 520, 3) := by decide +kernel
theorem dX12_named_175 : decode cX12_named 175 = .ok (.aload_n 0, 1) := by decide +kernel
theorem dX12_named_176 : decode cX12_named 176 = .ok (.bipush 59, 2) := by decide +kernel
theorem dX12_named_178 : decode cX12_named 178 = .ok (.invokevirtual 429, 3) := by decide +kernel
theorem dX12_named_181 : decode cX12_named 181 = .ok (.aload_n 0, 1) := by decide +kernel
theorem dX12_named_182 : decode cX12_named 182 = .ok (.iconst 3, 1) := by decide +kernel
theorem dX12_named_183 : decode cX12_named 183 = .ok (.aload_n 0, 1) := by decide +kernel
theorem dX12_named_184 : decode cX12_named 184 = .ok (.aload_n 0, 1) := by decide +kernel
theorem dX12_named_185 : decode cX12_named 185 = .ok (.getfield 37, 3) := by decide +kernel
theorem dX12_named_188 : decode cX12_named 188 = .ok (.iload_n 1, 1) := by decide +kernel
theorem dX12_named_189 : decode cX12_named 189 = .ok (.laload, 1) := by decide +kernel
theorem dX12_named_190 : decode cX12_named 190 = .ok (.invokevirtual 457, 3) := by decide +kernel
theorem dX12_named_193 : decode cX12_named 193 = .ok (.iconst 0, 1) := by decide +kernel
theorem dX12_named_194 : decode cX12_named 194 = .ok (.invokevirtual 451, 3) := by decide +kernel
theorem dX12_named_197 : decode cX12_named 197 = .ok (.pop, 1) := by decide +kernel
theorem dX12_named_198 : decode cX12_named 198 = .ok (.aload_n 0, 1) := by decide +kernel
theorem dX12_named_199 : decode cX12_named 199 = .ok (.lconst 1, 1) := by decide +kernel
theorem dX12_named_200 : decode cX12_named 200 = .ok (.invokevirtual 483, 3) := by decide +kernel
theorem dX12_named_203 : decode cX12_named 203 = .ok (.lreturn, 1) := by decide +kernel
def wX12_named_b171 (B : Nat → kp_S → (Int64 → kp_S → Prop) → Prop) (a0 : Nat) (x1 : Int32)  (Sn : kp_S) (post : Int64 → kp_S → Prop) : Prop :=
  wX12_expression_t a0 Sn (fun T1001 =>
  wX12_takeSign a0 59 T1001 (fun T1002 =>
  ∃ b1003 : Nat, kp_R T1002 2406 a0 = some b1003 ∧
  vp_in x1 (kp_N T1002 b1003) ∧
  wX12_known a0 (kp_B T1002 b1003 x1.toNatClampNeg) T1002 (fun y1005 T1004 =>
  wX12_emit a0 3 y1005 0 T1004 (fun y1007 T1006 =>
  wX12_risky a0 1 T1006 (fun z1009 T1008 =>
  post z1009 T1008)))))
def wX12_named_b120 (B : Nat → kp_S → (Int64 → kp_S → Prop) → Prop) (a0 : Nat) (x1 : Int32)  (Sn : kp_S) (post : Int64 → kp_S → Prop) : Prop :=
  ∃ b2001 : Nat, kp_R Sn 2406 a0 = some b2001 ∧
  vp_in x1 (kp_N Sn b2001) ∧
  wX12_loop B a0 x1 (kp_B Sn b2001 x1.toNatClampNeg) Sn (fun z2003 T2002 =>
  post z2003 T2002)
def wX12_named_b87 (B : Nat → kp_S → (Int64 → kp_S → Prop) → Prop) (a0 : Nat) (x1 : Int32) (xn2 : Int32) (K57 : Int32 → kp_S → Prop) (Sn : kp_S) (post : Int64 → kp_S → Prop) : Prop :=
  ∀ y3001 : Int32, y3001 = xn2 + 1 →
  K57 y3001 Sn
def wX12_named_L57 (B : Nat → kp_S → (Int64 → kp_S → Prop) → Prop) (a0 : Nat) (x1 : Int32)  (post : Int64 → kp_S → Prop) : Nat → Int32 → kp_S → Prop
  | 0, _, _ => False
  | n + 1, xn2, Sn =>
  (((kp_I Sn 2445 a0) ≤ xn2 →
  wX12_is a0 15 Sn (fun y4002 T4001 =>
  ((¬ y4002 = 0 →
  wX12_named_b120 B a0 x1   T4001 post) ∧ (y4002 = 0 →
  wX12_is a0 16 T4001 (fun y4004 T4003 =>
  ((¬ y4004 = 0 →
  wX12_named_b120 B a0 x1   T4003 post) ∧ (y4004 = 0 →
  wX12_is a0 45 T4003 (fun y4006 T4005 =>
  ((y4006 = 0 →
  wX12_wrong a0 T4005 (fun T4007 =>
  post 0 T4007)) ∧ (¬ y4006 = 0 →
  wX12_named_b120 B a0 x1   T4005 post)))))))))) ∧ (¬ (kp_I Sn 2445 a0) ≤ xn2 →
  ∃ b4011 : Nat, kp_R Sn 2443 a0 = some b4011 ∧
  vp_in xn2 (kp_N Sn b4011) ∧
  ∃ b4012 : Nat, kp_R Sn 2406 a0 = some b4012 ∧
  vp_in x1 (kp_N Sn b4012) ∧
  ((¬ (lg_cmp (kp_B Sn b4011 xn2.toNatClampNeg) (kp_B Sn b4012 x1.toNatClampNeg)) = 0 →
  wX12_named_b87 B a0 x1 xn2 (fun xn2_ S_ => wX12_named_L57 B a0 x1  post n xn2_ S_) Sn post) ∧ ((lg_cmp (kp_B Sn b4011 xn2.toNatClampNeg) (kp_B Sn b4012 x1.toNatClampNeg)) = 0 →
  wX12_bad a0 4 x1 Sn (fun T4013 =>
  wX12_named_b87 B a0 x1 xn2 (fun xn2_ S_ => wX12_named_L57 B a0 x1  post n xn2_ S_) T4013 post)))))
def wX12_named (B : Nat → kp_S → (Int64 → kp_S → Prop) → Prop) (a0 : Nat) (x1 : Int32) (S : kp_S) (post : Int64 → kp_S → Prop) : Prop :=
  ∀ T1 : kp_S, T1 = kp_sI S 2410 a0 ((kp_I S 2410 a0) + 1) →
  wX12_isSign a0 40 T1 (fun y3 T2 =>
  ((y3 = 0 →
  wX12_skip a0 158 T2 (fun y5 T4 =>
  ((y5 = 0 →
  wX12_takeSign a0 61 T4 (fun T6 =>
  wX12_fine a0 T6 (fun y8 T7 =>
  ((y8 = 0 →
  wX12_named_b171 B a0 x1   T7 post) ∧ (¬ y8 = 0 →
  ∃ b9 : Nat, kp_R T7 2406 a0 = some b9 ∧
  vp_in x1 (kp_N T7 b9) ∧
  wX12_known a0 (kp_B T7 b9 x1.toNatClampNeg) T7 (fun y11 T10 =>
  ((¬ y11 = (-1) →
  wX12_named_b171 B a0 x1   T10 post) ∧ (y11 = (-1) →
  wX12_bad a0 5 x1 T10 (fun T12 =>
  wX12_named_b171 B a0 x1   T12 post))))))))) ∧ (¬ y5 = 0 →
  ∀ y15 : Int32, y15 = (kp_I T4 2446 a0) →
  ∃ n0 : Nat, wX12_named_L57 B a0 x1  post n0 y15 T4)))) ∧ (¬ y3 = 0 →
  wX12_call_t a0 x1 T2 (fun T17 =>
  wX12_takeSign a0 59 T17 (fun T18 =>
  wX12_emit a0 4 0 0 T18 (fun y20 T19 =>
  post 5 T19))))))
set_option maxHeartbeats 4000000 in
set_option maxRecDepth 100000 in
theorem c_X12_named (l : Launch) (D : va_G) (cy : Nat → ClassId) (ad : (Nat → Nat) × (Nat → Nat)) (F L : Nat) (B : Nat → kp_S → (Int64 → kp_S → Prop) → Prop) (hB : ∀ (S : kp_S) (a0 : Nat) (post : Int64 → kp_S → Prop), kp_ok S → kp_is S a0 12 → B a0 S post → kp_M l yX12_block cX12_block 6 (some .long) { frames := F, cells := 0, slots := 0, locals := L } D cy ad S [.ref a0] 0 0 (fun A => kp_Ql D cy A S post)) (hF : 151 ≤ F) (hL : 3211 ≤ L) (S : kp_S) (a0 : Nat) (x1 : Int32) (post : Int64 → kp_S → Prop) (hS : kp_ok S) (f_a0 : kp_is S a0 12) (hw : wX12_named B a0 x1 S post) : kp_M l yX12_named cX12_named 3 (some .long) { frames := F + 3, cells := 0, slots := 0, locals := L + 85 } D cy ad S [.ref a0, .int x1] 0 0 (fun A => kp_Ql D cy A S post) := by
  refine kp_start (own := RX12) (by decide) rfl (Nat.le_of_ble_eq_true rfl) hS ?_
  intro p e s m below meth c A ls X hr hlocks hname h hl
  have hle : kp_le S S := kp_le.rf
  have hl : lv_has ls 3 [(0, .ref a0), (1, .int x1)] := hl
  have j171 : ∀  (Sn : kp_S) (H : Heap) (locs : List Loc) (ls : Array Slot), lv_has ls 3 [(0, .ref a0), (1, .int x1)] → kp_H D cy A Sn s.heap H locs → kp_le S Sn → kp_is Sn a0 12 → wX12_named_b171 B a0 x1   Sn post → W p l e { frames := F + 3, cells := 0, slots := 0, locals := L + 85 } s m ([.ref a0, .int x1] : List Value).toArray below meth c H locs 0 0 (MQ below (kp_Ql D cy A S post) ([.ref a0, .int x1] : List Value).toArray s 0 0 A) (F0 m 171 ls []) := by
    intro  Sn H locs ls hl h hle f_a0 hw
    unfold wX12_named_b171 at hw
    refine lv_aload_n X.1 X.2.1 dX12_named_171 rfl (lv_at hl 0 rfl) ?_
    refine kp_callv X h (kp_runV (rm := { frames := 149, cells := 0, slots := 0, locals := 3164 }) (mc := 0) (ms := 0) (rest := []) (Qc := fun A => kp_Qv D cy A Sn _) X h (c_X12_expression_t l D cy ad Sn a0 _ h.2.2.2 f_a0 hw) f_a0 cv_12_520 ⟨by dsimp only; omega, by dsimp only; omega, rfl, rfl, by dsimp only; omega, by dsimp only; omega⟩ rfl hl.1 rfl (Nat.le_of_ble_eq_true rfl) dX12_named_172) (fun T1001 hw l_T1001 H locs h => ?_)
    have f_a0 := l_T1001.is f_a0
    have hle := hle.tr l_T1001
    refine lv_aload_n X.1 X.2.1 dX12_named_175 rfl (lv_at hl 0 rfl) ?_
    refine lv_bipush (v := 59) X.1 X.2.1 dX12_named_176 (by decide) ?_
    refine kp_callv X h (kp_runV (rm := { frames := 2, cells := 0, slots := 0, locals := 42 }) (mc := 0) (ms := 0) (rest := []) (Qc := fun A => kp_Qv D cy A T1001 _) X h (c_X12_takeSign l D cy ad T1001 a0 59 _ h.2.2.2 f_a0 hw) f_a0 cv_12_429 ⟨by dsimp only; omega, by dsimp only; omega, rfl, rfl, by dsimp only; omega, by dsimp only; omega⟩ rfl hl.1 rfl (Nat.le_of_ble_eq_true rfl) dX12_named_178) (fun T1002 hw l_T1002 H locs h => ?_)
    have f_a0 := l_T1002.is f_a0
    have hle := hle.tr l_T1002
    refine lv_aload_n X.1 X.2.1 dX12_named_181 rfl (lv_at hl 0 rfl) ?_
    refine lv_iconst (v := 3) X.1 X.2.1 dX12_named_182 (by decide) ?_
    refine lv_aload_n X.1 X.2.1 dX12_named_183 rfl (lv_at hl 0 rfl) ?_
    refine lv_aload_n X.1 X.2.1 dX12_named_184 rfl (lv_at hl 0 rfl) ?_
    obtain ⟨b1003, e_b1003, hw⟩ := hw
    have f_b1003 := h.2.2.2.rf (c := 12) (k := 6) f_a0 (by decide) (by decide) e_b1003 (t := 15) rfl
    refine kp_get X h f_a0 ff_12_37.l (v := .ref b1003) (congrArg va_rf e_b1003) dX12_named_185 ?_
    refine lv_iload_n X.1 X.2.1 dX12_named_188 rfl (lv_at hl 1 rfl) ?_
    obtain ⟨hi, hw⟩ := hw
    refine kp_lald X h f_b1003 hi dX12_named_189 ?_
    refine kp_calli X h (kp_runV (rm := { frames := 0, cells := 0, slots := 0, locals := 0 }) (mc := 0) (ms := 0) (rest := [.int 3, .ref a0]) (Qc := fun A => kp_Qi D cy A T1002 _) X h (c_X12_known l D cy ad T1002 a0 (kp_B T1002 b1003 x1.toNatClampNeg) _ h.2.2.2 f_a0 hw) f_a0 cv_12_457 ⟨by dsimp only; omega, by dsimp only; omega, rfl, rfl, by dsimp only; omega, by dsimp only; omega⟩ rfl hl.1 rfl (Nat.le_of_ble_eq_true rfl) dX12_named_190) (fun y1005 T1004 hw l_T1004 H locs h => ?_)
    have f_a0 := l_T1004.is f_a0
    have f_b1003 := l_T1004.is f_b1003
    have hle := hle.tr l_T1004
    refine lv_iconst (v := 0) X.1 X.2.1 dX12_named_193 (by decide) ?_
    refine kp_calli X h (kp_runV (rm := { frames := 0, cells := 0, slots := 0, locals := 0 }) (mc := 0) (ms := 0) (rest := []) (Qc := fun A => kp_Qi D cy A T1004 _) X h (c_X12_emit l D cy ad T1004 a0 3 y1005 0 _ h.2.2.2 f_a0 hw) f_a0 cv_12_451 ⟨by dsimp only; omega, by dsimp only; omega, rfl, rfl, by dsimp only; omega, by dsimp only; omega⟩ rfl hl.1 rfl (Nat.le_of_ble_eq_true rfl) dX12_named_194) (fun y1007 T1006 hw l_T1006 H locs h => ?_)
    have f_a0 := l_T1006.is f_a0
    have f_b1003 := l_T1006.is f_b1003
    have hle := hle.tr l_T1006
    refine lv_pop X.1 X.2.1 dX12_named_197 rfl ?_
    refine lv_aload_n X.1 X.2.1 dX12_named_198 rfl (lv_at hl 0 rfl) ?_
    refine lv_lconst (v := 1) X.1 X.2.1 dX12_named_199 (by decide) ?_
    refine kp_calll X h (kp_runV (rm := { frames := 0, cells := 0, slots := 0, locals := 0 }) (mc := 0) (ms := 0) (rest := []) (Qc := fun A => kp_Ql D cy A T1006 _) X h (c_X12_risky l D cy ad T1006 a0 1 _ h.2.2.2 f_a0 hw) f_a0 cv_12_483 ⟨by dsimp only; omega, by dsimp only; omega, rfl, rfl, by dsimp only; omega, by dsimp only; omega⟩ rfl hl.1 rfl (Nat.le_of_ble_eq_true rfl) dX12_named_200) (fun z1009 T1008 hw l_T1008 H locs h => ?_)
    have f_a0 := l_T1008.is f_a0
    have f_b1003 := l_T1008.is f_b1003
    have hle := hle.tr l_T1008
    exact kp_retl X hr hlocks h hle hw dX12_named_203
  have j120 : ∀  (Sn : kp_S) (H : Heap) (locs : List Loc) (ls : Array Slot), lv_has ls 3 [(0, .ref a0), (1, .int x1)] → kp_H D cy A Sn s.heap H locs → kp_le S Sn → kp_is Sn a0 12 → wX12_named_b120 B a0 x1   Sn post → W p l e { frames := F + 3, cells := 0, slots := 0, locals := L + 85 } s m ([.ref a0, .int x1] : List Value).toArray below meth c H locs 0 0 (MQ below (kp_Ql D cy A S post) ([.ref a0, .int x1] : List Value).toArray s 0 0 A) (F0 m 120 ls []) := by
    intro  Sn H locs ls hl h hle f_a0 hw
    unfold wX12_named_b120 at hw
    refine lv_aload_n X.1 X.2.1 dX12_named_120 rfl (lv_at hl 0 rfl) ?_
    refine lv_iload_n X.1 X.2.1 dX12_named_121 rfl (lv_at hl 1 rfl) ?_
    refine lv_aload_n X.1 X.2.1 dX12_named_122 rfl (lv_at hl 0 rfl) ?_
    obtain ⟨b2001, e_b2001, hw⟩ := hw
    have f_b2001 := h.2.2.2.rf (c := 12) (k := 6) f_a0 (by decide) (by decide) e_b2001 (t := 15) rfl
    refine kp_get X h f_a0 ff_12_37.l (v := .ref b2001) (congrArg va_rf e_b2001) dX12_named_123 ?_
    refine lv_iload_n X.1 X.2.1 dX12_named_126 rfl (lv_at hl 1 rfl) ?_
    obtain ⟨hi, hw⟩ := hw
    refine kp_lald X h f_b2001 hi dX12_named_127 ?_
    refine kp_calll X h (kp_runV (rm := { frames := F + 2, cells := 0, slots := 0, locals := L + 50 }) (mc := 0) (ms := 0) (rest := []) (Qc := fun A => kp_Ql D cy A Sn _) X h (c_X12_loop l D cy ad F L B hB hF hL Sn a0 x1 (kp_B Sn b2001 x1.toNatClampNeg) _ h.2.2.2 f_a0 hw) f_a0 cv_12_494 ⟨by dsimp only; omega, by dsimp only; omega, rfl, rfl, by dsimp only; omega, by dsimp only; omega⟩ rfl hl.1 rfl (Nat.le_of_ble_eq_true rfl) dX12_named_128) (fun z2003 T2002 hw l_T2002 H locs h => ?_)
    have f_a0 := l_T2002.is f_a0
    have f_b2001 := l_T2002.is f_b2001
    have hle := hle.tr l_T2002
    exact kp_retl X hr hlocks h hle hw dX12_named_131
  have L57 : ∀ n57 : Nat, ∀ (xn2 : Int32) (Sn : kp_S) (H : Heap) (locs : List Loc) (ls : Array Slot), lv_has ls 3 [(0, .ref a0), (1, .int x1), (2, .int xn2)] → kp_H D cy A Sn s.heap H locs → kp_le S Sn → kp_is Sn a0 12 → wX12_named_L57 B a0 x1  post n57 xn2 Sn → W p l e { frames := F + 3, cells := 0, slots := 0, locals := L + 85 } s m ([.ref a0, .int x1] : List Value).toArray below meth c H locs 0 0 (MQ below (kp_Ql D cy A S post) ([.ref a0, .int x1] : List Value).toArray s 0 0 A) (F0 m 57 ls []) := by
    intro n57
    induction n57 with
    | zero => intro xn2 Sn H locs ls hl h hle f_a0 hw; exact hw.elim
    | succ n57 ih57 =>
      have j87 : ∀ (xn2 : Int32) (Sn : kp_S) (H : Heap) (locs : List Loc) (ls : Array Slot), lv_has ls 3 [(0, .ref a0), (1, .int x1), (2, .int xn2)] → kp_H D cy A Sn s.heap H locs → kp_le S Sn → kp_is Sn a0 12 → wX12_named_b87 B a0 x1 xn2 (fun xn2_ S_ => wX12_named_L57 B a0 x1  post n57 xn2_ S_) Sn post → W p l e { frames := F + 3, cells := 0, slots := 0, locals := L + 85 } s m ([.ref a0, .int x1] : List Value).toArray below meth c H locs 0 0 (MQ below (kp_Ql D cy A S post) ([.ref a0, .int x1] : List Value).toArray s 0 0 A) (F0 m 87 ls []) := by
        intro xn2 Sn H locs ls hl h hle f_a0 hw
        unfold wX12_named_b87 at hw
        obtain ⟨y3001, e_y3001⟩ : ∃ y : Int32, y = xn2 + 1 := ⟨_, rfl⟩
        have hw := hw y3001 e_y3001
        refine lv_iinc (v := y3001) (lv' := [(2, .int y3001), (0, .ref a0), (1, .int x1)]) X.1 X.2.1 dX12_named_87 hl (k := 2) rfl (by rw [e_y3001]; rfl) (by decide) rfl (fun ls hl => ?_)
        refine lv_goto (tgt := 57) X.1 X.2.1 dX12_named_90 (by decide) ?_
        exact ih57 y3001 Sn H locs ls (lv_sub hl [1, 2, 0] rfl) h hle f_a0 hw
      intro xn2 Sn H locs ls hl h hle f_a0 hw
      unfold wX12_named_L57 at hw
      refine lv_iload_n X.1 X.2.1 dX12_named_57 rfl (lv_at hl 2 rfl) ?_
      refine lv_aload_n X.1 X.2.1 dX12_named_58 rfl (lv_at hl 0 rfl) ?_
      refine kp_get X h f_a0 fp_12_423.l (v := .int (kp_I Sn 2445 a0)) rfl dX12_named_59 ?_
      refine lv_icmp_ge (tgt := 93) X.1 X.2.1 dX12_named_62 (by decide) (fun c4015 => ?_) (fun c4015 => ?_)
      · have hw := hw.1 c4015
        refine lv_aload_n X.1 X.2.1 dX12_named_93 rfl (lv_at hl 0 rfl) ?_
        refine lv_bipush (v := 15) X.1 X.2.1 dX12_named_94 (by decide) ?_
        refine kp_calli X h (kp_runV (rm := { frames := 0, cells := 0, slots := 0, locals := 0 }) (mc := 0) (ms := 0) (rest := []) (Qc := fun A => kp_Qi D cy A Sn _) X h (c_X12_is l D cy ad Sn a0 15 _ h.2.2.2 f_a0 hw) f_a0 cv_12_379 ⟨by dsimp only; omega, by dsimp only; omega, rfl, rfl, by dsimp only; omega, by dsimp only; omega⟩ rfl hl.1 rfl (Nat.le_of_ble_eq_true rfl) dX12_named_96) (fun y4002 T4001 hw l_T4001 H locs h => ?_)
        have f_a0 := l_T4001.is f_a0
        have hle := hle.tr l_T4001
        refine lv_if_ne (tgt := 120) X.1 X.2.1 dX12_named_99 (by decide) (fun c4010 => ?_) (fun c4010 => ?_)
        · have hw := hw.1 c4010
          exact j120  T4001 H locs ls (lv_sub hl [0, 1] rfl) h hle f_a0 hw
        · have hw := hw.2 c4010
          refine lv_aload_n X.1 X.2.1 dX12_named_102 rfl (lv_at hl 0 rfl) ?_
          refine lv_bipush (v := 16) X.1 X.2.1 dX12_named_103 (by decide) ?_
          refine kp_calli X h (kp_runV (rm := { frames := 0, cells := 0, slots := 0, locals := 0 }) (mc := 0) (ms := 0) (rest := []) (Qc := fun A => kp_Qi D cy A T4001 _) X h (c_X12_is l D cy ad T4001 a0 16 _ h.2.2.2 f_a0 hw) f_a0 cv_12_379 ⟨by dsimp only; omega, by dsimp only; omega, rfl, rfl, by dsimp only; omega, by dsimp only; omega⟩ rfl hl.1 rfl (Nat.le_of_ble_eq_true rfl) dX12_named_105) (fun y4004 T4003 hw l_T4003 H locs h => ?_)
          have f_a0 := l_T4003.is f_a0
          have hle := hle.tr l_T4003
          refine lv_if_ne (tgt := 120) X.1 X.2.1 dX12_named_108 (by decide) (fun c4009 => ?_) (fun c4009 => ?_)
          · have hw := hw.1 c4009
            exact j120  T4003 H locs ls (lv_sub hl [0, 1] rfl) h hle f_a0 hw
          · have hw := hw.2 c4009
            refine lv_aload_n X.1 X.2.1 dX12_named_111 rfl (lv_at hl 0 rfl) ?_
            refine lv_bipush (v := 45) X.1 X.2.1 dX12_named_112 (by decide) ?_
            refine kp_calli X h (kp_runV (rm := { frames := 0, cells := 0, slots := 0, locals := 0 }) (mc := 0) (ms := 0) (rest := []) (Qc := fun A => kp_Qi D cy A T4003 _) X h (c_X12_is l D cy ad T4003 a0 45 _ h.2.2.2 f_a0 hw) f_a0 cv_12_379 ⟨by dsimp only; omega, by dsimp only; omega, rfl, rfl, by dsimp only; omega, by dsimp only; omega⟩ rfl hl.1 rfl (Nat.le_of_ble_eq_true rfl) dX12_named_114) (fun y4006 T4005 hw l_T4005 H locs h => ?_)
            have f_a0 := l_T4005.is f_a0
            have hle := hle.tr l_T4005
            refine lv_if_eq (tgt := 132) X.1 X.2.1 dX12_named_117 (by decide) (fun c4008 => ?_) (fun c4008 => ?_)
            · have hw := hw.1 c4008
              refine lv_aload_n X.1 X.2.1 dX12_named_132 rfl (lv_at hl 0 rfl) ?_
              refine kp_callv X h (kp_runV (rm := { frames := 0, cells := 0, slots := 0, locals := 0 }) (mc := 0) (ms := 0) (rest := []) (Qc := fun A => kp_Qv D cy A T4005 _) X h (c_X12_wrong l D cy ad T4005 a0 _ h.2.2.2 f_a0 hw) f_a0 cv_12_382 ⟨by dsimp only; omega, by dsimp only; omega, rfl, rfl, by dsimp only; omega, by dsimp only; omega⟩ rfl hl.1 rfl (Nat.le_of_ble_eq_true rfl) dX12_named_133) (fun T4007 hw l_T4007 H locs h => ?_)
              have f_a0 := l_T4007.is f_a0
              have hle := hle.tr l_T4007
              refine lv_lconst (v := 0) X.1 X.2.1 dX12_named_136 (by decide) ?_
              exact kp_retl X hr hlocks h hle hw dX12_named_137
            · have hw := hw.2 c4008
              exact j120  T4005 H locs ls (lv_sub hl [0, 1] rfl) h hle f_a0 hw
      · have hw := hw.2 c4015
        refine lv_aload_n X.1 X.2.1 dX12_named_65 rfl (lv_at hl 0 rfl) ?_
        obtain ⟨b4011, e_b4011, hw⟩ := hw
        have f_b4011 := h.2.2.2.rf (c := 12) (k := 43) f_a0 (by decide) (by decide) e_b4011 (t := 15) rfl
        refine kp_get X h f_a0 ff_12_106.l (v := .ref b4011) (congrArg va_rf e_b4011) dX12_named_66 ?_
        refine lv_iload_n X.1 X.2.1 dX12_named_69 rfl (lv_at hl 2 rfl) ?_
        obtain ⟨hi, hw⟩ := hw
        refine kp_lald X h f_b4011 hi dX12_named_70 ?_
        refine lv_aload_n X.1 X.2.1 dX12_named_71 rfl (lv_at hl 0 rfl) ?_
        obtain ⟨b4012, e_b4012, hw⟩ := hw
        have f_b4012 := h.2.2.2.rf (c := 12) (k := 6) f_a0 (by decide) (by decide) e_b4012 (t := 15) rfl
        refine kp_get X h f_a0 ff_12_37.l (v := .ref b4012) (congrArg va_rf e_b4012) dX12_named_72 ?_
        refine lv_iload_n X.1 X.2.1 dX12_named_75 rfl (lv_at hl 1 rfl) ?_
        obtain ⟨hi, hw⟩ := hw
        refine kp_lald X h f_b4012 hi dX12_named_76 ?_
        refine W.lcmp X.1 X.2.1 dX12_named_77 ?_
        refine lv_if_ne (tgt := 87) X.1 X.2.1 dX12_named_78 (by decide) (fun c4014 => ?_) (fun c4014 => ?_)
        · have hw := hw.1 c4014
          exact j87 xn2 Sn H locs ls (lv_sub hl [0, 1, 2] rfl) h hle f_a0 hw
        · have hw := hw.2 c4014
          refine lv_aload_n X.1 X.2.1 dX12_named_81 rfl (lv_at hl 0 rfl) ?_
          refine lv_iconst (v := 4) X.1 X.2.1 dX12_named_82 (by decide) ?_
          refine lv_iload_n X.1 X.2.1 dX12_named_83 rfl (lv_at hl 1 rfl) ?_
          refine kp_callv X h (kp_runV (rm := { frames := 0, cells := 0, slots := 0, locals := 0 }) (mc := 0) (ms := 0) (rest := []) (Qc := fun A => kp_Qv D cy A Sn _) X h (c_X12_bad l D cy ad Sn a0 4 x1 _ h.2.2.2 f_a0 hw) f_a0 cv_12_419 ⟨by dsimp only; omega, by dsimp only; omega, rfl, rfl, by dsimp only; omega, by dsimp only; omega⟩ rfl hl.1 rfl (Nat.le_of_ble_eq_true rfl) dX12_named_84) (fun T4013 hw l_T4013 H locs h => ?_)
          have f_a0 := l_T4013.is f_a0
          have f_b4011 := l_T4013.is f_b4011
          have f_b4012 := l_T4013.is f_b4012
          have hle := hle.tr l_T4013
          exact j87 xn2 T4013 H locs ls (lv_sub hl [0, 1, 2] rfl) h hle f_a0 hw
  unfold wX12_named at hw
  have h : kp_H D cy A S s.heap s.heap [] := h
  revert h
  intro h
  refine lv_aload_n X.1 X.2.1 dX12_named_0 rfl (lv_at hl 0 rfl) ?_
  refine lv_dup X.1 X.2.1 dX12_named_1 rfl ?_
  refine kp_get X h f_a0 fp_12_376.l (v := .int (kp_I S 2410 a0)) rfl dX12_named_2 ?_
  refine lv_iconst (v := 1) X.1 X.2.1 dX12_named_5 (by decide) ?_
  refine lv_iadd X.1 X.2.1 dX12_named_6 ?_
  refine kp_putI X h f_a0 fp_12_376 rfl ⟨rfl, rfl⟩ dX12_named_7 (fun T1 e_T1 l_T1 H locs h => ?_)
  have hw := hw T1 e_T1
  have f_a0 := l_T1.is f_a0
  have hle := hle.tr l_T1
  refine lv_aload_n X.1 X.2.1 dX12_named_10 rfl (lv_at hl 0 rfl) ?_
  refine lv_bipush (v := 40) X.1 X.2.1 dX12_named_11 (by decide) ?_
  refine kp_calli X h (kp_runV (rm := { frames := 1, cells := 0, slots := 0, locals := 21 }) (mc := 0) (ms := 0) (rest := []) (Qc := fun A => kp_Qi D cy A T1 _) X h (c_X12_isSign l D cy ad T1 a0 40 _ h.2.2.2 f_a0 hw) f_a0 cv_12_433 ⟨by dsimp only; omega, by dsimp only; omega, rfl, rfl, by dsimp only; omega, by dsimp only; omega⟩ rfl hl.1 rfl (Nat.le_of_ble_eq_true rfl) dX12_named_13) (fun y3 T2 hw l_T2 H locs h => ?_)
  have f_a0 := l_T2.is f_a0
  have hle := hle.tr l_T2
  refine lv_if_eq (tgt := 42) X.1 X.2.1 dX12_named_16 (by decide) (fun c21 => ?_) (fun c21 => ?_)
  · have hw := hw.1 c21
    refine lv_aload_n X.1 X.2.1 dX12_named_42 rfl (lv_at hl 0 rfl) ?_
    refine lv_sipush (v := 158) X.1 X.2.1 dX12_named_43 (by decide) ?_
    refine kp_calli X h (kp_runV (rm := { frames := 1, cells := 0, slots := 0, locals := 21 }) (mc := 0) (ms := 0) (rest := []) (Qc := fun A => kp_Qi D cy A T2 _) X h (c_X12_skip l D cy ad T2 a0 158 _ h.2.2.2 f_a0 hw) f_a0 cv_12_440 ⟨by dsimp only; omega, by dsimp only; omega, rfl, rfl, by dsimp only; omega, by dsimp only; omega⟩ rfl hl.1 rfl (Nat.le_of_ble_eq_true rfl) dX12_named_46) (fun y5 T4 hw l_T4 H locs h => ?_)
    have f_a0 := l_T4.is f_a0
    have hle := hle.tr l_T4
    refine lv_if_eq (tgt := 138) X.1 X.2.1 dX12_named_49 (by decide) (fun c16 => ?_) (fun c16 => ?_)
    · have hw := hw.1 c16
      refine lv_aload_n X.1 X.2.1 dX12_named_138 rfl (lv_at hl 0 rfl) ?_
      refine lv_bipush (v := 61) X.1 X.2.1 dX12_named_139 (by decide) ?_
      refine kp_callv X h (kp_runV (rm := { frames := 2, cells := 0, slots := 0, locals := 42 }) (mc := 0) (ms := 0) (rest := []) (Qc := fun A => kp_Qv D cy A T4 _) X h (c_X12_takeSign l D cy ad T4 a0 61 _ h.2.2.2 f_a0 hw) f_a0 cv_12_429 ⟨by dsimp only; omega, by dsimp only; omega, rfl, rfl, by dsimp only; omega, by dsimp only; omega⟩ rfl hl.1 rfl (Nat.le_of_ble_eq_true rfl) dX12_named_141) (fun T6 hw l_T6 H locs h => ?_)
      have f_a0 := l_T6.is f_a0
      have hle := hle.tr l_T6
      refine lv_aload_n X.1 X.2.1 dX12_named_144 rfl (lv_at hl 0 rfl) ?_
      refine kp_calli X h (kp_runV (rm := { frames := 0, cells := 0, slots := 0, locals := 0 }) (mc := 0) (ms := 0) (rest := []) (Qc := fun A => kp_Qi D cy A T6 _) X h (c_X12_fine l D cy ad T6 a0 _ h.2.2.2 f_a0 hw) f_a0 cv_12_408 ⟨by dsimp only; omega, by dsimp only; omega, rfl, rfl, by dsimp only; omega, by dsimp only; omega⟩ rfl hl.1 rfl (Nat.le_of_ble_eq_true rfl) dX12_named_145) (fun y8 T7 hw l_T7 H locs h => ?_)
      have f_a0 := l_T7.is f_a0
      have hle := hle.tr l_T7
      refine lv_if_eq (tgt := 171) X.1 X.2.1 dX12_named_148 (by decide) (fun c14 => ?_) (fun c14 => ?_)
      · have hw := hw.1 c14
        exact j171  T7 _ _ ls (lv_sub hl [0, 1] rfl) h hle f_a0 hw
      · have hw := hw.2 c14
        refine lv_aload_n X.1 X.2.1 dX12_named_151 rfl (lv_at hl 0 rfl) ?_
        refine lv_aload_n X.1 X.2.1 dX12_named_152 rfl (lv_at hl 0 rfl) ?_
        obtain ⟨b9, e_b9, hw⟩ := hw
        have f_b9 := h.2.2.2.rf (c := 12) (k := 6) f_a0 (by decide) (by decide) e_b9 (t := 15) rfl
        refine kp_get X h f_a0 ff_12_37.l (v := .ref b9) (congrArg va_rf e_b9) dX12_named_153 ?_
        refine lv_iload_n X.1 X.2.1 dX12_named_156 rfl (lv_at hl 1 rfl) ?_
        obtain ⟨hi, hw⟩ := hw
        refine kp_lald X h f_b9 hi dX12_named_157 ?_
        refine kp_calli X h (kp_runV (rm := { frames := 0, cells := 0, slots := 0, locals := 0 }) (mc := 0) (ms := 0) (rest := []) (Qc := fun A => kp_Qi D cy A T7 _) X h (c_X12_known l D cy ad T7 a0 (kp_B T7 b9 x1.toNatClampNeg) _ h.2.2.2 f_a0 hw) f_a0 cv_12_457 ⟨by dsimp only; omega, by dsimp only; omega, rfl, rfl, by dsimp only; omega, by dsimp only; omega⟩ rfl hl.1 rfl (Nat.le_of_ble_eq_true rfl) dX12_named_158) (fun y11 T10 hw l_T10 H locs h => ?_)
        have f_a0 := l_T10.is f_a0
        have f_b9 := l_T10.is f_b9
        have hle := hle.tr l_T10
        refine lv_iconst (v := (-1)) X.1 X.2.1 dX12_named_161 (by decide) ?_
        refine lv_icmp_ne (tgt := 171) X.1 X.2.1 dX12_named_162 (by decide) (fun c13 => ?_) (fun c13 => ?_)
        · have hw := hw.1 c13
          exact j171  T10 _ _ ls (lv_sub hl [0, 1] rfl) h hle f_a0 hw
        · have hw := hw.2 c13
          refine lv_aload_n X.1 X.2.1 dX12_named_165 rfl (lv_at hl 0 rfl) ?_
          refine lv_iconst (v := 5) X.1 X.2.1 dX12_named_166 (by decide) ?_
          refine lv_iload_n X.1 X.2.1 dX12_named_167 rfl (lv_at hl 1 rfl) ?_
          refine kp_callv X h (kp_runV (rm := { frames := 0, cells := 0, slots := 0, locals := 0 }) (mc := 0) (ms := 0) (rest := []) (Qc := fun A => kp_Qv D cy A T10 _) X h (c_X12_bad l D cy ad T10 a0 5 x1 _ h.2.2.2 f_a0 hw) f_a0 cv_12_419 ⟨by dsimp only; omega, by dsimp only; omega, rfl, rfl, by dsimp only; omega, by dsimp only; omega⟩ rfl hl.1 rfl (Nat.le_of_ble_eq_true rfl) dX12_named_168) (fun T12 hw l_T12 H locs h => ?_)
          have f_a0 := l_T12.is f_a0
          have f_b9 := l_T12.is f_b9
          have hle := hle.tr l_T12
          exact j171  T12 _ _ ls (lv_sub hl [0, 1] rfl) h hle f_a0 hw
    · have hw := hw.2 c16
      refine lv_aload_n X.1 X.2.1 dX12_named_52 rfl (lv_at hl 0 rfl) ?_
      refine kp_get X h f_a0 fp_12_426.l (v := .int (kp_I T4 2446 a0)) rfl dX12_named_53 ?_
      refine lv_topi (fun y15 e_y15 => ?_)
      have hw := hw y15 e_y15
      refine lv_istore_n (lv' := [(2, .int y15), (0, .ref a0), (1, .int x1)]) X.1 X.2.1 dX12_named_56 rfl hl (by decide) rfl (fun ls hl => ?_)
      obtain ⟨n0, hw⟩ := hw
      exact L57 n0 y15 T4 _ _ ls (lv_sub hl [1, 2, 0] rfl) h hle f_a0 hw
  · have hw := hw.2 c21
    refine lv_aload_n X.1 X.2.1 dX12_named_19 rfl (lv_at hl 0 rfl) ?_
    refine lv_iload_n X.1 X.2.1 dX12_named_20 rfl (lv_at hl 1 rfl) ?_
    refine kp_callv X h (kp_runV (rm := { frames := 150, cells := 0, slots := 0, locals := 3185 }) (mc := 0) (ms := 0) (rest := []) (Qc := fun A => kp_Qv D cy A T2 _) X h (c_X12_call_t l D cy ad T2 a0 x1 _ h.2.2.2 f_a0 hw) f_a0 cv_12_532 ⟨by dsimp only; omega, by dsimp only; omega, rfl, rfl, by dsimp only; omega, by dsimp only; omega⟩ rfl hl.1 rfl (Nat.le_of_ble_eq_true rfl) dX12_named_21) (fun T17 hw l_T17 H locs h => ?_)
    have f_a0 := l_T17.is f_a0
    have hle := hle.tr l_T17
    refine lv_aload_n X.1 X.2.1 dX12_named_24 rfl (lv_at hl 0 rfl) ?_
    refine lv_bipush (v := 59) X.1 X.2.1 dX12_named_25 (by decide) ?_
    refine kp_callv X h (kp_runV (rm := { frames := 2, cells := 0, slots := 0, locals := 42 }) (mc := 0) (ms := 0) (rest := []) (Qc := fun A => kp_Qv D cy A T17 _) X h (c_X12_takeSign l D cy ad T17 a0 59 _ h.2.2.2 f_a0 hw) f_a0 cv_12_429 ⟨by dsimp only; omega, by dsimp only; omega, rfl, rfl, by dsimp only; omega, by dsimp only; omega⟩ rfl hl.1 rfl (Nat.le_of_ble_eq_true rfl) dX12_named_27) (fun T18 hw l_T18 H locs h => ?_)
    have f_a0 := l_T18.is f_a0
    have hle := hle.tr l_T18
    refine lv_aload_n X.1 X.2.1 dX12_named_30 rfl (lv_at hl 0 rfl) ?_
    refine lv_iconst (v := 4) X.1 X.2.1 dX12_named_31 (by decide) ?_
    refine lv_iconst (v := 0) X.1 X.2.1 dX12_named_32 (by decide) ?_
    refine lv_iconst (v := 0) X.1 X.2.1 dX12_named_33 (by decide) ?_
    refine kp_calli X h (kp_runV (rm := { frames := 0, cells := 0, slots := 0, locals := 0 }) (mc := 0) (ms := 0) (rest := []) (Qc := fun A => kp_Qi D cy A T18 _) X h (c_X12_emit l D cy ad T18 a0 4 0 0 _ h.2.2.2 f_a0 hw) f_a0 cv_12_451 ⟨by dsimp only; omega, by dsimp only; omega, rfl, rfl, by dsimp only; omega, by dsimp only; omega⟩ rfl hl.1 rfl (Nat.le_of_ble_eq_true rfl) dX12_named_34) (fun y20 T19 hw l_T19 H locs h => ?_)
    have f_a0 := l_T19.is f_a0
    have hle := hle.tr l_T19
    refine lv_pop X.1 X.2.1 dX12_named_37 rfl ?_
    refine lv_ldc2 (v := 5) X.1 X.2.1 X.2.2.2.1 (X.2.2.2.2.1 _ kl_12_487) dX12_named_38 ?_
    exact kp_retl X hr hlocks h hle hw dX12_named_41
theorem dX12_trial_0 : decode cX12_trial 0 = .ok (.aload_n 0, 1) := by decide +kernel
theorem dX12_trial_1 : decode cX12_trial 1 = .ok (.iload_n 1, 1) := by decide +kernel
theorem dX12_trial_2 : decode cX12_trial 2 = .ok (.invokevirtual 538, 3) := by decide +kernel
theorem dX12_trial_5 : decode cX12_trial 5 = .ok (.istore_n 2, 1) := by decide +kernel
theorem dX12_trial_6 : decode cX12_trial 6 = .ok (.aload_n 0, 1) := by decide +kernel
theorem dX12_trial_7 : decode cX12_trial 7 = .ok (.dup, 1) := by decide +kernel
theorem dX12_trial_8 : decode cX12_trial 8 = .ok (.getfield 376, 3) := by decide +kernel
theorem dX12_trial_11 : decode cX12_trial 11 = .ok (.iconst 1, 1) := by decide +kernel
theorem dX12_trial_12 : decode cX12_trial 12 = .ok (.iadd, 1) := by decide +kernel
theorem dX12_trial_13 : decode cX12_trial 13 = .ok (.putfield 376, 3) := by decide +kernel
theorem dX12_trial_16 : decode cX12_trial 16 = .ok (.aload_n 0, 1) := by decide +kernel
theorem dX12_trial_17 : decode cX12_trial 17 = .ok (.bipush 50, 2) := by decide +kernel
theorem dX12_trial_19 : decode cX12_trial 19 = .ok (.iload_n 2, 1) := by decide +kernel
theorem dX12_trial_20 : decode cX12_trial 20 = .ok (.iconst 0, 1) := by decide +kernel
theorem dX12_trial_21 : decode cX12_trial 21 = .ok (.invokevirtual 451, 3) := by decide +kernel
theorem dX12_trial_24 : decode cX12_trial 24 = .ok (.pop, 1) := by decide +kernel
theorem dX12_trial_25 : decode cX12_trial 25 = .ok (.aload_n 0, 1) := by decide +kernel
theorem dX12_trial_26 : decode cX12_trial 26 = .ok (.invokevirtual 447, 3) := by decide +kernel
theorem dX12_trial_29 : decode cX12_trial 29 = .ok (.lstore_n 3, 1) := by decide +kernel
theorem dX12_trial_30 : decode cX12_trial 30 = .ok (.aload_n 0, 1) := by decide +kernel
theorem dX12_trial_31 : decode cX12_trial 31 = .ok (.bipush 48, 2) := by decide +kernel
theorem dX12_trial_33 : decode cX12_trial 33 = .ok (.iconst 0, 1) := by decide +kernel
theorem dX12_trial_34 : decode cX12_trial 34 = .ok (.iconst 0, 1) := by decide +kernel
theorem dX12_trial_35 : decode cX12_trial 35 = .ok (.invokevirtual 451, 3) := by decide +kernel
theorem dX12_trial_38 : decode cX12_trial 38 = .ok (.pop, 1) := by decide +kernel
theorem dX12_trial_39 : decode cX12_trial 39 = .ok (.aload_n 0, 1) := by decide +kernel
theorem dX12_trial_40 : decode cX12_trial 40 = .ok (.bipush 25, 2) := by decide +kernel
theorem dX12_trial_42 : decode cX12_trial 42 = .ok (.invokevirtual 379, 3) := by decide +kernel
theorem dX12_trial_45 : decode cX12_trial 45 = .ok (.ifCond .ne 18, 3) := by decide +kernel
theorem dX12_trial_48 : decode cX12_trial 48 = .ok (.aload_n 0, 1) := by decide +kernel
theorem dX12_trial_49 : decode cX12_trial 49 = .ok (.bipush 27, 2) := by decide +kernel
theorem dX12_trial_51 : decode cX12_trial 51 = .ok (.invokevirtual 379, 3) := by decide +kernel
theorem dX12_trial_54 : decode cX12_trial 54 = .ok (.ifCond .ne 9, 3) := by decide +kernel
theorem dX12_trial_57 : decode cX12_trial 57 = .ok (.aload_n 0, 1) := by decide +kernel
theorem dX12_trial_58 : decode cX12_trial 58 = .ok (.invokevirtual 382, 3) := by decide +kernel
theorem dX12_trial_61 : decode cX12_trial 61 = .ok (.lconst 0, 1) := by decide +kernel
theorem dX12_trial_62 : decode cX12_trial 62 = .ok (.lreturn, 1) := by decide +kernel
theorem dX12_trial_63 : decode cX12_trial 63 = .ok (.aload_n 0, 1) := by decide +kernel
theorem dX12_trial_64 : decode cX12_trial 64 = .ok (.bipush 25, 2) := by decide +kernel
theorem dX12_trial_66 : decode cX12_trial 66 = .ok (.invokevirtual 379, 3) := by decide +kernel
theorem dX12_trial_69 : decode cX12_trial 69 = .ok (.ifCond .eq 13, 3) := by decide +kernel
theorem dX12_trial_72 : decode cX12_trial 72 = .ok (.aload_n 0, 1) := by decide +kernel
theorem dX12_trial_73 : decode cX12_trial 73 = .ok (.getfield 67, 3) := by decide +kernel
theorem dX12_trial_76 : decode cX12_trial 76 = .ok (.iload_n 2, 1) := by decide +kernel
theorem dX12_trial_77 : decode cX12_trial 77 = .ok (.aload_n 0, 1) := by decide +kernel
theorem dX12_trial_78 : decode cX12_trial 78 = .ok (.getfield 370, 3) := by decide +kernel
theorem dX12_trial_81 : decode cX12_trial 81 = .ok (.iastore, 1) := by decide +kernel
theorem dX12_trial_82 : decode cX12_trial 82 = .ok (.iconst 0, 1) := by decide +kernel
theorem dX12_trial_83 : decode cX12_trial 83 = .ok (.istore 5, 2) := by decide +kernel
theorem dX12_trial_85 : decode cX12_trial 85 = .ok (.iconst 0, 1) := by decide +kernel
theorem dX12_trial_86 : decode cX12_trial 86 = .ok (.istore 6, 2) := by decide +kernel
theorem dX12_trial_88 : decode cX12_trial 88 = .ok (.lconst 0, 1) := by decide +kernel
theorem dX12_trial_89 : decode cX12_trial 89 = .ok (.lstore 7, 2) := by decide +kernel
theorem dX12_trial_91 : decode cX12_trial 91 = .ok (.aload_n 0, 1) := by decide +kernel
theorem dX12_trial_92 : decode cX12_trial 92 = .ok (.bipush 25, 2) := by decide +kernel
theorem dX12_trial_94 : decode cX12_trial 94 = .ok (.invokevirtual 440, 3) := by decide +kernel
theorem dX12_trial_97 : decode cX12_trial 97 = .ok (.ifCond .eq 113, 3) := by decide +kernel
theorem dX12_trial_100 : decode cX12_trial 100 = .ok (.aload_n 0, 1) := by decide +kernel
theorem dX12_trial_101 : decode cX12_trial 101 = .ok (.bipush 26, 2) := by decide +kernel
theorem dX12_trial_103 : decode cX12_trial 103 = .ok (.invokevirtual 379, 3) := by decide +kernel
theorem dX12_trial_106 : decode cX12_trial 106 = .ok (.istore 9, 2) := by decide +kernel
theorem dX12_trial_108 : decode cX12_trial 108 = .ok (.aload_n 0, 1) := by decide +kernel
theorem dX12_trial_109 : decode cX12_trial 109 = .ok (.iconst 0, 1) := by decide +kernel
theorem dX12_trial_110 : decode cX12_trial 110 = .ok (.putfield 471, 3) := by decide +kernel
theorem dX12_trial_113 : decode cX12_trial 113 = .ok (.aload_n 0, 1) := by decide +kernel
theorem dX12_trial_114 : decode cX12_trial 114 = .ok (.bipush 52, 2) := by decide +kernel
theorem dX12_trial_116 : decode cX12_trial 116 = .ok (.bipush 51, 2) := by decide +kernel
theorem dX12_trial_118 : decode cX12_trial 118 = .ok (.invokevirtual 526, 3) := by decide +kernel
theorem dX12_trial_121 : decode cX12_trial 121 = .ok (.istore 10, 2) := by decide +kernel
theorem dX12_trial_123 : decode cX12_trial 123 = .ok (.iload 6, 2) := by decide +kernel
theorem dX12_trial_125 : decode cX12_trial 125 = .ok (.ifCond .ne 15, 3) := by decide +kernel
theorem dX12_trial_128 : decode cX12_trial 128 = .ok (.iload 5, 2) := by decide +kernel
theorem dX12_trial_130 : decode cX12_trial 130 = .ok (.ifCond .ne 14, 3) := by decide +kernel
theorem dX12_trial_133 : decode cX12_trial 133 = .ok (.aload_n 0, 1) := by decide +kernel
theorem dX12_trial_134 : decode cX12_trial 134 = .ok (.getfield 471, 3) := by decide +kernel
theorem dX12_trial_137 : decode cX12_trial 137 = .ok (.ifCond .eq 7, 3) := by decide +kernel
theorem dX12_trial_140 : decode cX12_trial 140 = .ok (.iconst 1, 1) := by decide +kernel
theorem dX12_trial_141 : decode cX12_trial 141 = .ok (.goto 4, 3) := by decide +kernel
theorem dX12_trial_144 : decode cX12_trial 144 = .ok (.iconst 0, 1) := by decide +kernel
theorem dX12_trial_145 : decode cX12_trial 145 = .ok (.istore 6, 2) := by decide +kernel
theorem dX12_trial_147 : decode cX12_trial 147 = .ok (.aload_n 0, 1) := by decide +kernel
theorem dX12_trial_148 : decode cX12_trial 148 = .ok (.invokevirtual 447, 3) := by decide +kernel
theorem dX12_trial_151 : decode cX12_trial 151 = .ok (.lstore 11, 2) := by decide +kernel
theorem dX12_trial_153 : decode cX12_trial 153 = .ok (.aload_n 0, 1) := by decide +kernel
theorem dX12_trial_154 : decode cX12_trial 154 = .ok (.bipush 48, 2) := by decide +kernel
theorem dX12_trial_156 : decode cX12_trial 156 = .ok (.iconst 0, 1) := by decide +kernel
theorem dX12_trial_157 : decode cX12_trial 157 = .ok (.iconst 0, 1) := by decide +kernel
theorem dX12_trial_158 : decode cX12_trial 158 = .ok (.invokevirtual 451, 3) := by decide +kernel
theorem dX12_trial_161 : decode cX12_trial 161 = .ok (.pop, 1) := by decide +kernel
theorem dX12_trial_162 : decode cX12_trial 162 = .ok (.aload_n 0, 1) := by decide +kernel
theorem dX12_trial_163 : decode cX12_trial 163 = .ok (.getfield 46, 3) := by decide +kernel
theorem dX12_trial_166 : decode cX12_trial 166 = .ok (.iload 10, 2) := by decide +kernel
theorem dX12_trial_168 : decode cX12_trial 168 = .ok (.aload_n 0, 1) := by decide +kernel
theorem dX12_trial_169 : decode cX12_trial 169 = .ok (.getfield 370, 3) := by decide +kernel
theorem dX12_trial_172 : decode cX12_trial 172 = .ok (.iastore, 1) := by decide +kernel
theorem dX12_trial_173 : decode cX12_trial 173 = .ok (.iload 5, 2) := by decide +kernel
theorem dX12_trial_175 : decode cX12_trial 175 = .ok (.ifCond .eq 8, 3) := by decide +kernel
theorem dX12_trial_178 : decode cX12_trial 178 = .ok (.lload 7, 2) := by decide +kernel
theorem dX12_trial_180 : decode cX12_trial 180 = .ok (.goto 8, 3) := by decide +kernel
theorem dX12_trial_183 : decode cX12_trial 183 = .ok (.lload 7, 2) := by decide +kernel
theorem dX12_trial_185 : decode cX12_trial 185 = .ok (.lload 11, 2) := by decide +kernel
theorem dX12_trial_187 : decode cX12_trial 187 = .ok (.lor, 1) := by decide +kernel
theorem dX12_trial_188 : decode cX12_trial 188 = .ok (.lstore 7, 2) := by decide +kernel
theorem dX12_trial_190 : decode cX12_trial 190 = .ok (.iload 5, 2) := by decide +kernel
theorem dX12_trial_192 : decode cX12_trial 192 = .ok (.ifCond .ne 8, 3) := by decide +kernel
theorem dX12_trial_195 : decode cX12_trial 195 = .ok (.iload 9, 2) := by decide +kernel
theorem dX12_trial_197 : decode cX12_trial 197 = .ok (.ifCond .eq 7, 3) := by decide +kernel
theorem dX12_trial_200 : decode cX12_trial 200 = .ok (.iconst 1, 1) := by decide +kernel
theorem dX12_trial_201 : decode cX12_trial 201 = .ok (.goto 4, 3) := by decide +kernel
theorem dX12_trial_204 : decode cX12_trial 204 = .ok (.iconst 0, 1) := by decide +kernel
theorem dX12_trial_205 : decode cX12_trial 205 = .ok (.istore 5, 2) := by decide +kernel
theorem dX12_trial_207 : decode cX12_trial 207 = .ok (.goto (-116), 3) := by decide +kernel
theorem dX12_trial_210 : decode cX12_trial 210 = .ok (.aload_n 0, 1) := by decide +kernel
theorem dX12_trial_211 : decode cX12_trial 211 = .ok (.bipush 53, 2) := by decide +kernel
theorem dX12_trial_213 : decode cX12_trial 213 = .ok (.iconst 0, 1) := by decide +kernel
theorem dX12_trial_214 : decode cX12_trial 214 = .ok (.iconst 0, 1) := by decide +kernel
theorem dX12_trial_215 : decode cX12_trial 215 = .ok (.invokevirtual 451, 3) := by decide +kernel
theorem dX12_trial_218 : decode cX12_trial 218 = .ok (.pop, 1) := by decide +kernel
theorem dX12_trial_219 : decode cX12_trial 219 = .ok (.lload_n 3, 1) := by decide +kernel
theorem dX12_trial_220 : decode cX12_trial 220 = .ok (.ldc2_w 475, 3) := by decide +kernel
theorem dX12_trial_223 : decode cX12_trial 223 = .ok (.land, 1) := by decide +kernel
theorem dX12_trial_224 : decode cX12_trial 224 = .ok (.lconst 0, 1) := by decide +kernel
theorem dX12_trial_225 : decode cX12_trial 225 = .ok (.lcmp, 1) := by decide +kernel
theorem dX12_trial_226 : decode cX12_trial 226 = .ok (.ifCond .eq 30, 3) := by decide +kernel
theorem dX12_trial_229 : decode cX12_trial 229 = .ok (.lload_n 3, 1) := by decide +kernel
theorem dX12_trial_230 : decode cX12_trial 230 = .ok (.ldc2_w 548, 3) := by decide +kernel
theorem dX12_trial_233 : decode cX12_trial 233 = .ok (.land, 1) := by decide +kernel
theorem dX12_trial_234 : decode cX12_trial 234 = .ok (.lload 7, 2) := by decide +kernel
theorem dX12_trial_236 : decode cX12_trial 236 = .ok (.lor, 1) := by decide +kernel
theorem dX12_trial_237 : decode cX12_trial 237 = .ok (.iload 5, 2) := by decide +kernel
theorem dX12_trial_239 : decode cX12_trial 239 = .ok (.ifCond .eq 8, 3) := by decide +kernel
theorem dX12_trial_242 : decode cX12_trial 242 = .ok (.iload 6, 2) := by decide +kernel
theorem dX12_trial_244 : decode cX12_trial 244 = .ok (.ifCond .eq 9, 3) := by decide +kernel
theorem dX12_trial_247 : decode cX12_trial 247 = .ok (.ldc2_w 475, 3) := by decide +kernel
theorem dX12_trial_250 : decode cX12_trial 250 = .ok (.goto 4, 3) := by decide +kernel
theorem dX12_trial_253 : decode cX12_trial 253 = .ok (.lconst 0, 1) := by decide +kernel
theorem dX12_trial_254 : decode cX12_trial 254 = .ok (.lor, 1) := by decide +kernel
theorem dX12_trial_255 : decode cX12_trial 255 = .ok (.lstore_n 3, 1) := by decide +kernel
theorem dX12_trial_256 : decode cX12_trial 256 = .ok (.aload_n 0, 1) := by decide +kernel
theorem dX12_trial_257 : decode cX12_trial 257 = .ok (.iload_n 2, 1) := by decide +kernel
theorem dX12_trial_258 : decode cX12_trial 258 = .ok (.lload_n 3, 1) := by decide +kernel
theorem dX12_trial_259 : decode cX12_trial 259 = .ok (.invokevirtual 541, 3) := by decide +kernel
theorem dX12_trial_262 : decode cX12_trial 262 = .ok (.lstore_n 3, 1) := by decide +kernel
theorem dX12_trial_263 : decode cX12_trial 263 = .ok (.aload_n 0, 1) := by decide +kernel
theorem dX12_trial_264 : decode cX12_trial 264 = .ok (.getfield 58, 3) := by decide +kernel
theorem dX12_trial_267 : decode cX12_trial 267 = .ok (.iload_n 2, 1) := by decide +kernel
theorem dX12_trial_268 : decode cX12_trial 268 = .ok (.aload_n 0, 1) := by decide +kernel
theorem dX12_trial_269 : decode cX12_trial 269 = .ok (.getfield 370, 3) := by decide +kernel
theorem dX12_trial_272 : decode cX12_trial 272 = .ok (.iastore, 1) := by decide +kernel
theorem dX12_trial_273 : decode cX12_trial 273 = .ok (.lload_n 3, 1) := by decide +kernel
theorem dX12_trial_274 : decode cX12_trial 274 = .ok (.lreturn, 1) := by decide +kernel
def wX12_trial_b256 (B : Nat → kp_S → (Int64 → kp_S → Prop) → Prop) (a0 : Nat) (x1 : Int32) (xn2 : Int32) (wn3 : Int64)  (Sn : kp_S) (post : Int64 → kp_S → Prop) : Prop :=
  wX12_always B a0 xn2 wn3 Sn (fun z1002 T1001 =>
  ∃ b1003 : Nat, kp_R T1001 2420 a0 = some b1003 ∧
  vp_in xn2 (kp_N T1001 b1003) ∧ ∀ T1004 : kp_S, T1004 = kp_sA T1001 b1003 (upd (kp_A T1001 b1003) (xn2.toNatClampNeg) (kp_I T1001 2417 a0)) →
  post z1002 T1004)
def wX12_trial_b254 (B : Nat → kp_S → (Int64 → kp_S → Prop) → Prop) (a0 : Nat) (x1 : Int32) (xn2 : Int32) (wt0 : Int64) (wt1 : Int64)  (Sn : kp_S) (post : Int64 → kp_S → Prop) : Prop :=
  ∀ z2001 : Int64, z2001 = (wt1 ||| wt0) →
  wX12_trial_b256 B a0 x1 xn2 z2001  Sn post
def wX12_trial_b247 (B : Nat → kp_S → (Int64 → kp_S → Prop) → Prop) (a0 : Nat) (x1 : Int32) (xn2 : Int32) (wt0 : Int64)  (Sn : kp_S) (post : Int64 → kp_S → Prop) : Prop :=
  wX12_trial_b254 B a0 x1 xn2 4 wt0  Sn post
def wX12_trial_b205 (B : Nat → kp_S → (Int64 → kp_S → Prop) → Prop) (a0 : Nat) (x1 : Int32) (xn2 : Int32) (wn3 : Int64) (xn6 : Int32) (wn7 : Int64) (xt0 : Int32) (K91 : Int32 → Int64 → Int32 → Int32 → Int64 → kp_S → Prop) (Sn : kp_S) (post : Int64 → kp_S → Prop) : Prop :=
  K91 xn2 wn3 xt0 xn6 wn7 Sn
def wX12_trial_b200 (B : Nat → kp_S → (Int64 → kp_S → Prop) → Prop) (a0 : Nat) (x1 : Int32) (xn2 : Int32) (wn3 : Int64) (xn6 : Int32) (wn7 : Int64) (K91 : Int32 → Int64 → Int32 → Int32 → Int64 → kp_S → Prop) (Sn : kp_S) (post : Int64 → kp_S → Prop) : Prop :=
  wX12_trial_b205 B a0 x1 xn2 wn3 xn6 wn7 1 K91 Sn post
def wX12_trial_b188 (B : Nat → kp_S → (Int64 → kp_S → Prop) → Prop) (a0 : Nat) (x1 : Int32) (xn2 : Int32) (wn3 : Int64) (xn5 : Int32) (xn6 : Int32) (xn9 : Int32) (wt0 : Int64) (K91 : Int32 → Int64 → Int32 → Int32 → Int64 → kp_S → Prop) (Sn : kp_S) (post : Int64 → kp_S → Prop) : Prop :=
  ((¬ xn5 = 0 →
  wX12_trial_b200 B a0 x1 xn2 wn3 xn6 wt0 K91 Sn post) ∧ (xn5 = 0 →
  ((xn9 = 0 →
  wX12_trial_b205 B a0 x1 xn2 wn3 xn6 wt0 0 K91 Sn post) ∧ (¬ xn9 = 0 →
  wX12_trial_b200 B a0 x1 xn2 wn3 xn6 wt0 K91 Sn post))))
def wX12_trial_b145 (B : Nat → kp_S → (Int64 → kp_S → Prop) → Prop) (a0 : Nat) (x1 : Int32) (xn2 : Int32) (wn3 : Int64) (xn5 : Int32) (wn7 : Int64) (xn9 : Int32) (xn10 : Int32) (xt0 : Int32) (K91 : Int32 → Int64 → Int32 → Int32 → Int64 → kp_S → Prop) (Sn : kp_S) (post : Int64 → kp_S → Prop) : Prop :=
  B a0 Sn (fun z7002 T7001 =>
  wX12_emit a0 48 0 0 T7001 (fun y7004 T7003 =>
  ∃ b7005 : Nat, kp_R T7003 2415 a0 = some b7005 ∧
  vp_in xn10 (kp_N T7003 b7005) ∧ ∀ T7006 : kp_S, T7006 = kp_sA T7003 b7005 (upd (kp_A T7003 b7005) (xn10.toNatClampNeg) (kp_I T7003 2417 a0)) →
  ((xn5 = 0 →
  wX12_trial_b188 B a0 x1 xn2 wn3 xn5 xt0 xn9 (wn7 ||| z7002) K91 T7006 post) ∧ (¬ xn5 = 0 →
  wX12_trial_b188 B a0 x1 xn2 wn3 xn5 xt0 xn9 wn7 K91 T7006 post))))
def wX12_trial_b140 (B : Nat → kp_S → (Int64 → kp_S → Prop) → Prop) (a0 : Nat) (x1 : Int32) (xn2 : Int32) (wn3 : Int64) (xn5 : Int32) (wn7 : Int64) (xn9 : Int32) (xn10 : Int32) (K91 : Int32 → Int64 → Int32 → Int32 → Int64 → kp_S → Prop) (Sn : kp_S) (post : Int64 → kp_S → Prop) : Prop :=
  wX12_trial_b145 B a0 x1 xn2 wn3 xn5 wn7 xn9 xn10 1 K91 Sn post
def wX12_trial_b144 (B : Nat → kp_S → (Int64 → kp_S → Prop) → Prop) (a0 : Nat) (x1 : Int32) (xn2 : Int32) (wn3 : Int64) (xn5 : Int32) (wn7 : Int64) (xn9 : Int32) (xn10 : Int32) (K91 : Int32 → Int64 → Int32 → Int32 → Int64 → kp_S → Prop) (Sn : kp_S) (post : Int64 → kp_S → Prop) : Prop :=
  wX12_trial_b145 B a0 x1 xn2 wn3 xn5 wn7 xn9 xn10 0 K91 Sn post
def wX12_trial_L91 (B : Nat → kp_S → (Int64 → kp_S → Prop) → Prop) (a0 : Nat) (x1 : Int32)  (post : Int64 → kp_S → Prop) : Nat → Int32 → Int64 → Int32 → Int32 → Int64 → kp_S → Prop
  | 0, _, _, _, _, _, _ => False
  | n + 1, xn2, wn3, xn5, xn6, wn7, Sn =>
  wX12_skip a0 25 Sn (fun y10002 T10001 =>
  ((y10002 = 0 →
  wX12_emit a0 53 0 0 T10001 (fun y10004 T10003 =>
  (((lg_cmp (wn3 &&& 4) 0) = 0 →
  wX12_trial_b256 B a0 x1 xn2 wn3  T10003 post) ∧ (¬ (lg_cmp (wn3 &&& 4) 0) = 0 →
  ((xn5 = 0 →
  wX12_trial_b247 B a0 x1 xn2 ((wn3 &&& (-5)) ||| wn7)  T10003 post) ∧ (¬ xn5 = 0 →
  ((xn6 = 0 →
  wX12_trial_b254 B a0 x1 xn2 0 ((wn3 &&& (-5)) ||| wn7)  T10003 post) ∧ (¬ xn6 = 0 →
  wX12_trial_b247 B a0 x1 xn2 ((wn3 &&& (-5)) ||| wn7)  T10003 post)))))))) ∧ (¬ y10002 = 0 →
  wX12_is a0 26 T10001 (fun y10009 T10008 =>
  ∀ T10010 : kp_S, T10010 = kp_sI T10008 2425 a0 0 →
  wX12_list a0 52 51 T10010 (fun y10012 T10011 =>
  ((¬ xn6 = 0 →
  wX12_trial_b140 B a0 x1 xn2 wn3 xn5 wn7 y10009 y10012 (fun xn2_ wn3_ xn5_ xn6_ wn7_ S_ => wX12_trial_L91 B a0 x1  post n xn2_ wn3_ xn5_ xn6_ wn7_ S_) T10011 post) ∧ (xn6 = 0 →
  ((¬ xn5 = 0 →
  wX12_trial_b144 B a0 x1 xn2 wn3 xn5 wn7 y10009 y10012 (fun xn2_ wn3_ xn5_ xn6_ wn7_ S_ => wX12_trial_L91 B a0 x1  post n xn2_ wn3_ xn5_ xn6_ wn7_ S_) T10011 post) ∧ (xn5 = 0 →
  (((kp_I T10011 2425 a0) = 0 →
  wX12_trial_b144 B a0 x1 xn2 wn3 xn5 wn7 y10009 y10012 (fun xn2_ wn3_ xn5_ xn6_ wn7_ S_ => wX12_trial_L91 B a0 x1  post n xn2_ wn3_ xn5_ xn6_ wn7_ S_) T10011 post) ∧ (¬ (kp_I T10011 2425 a0) = 0 →
  wX12_trial_b140 B a0 x1 xn2 wn3 xn5 wn7 y10009 y10012 (fun xn2_ wn3_ xn5_ xn6_ wn7_ S_ => wX12_trial_L91 B a0 x1  post n xn2_ wn3_ xn5_ xn6_ wn7_ S_) T10011 post)))))))))))
def wX12_trial_b82 (B : Nat → kp_S → (Int64 → kp_S → Prop) → Prop) (a0 : Nat) (x1 : Int32) (xn2 : Int32) (wn3 : Int64)  (Sn : kp_S) (post : Int64 → kp_S → Prop) : Prop :=
  ∃ n0 : Nat, wX12_trial_L91 B a0 x1  post n0 xn2 wn3 0 0 0 Sn
def wX12_trial_b63 (B : Nat → kp_S → (Int64 → kp_S → Prop) → Prop) (a0 : Nat) (x1 : Int32) (xn2 : Int32) (wn3 : Int64)  (Sn : kp_S) (post : Int64 → kp_S → Prop) : Prop :=
  wX12_is a0 25 Sn (fun y12002 T12001 =>
  ((y12002 = 0 →
  wX12_trial_b82 B a0 x1 xn2 wn3  T12001 post) ∧ (¬ y12002 = 0 →
  ∃ b12003 : Nat, kp_R T12001 2423 a0 = some b12003 ∧
  vp_in xn2 (kp_N T12001 b12003) ∧ ∀ T12004 : kp_S, T12004 = kp_sA T12001 b12003 (upd (kp_A T12001 b12003) (xn2.toNatClampNeg) (kp_I T12001 2417 a0)) →
  wX12_trial_b82 B a0 x1 xn2 wn3  T12004 post)))
def wX12_trial (B : Nat → kp_S → (Int64 → kp_S → Prop) → Prop) (a0 : Nat) (x1 : Int32) (S : kp_S) (post : Int64 → kp_S → Prop) : Prop :=
  wX12_describe a0 x1 S (fun y2 T1 =>
  ∀ T3 : kp_S, T3 = kp_sI T1 2410 a0 ((kp_I T1 2410 a0) + 1) →
  wX12_emit a0 50 y2 0 T3 (fun y5 T4 =>
  B a0 T4 (fun z7 T6 =>
  wX12_emit a0 48 0 0 T6 (fun y9 T8 =>
  wX12_is a0 25 T8 (fun y11 T10 =>
  ((¬ y11 = 0 →
  wX12_trial_b63 B a0 x1 y2 z7  T10 post) ∧ (y11 = 0 →
  wX12_is a0 27 T10 (fun y13 T12 =>
  ((¬ y13 = 0 →
  wX12_trial_b63 B a0 x1 y2 z7  T12 post) ∧ (y13 = 0 →
  wX12_wrong a0 T12 (fun T14 =>
  post 0 T14)))))))))))
set_option maxHeartbeats 4000000 in
set_option maxRecDepth 100000 in
theorem c_X12_trial (l : Launch) (D : va_G) (cy : Nat → ClassId) (ad : (Nat → Nat) × (Nat → Nat)) (F L : Nat) (B : Nat → kp_S → (Int64 → kp_S → Prop) → Prop) (hB : ∀ (S : kp_S) (a0 : Nat) (post : Int64 → kp_S → Prop), kp_ok S → kp_is S a0 12 → B a0 S post → kp_M l yX12_block cX12_block 6 (some .long) { frames := F, cells := 0, slots := 0, locals := L } D cy ad S [.ref a0] 0 0 (fun A => kp_Ql D cy A S post)) (hF : 151 ≤ F) (hL : 3211 ≤ L) (S : kp_S) (a0 : Nat) (x1 : Int32) (post : Int64 → kp_S → Prop) (hS : kp_ok S) (f_a0 : kp_is S a0 12) (hw : wX12_trial B a0 x1 S post) : kp_M l yX12_trial cX12_trial 13 (some .long) { frames := F + 2, cells := 0, slots := 0, locals := L + 50 } D cy ad S [.ref a0, .int x1] 0 0 (fun A => kp_Ql D cy A S post) := by
  refine kp_start (own := RX12) (by decide) rfl (Nat.le_of_ble_eq_true rfl) hS ?_
  intro p e s m below meth c A ls X hr hlocks hname h hl
  have hle : kp_le S S := kp_le.rf
  have hl : lv_has ls 13 [(0, .ref a0), (1, .int x1)] := hl
  have j256 : ∀ (xn2 : Int32) (wn3 : Int64) (Sn : kp_S) (H : Heap) (locs : List Loc) (ls : Array Slot), lv_has ls 13 [(0, .ref a0), (2, .int xn2), (3, .long wn3)] → kp_H D cy A Sn s.heap H locs → kp_le S Sn → kp_is Sn a0 12 → wX12_trial_b256 B a0 x1 xn2 wn3  Sn post → W p l e { frames := F + 2, cells := 0, slots := 0, locals := L + 50 } s m ([.ref a0, .int x1] : List Value).toArray below meth c H locs 0 0 (MQ below (kp_Ql D cy A S post) ([.ref a0, .int x1] : List Value).toArray s 0 0 A) (F0 m 256 ls []) := by
    intro xn2 wn3 Sn H locs ls hl h hle f_a0 hw
    unfold wX12_trial_b256 at hw
    refine lv_aload_n X.1 X.2.1 dX12_trial_256 rfl (lv_at hl 0 rfl) ?_
    refine lv_iload_n X.1 X.2.1 dX12_trial_257 rfl (lv_at hl 1 rfl) ?_
    refine lv_lload_n X.1 X.2.1 dX12_trial_258 rfl (lv_at hl 2 rfl) ?_
    refine kp_calll X h (kp_runV (rm := { frames := F + 1, cells := 0, slots := 0, locals := L + 25 }) (mc := 0) (ms := 0) (rest := []) (Qc := fun A => kp_Ql D cy A Sn _) X h (c_X12_always l D cy ad F L B hB hF hL Sn a0 xn2 wn3 _ h.2.2.2 f_a0 hw) f_a0 cv_12_541 ⟨by dsimp only; omega, by dsimp only; omega, rfl, rfl, by dsimp only; omega, by dsimp only; omega⟩ rfl hl.1 rfl (Nat.le_of_ble_eq_true rfl) dX12_trial_259) (fun z1002 T1001 hw l_T1001 H locs h => ?_)
    have f_a0 := l_T1001.is f_a0
    have hle := hle.tr l_T1001
    refine lv_lstore_n (lv' := [(3, .long z1002), (0, .ref a0), (2, .int xn2)]) X.1 X.2.1 dX12_trial_262 rfl hl (by decide) rfl (fun ls hl => ?_)
    refine lv_aload_n X.1 X.2.1 dX12_trial_263 rfl (lv_at hl 1 rfl) ?_
    obtain ⟨b1003, e_b1003, hw⟩ := hw
    have f_b1003 := h.2.2.2.rf (c := 12) (k := 20) f_a0 (by decide) (by decide) e_b1003 (t := 14) rfl
    refine kp_get X h f_a0 ff_12_58.l (v := .ref b1003) (congrArg va_rf e_b1003) dX12_trial_264 ?_
    refine lv_iload_n X.1 X.2.1 dX12_trial_267 rfl (lv_at hl 2 rfl) ?_
    refine lv_aload_n X.1 X.2.1 dX12_trial_268 rfl (lv_at hl 1 rfl) ?_
    refine kp_get X h f_a0 fp_12_370.l (v := .int (kp_I T1001 2417 a0)) rfl dX12_trial_269 ?_
    obtain ⟨hi, hw⟩ := hw
    refine kp_iast X h f_b1003 hi dX12_trial_272 (fun T1004 e_T1004 l_T1004 H locs h => ?_)
    have hw := hw T1004 e_T1004
    have f_a0 := l_T1004.is f_a0
    have f_b1003 := l_T1004.is f_b1003
    have hle := hle.tr l_T1004
    have e_b1003 : kp_R T1004 2420 a0 = some b1003 := by rw [e_T1004]; exact e_b1003
    refine lv_lload_n X.1 X.2.1 dX12_trial_273 rfl (lv_at hl 0 rfl) ?_
    exact kp_retl X hr hlocks h hle hw dX12_trial_274
  have j254 : ∀ (xn2 : Int32) (wt0 : Int64) (wt1 : Int64) (Sn : kp_S) (H : Heap) (locs : List Loc) (ls : Array Slot), lv_has ls 13 [(0, .ref a0), (2, .int xn2)] → kp_H D cy A Sn s.heap H locs → kp_le S Sn → kp_is Sn a0 12 → wX12_trial_b254 B a0 x1 xn2 wt0 wt1  Sn post → W p l e { frames := F + 2, cells := 0, slots := 0, locals := L + 50 } s m ([.ref a0, .int x1] : List Value).toArray below meth c H locs 0 0 (MQ below (kp_Ql D cy A S post) ([.ref a0, .int x1] : List Value).toArray s 0 0 A) (F0 m 254 ls [.long wt0, .long wt1]) := by
    intro xn2 wt0 wt1 Sn H locs ls hl h hle f_a0 hw
    unfold wX12_trial_b254 at hw
    refine lv_lor X.1 X.2.1 dX12_trial_254 ?_
    refine lv_topl (fun z2001 e_z2001 => ?_)
    have hw := hw z2001 e_z2001
    refine lv_lstore_n (lv' := [(3, .long z2001), (0, .ref a0), (2, .int xn2)]) X.1 X.2.1 dX12_trial_255 rfl hl (by decide) rfl (fun ls hl => ?_)
    exact j256 xn2 z2001 Sn H locs ls (lv_sub hl [1, 2, 0] rfl) h hle f_a0 hw
  have j247 : ∀ (xn2 : Int32) (wt0 : Int64) (Sn : kp_S) (H : Heap) (locs : List Loc) (ls : Array Slot), lv_has ls 13 [(0, .ref a0), (2, .int xn2)] → kp_H D cy A Sn s.heap H locs → kp_le S Sn → kp_is Sn a0 12 → wX12_trial_b247 B a0 x1 xn2 wt0  Sn post → W p l e { frames := F + 2, cells := 0, slots := 0, locals := L + 50 } s m ([.ref a0, .int x1] : List Value).toArray below meth c H locs 0 0 (MQ below (kp_Ql D cy A S post) ([.ref a0, .int x1] : List Value).toArray s 0 0 A) (F0 m 247 ls [.long wt0]) := by
    intro xn2 wt0 Sn H locs ls hl h hle f_a0 hw
    unfold wX12_trial_b247 at hw
    refine lv_ldc2 (v := 4) X.1 X.2.1 X.2.2.2.1 (X.2.2.2.2.1 _ kl_12_475) dX12_trial_247 ?_
    refine lv_goto (tgt := 254) X.1 X.2.1 dX12_trial_250 (by decide) ?_
    exact j254 xn2 4 wt0 Sn H locs ls (lv_sub hl [0, 1] rfl) h hle f_a0 hw
  have L91 : ∀ n91 : Nat, ∀ (xn2 : Int32) (wn3 : Int64) (xn5 : Int32) (xn6 : Int32) (wn7 : Int64) (Sn : kp_S) (H : Heap) (locs : List Loc) (ls : Array Slot), lv_has ls 13 [(0, .ref a0), (2, .int xn2), (3, .long wn3), (5, .int xn5), (6, .int xn6), (7, .long wn7)] → kp_H D cy A Sn s.heap H locs → kp_le S Sn → kp_is Sn a0 12 → wX12_trial_L91 B a0 x1  post n91 xn2 wn3 xn5 xn6 wn7 Sn → W p l e { frames := F + 2, cells := 0, slots := 0, locals := L + 50 } s m ([.ref a0, .int x1] : List Value).toArray below meth c H locs 0 0 (MQ below (kp_Ql D cy A S post) ([.ref a0, .int x1] : List Value).toArray s 0 0 A) (F0 m 91 ls []) := by
    intro n91
    induction n91 with
    | zero => intro xn2 wn3 xn5 xn6 wn7 Sn H locs ls hl h hle f_a0 hw; exact hw.elim
    | succ n91 ih91 =>
      have j205 : ∀ (xn2 : Int32) (wn3 : Int64) (xn6 : Int32) (wn7 : Int64) (xt0 : Int32) (Sn : kp_S) (H : Heap) (locs : List Loc) (ls : Array Slot), lv_has ls 13 [(0, .ref a0), (2, .int xn2), (3, .long wn3), (6, .int xn6), (7, .long wn7)] → kp_H D cy A Sn s.heap H locs → kp_le S Sn → kp_is Sn a0 12 → wX12_trial_b205 B a0 x1 xn2 wn3 xn6 wn7 xt0 (fun xn2_ wn3_ xn5_ xn6_ wn7_ S_ => wX12_trial_L91 B a0 x1  post n91 xn2_ wn3_ xn5_ xn6_ wn7_ S_) Sn post → W p l e { frames := F + 2, cells := 0, slots := 0, locals := L + 50 } s m ([.ref a0, .int x1] : List Value).toArray below meth c H locs 0 0 (MQ below (kp_Ql D cy A S post) ([.ref a0, .int x1] : List Value).toArray s 0 0 A) (F0 m 205 ls [.int xt0]) := by
        intro xn2 wn3 xn6 wn7 xt0 Sn H locs ls hl h hle f_a0 hw
        unfold wX12_trial_b205 at hw
        refine lv_istore (lv' := [(5, .int xt0), (0, .ref a0), (2, .int xn2), (3, .long wn3), (6, .int xn6), (7, .long wn7)]) X.1 X.2.1 dX12_trial_205 hl (by decide) rfl (fun ls hl => ?_)
        refine lv_goto (tgt := 91) X.1 X.2.1 dX12_trial_207 (by decide) ?_
        exact ih91 xn2 wn3 xt0 xn6 wn7 Sn H locs ls (lv_sub hl [1, 2, 3, 0, 4, 5] rfl) h hle f_a0 hw
      have j200 : ∀ (xn2 : Int32) (wn3 : Int64) (xn6 : Int32) (wn7 : Int64) (Sn : kp_S) (H : Heap) (locs : List Loc) (ls : Array Slot), lv_has ls 13 [(0, .ref a0), (2, .int xn2), (3, .long wn3), (6, .int xn6), (7, .long wn7)] → kp_H D cy A Sn s.heap H locs → kp_le S Sn → kp_is Sn a0 12 → wX12_trial_b200 B a0 x1 xn2 wn3 xn6 wn7 (fun xn2_ wn3_ xn5_ xn6_ wn7_ S_ => wX12_trial_L91 B a0 x1  post n91 xn2_ wn3_ xn5_ xn6_ wn7_ S_) Sn post → W p l e { frames := F + 2, cells := 0, slots := 0, locals := L + 50 } s m ([.ref a0, .int x1] : List Value).toArray below meth c H locs 0 0 (MQ below (kp_Ql D cy A S post) ([.ref a0, .int x1] : List Value).toArray s 0 0 A) (F0 m 200 ls []) := by
        intro xn2 wn3 xn6 wn7 Sn H locs ls hl h hle f_a0 hw
        unfold wX12_trial_b200 at hw
        refine lv_iconst (v := 1) X.1 X.2.1 dX12_trial_200 (by decide) ?_
        refine lv_goto (tgt := 205) X.1 X.2.1 dX12_trial_201 (by decide) ?_
        exact j205 xn2 wn3 xn6 wn7 1 Sn H locs ls (lv_sub hl [0, 1, 2, 3, 4] rfl) h hle f_a0 hw
      have j188 : ∀ (xn2 : Int32) (wn3 : Int64) (xn5 : Int32) (xn6 : Int32) (xn9 : Int32) (wt0 : Int64) (Sn : kp_S) (H : Heap) (locs : List Loc) (ls : Array Slot), lv_has ls 13 [(0, .ref a0), (2, .int xn2), (3, .long wn3), (5, .int xn5), (6, .int xn6), (9, .int xn9)] → kp_H D cy A Sn s.heap H locs → kp_le S Sn → kp_is Sn a0 12 → wX12_trial_b188 B a0 x1 xn2 wn3 xn5 xn6 xn9 wt0 (fun xn2_ wn3_ xn5_ xn6_ wn7_ S_ => wX12_trial_L91 B a0 x1  post n91 xn2_ wn3_ xn5_ xn6_ wn7_ S_) Sn post → W p l e { frames := F + 2, cells := 0, slots := 0, locals := L + 50 } s m ([.ref a0, .int x1] : List Value).toArray below meth c H locs 0 0 (MQ below (kp_Ql D cy A S post) ([.ref a0, .int x1] : List Value).toArray s 0 0 A) (F0 m 188 ls [.long wt0]) := by
        intro xn2 wn3 xn5 xn6 xn9 wt0 Sn H locs ls hl h hle f_a0 hw
        unfold wX12_trial_b188 at hw
        refine lv_lstore (lv' := [(7, .long wt0), (0, .ref a0), (2, .int xn2), (3, .long wn3), (5, .int xn5), (6, .int xn6), (9, .int xn9)]) X.1 X.2.1 dX12_trial_188 hl (by decide) rfl (fun ls hl => ?_)
        refine lv_iload X.1 X.2.1 dX12_trial_190 (lv_at hl 4 rfl) ?_
        refine lv_if_ne (tgt := 200) X.1 X.2.1 dX12_trial_192 (by decide) (fun c6002 => ?_) (fun c6002 => ?_)
        · have hw := hw.1 c6002
          exact j200 xn2 wn3 xn6 wt0 Sn H locs ls (lv_sub hl [1, 2, 3, 5, 0] rfl) h hle f_a0 hw
        · have hw := hw.2 c6002
          refine lv_iload X.1 X.2.1 dX12_trial_195 (lv_at hl 6 rfl) ?_
          refine lv_if_eq (tgt := 204) X.1 X.2.1 dX12_trial_197 (by decide) (fun c6001 => ?_) (fun c6001 => ?_)
          · have hw := hw.1 c6001
            refine lv_iconst (v := 0) X.1 X.2.1 dX12_trial_204 (by decide) ?_
            exact j205 xn2 wn3 xn6 wt0 0 Sn H locs ls (lv_sub hl [1, 2, 3, 5, 0] rfl) h hle f_a0 hw
          · have hw := hw.2 c6001
            exact j200 xn2 wn3 xn6 wt0 Sn H locs ls (lv_sub hl [1, 2, 3, 5, 0] rfl) h hle f_a0 hw
      have j145 : ∀ (xn2 : Int32) (wn3 : Int64) (xn5 : Int32) (wn7 : Int64) (xn9 : Int32) (xn10 : Int32) (xt0 : Int32) (Sn : kp_S) (H : Heap) (locs : List Loc) (ls : Array Slot), lv_has ls 13 [(0, .ref a0), (2, .int xn2), (3, .long wn3), (5, .int xn5), (7, .long wn7), (9, .int xn9), (10, .int xn10)] → kp_H D cy A Sn s.heap H locs → kp_le S Sn → kp_is Sn a0 12 → wX12_trial_b145 B a0 x1 xn2 wn3 xn5 wn7 xn9 xn10 xt0 (fun xn2_ wn3_ xn5_ xn6_ wn7_ S_ => wX12_trial_L91 B a0 x1  post n91 xn2_ wn3_ xn5_ xn6_ wn7_ S_) Sn post → W p l e { frames := F + 2, cells := 0, slots := 0, locals := L + 50 } s m ([.ref a0, .int x1] : List Value).toArray below meth c H locs 0 0 (MQ below (kp_Ql D cy A S post) ([.ref a0, .int x1] : List Value).toArray s 0 0 A) (F0 m 145 ls [.int xt0]) := by
        intro xn2 wn3 xn5 wn7 xn9 xn10 xt0 Sn H locs ls hl h hle f_a0 hw
        unfold wX12_trial_b145 at hw
        refine lv_istore (lv' := [(6, .int xt0), (0, .ref a0), (2, .int xn2), (3, .long wn3), (5, .int xn5), (7, .long wn7), (9, .int xn9), (10, .int xn10)]) X.1 X.2.1 dX12_trial_145 hl (by decide) rfl (fun ls hl => ?_)
        refine lv_aload_n X.1 X.2.1 dX12_trial_147 rfl (lv_at hl 1 rfl) ?_
        refine kp_calll X h (kp_runV (rm := { frames := F, cells := 0, slots := 0, locals := L }) (mc := 0) (ms := 0) (rest := []) (Qc := fun A => kp_Ql D cy A Sn _) X h (hB Sn a0 _ h.2.2.2 f_a0 hw) f_a0 cv_12_447 ⟨by dsimp only; omega, by dsimp only; omega, rfl, rfl, by dsimp only; omega, by dsimp only; omega⟩ rfl hl.1 rfl (Nat.le_of_ble_eq_true rfl) dX12_trial_148) (fun z7002 T7001 hw l_T7001 H locs h => ?_)
        have f_a0 := l_T7001.is f_a0
        have hle := hle.tr l_T7001
        refine lv_lstore (lv' := [(11, .long z7002), (6, .int xt0), (0, .ref a0), (2, .int xn2), (3, .long wn3), (5, .int xn5), (7, .long wn7), (9, .int xn9), (10, .int xn10)]) X.1 X.2.1 dX12_trial_151 hl (by decide) rfl (fun ls hl => ?_)
        refine lv_aload_n X.1 X.2.1 dX12_trial_153 rfl (lv_at hl 2 rfl) ?_
        refine lv_bipush (v := 48) X.1 X.2.1 dX12_trial_154 (by decide) ?_
        refine lv_iconst (v := 0) X.1 X.2.1 dX12_trial_156 (by decide) ?_
        refine lv_iconst (v := 0) X.1 X.2.1 dX12_trial_157 (by decide) ?_
        refine kp_calli X h (kp_runV (rm := { frames := 0, cells := 0, slots := 0, locals := 0 }) (mc := 0) (ms := 0) (rest := []) (Qc := fun A => kp_Qi D cy A T7001 _) X h (c_X12_emit l D cy ad T7001 a0 48 0 0 _ h.2.2.2 f_a0 hw) f_a0 cv_12_451 ⟨by dsimp only; omega, by dsimp only; omega, rfl, rfl, by dsimp only; omega, by dsimp only; omega⟩ rfl hl.1 rfl (Nat.le_of_ble_eq_true rfl) dX12_trial_158) (fun y7004 T7003 hw l_T7003 H locs h => ?_)
        have f_a0 := l_T7003.is f_a0
        have hle := hle.tr l_T7003
        refine lv_pop X.1 X.2.1 dX12_trial_161 rfl ?_
        refine lv_aload_n X.1 X.2.1 dX12_trial_162 rfl (lv_at hl 2 rfl) ?_
        obtain ⟨b7005, e_b7005, hw⟩ := hw
        have f_b7005 := h.2.2.2.rf (c := 12) (k := 15) f_a0 (by decide) (by decide) e_b7005 (t := 14) rfl
        refine kp_get X h f_a0 ff_12_46.l (v := .ref b7005) (congrArg va_rf e_b7005) dX12_trial_163 ?_
        refine lv_iload X.1 X.2.1 dX12_trial_166 (lv_at hl 8 rfl) ?_
        refine lv_aload_n X.1 X.2.1 dX12_trial_168 rfl (lv_at hl 2 rfl) ?_
        refine kp_get X h f_a0 fp_12_370.l (v := .int (kp_I T7003 2417 a0)) rfl dX12_trial_169 ?_
        obtain ⟨hi, hw⟩ := hw
        refine kp_iast X h f_b7005 hi dX12_trial_172 (fun T7006 e_T7006 l_T7006 H locs h => ?_)
        have hw := hw T7006 e_T7006
        have f_a0 := l_T7006.is f_a0
        have f_b7005 := l_T7006.is f_b7005
        have hle := hle.tr l_T7006
        have e_b7005 : kp_R T7006 2415 a0 = some b7005 := by rw [e_T7006]; exact e_b7005
        refine lv_iload X.1 X.2.1 dX12_trial_173 (lv_at hl 5 rfl) ?_
        refine lv_if_eq (tgt := 183) X.1 X.2.1 dX12_trial_175 (by decide) (fun c7007 => ?_) (fun c7007 => ?_)
        · have hw := hw.1 c7007
          refine lv_lload X.1 X.2.1 dX12_trial_183 (lv_at hl 6 rfl) ?_
          refine lv_lload X.1 X.2.1 dX12_trial_185 (lv_at hl 0 rfl) ?_
          refine lv_lor X.1 X.2.1 dX12_trial_187 ?_
          exact j188 xn2 wn3 xn5 xt0 xn9 (wn7 ||| z7002) T7006 H locs ls (lv_sub hl [2, 3, 4, 5, 1, 7] rfl) h hle f_a0 hw
        · have hw := hw.2 c7007
          refine lv_lload X.1 X.2.1 dX12_trial_178 (lv_at hl 6 rfl) ?_
          refine lv_goto (tgt := 188) X.1 X.2.1 dX12_trial_180 (by decide) ?_
          exact j188 xn2 wn3 xn5 xt0 xn9 wn7 T7006 H locs ls (lv_sub hl [2, 3, 4, 5, 1, 7] rfl) h hle f_a0 hw
      have j140 : ∀ (xn2 : Int32) (wn3 : Int64) (xn5 : Int32) (wn7 : Int64) (xn9 : Int32) (xn10 : Int32) (Sn : kp_S) (H : Heap) (locs : List Loc) (ls : Array Slot), lv_has ls 13 [(0, .ref a0), (2, .int xn2), (3, .long wn3), (5, .int xn5), (7, .long wn7), (9, .int xn9), (10, .int xn10)] → kp_H D cy A Sn s.heap H locs → kp_le S Sn → kp_is Sn a0 12 → wX12_trial_b140 B a0 x1 xn2 wn3 xn5 wn7 xn9 xn10 (fun xn2_ wn3_ xn5_ xn6_ wn7_ S_ => wX12_trial_L91 B a0 x1  post n91 xn2_ wn3_ xn5_ xn6_ wn7_ S_) Sn post → W p l e { frames := F + 2, cells := 0, slots := 0, locals := L + 50 } s m ([.ref a0, .int x1] : List Value).toArray below meth c H locs 0 0 (MQ below (kp_Ql D cy A S post) ([.ref a0, .int x1] : List Value).toArray s 0 0 A) (F0 m 140 ls []) := by
        intro xn2 wn3 xn5 wn7 xn9 xn10 Sn H locs ls hl h hle f_a0 hw
        unfold wX12_trial_b140 at hw
        refine lv_iconst (v := 1) X.1 X.2.1 dX12_trial_140 (by decide) ?_
        refine lv_goto (tgt := 145) X.1 X.2.1 dX12_trial_141 (by decide) ?_
        exact j145 xn2 wn3 xn5 wn7 xn9 xn10 1 Sn H locs ls (lv_sub hl [0, 1, 2, 3, 4, 5, 6] rfl) h hle f_a0 hw
      have j144 : ∀ (xn2 : Int32) (wn3 : Int64) (xn5 : Int32) (wn7 : Int64) (xn9 : Int32) (xn10 : Int32) (Sn : kp_S) (H : Heap) (locs : List Loc) (ls : Array Slot), lv_has ls 13 [(0, .ref a0), (2, .int xn2), (3, .long wn3), (5, .int xn5), (7, .long wn7), (9, .int xn9), (10, .int xn10)] → kp_H D cy A Sn s.heap H locs → kp_le S Sn → kp_is Sn a0 12 → wX12_trial_b144 B a0 x1 xn2 wn3 xn5 wn7 xn9 xn10 (fun xn2_ wn3_ xn5_ xn6_ wn7_ S_ => wX12_trial_L91 B a0 x1  post n91 xn2_ wn3_ xn5_ xn6_ wn7_ S_) Sn post → W p l e { frames := F + 2, cells := 0, slots := 0, locals := L + 50 } s m ([.ref a0, .int x1] : List Value).toArray below meth c H locs 0 0 (MQ below (kp_Ql D cy A S post) ([.ref a0, .int x1] : List Value).toArray s 0 0 A) (F0 m 144 ls []) := by
        intro xn2 wn3 xn5 wn7 xn9 xn10 Sn H locs ls hl h hle f_a0 hw
        unfold wX12_trial_b144 at hw
        refine lv_iconst (v := 0) X.1 X.2.1 dX12_trial_144 (by decide) ?_
        exact j145 xn2 wn3 xn5 wn7 xn9 xn10 0 Sn H locs ls (lv_sub hl [0, 1, 2, 3, 4, 5, 6] rfl) h hle f_a0 hw
      intro xn2 wn3 xn5 xn6 wn7 Sn H locs ls hl h hle f_a0 hw
      unfold wX12_trial_L91 at hw
      refine lv_aload_n X.1 X.2.1 dX12_trial_91 rfl (lv_at hl 0 rfl) ?_
      refine lv_bipush (v := 25) X.1 X.2.1 dX12_trial_92 (by decide) ?_
      refine kp_calli X h (kp_runV (rm := { frames := 1, cells := 0, slots := 0, locals := 21 }) (mc := 0) (ms := 0) (rest := []) (Qc := fun A => kp_Qi D cy A Sn _) X h (c_X12_skip l D cy ad Sn a0 25 _ h.2.2.2 f_a0 hw) f_a0 cv_12_440 ⟨by dsimp only; omega, by dsimp only; omega, rfl, rfl, by dsimp only; omega, by dsimp only; omega⟩ rfl hl.1 rfl (Nat.le_of_ble_eq_true rfl) dX12_trial_94) (fun y10002 T10001 hw l_T10001 H locs h => ?_)
      have f_a0 := l_T10001.is f_a0
      have hle := hle.tr l_T10001
      refine lv_if_eq (tgt := 210) X.1 X.2.1 dX12_trial_97 (by decide) (fun c10016 => ?_) (fun c10016 => ?_)
      · have hw := hw.1 c10016
        refine lv_aload_n X.1 X.2.1 dX12_trial_210 rfl (lv_at hl 0 rfl) ?_
        refine lv_bipush (v := 53) X.1 X.2.1 dX12_trial_211 (by decide) ?_
        refine lv_iconst (v := 0) X.1 X.2.1 dX12_trial_213 (by decide) ?_
        refine lv_iconst (v := 0) X.1 X.2.1 dX12_trial_214 (by decide) ?_
        refine kp_calli X h (kp_runV (rm := { frames := 0, cells := 0, slots := 0, locals := 0 }) (mc := 0) (ms := 0) (rest := []) (Qc := fun A => kp_Qi D cy A T10001 _) X h (c_X12_emit l D cy ad T10001 a0 53 0 0 _ h.2.2.2 f_a0 hw) f_a0 cv_12_451 ⟨by dsimp only; omega, by dsimp only; omega, rfl, rfl, by dsimp only; omega, by dsimp only; omega⟩ rfl hl.1 rfl (Nat.le_of_ble_eq_true rfl) dX12_trial_215) (fun y10004 T10003 hw l_T10003 H locs h => ?_)
        have f_a0 := l_T10003.is f_a0
        have hle := hle.tr l_T10003
        refine lv_pop X.1 X.2.1 dX12_trial_218 rfl ?_
        refine lv_lload_n X.1 X.2.1 dX12_trial_219 rfl (lv_at hl 2 rfl) ?_
        refine lv_ldc2 (v := 4) X.1 X.2.1 X.2.2.2.1 (X.2.2.2.2.1 _ kl_12_475) dX12_trial_220 ?_
        refine lv_land X.1 X.2.1 dX12_trial_223 ?_
        refine lv_lconst (v := 0) X.1 X.2.1 dX12_trial_224 (by decide) ?_
        refine W.lcmp X.1 X.2.1 dX12_trial_225 ?_
        refine lv_if_eq (tgt := 256) X.1 X.2.1 dX12_trial_226 (by decide) (fun c10007 => ?_) (fun c10007 => ?_)
        · have hw := hw.1 c10007
          exact j256 xn2 wn3 T10003 H locs ls (lv_sub hl [0, 1, 2] rfl) h hle f_a0 hw
        · have hw := hw.2 c10007
          refine lv_lload_n X.1 X.2.1 dX12_trial_229 rfl (lv_at hl 2 rfl) ?_
          refine lv_ldc2 (v := (-5)) X.1 X.2.1 X.2.2.2.1 (X.2.2.2.2.1 _ kl_12_548) dX12_trial_230 ?_
          refine lv_land X.1 X.2.1 dX12_trial_233 ?_
          refine lv_lload X.1 X.2.1 dX12_trial_234 (lv_at hl 5 rfl) ?_
          refine lv_lor X.1 X.2.1 dX12_trial_236 ?_
          refine lv_iload X.1 X.2.1 dX12_trial_237 (lv_at hl 3 rfl) ?_
          refine lv_if_eq (tgt := 247) X.1 X.2.1 dX12_trial_239 (by decide) (fun c10006 => ?_) (fun c10006 => ?_)
          · have hw := hw.1 c10006
            exact j247 xn2 ((wn3 &&& (-5)) ||| wn7) T10003 H locs ls (lv_sub hl [0, 1] rfl) h hle f_a0 hw
          · have hw := hw.2 c10006
            refine lv_iload X.1 X.2.1 dX12_trial_242 (lv_at hl 4 rfl) ?_
            refine lv_if_eq (tgt := 253) X.1 X.2.1 dX12_trial_244 (by decide) (fun c10005 => ?_) (fun c10005 => ?_)
            · have hw := hw.1 c10005
              refine lv_lconst (v := 0) X.1 X.2.1 dX12_trial_253 (by decide) ?_
              exact j254 xn2 0 ((wn3 &&& (-5)) ||| wn7) T10003 H locs ls (lv_sub hl [0, 1] rfl) h hle f_a0 hw
            · have hw := hw.2 c10005
              exact j247 xn2 ((wn3 &&& (-5)) ||| wn7) T10003 H locs ls (lv_sub hl [0, 1] rfl) h hle f_a0 hw
      · have hw := hw.2 c10016
        refine lv_aload_n X.1 X.2.1 dX12_trial_100 rfl (lv_at hl 0 rfl) ?_
        refine lv_bipush (v := 26) X.1 X.2.1 dX12_trial_101 (by decide) ?_
        refine kp_calli X h (kp_runV (rm := { frames := 0, cells := 0, slots := 0, locals := 0 }) (mc := 0) (ms := 0) (rest := []) (Qc := fun A => kp_Qi D cy A T10001 _) X h (c_X12_is l D cy ad T10001 a0 26 _ h.2.2.2 f_a0 hw) f_a0 cv_12_379 ⟨by dsimp only; omega, by dsimp only; omega, rfl, rfl, by dsimp only; omega, by dsimp only; omega⟩ rfl hl.1 rfl (Nat.le_of_ble_eq_true rfl) dX12_trial_103) (fun y10009 T10008 hw l_T10008 H locs h => ?_)
        have f_a0 := l_T10008.is f_a0
        have hle := hle.tr l_T10008
        refine lv_istore (lv' := [(9, .int y10009), (0, .ref a0), (2, .int xn2), (3, .long wn3), (5, .int xn5), (6, .int xn6), (7, .long wn7)]) X.1 X.2.1 dX12_trial_106 hl (by decide) rfl (fun ls hl => ?_)
        refine lv_aload_n X.1 X.2.1 dX12_trial_108 rfl (lv_at hl 1 rfl) ?_
        refine lv_iconst (v := 0) X.1 X.2.1 dX12_trial_109 (by decide) ?_
        refine kp_putI X h f_a0 fp_12_471 rfl ⟨by decide, by decide⟩ dX12_trial_110 (fun T10010 e_T10010 l_T10010 H locs h => ?_)
        have hw := hw T10010 e_T10010
        have f_a0 := l_T10010.is f_a0
        have hle := hle.tr l_T10010
        refine lv_aload_n X.1 X.2.1 dX12_trial_113 rfl (lv_at hl 1 rfl) ?_
        refine lv_bipush (v := 52) X.1 X.2.1 dX12_trial_114 (by decide) ?_
        refine lv_bipush (v := 51) X.1 X.2.1 dX12_trial_116 (by decide) ?_
        refine kp_calli X h (kp_runV (rm := { frames := 150, cells := 0, slots := 0, locals := 3185 }) (mc := 0) (ms := 0) (rest := []) (Qc := fun A => kp_Qi D cy A T10010 _) X h (c_X12_list l D cy ad T10010 a0 52 51 _ h.2.2.2 f_a0 hw) f_a0 cv_12_526 ⟨by dsimp only; omega, by dsimp only; omega, rfl, rfl, by dsimp only; omega, by dsimp only; omega⟩ rfl hl.1 rfl (Nat.le_of_ble_eq_true rfl) dX12_trial_118) (fun y10012 T10011 hw l_T10011 H locs h => ?_)
        have f_a0 := l_T10011.is f_a0
        have hle := hle.tr l_T10011
        refine lv_istore (lv' := [(10, .int y10012), (9, .int y10009), (0, .ref a0), (2, .int xn2), (3, .long wn3), (5, .int xn5), (6, .int xn6), (7, .long wn7)]) X.1 X.2.1 dX12_trial_121 hl (by decide) rfl (fun ls hl => ?_)
        refine lv_iload X.1 X.2.1 dX12_trial_123 (lv_at hl 6 rfl) ?_
        refine lv_if_ne (tgt := 140) X.1 X.2.1 dX12_trial_125 (by decide) (fun c10015 => ?_) (fun c10015 => ?_)
        · have hw := hw.1 c10015
          exact j140 xn2 wn3 xn5 wn7 y10009 y10012 T10011 H locs ls (lv_sub hl [2, 3, 4, 5, 7, 1, 0] rfl) h hle f_a0 hw
        · have hw := hw.2 c10015
          refine lv_iload X.1 X.2.1 dX12_trial_128 (lv_at hl 5 rfl) ?_
          refine lv_if_ne (tgt := 144) X.1 X.2.1 dX12_trial_130 (by decide) (fun c10014 => ?_) (fun c10014 => ?_)
          · have hw := hw.1 c10014
            exact j144 xn2 wn3 xn5 wn7 y10009 y10012 T10011 H locs ls (lv_sub hl [2, 3, 4, 5, 7, 1, 0] rfl) h hle f_a0 hw
          · have hw := hw.2 c10014
            refine lv_aload_n X.1 X.2.1 dX12_trial_133 rfl (lv_at hl 2 rfl) ?_
            refine kp_get X h f_a0 fp_12_471.l (v := .int (kp_I T10011 2425 a0)) rfl dX12_trial_134 ?_
            refine lv_if_eq (tgt := 144) X.1 X.2.1 dX12_trial_137 (by decide) (fun c10013 => ?_) (fun c10013 => ?_)
            · have hw := hw.1 c10013
              exact j144 xn2 wn3 xn5 wn7 y10009 y10012 T10011 H locs ls (lv_sub hl [2, 3, 4, 5, 7, 1, 0] rfl) h hle f_a0 hw
            · have hw := hw.2 c10013
              exact j140 xn2 wn3 xn5 wn7 y10009 y10012 T10011 H locs ls (lv_sub hl [2, 3, 4, 5, 7, 1, 0] rfl) h hle f_a0 hw
  have j82 : ∀ (xn2 : Int32) (wn3 : Int64) (Sn : kp_S) (H : Heap) (locs : List Loc) (ls : Array Slot), lv_has ls 13 [(0, .ref a0), (2, .int xn2), (3, .long wn3)] → kp_H D cy A Sn s.heap H locs → kp_le S Sn → kp_is Sn a0 12 → wX12_trial_b82 B a0 x1 xn2 wn3  Sn post → W p l e { frames := F + 2, cells := 0, slots := 0, locals := L + 50 } s m ([.ref a0, .int x1] : List Value).toArray below meth c H locs 0 0 (MQ below (kp_Ql D cy A S post) ([.ref a0, .int x1] : List Value).toArray s 0 0 A) (F0 m 82 ls []) := by
    intro xn2 wn3 Sn H locs ls hl h hle f_a0 hw
    unfold wX12_trial_b82 at hw
    refine lv_iconst (v := 0) X.1 X.2.1 dX12_trial_82 (by decide) ?_
    refine lv_istore (lv' := [(5, .int 0), (0, .ref a0), (2, .int xn2), (3, .long wn3)]) X.1 X.2.1 dX12_trial_83 hl (by decide) rfl (fun ls hl => ?_)
    refine lv_iconst (v := 0) X.1 X.2.1 dX12_trial_85 (by decide) ?_
    refine lv_istore (lv' := [(6, .int 0), (5, .int 0), (0, .ref a0), (2, .int xn2), (3, .long wn3)]) X.1 X.2.1 dX12_trial_86 hl (by decide) rfl (fun ls hl => ?_)
    refine lv_lconst (v := 0) X.1 X.2.1 dX12_trial_88 (by decide) ?_
    refine lv_lstore (lv' := [(7, .long 0), (6, .int 0), (5, .int 0), (0, .ref a0), (2, .int xn2), (3, .long wn3)]) X.1 X.2.1 dX12_trial_89 hl (by decide) rfl (fun ls hl => ?_)
    obtain ⟨n0, hw⟩ := hw
    exact L91 n0 xn2 wn3 0 0 0 Sn H locs ls (lv_sub hl [3, 4, 5, 2, 1, 0] rfl) h hle f_a0 hw
  have j63 : ∀ (xn2 : Int32) (wn3 : Int64) (Sn : kp_S) (H : Heap) (locs : List Loc) (ls : Array Slot), lv_has ls 13 [(0, .ref a0), (2, .int xn2), (3, .long wn3)] → kp_H D cy A Sn s.heap H locs → kp_le S Sn → kp_is Sn a0 12 → wX12_trial_b63 B a0 x1 xn2 wn3  Sn post → W p l e { frames := F + 2, cells := 0, slots := 0, locals := L + 50 } s m ([.ref a0, .int x1] : List Value).toArray below meth c H locs 0 0 (MQ below (kp_Ql D cy A S post) ([.ref a0, .int x1] : List Value).toArray s 0 0 A) (F0 m 63 ls []) := by
    intro xn2 wn3 Sn H locs ls hl h hle f_a0 hw
    unfold wX12_trial_b63 at hw
    refine lv_aload_n X.1 X.2.1 dX12_trial_63 rfl (lv_at hl 0 rfl) ?_
    refine lv_bipush (v := 25) X.1 X.2.1 dX12_trial_64 (by decide) ?_
    refine kp_calli X h (kp_runV (rm := { frames := 0, cells := 0, slots := 0, locals := 0 }) (mc := 0) (ms := 0) (rest := []) (Qc := fun A => kp_Qi D cy A Sn _) X h (c_X12_is l D cy ad Sn a0 25 _ h.2.2.2 f_a0 hw) f_a0 cv_12_379 ⟨by dsimp only; omega, by dsimp only; omega, rfl, rfl, by dsimp only; omega, by dsimp only; omega⟩ rfl hl.1 rfl (Nat.le_of_ble_eq_true rfl) dX12_trial_66) (fun y12002 T12001 hw l_T12001 H locs h => ?_)
    have f_a0 := l_T12001.is f_a0
    have hle := hle.tr l_T12001
    refine lv_if_eq (tgt := 82) X.1 X.2.1 dX12_trial_69 (by decide) (fun c12005 => ?_) (fun c12005 => ?_)
    · have hw := hw.1 c12005
      exact j82 xn2 wn3 T12001 H locs ls (lv_sub hl [0, 1, 2] rfl) h hle f_a0 hw
    · have hw := hw.2 c12005
      refine lv_aload_n X.1 X.2.1 dX12_trial_72 rfl (lv_at hl 0 rfl) ?_
      obtain ⟨b12003, e_b12003, hw⟩ := hw
      have f_b12003 := h.2.2.2.rf (c := 12) (k := 23) f_a0 (by decide) (by decide) e_b12003 (t := 14) rfl
      refine kp_get X h f_a0 ff_12_67.l (v := .ref b12003) (congrArg va_rf e_b12003) dX12_trial_73 ?_
      refine lv_iload_n X.1 X.2.1 dX12_trial_76 rfl (lv_at hl 1 rfl) ?_
      refine lv_aload_n X.1 X.2.1 dX12_trial_77 rfl (lv_at hl 0 rfl) ?_
      refine kp_get X h f_a0 fp_12_370.l (v := .int (kp_I T12001 2417 a0)) rfl dX12_trial_78 ?_
      obtain ⟨hi, hw⟩ := hw
      refine kp_iast X h f_b12003 hi dX12_trial_81 (fun T12004 e_T12004 l_T12004 H locs h => ?_)
      have hw := hw T12004 e_T12004
      have f_a0 := l_T12004.is f_a0
      have f_b12003 := l_T12004.is f_b12003
      have hle := hle.tr l_T12004
      have e_b12003 : kp_R T12004 2423 a0 = some b12003 := by rw [e_T12004]; exact e_b12003
      exact j82 xn2 wn3 T12004 H locs ls (lv_sub hl [0, 1, 2] rfl) h hle f_a0 hw
  unfold wX12_trial at hw
  have h : kp_H D cy A S s.heap s.heap [] := h
  revert h
  intro h
  refine lv_aload_n X.1 X.2.1 dX12_trial_0 rfl (lv_at hl 0 rfl) ?_
  refine lv_iload_n X.1 X.2.1 dX12_trial_1 rfl (lv_at hl 1 rfl) ?_
  refine kp_calli X h (kp_runV (rm := { frames := 0, cells := 0, slots := 0, locals := 0 }) (mc := 0) (ms := 0) (rest := []) (Qc := fun A => kp_Qi D cy A S _) X h (c_X12_describe l D cy ad S a0 x1 _ h.2.2.2 f_a0 hw) f_a0 cv_12_538 ⟨by dsimp only; omega, by dsimp only; omega, rfl, rfl, by dsimp only; omega, by dsimp only; omega⟩ rfl hl.1 rfl (Nat.le_of_ble_eq_true rfl) dX12_trial_2) (fun y2 T1 hw l_T1 H locs h => ?_)
  have f_a0 := l_T1.is f_a0
  have hle := hle.tr l_T1
  refine lv_istore_n (lv' := [(2, .int y2), (0, .ref a0), (1, .int x1)]) X.1 X.2.1 dX12_trial_5 rfl hl (by decide) rfl (fun ls hl => ?_)
  refine lv_aload_n X.1 X.2.1 dX12_trial_6 rfl (lv_at hl 1 rfl) ?_
  refine lv_dup X.1 X.2.1 dX12_trial_7 rfl ?_
  refine kp_get X h f_a0 fp_12_376.l (v := .int (kp_I T1 2410 a0)) rfl dX12_trial_8 ?_
  refine lv_iconst (v := 1) X.1 X.2.1 dX12_trial_11 (by decide) ?_
  refine lv_iadd X.1 X.2.1 dX12_trial_12 ?_
  refine kp_putI X h f_a0 fp_12_376 rfl ⟨rfl, rfl⟩ dX12_trial_13 (fun T3 e_T3 l_T3 H locs h => ?_)
  have hw := hw T3 e_T3
  have f_a0 := l_T3.is f_a0
  have hle := hle.tr l_T3
  refine lv_aload_n X.1 X.2.1 dX12_trial_16 rfl (lv_at hl 1 rfl) ?_
  refine lv_bipush (v := 50) X.1 X.2.1 dX12_trial_17 (by decide) ?_
  refine lv_iload_n X.1 X.2.1 dX12_trial_19 rfl (lv_at hl 0 rfl) ?_
  refine lv_iconst (v := 0) X.1 X.2.1 dX12_trial_20 (by decide) ?_
  refine kp_calli X h (kp_runV (rm := { frames := 0, cells := 0, slots := 0, locals := 0 }) (mc := 0) (ms := 0) (rest := []) (Qc := fun A => kp_Qi D cy A T3 _) X h (c_X12_emit l D cy ad T3 a0 50 y2 0 _ h.2.2.2 f_a0 hw) f_a0 cv_12_451 ⟨by dsimp only; omega, by dsimp only; omega, rfl, rfl, by dsimp only; omega, by dsimp only; omega⟩ rfl hl.1 rfl (Nat.le_of_ble_eq_true rfl) dX12_trial_21) (fun y5 T4 hw l_T4 H locs h => ?_)
  have f_a0 := l_T4.is f_a0
  have hle := hle.tr l_T4
  refine lv_pop X.1 X.2.1 dX12_trial_24 rfl ?_
  refine lv_aload_n X.1 X.2.1 dX12_trial_25 rfl (lv_at hl 1 rfl) ?_
  refine kp_calll X h (kp_runV (rm := { frames := F, cells := 0, slots := 0, locals := L }) (mc := 0) (ms := 0) (rest := []) (Qc := fun A => kp_Ql D cy A T4 _) X h (hB T4 a0 _ h.2.2.2 f_a0 hw) f_a0 cv_12_447 ⟨by dsimp only; omega, by dsimp only; omega, rfl, rfl, by dsimp only; omega, by dsimp only; omega⟩ rfl hl.1 rfl (Nat.le_of_ble_eq_true rfl) dX12_trial_26) (fun z7 T6 hw l_T6 H locs h => ?_)
  have f_a0 := l_T6.is f_a0
  have hle := hle.tr l_T6
  refine lv_lstore_n (lv' := [(3, .long z7), (2, .int y2), (0, .ref a0), (1, .int x1)]) X.1 X.2.1 dX12_trial_29 rfl hl (by decide) rfl (fun ls hl => ?_)
  refine lv_aload_n X.1 X.2.1 dX12_trial_30 rfl (lv_at hl 2 rfl) ?_
  refine lv_bipush (v := 48) X.1 X.2.1 dX12_trial_31 (by decide) ?_
  refine lv_iconst (v := 0) X.1 X.2.1 dX12_trial_33 (by decide) ?_
  refine lv_iconst (v := 0) X.1 X.2.1 dX12_trial_34 (by decide) ?_
  refine kp_calli X h (kp_runV (rm := { frames := 0, cells := 0, slots := 0, locals := 0 }) (mc := 0) (ms := 0) (rest := []) (Qc := fun A => kp_Qi D cy A T6 _) X h (c_X12_emit l D cy ad T6 a0 48 0 0 _ h.2.2.2 f_a0 hw) f_a0 cv_12_451 ⟨by dsimp only; omega, by dsimp only; omega, rfl, rfl, by dsimp only; omega, by dsimp only; omega⟩ rfl hl.1 rfl (Nat.le_of_ble_eq_true rfl) dX12_trial_35) (fun y9 T8 hw l_T8 H locs h => ?_)
  have f_a0 := l_T8.is f_a0
  have hle := hle.tr l_T8
  refine lv_pop X.1 X.2.1 dX12_trial_38 rfl ?_
  refine lv_aload_n X.1 X.2.1 dX12_trial_39 rfl (lv_at hl 2 rfl) ?_
  refine lv_bipush (v := 25) X.1 X.2.1 dX12_trial_40 (by decide) ?_
  refine kp_calli X h (kp_runV (rm := { frames := 0, cells := 0, slots := 0, locals := 0 }) (mc := 0) (ms := 0) (rest := []) (Qc := fun A => kp_Qi D cy A T8 _) X h (c_X12_is l D cy ad T8 a0 25 _ h.2.2.2 f_a0 hw) f_a0 cv_12_379 ⟨by dsimp only; omega, by dsimp only; omega, rfl, rfl, by dsimp only; omega, by dsimp only; omega⟩ rfl hl.1 rfl (Nat.le_of_ble_eq_true rfl) dX12_trial_42) (fun y11 T10 hw l_T10 H locs h => ?_)
  have f_a0 := l_T10.is f_a0
  have hle := hle.tr l_T10
  refine lv_if_ne (tgt := 63) X.1 X.2.1 dX12_trial_45 (by decide) (fun c16 => ?_) (fun c16 => ?_)
  · have hw := hw.1 c16
    exact j63 y2 z7 T10 _ _ ls (lv_sub hl [2, 1, 0] rfl) h hle f_a0 hw
  · have hw := hw.2 c16
    refine lv_aload_n X.1 X.2.1 dX12_trial_48 rfl (lv_at hl 2 rfl) ?_
    refine lv_bipush (v := 27) X.1 X.2.1 dX12_trial_49 (by decide) ?_
    refine kp_calli X h (kp_runV (rm := { frames := 0, cells := 0, slots := 0, locals := 0 }) (mc := 0) (ms := 0) (rest := []) (Qc := fun A => kp_Qi D cy A T10 _) X h (c_X12_is l D cy ad T10 a0 27 _ h.2.2.2 f_a0 hw) f_a0 cv_12_379 ⟨by dsimp only; omega, by dsimp only; omega, rfl, rfl, by dsimp only; omega, by dsimp only; omega⟩ rfl hl.1 rfl (Nat.le_of_ble_eq_true rfl) dX12_trial_51) (fun y13 T12 hw l_T12 H locs h => ?_)
    have f_a0 := l_T12.is f_a0
    have hle := hle.tr l_T12
    refine lv_if_ne (tgt := 63) X.1 X.2.1 dX12_trial_54 (by decide) (fun c15 => ?_) (fun c15 => ?_)
    · have hw := hw.1 c15
      exact j63 y2 z7 T12 _ _ ls (lv_sub hl [2, 1, 0] rfl) h hle f_a0 hw
    · have hw := hw.2 c15
      refine lv_aload_n X.1 X.2.1 dX12_trial_57 rfl (lv_at hl 2 rfl) ?_
      refine kp_callv X h (kp_runV (rm := { frames := 0, cells := 0, slots := 0, locals := 0 }) (mc := 0) (ms := 0) (rest := []) (Qc := fun A => kp_Qv D cy A T12 _) X h (c_X12_wrong l D cy ad T12 a0 _ h.2.2.2 f_a0 hw) f_a0 cv_12_382 ⟨by dsimp only; omega, by dsimp only; omega, rfl, rfl, by dsimp only; omega, by dsimp only; omega⟩ rfl hl.1 rfl (Nat.le_of_ble_eq_true rfl) dX12_trial_58) (fun T14 hw l_T14 H locs h => ?_)
      have f_a0 := l_T14.is f_a0
      have hle := hle.tr l_T14
      refine lv_lconst (v := 0) X.1 X.2.1 dX12_trial_61 (by decide) ?_
      exact kp_retl X hr hlocks h hle hw dX12_trial_62
theorem dX12_hold_0 : decode cX12_hold 0 = .ok (.aload_n 0, 1) := by decide +kernel
theorem dX12_hold_1 : decode cX12_hold 1 = .ok (.dup, 1) := by decide +kernel
theorem dX12_hold_2 : decode cX12_hold 2 = .ok (.getfield 376, 3) := by decide +kernel
theorem dX12_hold_5 : decode cX12_hold 5 = .ok (.iconst 1, 1) := by decide +kernel
theorem dX12_hold_6 : decode cX12_hold 6 = .ok (.iadd, 1) := by decide +kernel
theorem dX12_hold_7 : decode cX12_hold 7 = .ok (.putfield 376, 3) := by decide +kernel
theorem dX12_hold_10 : decode cX12_hold 10 = .ok (.aload_n 0, 1) := by decide +kernel
theorem dX12_hold_11 : decode cX12_hold 11 = .ok (.invokevirtual 520, 3) := by decide +kernel
theorem dX12_hold_14 : decode cX12_hold 14 = .ok (.aload_n 0, 1) := by decide +kernel
theorem dX12_hold_15 : decode cX12_hold 15 = .ok (.bipush 49, 2) := by decide +kernel
theorem dX12_hold_17 : decode cX12_hold 17 = .ok (.iconst 0, 1) := by decide +kernel
theorem dX12_hold_18 : decode cX12_hold 18 = .ok (.iconst 0, 1) := by decide +kernel
theorem dX12_hold_19 : decode cX12_hold 19 = .ok (.invokevirtual 451, 3) := by decide +kernel
theorem dX12_hold_22 : decode cX12_hold 22 = .ok (.istore_n 1, 1) := by decide +kernel
theorem dX12_hold_23 : decode cX12_hold 23 = .ok (.aload_n 0, 1) := by decide +kernel
theorem dX12_hold_24 : decode cX12_hold 24 = .ok (.invokevirtual 447, 3) := by decide +kernel
theorem dX12_hold_27 : decode cX12_hold 27 = .ok (.lstore_n 2, 1) := by decide +kernel
theorem dX12_hold_28 : decode cX12_hold 28 = .ok (.aload_n 0, 1) := by decide +kernel
theorem dX12_hold_29 : decode cX12_hold 29 = .ok (.bipush 48, 2) := by decide +kernel
theorem dX12_hold_31 : decode cX12_hold 31 = .ok (.iconst 0, 1) := by decide +kernel
theorem dX12_hold_32 : decode cX12_hold 32 = .ok (.iconst 0, 1) := by decide +kernel
theorem dX12_hold_33 : decode cX12_hold 33 = .ok (.invokevirtual 451, 3) := by decide +kernel
theorem dX12_hold_36 : decode cX12_hold 36 = .ok (.pop, 1) := by decide +kernel
theorem dX12_hold_37 : decode cX12_hold 37 = .ok (.aload_n 0, 1) := by decide +kernel
theorem dX12_hold_38 : decode cX12_hold 38 = .ok (.getfield 46, 3) := by decide +kernel
theorem dX12_hold_41 : decode cX12_hold 41 = .ok (.iload_n 1, 1) := by decide +kernel
theorem dX12_hold_42 : decode cX12_hold 42 = .ok (.aload_n 0, 1) := by decide +kernel
theorem dX12_hold_43 : decode cX12_hold 43 = .ok (.getfield 370, 3) := by decide +kernel
theorem dX12_hold_46 : decode cX12_hold 46 = .ok (.iastore, 1) := by decide +kernel
theorem dX12_hold_47 : decode cX12_hold 47 = .ok (.lload_n 2, 1) := by decide +kernel
theorem dX12_hold_48 : decode cX12_hold 48 = .ok (.ldc2_w 475, 3) := by decide +kernel
theorem dX12_hold_51 : decode cX12_hold 51 = .ok (.lor, 1) := by decide +kernel
theorem dX12_hold_52 : decode cX12_hold 52 = .ok (.lreturn, 1) := by decide +kernel
def wX12_hold (B : Nat → kp_S → (Int64 → kp_S → Prop) → Prop) (a0 : Nat) (S : kp_S) (post : Int64 → kp_S → Prop) : Prop :=
  ∀ T1 : kp_S, T1 = kp_sI S 2410 a0 ((kp_I S 2410 a0) + 1) →
  wX12_expression_t a0 T1 (fun T2 =>
  wX12_emit a0 49 0 0 T2 (fun y4 T3 =>
  B a0 T3 (fun z6 T5 =>
  wX12_emit a0 48 0 0 T5 (fun y8 T7 =>
  ∃ b9 : Nat, kp_R T7 2415 a0 = some b9 ∧
  vp_in y4 (kp_N T7 b9) ∧ ∀ T10 : kp_S, T10 = kp_sA T7 b9 (upd (kp_A T7 b9) (y4.toNatClampNeg) (kp_I T7 2417 a0)) →
  post (z6 ||| 4) T10))))
set_option maxHeartbeats 4000000 in
set_option maxRecDepth 100000 in
theorem c_X12_hold (l : Launch) (D : va_G) (cy : Nat → ClassId) (ad : (Nat → Nat) × (Nat → Nat)) (F L : Nat) (B : Nat → kp_S → (Int64 → kp_S → Prop) → Prop) (hB : ∀ (S : kp_S) (a0 : Nat) (post : Int64 → kp_S → Prop), kp_ok S → kp_is S a0 12 → B a0 S post → kp_M l yX12_block cX12_block 6 (some .long) { frames := F, cells := 0, slots := 0, locals := L } D cy ad S [.ref a0] 0 0 (fun A => kp_Ql D cy A S post)) (hF : 151 ≤ F) (hL : 3211 ≤ L) (S : kp_S) (a0 : Nat) (post : Int64 → kp_S → Prop) (hS : kp_ok S) (f_a0 : kp_is S a0 12) (hw : wX12_hold B a0 S post) : kp_M l yX12_hold cX12_hold 4 (some .long) { frames := F + 1, cells := 0, slots := 0, locals := L + 25 } D cy ad S [.ref a0] 0 0 (fun A => kp_Ql D cy A S post) := by
  refine kp_start (own := RX12) (by decide) rfl (Nat.le_of_ble_eq_true rfl) hS ?_
  intro p e s m below meth c A ls X hr hlocks hname h hl
  have hle : kp_le S S := kp_le.rf
  have hl : lv_has ls 4 [(0, .ref a0)] := hl
  unfold wX12_hold at hw
  have h : kp_H D cy A S s.heap s.heap [] := h
  revert h
  intro h
  refine lv_aload_n X.1 X.2.1 dX12_hold_0 rfl (lv_at hl 0 rfl) ?_
  refine lv_dup X.1 X.2.1 dX12_hold_1 rfl ?_
  refine kp_get X h f_a0 fp_12_376.l (v := .int (kp_I S 2410 a0)) rfl dX12_hold_2 ?_
  refine lv_iconst (v := 1) X.1 X.2.1 dX12_hold_5 (by decide) ?_
  refine lv_iadd X.1 X.2.1 dX12_hold_6 ?_
  refine kp_putI X h f_a0 fp_12_376 rfl ⟨rfl, rfl⟩ dX12_hold_7 (fun T1 e_T1 l_T1 H locs h => ?_)
  have hw := hw T1 e_T1
  have f_a0 := l_T1.is f_a0
  have hle := hle.tr l_T1
  refine lv_aload_n X.1 X.2.1 dX12_hold_10 rfl (lv_at hl 0 rfl) ?_
  refine kp_callv X h (kp_runV (rm := { frames := 149, cells := 0, slots := 0, locals := 3164 }) (mc := 0) (ms := 0) (rest := []) (Qc := fun A => kp_Qv D cy A T1 _) X h (c_X12_expression_t l D cy ad T1 a0 _ h.2.2.2 f_a0 hw) f_a0 cv_12_520 ⟨by dsimp only; omega, by dsimp only; omega, rfl, rfl, by dsimp only; omega, by dsimp only; omega⟩ rfl hl.1 rfl (Nat.le_of_ble_eq_true rfl) dX12_hold_11) (fun T2 hw l_T2 H locs h => ?_)
  have f_a0 := l_T2.is f_a0
  have hle := hle.tr l_T2
  refine lv_aload_n X.1 X.2.1 dX12_hold_14 rfl (lv_at hl 0 rfl) ?_
  refine lv_bipush (v := 49) X.1 X.2.1 dX12_hold_15 (by decide) ?_
  refine lv_iconst (v := 0) X.1 X.2.1 dX12_hold_17 (by decide) ?_
  refine lv_iconst (v := 0) X.1 X.2.1 dX12_hold_18 (by decide) ?_
  refine kp_calli X h (kp_runV (rm := { frames := 0, cells := 0, slots := 0, locals := 0 }) (mc := 0) (ms := 0) (rest := []) (Qc := fun A => kp_Qi D cy A T2 _) X h (c_X12_emit l D cy ad T2 a0 49 0 0 _ h.2.2.2 f_a0 hw) f_a0 cv_12_451 ⟨by dsimp only; omega, by dsimp only; omega, rfl, rfl, by dsimp only; omega, by dsimp only; omega⟩ rfl hl.1 rfl (Nat.le_of_ble_eq_true rfl) dX12_hold_19) (fun y4 T3 hw l_T3 H locs h => ?_)
  have f_a0 := l_T3.is f_a0
  have hle := hle.tr l_T3
  refine lv_istore_n (lv' := [(1, .int y4), (0, .ref a0)]) X.1 X.2.1 dX12_hold_22 rfl hl (by decide) rfl (fun ls hl => ?_)
  refine lv_aload_n X.1 X.2.1 dX12_hold_23 rfl (lv_at hl 1 rfl) ?_
  refine kp_calll X h (kp_runV (rm := { frames := F, cells := 0, slots := 0, locals := L }) (mc := 0) (ms := 0) (rest := []) (Qc := fun A => kp_Ql D cy A T3 _) X h (hB T3 a0 _ h.2.2.2 f_a0 hw) f_a0 cv_12_447 ⟨by dsimp only; omega, by dsimp only; omega, rfl, rfl, by dsimp only; omega, by dsimp only; omega⟩ rfl hl.1 rfl (Nat.le_of_ble_eq_true rfl) dX12_hold_24) (fun z6 T5 hw l_T5 H locs h => ?_)
  have f_a0 := l_T5.is f_a0
  have hle := hle.tr l_T5
  refine lv_lstore_n (lv' := [(2, .long z6), (1, .int y4), (0, .ref a0)]) X.1 X.2.1 dX12_hold_27 rfl hl (by decide) rfl (fun ls hl => ?_)
  refine lv_aload_n X.1 X.2.1 dX12_hold_28 rfl (lv_at hl 2 rfl) ?_
  refine lv_bipush (v := 48) X.1 X.2.1 dX12_hold_29 (by decide) ?_
  refine lv_iconst (v := 0) X.1 X.2.1 dX12_hold_31 (by decide) ?_
  refine lv_iconst (v := 0) X.1 X.2.1 dX12_hold_32 (by decide) ?_
  refine kp_calli X h (kp_runV (rm := { frames := 0, cells := 0, slots := 0, locals := 0 }) (mc := 0) (ms := 0) (rest := []) (Qc := fun A => kp_Qi D cy A T5 _) X h (c_X12_emit l D cy ad T5 a0 48 0 0 _ h.2.2.2 f_a0 hw) f_a0 cv_12_451 ⟨by dsimp only; omega, by dsimp only; omega, rfl, rfl, by dsimp only; omega, by dsimp only; omega⟩ rfl hl.1 rfl (Nat.le_of_ble_eq_true rfl) dX12_hold_33) (fun y8 T7 hw l_T7 H locs h => ?_)
  have f_a0 := l_T7.is f_a0
  have hle := hle.tr l_T7
  refine lv_pop X.1 X.2.1 dX12_hold_36 rfl ?_
  refine lv_aload_n X.1 X.2.1 dX12_hold_37 rfl (lv_at hl 2 rfl) ?_
  obtain ⟨b9, e_b9, hw⟩ := hw
  have f_b9 := h.2.2.2.rf (c := 12) (k := 15) f_a0 (by decide) (by decide) e_b9 (t := 14) rfl
  refine kp_get X h f_a0 ff_12_46.l (v := .ref b9) (congrArg va_rf e_b9) dX12_hold_38 ?_
  refine lv_iload_n X.1 X.2.1 dX12_hold_41 rfl (lv_at hl 1 rfl) ?_
  refine lv_aload_n X.1 X.2.1 dX12_hold_42 rfl (lv_at hl 2 rfl) ?_
  refine kp_get X h f_a0 fp_12_370.l (v := .int (kp_I T7 2417 a0)) rfl dX12_hold_43 ?_
  obtain ⟨hi, hw⟩ := hw
  refine kp_iast X h f_b9 hi dX12_hold_46 (fun T10 e_T10 l_T10 H locs h => ?_)
  have hw := hw T10 e_T10
  have f_a0 := l_T10.is f_a0
  have f_b9 := l_T10.is f_b9
  have hle := hle.tr l_T10
  have e_b9 : kp_R T10 2415 a0 = some b9 := by rw [e_T10]; exact e_b9
  refine lv_lload_n X.1 X.2.1 dX12_hold_47 rfl (lv_at hl 0 rfl) ?_
  refine lv_ldc2 (v := 4) X.1 X.2.1 X.2.2.2.1 (X.2.2.2.2.1 _ kl_12_475) dX12_hold_48 ?_
  refine lv_lor X.1 X.2.1 dX12_hold_51 ?_
  exact kp_retl X hr hlocks h hle hw dX12_hold_52
theorem dX12_ensure_0 : decode cX12_ensure 0 = .ok (.aload_n 0, 1) := by decide +kernel
theorem dX12_ensure_1 : decode cX12_ensure 1 = .ok (.iload_n 1, 1) := by decide +kernel
theorem dX12_ensure_2 : decode cX12_ensure 2 = .ok (.invokevirtual 538, 3) := by decide +kernel
theorem dX12_ensure_5 : decode cX12_ensure 5 = .ok (.istore_n 2, 1) := by decide +kernel
theorem dX12_ensure_6 : decode cX12_ensure 6 = .ok (.aload_n 0, 1) := by decide +kernel
theorem dX12_ensure_7 : decode cX12_ensure 7 = .ok (.dup, 1) := by decide +kernel
theorem dX12_ensure_8 : decode cX12_ensure 8 = .ok (.getfield 376, 3) := by decide +kernel
theorem dX12_ensure_11 : decode cX12_ensure 11 = .ok (.iconst 1, 1) := by decide +kernel
theorem dX12_ensure_12 : decode cX12_ensure 12 = .ok (.iadd, 1) := by decide +kernel
theorem dX12_ensure_13 : decode cX12_ensure 13 = .ok (.putfield 376, 3) := by decide +kernel
theorem dX12_ensure_16 : decode cX12_ensure 16 = .ok (.aload_n 0, 1) := by decide +kernel
theorem dX12_ensure_17 : decode cX12_ensure 17 = .ok (.bipush 60, 2) := by decide +kernel
theorem dX12_ensure_19 : decode cX12_ensure 19 = .ok (.iload_n 2, 1) := by decide +kernel
theorem dX12_ensure_20 : decode cX12_ensure 20 = .ok (.iconst 0, 1) := by decide +kernel
theorem dX12_ensure_21 : decode cX12_ensure 21 = .ok (.invokevirtual 451, 3) := by decide +kernel
