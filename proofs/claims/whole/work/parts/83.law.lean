def wL_law_b579 (L : Nat) (xs : Nat → Int32) (an1 : Nat) (an2 : Nat) (an3 : Nat) (xn4 : Int32) (K23 : Nat → Nat → Nat → Int32 → kp_S → Prop) (Sn : kp_S) (post : Unit) : Prop :=
  ∀ y1001 : Int32, y1001 = xn4 + 6 →
  K23 an1 an2 an3 y1001 Sn
def wL_law_b477 (L : Nat) (xs : Nat → Int32) (an1 : Nat) (an2 : Nat) (an3 : Nat) (xn4 : Int32) (K23 : Nat → Nat → Nat → Int32 → kp_S → Prop) (Sn : kp_S) (post : Unit) : Prop :=
  wL_law_b579 L xs  an1 an2 an3 xn4 K23 Sn post
def wL_law_L23 (L : Nat) (xs : Nat → Int32)   (post : Unit) : Nat → Nat → Nat → Nat → Int32 → kp_S → Prop
  | 0, _, _, _, _, _ => False
  | n + 1, an1, an2, an3, xn4, Sn =>
  ((((Int32.ofNat L) - 6) < xn4 →
  True) ∧ (¬ ((Int32.ofNat L) - 6) < xn4 →
  vp_in xn4 L ∧
  ∀ y3001 : Int32, y3001 = ((xs xn4.toNatClampNeg) &&& 15) →
  ((y3001 = 0 →
  vp_in (xn4 + 1) L ∧
  vp_in (xn4 + 2) L ∧
  vp_in (xn4 + 3) L ∧
  vp_in (xn4 + 4) L ∧
  vp_in (xn4 + 5) L ∧
  wX11_feed an1 (xs (xn4 + 1).toNatClampNeg) (xs (xn4 + 2).toNatClampNeg) (xs (xn4 + 3).toNatClampNeg) (xs (xn4 + 4).toNatClampNeg) (xs (xn4 + 5).toNatClampNeg) Sn (fun y3004 T3003 =>
  vp_in (xn4 + 1) L ∧
  vp_in (xn4 + 2) L ∧
  vp_in (xn4 + 3) L ∧
  vp_in (xn4 + 4) L ∧
  vp_in (xn4 + 5) L ∧
  wX12_feed an2 (xs (xn4 + 1).toNatClampNeg) (xs (xn4 + 2).toNatClampNeg) (xs (xn4 + 3).toNatClampNeg) (xs (xn4 + 4).toNatClampNeg) (xs (xn4 + 5).toNatClampNeg) T3003 (fun y3006 T3005 =>
  ((y3004 = y3006 →
  wL_law_b579 L xs  an1 an2 an3 xn4 (fun an1_ an2_ an3_ xn4_ S_ => wL_law_L23 L xs   post n an1_ an2_ an3_ xn4_ S_) T3005 post) ∧ (¬ y3004 = y3006 →
  False))))) ∧ (¬ y3001 = 0 →
  ((y3001 = 1 →
  vp_in (xn4 + 1) L ∧
  wX11_end an1 (xs (xn4 + 1).toNatClampNeg) Sn (fun y3010 T3009 =>
  vp_in (xn4 + 1) L ∧
  wX12_end an2 (xs (xn4 + 1).toNatClampNeg) T3009 (fun y3012 T3011 =>
  ((y3010 = y3012 →
  wL_law_b579 L xs  an1 an2 an3 xn4 (fun an1_ an2_ an3_ xn4_ S_ => wL_law_L23 L xs   post n an1_ an2_ an3_ xn4_ S_) T3011 post) ∧ (¬ y3010 = y3012 →
  False))))) ∧ (¬ y3001 = 1 →
  ((y3001 = 2 →
  wX11_read an1 Sn (fun y3016 T3015 =>
  wX12_read an2 T3015 (fun y3018 T3017 =>
  ((y3016 = y3018 →
  wL_law_b579 L xs  an1 an2 an3 xn4 (fun an1_ an2_ an3_ xn4_ S_ => wL_law_L23 L xs   post n an1_ an2_ an3_ xn4_ S_) T3017 post) ∧ (¬ y3016 = y3018 →
  False))))) ∧ (¬ y3001 = 2 →
  ((y3001 = 3 →
  vp_in (xn4 + 1) L ∧
  wX11_fault an1 (xs (xn4 + 1).toNatClampNeg) Sn (fun y3022 T3021 =>
  vp_in (xn4 + 1) L ∧
  wX12_fault an2 (xs (xn4 + 1).toNatClampNeg) T3021 (fun y3024 T3023 =>
  ((y3022 = y3024 →
  wL_law_b579 L xs  an1 an2 an3 xn4 (fun an1_ an2_ an3_ xn4_ S_ => wL_law_L23 L xs   post n an1_ an2_ an3_ xn4_ S_) T3023 post) ∧ (¬ y3022 = y3024 →
  False))))) ∧ (¬ y3001 = 3 →
  ((y3001 = 4 →
  vp_in (xn4 + 1) L ∧
  vp_in (xn4 + 2) L ∧
  wX11_duty an1 (xs (xn4 + 1).toNatClampNeg) (xs (xn4 + 2).toNatClampNeg) Sn (fun y3028 T3027 =>
  vp_in (xn4 + 1) L ∧
  vp_in (xn4 + 2) L ∧
  wX12_duty_ an2 (xs (xn4 + 1).toNatClampNeg) (xs (xn4 + 2).toNatClampNeg) T3027 (fun y3030 T3029 =>
  ((y3028 = y3030 →
  wL_law_b579 L xs  an1 an2 an3 xn4 (fun an1_ an2_ an3_ xn4_ S_ => wL_law_L23 L xs   post n an1_ an2_ an3_ xn4_ S_) T3029 post) ∧ (¬ y3028 = y3030 →
  False))))) ∧ (¬ y3001 = 4 →
  ((y3001 = 5 →
  vp_in (xn4 + 1) L ∧
  vp_in (xn4 + 2) L ∧
  wX11_fill an1 (xs (xn4 + 1).toNatClampNeg) (xs (xn4 + 2).toNatClampNeg) Sn (fun y3034 T3033 =>
  vp_in (xn4 + 1) L ∧
  vp_in (xn4 + 2) L ∧
  wX12_fill an2 (xs (xn4 + 1).toNatClampNeg) (xs (xn4 + 2).toNatClampNeg) T3033 (fun y3036 T3035 =>
  ((y3034 = y3036 →
  wL_law_b579 L xs  an1 an2 an3 xn4 (fun an1_ an2_ an3_ xn4_ S_ => wL_law_L23 L xs   post n an1_ an2_ an3_ xn4_ S_) T3035 post) ∧ (¬ y3034 = y3036 →
  False))))) ∧ (¬ y3001 = 5 →
  ((y3001 = 6 →
  vp_in (xn4 + 1) L ∧
  vp_in (xn4 + 2) L ∧
  wX11_chamber an1 (xs (xn4 + 1).toNatClampNeg) (xs (xn4 + 2).toNatClampNeg) Sn (fun y3040 T3039 =>
  vp_in (xn4 + 1) L ∧
  vp_in (xn4 + 2) L ∧
  wX12_chamber an2 (xs (xn4 + 1).toNatClampNeg) (xs (xn4 + 2).toNatClampNeg) T3039 (fun y3042 T3041 =>
  ((y3040 = y3042 →
  wL_law_b579 L xs  an1 an2 an3 xn4 (fun an1_ an2_ an3_ xn4_ S_ => wL_law_L23 L xs   post n an1_ an2_ an3_ xn4_ S_) T3041 post) ∧ (¬ y3040 = y3042 →
  False))))) ∧ (¬ y3001 = 6 →
  ((y3001 = 7 →
  vp_in (xn4 + 1) L ∧
  vp_in (xn4 + 2) L ∧
  wX11_berth an1 (xs (xn4 + 1).toNatClampNeg) (xs (xn4 + 2).toNatClampNeg) Sn (fun y3046 T3045 =>
  vp_in (xn4 + 1) L ∧
  vp_in (xn4 + 2) L ∧
  wX12_berth an2 (xs (xn4 + 1).toNatClampNeg) (xs (xn4 + 2).toNatClampNeg) T3045 (fun y3048 T3047 =>
  ((y3046 = y3048 →
  wL_law_b579 L xs  an1 an2 an3 xn4 (fun an1_ an2_ an3_ xn4_ S_ => wL_law_L23 L xs   post n an1_ an2_ an3_ xn4_ S_) T3047 post) ∧ (¬ y3046 = y3048 →
  False))))) ∧ (¬ y3001 = 7 →
  ((y3001 = 8 →
  vp_in (xn4 + 1) L ∧
  vp_in (xn4 + 2) L ∧
  vp_in (xn4 + 3) L ∧
  vp_in (xn4 + 4) L ∧
  wL_run an1 (xs (xn4 + 1).toNatClampNeg) (xs (xn4 + 2).toNatClampNeg) (xs (xn4 + 3).toNatClampNeg) (xs (xn4 + 4).toNatClampNeg) an3 Sn (fun y3052 T3051 =>
  vp_in (xn4 + 1) L ∧
  vp_in (xn4 + 2) L ∧
  vp_in (xn4 + 3) L ∧
  vp_in (xn4 + 4) L ∧
  wX12_run an2 (xs (xn4 + 1).toNatClampNeg) (xs (xn4 + 2).toNatClampNeg) (xs (xn4 + 3).toNatClampNeg) (xs (xn4 + 4).toNatClampNeg) T3051 (fun y3054 T3053 =>
  wX12_thrown an2 T3053 (fun y3056 T3055 =>
  ((y3056 = y3052 →
  ((¬ y3052 = 0 →
  wL_law_b477 L xs  an1 an2 an3 xn4 (fun an1_ an2_ an3_ xn4_ S_ => wL_law_L23 L xs   post n an1_ an2_ an3_ xn4_ S_) T3055 post) ∧ (y3052 = 0 →
  vp_in ((0 : Int32)) (kp_N T3055 an3) ∧
  (((lg_cmp (kp_B T3055 an3 ((0 : Int32)).toNatClampNeg) ((y3054 : Int32).toInt64)) = 0 →
  wL_law_b477 L xs  an1 an2 an3 xn4 (fun an1_ an2_ an3_ xn4_ S_ => wL_law_L23 L xs   post n an1_ an2_ an3_ xn4_ S_) T3055 post) ∧ (¬ (lg_cmp (kp_B T3055 an3 ((0 : Int32)).toNatClampNeg) ((y3054 : Int32).toInt64)) = 0 →
  False))))) ∧ (¬ y3056 = y3052 →
  False)))))) ∧ (¬ y3001 = 8 →
  ((y3001 = 9 →
  vp_in (xn4 + 1) L ∧
  wX11_told an1 (xs (xn4 + 1).toNatClampNeg) Sn (fun y3062 T3061 =>
  vp_in (xn4 + 1) L ∧
  wX12_told an2 (xs (xn4 + 1).toNatClampNeg) T3061 (fun y3064 T3063 =>
  ((y3062 = y3064 →
  wL_law_b579 L xs  an1 an2 an3 xn4 (fun an1_ an2_ an3_ xn4_ S_ => wL_law_L23 L xs   post n an1_ an2_ an3_ xn4_ S_) T3063 post) ∧ (¬ y3062 = y3064 →
  False))))) ∧ (¬ y3001 = 9 →
  ((y3001 = 10 →
  vp_in (xn4 + 1) L ∧
  vp_in (xn4 + 2) L ∧
  wX11_log an1 (xs (xn4 + 1).toNatClampNeg) (xs (xn4 + 2).toNatClampNeg) Sn (fun y3068 T3067 =>
  vp_in (xn4 + 1) L ∧
  vp_in (xn4 + 2) L ∧
  wX12_log an2 (xs (xn4 + 1).toNatClampNeg) (xs (xn4 + 2).toNatClampNeg) T3067 (fun y3070 T3069 =>
  ((y3068 = y3070 →
  wL_law_b579 L xs  an1 an2 an3 xn4 (fun an1_ an2_ an3_ xn4_ S_ => wL_law_L23 L xs   post n an1_ an2_ an3_ xn4_ S_) T3069 post) ∧ (¬ y3068 = y3070 →
  False))))) ∧ (¬ y3001 = 10 →
  ((y3001 = 11 →
  vp_in (xn4 + 1) L ∧
  vp_in (xn4 + 2) L ∧
  wX11_look an1 (xs (xn4 + 1).toNatClampNeg) (xs (xn4 + 2).toNatClampNeg) Sn (fun y3074 T3073 =>
  vp_in (xn4 + 1) L ∧
  vp_in (xn4 + 2) L ∧
  wX12_look an2 (xs (xn4 + 1).toNatClampNeg) (xs (xn4 + 2).toNatClampNeg) T3073 (fun y3076 T3075 =>
  ((y3074 = y3076 →
  wL_law_b579 L xs  an1 an2 an3 xn4 (fun an1_ an2_ an3_ xn4_ S_ => wL_law_L23 L xs   post n an1_ an2_ an3_ xn4_ S_) T3075 post) ∧ (¬ y3074 = y3076 →
  False))))) ∧ (¬ y3001 = 11 →
  wL_law_b579 L xs  an1 an2 an3 xn4 (fun an1_ an2_ an3_ xn4_ S_ => wL_law_L23 L xs   post n an1_ an2_ an3_ xn4_ S_) Sn post))))))))))))))))))))))))))
def wL_law (L : Nat) (xs : Nat → Int32)  (S : kp_S) (post : Unit) : Prop :=
  ∀ (b1 : Nat) (T2 : kp_S), b1 ∉ kp_L S → T2 = kp_new S b1 11 →
  wX11_init b1 T2 (fun T3 =>
  ∀ (b4 : Nat) (T5 : kp_S), b4 ∉ kp_L T3 → T5 = kp_new T3 b4 12 →
  wX12_init b4 T5 (fun T6 =>
  ∀ (b7 : Nat) (T8 : kp_S), b7 ∉ kp_L T6 → T8 = kp_newA T6 b7 15 1 →
  wL_law_L23 L xs   post 513 b1 b4 b7 0 T8))
set_option maxHeartbeats 4000000 in
set_option maxRecDepth 100000 in
theorem c_L_law {p : Program} {e : Env} {s : State} {m : MethodId} {below : List Frame} {meth : Method} {c : Code} (l : Launch) (hlt : l.stackTraces = false) (D : va_G) (cy : Nat → ClassId) (ad : (Nat → Nat) × (Nat → Nat)) {b L : Nat} {xs : Nat → Int32} (X : kp_X D cy ad RL code 7 p s m #[Value.ref b] c (fun q : Nat => s.heap.size ≤ q)) (hr : meth.sig.returnType = ret) (hlocks : meth.locks = false) (hX : va_X b L xs s s.heap) (hbl : b < s.heap.size) (hN : kp_Nl s) (Th : kp_Th (fun q : Nat => s.heap.size ≤ q) s s.heap) (S : kp_S) (h : kp_H D cy (fun q : Nat => s.heap.size ≤ q) S s.heap s.heap []) (hw : wL_law L xs S ()) : W p l e room_1 s m #[Value.ref b] below meth c s.heap [] 0 0 (lw_Z below #[Value.ref b] s) (entryFrame m ([Value.ref b] : List Value).toArray 7) := by
  have hbA : ¬ (fun q : Nat => s.heap.size ≤ q) b := Nat.not_le.mpr hbl
  have hle : kp_le S S := kp_le.rf
  have hl := lv_entry ([.ref b]) (n := 7) (Nat.le_of_ble_eq_true rfl)
  rw [lg_entry_eq]
  generalize (lg_sl ([.ref b]) ++ List.replicate (7 - (lg_sl ([.ref b])).length) Slot.unset).toArray = ls at hl ⊢
  have hl : lv_has ls 7 [(0, .ref b)] := hl
  generalize hpost : () = post at hw
  obtain ⟨A, hAe⟩ : ∃ A : Nat → Prop, A = (fun q : Nat => s.heap.size ≤ q) := ⟨_, rfl⟩
  rw [← hAe] at X Th h hbA
  have L23 : ∀ n23 : Nat, ∀ (ce sl : Nat), ce + n23 * 3 ≤ 2020 → sl + n23 * 6170 ≤ 3245524 → ∀ (an1 : Nat) (an2 : Nat) (an3 : Nat) (xn4 : Int32) (Sn : kp_S) (H : Heap) (locs : List Loc) (ls : Array Slot), lv_has ls 7 [(0, .ref b), (1, .ref an1), (2, .ref an2), (3, .ref an3), (4, .int xn4)] → kp_H D cy A Sn s.heap H locs → kp_le S Sn → kp_is Sn an1 11 → kp_is Sn an2 12 → kp_is Sn an3 15 → wL_law_L23 L xs   post n23 an1 an2 an3 xn4 Sn → W p l e room_1 s m #[Value.ref b] below meth c H locs ce sl (lw_Z below #[Value.ref b] s) (F0 m 23 ls []) := by
    intro n23
    induction n23 with
    | zero => intro ce sl hce hsl an1 an2 an3 xn4 Sn H locs ls hl h hle f_an1 f_an2 f_an3 hw; exact hw.elim
    | succ n23 ih23 =>
      have j579 : ∀ (ce sl : Nat) (hce : ce + n23 * 3 ≤ 2020) (hsl : sl + n23 * 6170 ≤ 3245524) (an1 : Nat) (an2 : Nat) (an3 : Nat) (xn4 : Int32) (Sn : kp_S) (H : Heap) (locs : List Loc) (ls : Array Slot), lv_has ls 7 [(0, .ref b), (1, .ref an1), (2, .ref an2), (3, .ref an3), (4, .int xn4)] → kp_H D cy A Sn s.heap H locs → kp_le S Sn → kp_is Sn an1 11 → kp_is Sn an2 12 → kp_is Sn an3 15 → wL_law_b579 L xs  an1 an2 an3 xn4 (fun an1_ an2_ an3_ xn4_ S_ => wL_law_L23 L xs   post n23 an1_ an2_ an3_ xn4_ S_) Sn post → W p l e room_1 s m #[Value.ref b] below meth c H locs ce sl (lw_Z below #[Value.ref b] s) (F0 m 579 ls []) := by
        intro ce sl hce hsl an1 an2 an3 xn4 Sn H locs ls hl h hle f_an1 f_an2 f_an3 hw
        unfold wL_law_b579 at hw
        obtain ⟨y1001, e_y1001⟩ : ∃ y : Int32, y = xn4 + 6 := ⟨_, rfl⟩
        have hw := hw y1001 e_y1001
        refine lv_iinc (v := y1001) (lv' := [(4, .int y1001), (0, .ref b), (1, .ref an1), (2, .ref an2), (3, .ref an3)]) X.1 X.2.1 dL_law_579 hl (k := 4) rfl (by rw [e_y1001]; rfl) (by decide) rfl (fun ls hl => ?_)
        refine lv_goto (tgt := 23) X.1 X.2.1 dL_law_582 (by decide) ?_
        exact ih23 (ce + 0) (sl + 0) (by omega) (by omega) an1 an2 an3 y1001 Sn H locs ls (lv_sub hl [1, 2, 3, 4, 0] rfl) h hle f_an1 f_an2 f_an3 hw
      have j477 : ∀ (ce sl : Nat) (hce : ce + n23 * 3 ≤ 2020) (hsl : sl + n23 * 6170 ≤ 3245524) (an1 : Nat) (an2 : Nat) (an3 : Nat) (xn4 : Int32) (Sn : kp_S) (H : Heap) (locs : List Loc) (ls : Array Slot), lv_has ls 7 [(0, .ref b), (1, .ref an1), (2, .ref an2), (3, .ref an3), (4, .int xn4)] → kp_H D cy A Sn s.heap H locs → kp_le S Sn → kp_is Sn an1 11 → kp_is Sn an2 12 → kp_is Sn an3 15 → wL_law_b477 L xs  an1 an2 an3 xn4 (fun an1_ an2_ an3_ xn4_ S_ => wL_law_L23 L xs   post n23 an1_ an2_ an3_ xn4_ S_) Sn post → W p l e room_1 s m #[Value.ref b] below meth c H locs ce sl (lw_Z below #[Value.ref b] s) (F0 m 477 ls []) := by
        intro ce sl hce hsl an1 an2 an3 xn4 Sn H locs ls hl h hle f_an1 f_an2 f_an3 hw
        unfold wL_law_b477 at hw
        refine lv_goto (tgt := 579) X.1 X.2.1 dL_law_477 (by decide) ?_
        exact j579 (ce + 0) (sl + 0) (by omega) (by omega) an1 an2 an3 xn4 Sn H locs ls (lv_sub hl [0, 1, 2, 3, 4] rfl) h hle f_an1 f_an2 f_an3 hw
      intro ce sl hce hsl an1 an2 an3 xn4 Sn H locs ls hl h hle f_an1 f_an2 f_an3 hw
      unfold wL_law_L23 at hw
      refine lv_iload X.1 X.2.1 dL_law_23 (lv_at hl 4 rfl) ?_
      refine lv_aload_n X.1 X.2.1 dL_law_25 rfl (lv_at hl 0 rfl) ?_
      refine va_slen X.1 X.2.1 hX hbl hbA h.2.2.1 dL_law_26 ?_
      refine lv_bipush (v := 6) X.1 X.2.1 dL_law_27 (by decide) ?_
      refine lv_isub X.1 X.2.1 dL_law_29 ?_
      refine lv_icmp_gt (tgt := 585) X.1 X.2.1 dL_law_30 (by decide) (fun c3078 => ?_) (fun c3078 => ?_)
      · have hw := hw.1 c3078
        refine lv_iconst (v := 1) X.1 X.2.1 dL_law_585 (by decide) ?_
        refine va_forget (fun q hq => by have h9 := h.2.2.1.2.2 q hq; rw [hAe] at h9; exact h9) ?_
        refine W.widen (k := 601024) (n := 7293033) (by omega) (by omega) ?_
        exact lw_ret X.1 X.2.1 hr hlocks dL_law_586
      · have hw := hw.2 c3078
        refine lv_aload_n X.1 X.2.1 dL_law_33 rfl (lv_at hl 0 rfl) ?_
        refine lv_iload X.1 X.2.1 dL_law_34 (lv_at hl 4 rfl) ?_
        obtain ⟨hi, hw⟩ := hw
        refine va_sld X.1 X.2.1 hX hbl hbA h.2.2.1 hi dL_law_36 ?_
        refine lv_bipush (v := 15) X.1 X.2.1 dL_law_37 (by decide) ?_
        refine lv_iand X.1 X.2.1 dL_law_39 ?_
        refine lv_topi (fun y3001 e_y3001 => ?_)
        have hw := hw y3001 e_y3001
        by_cases c3002 : y3001 = 0
        · have hw := hw.1 c3002
          refine lv_tableIn (off := 64) (tgt := 104) X.1 X.2.1 dL_law_40 (by rw [c3002]; decide) (by rw [c3002]; decide) (by rw [c3002]; decide) (by decide) ?_
          refine lv_aload_n X.1 X.2.1 dL_law_104 rfl (lv_at hl 1 rfl) ?_
          refine lv_aload_n X.1 X.2.1 dL_law_105 rfl (lv_at hl 0 rfl) ?_
          refine lv_iload X.1 X.2.1 dL_law_106 (lv_at hl 4 rfl) ?_
          refine lv_iconst (v := 1) X.1 X.2.1 dL_law_108 (by decide) ?_
          refine lv_iadd X.1 X.2.1 dL_law_109 ?_
          obtain ⟨hi, hw⟩ := hw
          refine va_sld X.1 X.2.1 hX hbl hbA h.2.2.1 hi dL_law_110 ?_
          refine lv_aload_n X.1 X.2.1 dL_law_111 rfl (lv_at hl 0 rfl) ?_
          refine lv_iload X.1 X.2.1 dL_law_112 (lv_at hl 4 rfl) ?_
          refine lv_iconst (v := 2) X.1 X.2.1 dL_law_114 (by decide) ?_
          refine lv_iadd X.1 X.2.1 dL_law_115 ?_
          obtain ⟨hi, hw⟩ := hw
          refine va_sld X.1 X.2.1 hX hbl hbA h.2.2.1 hi dL_law_116 ?_
          refine lv_aload_n X.1 X.2.1 dL_law_117 rfl (lv_at hl 0 rfl) ?_
          refine lv_iload X.1 X.2.1 dL_law_118 (lv_at hl 4 rfl) ?_
          refine lv_iconst (v := 3) X.1 X.2.1 dL_law_120 (by decide) ?_
          refine lv_iadd X.1 X.2.1 dL_law_121 ?_
          obtain ⟨hi, hw⟩ := hw
          refine va_sld X.1 X.2.1 hX hbl hbA h.2.2.1 hi dL_law_122 ?_
          refine lv_aload_n X.1 X.2.1 dL_law_123 rfl (lv_at hl 0 rfl) ?_
          refine lv_iload X.1 X.2.1 dL_law_124 (lv_at hl 4 rfl) ?_
          refine lv_iconst (v := 4) X.1 X.2.1 dL_law_126 (by decide) ?_
          refine lv_iadd X.1 X.2.1 dL_law_127 ?_
          obtain ⟨hi, hw⟩ := hw
          refine va_sld X.1 X.2.1 hX hbl hbA h.2.2.1 hi dL_law_128 ?_
          refine lv_aload_n X.1 X.2.1 dL_law_129 rfl (lv_at hl 0 rfl) ?_
          refine lv_iload X.1 X.2.1 dL_law_130 (lv_at hl 4 rfl) ?_
          refine lv_iconst (v := 5) X.1 X.2.1 dL_law_132 (by decide) ?_
          refine lv_iadd X.1 X.2.1 dL_law_133 ?_
          obtain ⟨hi, hw⟩ := hw
          refine va_sld X.1 X.2.1 hX hbl hbA h.2.2.1 hi dL_law_134 ?_
          refine kp_calli X h (kp_runV (rm := { frames := 1, cells := 0, slots := 0, locals := 24 }) (mc := 0) (ms := 0) (rest := []) (Qc := fun A => kp_Qi D cy A Sn _) X h (c_X11_feed l D cy ad Sn an1 (xs (xn4 + 1).toNatClampNeg) (xs (xn4 + 2).toNatClampNeg) (xs (xn4 + 3).toNatClampNeg) (xs (xn4 + 4).toNatClampNeg) (xs (xn4 + 5).toNatClampNeg) _ h.2.2.2 f_an1 hw) f_an1 cv_L_21 ⟨by decide, by decide, rfl, rfl, by show _ ≤ 601024; omega, by show _ ≤ 7293033; omega⟩ rfl hl.1 rfl (Nat.le_of_ble_eq_true rfl) dL_law_135) (fun y3004 T3003 hw l_T3003 H locs h => ?_)
          have f_an1 := l_T3003.is f_an1
          have f_an2 := l_T3003.is f_an2
          have f_an3 := l_T3003.is f_an3
          have hle := hle.tr l_T3003
          refine lv_aload_n X.1 X.2.1 dL_law_138 rfl (lv_at hl 2 rfl) ?_
          refine lv_aload_n X.1 X.2.1 dL_law_139 rfl (lv_at hl 0 rfl) ?_
          refine lv_iload X.1 X.2.1 dL_law_140 (lv_at hl 4 rfl) ?_
          refine lv_iconst (v := 1) X.1 X.2.1 dL_law_142 (by decide) ?_
          refine lv_iadd X.1 X.2.1 dL_law_143 ?_
          obtain ⟨hi, hw⟩ := hw
          refine va_sld X.1 X.2.1 hX hbl hbA h.2.2.1 hi dL_law_144 ?_
          refine lv_aload_n X.1 X.2.1 dL_law_145 rfl (lv_at hl 0 rfl) ?_
          refine lv_iload X.1 X.2.1 dL_law_146 (lv_at hl 4 rfl) ?_
          refine lv_iconst (v := 2) X.1 X.2.1 dL_law_148 (by decide) ?_
          refine lv_iadd X.1 X.2.1 dL_law_149 ?_
          obtain ⟨hi, hw⟩ := hw
          refine va_sld X.1 X.2.1 hX hbl hbA h.2.2.1 hi dL_law_150 ?_
          refine lv_aload_n X.1 X.2.1 dL_law_151 rfl (lv_at hl 0 rfl) ?_
          refine lv_iload X.1 X.2.1 dL_law_152 (lv_at hl 4 rfl) ?_
          refine lv_iconst (v := 3) X.1 X.2.1 dL_law_154 (by decide) ?_
          refine lv_iadd X.1 X.2.1 dL_law_155 ?_
          obtain ⟨hi, hw⟩ := hw
          refine va_sld X.1 X.2.1 hX hbl hbA h.2.2.1 hi dL_law_156 ?_
          refine lv_aload_n X.1 X.2.1 dL_law_157 rfl (lv_at hl 0 rfl) ?_
          refine lv_iload X.1 X.2.1 dL_law_158 (lv_at hl 4 rfl) ?_
          refine lv_iconst (v := 4) X.1 X.2.1 dL_law_160 (by decide) ?_
          refine lv_iadd X.1 X.2.1 dL_law_161 ?_
          obtain ⟨hi, hw⟩ := hw
          refine va_sld X.1 X.2.1 hX hbl hbA h.2.2.1 hi dL_law_162 ?_
          refine lv_aload_n X.1 X.2.1 dL_law_163 rfl (lv_at hl 0 rfl) ?_
          refine lv_iload X.1 X.2.1 dL_law_164 (lv_at hl 4 rfl) ?_
          refine lv_iconst (v := 5) X.1 X.2.1 dL_law_166 (by decide) ?_
          refine lv_iadd X.1 X.2.1 dL_law_167 ?_
          obtain ⟨hi, hw⟩ := hw
          refine va_sld X.1 X.2.1 hX hbl hbA h.2.2.1 hi dL_law_168 ?_
          refine kp_calli X h (kp_runV (rm := { frames := 1, cells := 0, slots := 0, locals := 23 }) (mc := 0) (ms := 0) (rest := [.int y3004]) (Qc := fun A => kp_Qi D cy A T3003 _) X h (c_X12_feed l D cy ad T3003 an2 (xs (xn4 + 1).toNatClampNeg) (xs (xn4 + 2).toNatClampNeg) (xs (xn4 + 3).toNatClampNeg) (xs (xn4 + 4).toNatClampNeg) (xs (xn4 + 5).toNatClampNeg) _ h.2.2.2 f_an2 hw) f_an2 cv_L_25 ⟨by decide, by decide, rfl, rfl, by show _ ≤ 601024; omega, by show _ ≤ 7293033; omega⟩ rfl hl.1 rfl (Nat.le_of_ble_eq_true rfl) dL_law_169) (fun y3006 T3005 hw l_T3005 H locs h => ?_)
          have f_an1 := l_T3005.is f_an1
          have f_an2 := l_T3005.is f_an2
          have f_an3 := l_T3005.is f_an3
          have hle := hle.tr l_T3005
          refine lv_icmp_eq (tgt := 579) X.1 X.2.1 dL_law_172 (by decide) (fun c3007 => ?_) (fun c3007 => ?_)
          · have hw := hw.1 c3007
            exact j579 (ce + 0) (sl + 0) (by omega) (by omega) an1 an2 an3 xn4 T3005 H locs ls (lv_sub hl [0, 1, 2, 3, 4] rfl) h hle f_an1 f_an2 f_an3 hw
          · have hw := hw.2 c3007
            refine lv_iconst (v := 0) X.1 X.2.1 dL_law_175 (by decide) ?_
            exact hw.elim
        have hw := hw.2 c3002
        by_cases c3008 : y3001 = 1
        · have hw := hw.1 c3008
          refine lv_tableIn (off := 137) (tgt := 177) X.1 X.2.1 dL_law_40 (by rw [c3008]; decide) (by rw [c3008]; decide) (by rw [c3008]; decide) (by decide) ?_
          refine lv_aload_n X.1 X.2.1 dL_law_177 rfl (lv_at hl 1 rfl) ?_
          refine lv_aload_n X.1 X.2.1 dL_law_178 rfl (lv_at hl 0 rfl) ?_
          refine lv_iload X.1 X.2.1 dL_law_179 (lv_at hl 4 rfl) ?_
          refine lv_iconst (v := 1) X.1 X.2.1 dL_law_181 (by decide) ?_
          refine lv_iadd X.1 X.2.1 dL_law_182 ?_
          obtain ⟨hi, hw⟩ := hw
          refine va_sld X.1 X.2.1 hX hbl hbA h.2.2.1 hi dL_law_183 ?_
          refine kp_calli X h (kp_runV (rm := { frames := 0, cells := 0, slots := 0, locals := 0 }) (mc := 0) (ms := 0) (rest := []) (Qc := fun A => kp_Qi D cy A Sn _) X h (c_X11_end l D cy ad Sn an1 (xs (xn4 + 1).toNatClampNeg) _ h.2.2.2 f_an1 hw) f_an1 cv_L_26 ⟨by decide, by decide, rfl, rfl, by show _ ≤ 601024; omega, by show _ ≤ 7293033; omega⟩ rfl hl.1 rfl (Nat.le_of_ble_eq_true rfl) dL_law_184) (fun y3010 T3009 hw l_T3009 H locs h => ?_)
          have f_an1 := l_T3009.is f_an1
          have f_an2 := l_T3009.is f_an2
          have f_an3 := l_T3009.is f_an3
          have hle := hle.tr l_T3009
          refine lv_aload_n X.1 X.2.1 dL_law_187 rfl (lv_at hl 2 rfl) ?_
          refine lv_aload_n X.1 X.2.1 dL_law_188 rfl (lv_at hl 0 rfl) ?_
          refine lv_iload X.1 X.2.1 dL_law_189 (lv_at hl 4 rfl) ?_
          refine lv_iconst (v := 1) X.1 X.2.1 dL_law_191 (by decide) ?_
          refine lv_iadd X.1 X.2.1 dL_law_192 ?_
          obtain ⟨hi, hw⟩ := hw
          refine va_sld X.1 X.2.1 hX hbl hbA h.2.2.1 hi dL_law_193 ?_
          refine kp_calli X h (kp_runV (rm := { frames := 0, cells := 0, slots := 0, locals := 0 }) (mc := 0) (ms := 0) (rest := [.int y3010]) (Qc := fun A => kp_Qi D cy A T3009 _) X h (c_X12_end l D cy ad T3009 an2 (xs (xn4 + 1).toNatClampNeg) _ h.2.2.2 f_an2 hw) f_an2 cv_L_30 ⟨by decide, by decide, rfl, rfl, by show _ ≤ 601024; omega, by show _ ≤ 7293033; omega⟩ rfl hl.1 rfl (Nat.le_of_ble_eq_true rfl) dL_law_194) (fun y3012 T3011 hw l_T3011 H locs h => ?_)
          have f_an1 := l_T3011.is f_an1
          have f_an2 := l_T3011.is f_an2
          have f_an3 := l_T3011.is f_an3
          have hle := hle.tr l_T3011
          refine lv_icmp_eq (tgt := 579) X.1 X.2.1 dL_law_197 (by decide) (fun c3013 => ?_) (fun c3013 => ?_)
          · have hw := hw.1 c3013
            exact j579 (ce + 0) (sl + 0) (by omega) (by omega) an1 an2 an3 xn4 T3011 H locs ls (lv_sub hl [0, 1, 2, 3, 4] rfl) h hle f_an1 f_an2 f_an3 hw
          · have hw := hw.2 c3013
            refine lv_iconst (v := 0) X.1 X.2.1 dL_law_200 (by decide) ?_
            exact hw.elim
        have hw := hw.2 c3008
        by_cases c3014 : y3001 = 2
        · have hw := hw.1 c3014
          refine lv_tableIn (off := 162) (tgt := 202) X.1 X.2.1 dL_law_40 (by rw [c3014]; decide) (by rw [c3014]; decide) (by rw [c3014]; decide) (by decide) ?_
          refine lv_aload_n X.1 X.2.1 dL_law_202 rfl (lv_at hl 1 rfl) ?_
          refine kp_calli X h (kp_runV (rm := { frames := 313, cells := 3, slots := 6170, locals := 7384 }) (mc := 3) (ms := 6170) (rest := []) (Qc := fun A => kp_Qi D cy A Sn _) X h (c_X11_read l D cy ad Sn an1 _ h.2.2.2 f_an1 hw) f_an1 cv_L_31 ⟨by decide, by decide, rfl, rfl, by show _ ≤ 601024; omega, by show _ ≤ 7293033; omega⟩ rfl hl.1 rfl (Nat.le_of_ble_eq_true rfl) dL_law_203) (fun y3016 T3015 hw l_T3015 H locs h => ?_)
          have f_an1 := l_T3015.is f_an1
          have f_an2 := l_T3015.is f_an2
          have f_an3 := l_T3015.is f_an3
          have hle := hle.tr l_T3015
          refine W.widen (k := ce + 3) (n := sl + 6170) (by omega) (by first | omega | (rw [hnf]; omega)) ?_
          refine lv_aload_n X.1 X.2.1 dL_law_206 rfl (lv_at hl 2 rfl) ?_
          refine kp_calli X h (kp_runV (rm := { frames := 239, cells := 0, slots := 0, locals := 5458 }) (mc := 0) (ms := 0) (rest := [.int y3016]) (Qc := fun A => kp_Qi D cy A T3015 _) X h (c_X12_read l D cy ad T3015 an2 _ h.2.2.2 f_an2 hw) f_an2 cv_L_35 ⟨by decide, by decide, rfl, rfl, by show _ ≤ 601024; omega, by show _ ≤ 7293033; omega⟩ rfl hl.1 rfl (Nat.le_of_ble_eq_true rfl) dL_law_207) (fun y3018 T3017 hw l_T3017 H locs h => ?_)
          have f_an1 := l_T3017.is f_an1
          have f_an2 := l_T3017.is f_an2
          have f_an3 := l_T3017.is f_an3
          have hle := hle.tr l_T3017
          refine lv_icmp_eq (tgt := 579) X.1 X.2.1 dL_law_210 (by decide) (fun c3019 => ?_) (fun c3019 => ?_)
          · have hw := hw.1 c3019
            exact j579 (ce + 3) (sl + 6170) (by omega) (by omega) an1 an2 an3 xn4 T3017 H locs ls (lv_sub hl [0, 1, 2, 3, 4] rfl) h hle f_an1 f_an2 f_an3 hw
          · have hw := hw.2 c3019
            refine lv_iconst (v := 0) X.1 X.2.1 dL_law_213 (by decide) ?_
            exact hw.elim
        have hw := hw.2 c3014
        by_cases c3020 : y3001 = 3
        · have hw := hw.1 c3020
          refine lv_tableIn (off := 175) (tgt := 215) X.1 X.2.1 dL_law_40 (by rw [c3020]; decide) (by rw [c3020]; decide) (by rw [c3020]; decide) (by decide) ?_
          refine lv_aload_n X.1 X.2.1 dL_law_215 rfl (lv_at hl 1 rfl) ?_
          refine lv_aload_n X.1 X.2.1 dL_law_216 rfl (lv_at hl 0 rfl) ?_
          refine lv_iload X.1 X.2.1 dL_law_217 (lv_at hl 4 rfl) ?_
          refine lv_iconst (v := 1) X.1 X.2.1 dL_law_219 (by decide) ?_
          refine lv_iadd X.1 X.2.1 dL_law_220 ?_
          obtain ⟨hi, hw⟩ := hw
          refine va_sld X.1 X.2.1 hX hbl hbA h.2.2.1 hi dL_law_221 ?_
          refine kp_calli X h (kp_runV (rm := { frames := 0, cells := 0, slots := 0, locals := 0 }) (mc := 0) (ms := 0) (rest := []) (Qc := fun A => kp_Qi D cy A Sn _) X h (c_X11_fault l D cy ad Sn an1 (xs (xn4 + 1).toNatClampNeg) _ h.2.2.2 f_an1 hw) f_an1 cv_L_36 ⟨by decide, by decide, rfl, rfl, by show _ ≤ 601024; omega, by show _ ≤ 7293033; omega⟩ rfl hl.1 rfl (Nat.le_of_ble_eq_true rfl) dL_law_222) (fun y3022 T3021 hw l_T3021 H locs h => ?_)
          have f_an1 := l_T3021.is f_an1
          have f_an2 := l_T3021.is f_an2
          have f_an3 := l_T3021.is f_an3
          have hle := hle.tr l_T3021
          refine lv_aload_n X.1 X.2.1 dL_law_225 rfl (lv_at hl 2 rfl) ?_
          refine lv_aload_n X.1 X.2.1 dL_law_226 rfl (lv_at hl 0 rfl) ?_
          refine lv_iload X.1 X.2.1 dL_law_227 (lv_at hl 4 rfl) ?_
          refine lv_iconst (v := 1) X.1 X.2.1 dL_law_229 (by decide) ?_
          refine lv_iadd X.1 X.2.1 dL_law_230 ?_
          obtain ⟨hi, hw⟩ := hw
          refine va_sld X.1 X.2.1 hX hbl hbA h.2.2.1 hi dL_law_231 ?_
          refine kp_calli X h (kp_runV (rm := { frames := 0, cells := 0, slots := 0, locals := 0 }) (mc := 0) (ms := 0) (rest := [.int y3022]) (Qc := fun A => kp_Qi D cy A T3021 _) X h (c_X12_fault l D cy ad T3021 an2 (xs (xn4 + 1).toNatClampNeg) _ h.2.2.2 f_an2 hw) f_an2 cv_L_40 ⟨by decide, by decide, rfl, rfl, by show _ ≤ 601024; omega, by show _ ≤ 7293033; omega⟩ rfl hl.1 rfl (Nat.le_of_ble_eq_true rfl) dL_law_232) (fun y3024 T3023 hw l_T3023 H locs h => ?_)
          have f_an1 := l_T3023.is f_an1
          have f_an2 := l_T3023.is f_an2
          have f_an3 := l_T3023.is f_an3
          have hle := hle.tr l_T3023
          refine lv_icmp_eq (tgt := 579) X.1 X.2.1 dL_law_235 (by decide) (fun c3025 => ?_) (fun c3025 => ?_)
          · have hw := hw.1 c3025
            exact j579 (ce + 0) (sl + 0) (by omega) (by omega) an1 an2 an3 xn4 T3023 H locs ls (lv_sub hl [0, 1, 2, 3, 4] rfl) h hle f_an1 f_an2 f_an3 hw
          · have hw := hw.2 c3025
            refine lv_iconst (v := 0) X.1 X.2.1 dL_law_238 (by decide) ?_
            exact hw.elim
        have hw := hw.2 c3020
        by_cases c3026 : y3001 = 4
        · have hw := hw.1 c3026
          refine lv_tableIn (off := 200) (tgt := 240) X.1 X.2.1 dL_law_40 (by rw [c3026]; decide) (by rw [c3026]; decide) (by rw [c3026]; decide) (by decide) ?_
          refine lv_aload_n X.1 X.2.1 dL_law_240 rfl (lv_at hl 1 rfl) ?_
          refine lv_aload_n X.1 X.2.1 dL_law_241 rfl (lv_at hl 0 rfl) ?_
          refine lv_iload X.1 X.2.1 dL_law_242 (lv_at hl 4 rfl) ?_
          refine lv_iconst (v := 1) X.1 X.2.1 dL_law_244 (by decide) ?_
          refine lv_iadd X.1 X.2.1 dL_law_245 ?_
          obtain ⟨hi, hw⟩ := hw
          refine va_sld X.1 X.2.1 hX hbl hbA h.2.2.1 hi dL_law_246 ?_
          refine lv_aload_n X.1 X.2.1 dL_law_247 rfl (lv_at hl 0 rfl) ?_
          refine lv_iload X.1 X.2.1 dL_law_248 (lv_at hl 4 rfl) ?_
          refine lv_iconst (v := 2) X.1 X.2.1 dL_law_250 (by decide) ?_
          refine lv_iadd X.1 X.2.1 dL_law_251 ?_
          obtain ⟨hi, hw⟩ := hw
          refine va_sld X.1 X.2.1 hX hbl hbA h.2.2.1 hi dL_law_252 ?_
          refine kp_calli X h (kp_runV (rm := { frames := 2, cells := 0, slots := 0, locals := 45 }) (mc := 0) (ms := 0) (rest := []) (Qc := fun A => kp_Qi D cy A Sn _) X h (c_X11_duty l D cy ad Sn an1 (xs (xn4 + 1).toNatClampNeg) (xs (xn4 + 2).toNatClampNeg) _ h.2.2.2 f_an1 hw) f_an1 cv_L_41 ⟨by decide, by decide, rfl, rfl, by show _ ≤ 601024; omega, by show _ ≤ 7293033; omega⟩ rfl hl.1 rfl (Nat.le_of_ble_eq_true rfl) dL_law_253) (fun y3028 T3027 hw l_T3027 H locs h => ?_)
          have f_an1 := l_T3027.is f_an1
          have f_an2 := l_T3027.is f_an2
          have f_an3 := l_T3027.is f_an3
          have hle := hle.tr l_T3027
          refine lv_aload_n X.1 X.2.1 dL_law_256 rfl (lv_at hl 2 rfl) ?_
          refine lv_aload_n X.1 X.2.1 dL_law_257 rfl (lv_at hl 0 rfl) ?_
          refine lv_iload X.1 X.2.1 dL_law_258 (lv_at hl 4 rfl) ?_
          refine lv_iconst (v := 1) X.1 X.2.1 dL_law_260 (by decide) ?_
          refine lv_iadd X.1 X.2.1 dL_law_261 ?_
          obtain ⟨hi, hw⟩ := hw
          refine va_sld X.1 X.2.1 hX hbl hbA h.2.2.1 hi dL_law_262 ?_
          refine lv_aload_n X.1 X.2.1 dL_law_263 rfl (lv_at hl 0 rfl) ?_
          refine lv_iload X.1 X.2.1 dL_law_264 (lv_at hl 4 rfl) ?_
          refine lv_iconst (v := 2) X.1 X.2.1 dL_law_266 (by decide) ?_
          refine lv_iadd X.1 X.2.1 dL_law_267 ?_
          obtain ⟨hi, hw⟩ := hw
          refine va_sld X.1 X.2.1 hX hbl hbA h.2.2.1 hi dL_law_268 ?_
          refine kp_calli X h (kp_runV (rm := { frames := 0, cells := 0, slots := 0, locals := 0 }) (mc := 0) (ms := 0) (rest := [.int y3028]) (Qc := fun A => kp_Qi D cy A T3027 _) X h (c_X12_duty_ l D cy ad T3027 an2 (xs (xn4 + 1).toNatClampNeg) (xs (xn4 + 2).toNatClampNeg) _ h.2.2.2 f_an2 hw) f_an2 cv_L_45 ⟨by decide, by decide, rfl, rfl, by show _ ≤ 601024; omega, by show _ ≤ 7293033; omega⟩ rfl hl.1 rfl (Nat.le_of_ble_eq_true rfl) dL_law_269) (fun y3030 T3029 hw l_T3029 H locs h => ?_)
          have f_an1 := l_T3029.is f_an1
          have f_an2 := l_T3029.is f_an2
          have f_an3 := l_T3029.is f_an3
          have hle := hle.tr l_T3029
          refine lv_icmp_eq (tgt := 579) X.1 X.2.1 dL_law_272 (by decide) (fun c3031 => ?_) (fun c3031 => ?_)
          · have hw := hw.1 c3031
            exact j579 (ce + 0) (sl + 0) (by omega) (by omega) an1 an2 an3 xn4 T3029 H locs ls (lv_sub hl [0, 1, 2, 3, 4] rfl) h hle f_an1 f_an2 f_an3 hw
          · have hw := hw.2 c3031
            refine lv_iconst (v := 0) X.1 X.2.1 dL_law_275 (by decide) ?_
            exact hw.elim
        have hw := hw.2 c3026
        by_cases c3032 : y3001 = 5
        · have hw := hw.1 c3032
          refine lv_tableIn (off := 237) (tgt := 277) X.1 X.2.1 dL_law_40 (by rw [c3032]; decide) (by rw [c3032]; decide) (by rw [c3032]; decide) (by decide) ?_
          refine lv_aload_n X.1 X.2.1 dL_law_277 rfl (lv_at hl 1 rfl) ?_
          refine lv_aload_n X.1 X.2.1 dL_law_278 rfl (lv_at hl 0 rfl) ?_
          refine lv_iload X.1 X.2.1 dL_law_279 (lv_at hl 4 rfl) ?_
          refine lv_iconst (v := 1) X.1 X.2.1 dL_law_281 (by decide) ?_
          refine lv_iadd X.1 X.2.1 dL_law_282 ?_
          obtain ⟨hi, hw⟩ := hw
          refine va_sld X.1 X.2.1 hX hbl hbA h.2.2.1 hi dL_law_283 ?_
          refine lv_aload_n X.1 X.2.1 dL_law_284 rfl (lv_at hl 0 rfl) ?_
          refine lv_iload X.1 X.2.1 dL_law_285 (lv_at hl 4 rfl) ?_
          refine lv_iconst (v := 2) X.1 X.2.1 dL_law_287 (by decide) ?_
          refine lv_iadd X.1 X.2.1 dL_law_288 ?_
          obtain ⟨hi, hw⟩ := hw
          refine va_sld X.1 X.2.1 hX hbl hbA h.2.2.1 hi dL_law_289 ?_
          refine kp_calli X h (kp_runV (rm := { frames := 2, cells := 0, slots := 0, locals := 42 }) (mc := 0) (ms := 0) (rest := []) (Qc := fun A => kp_Qi D cy A Sn _) X h (c_X11_fill l D cy ad Sn an1 (xs (xn4 + 1).toNatClampNeg) (xs (xn4 + 2).toNatClampNeg) _ h.2.2.2 f_an1 hw) f_an1 cv_L_46 ⟨by decide, by decide, rfl, rfl, by show _ ≤ 601024; omega, by show _ ≤ 7293033; omega⟩ rfl hl.1 rfl (Nat.le_of_ble_eq_true rfl) dL_law_290) (fun y3034 T3033 hw l_T3033 H locs h => ?_)
          have f_an1 := l_T3033.is f_an1
          have f_an2 := l_T3033.is f_an2
          have f_an3 := l_T3033.is f_an3
          have hle := hle.tr l_T3033
          refine lv_aload_n X.1 X.2.1 dL_law_293 rfl (lv_at hl 2 rfl) ?_
          refine lv_aload_n X.1 X.2.1 dL_law_294 rfl (lv_at hl 0 rfl) ?_
          refine lv_iload X.1 X.2.1 dL_law_295 (lv_at hl 4 rfl) ?_
          refine lv_iconst (v := 1) X.1 X.2.1 dL_law_297 (by decide) ?_
          refine lv_iadd X.1 X.2.1 dL_law_298 ?_
          obtain ⟨hi, hw⟩ := hw
          refine va_sld X.1 X.2.1 hX hbl hbA h.2.2.1 hi dL_law_299 ?_
          refine lv_aload_n X.1 X.2.1 dL_law_300 rfl (lv_at hl 0 rfl) ?_
          refine lv_iload X.1 X.2.1 dL_law_301 (lv_at hl 4 rfl) ?_
          refine lv_iconst (v := 2) X.1 X.2.1 dL_law_303 (by decide) ?_
          refine lv_iadd X.1 X.2.1 dL_law_304 ?_
          obtain ⟨hi, hw⟩ := hw
          refine va_sld X.1 X.2.1 hX hbl hbA h.2.2.1 hi dL_law_305 ?_
          refine kp_calli X h (kp_runV (rm := { frames := 1, cells := 0, slots := 0, locals := 22 }) (mc := 0) (ms := 0) (rest := [.int y3034]) (Qc := fun A => kp_Qi D cy A T3033 _) X h (c_X12_fill l D cy ad T3033 an2 (xs (xn4 + 1).toNatClampNeg) (xs (xn4 + 2).toNatClampNeg) _ h.2.2.2 f_an2 hw) f_an2 cv_L_50 ⟨by decide, by decide, rfl, rfl, by show _ ≤ 601024; omega, by show _ ≤ 7293033; omega⟩ rfl hl.1 rfl (Nat.le_of_ble_eq_true rfl) dL_law_306) (fun y3036 T3035 hw l_T3035 H locs h => ?_)
          have f_an1 := l_T3035.is f_an1
          have f_an2 := l_T3035.is f_an2
          have f_an3 := l_T3035.is f_an3
          have hle := hle.tr l_T3035
          refine lv_icmp_eq (tgt := 579) X.1 X.2.1 dL_law_309 (by decide) (fun c3037 => ?_) (fun c3037 => ?_)
          · have hw := hw.1 c3037
            exact j579 (ce + 0) (sl + 0) (by omega) (by omega) an1 an2 an3 xn4 T3035 H locs ls (lv_sub hl [0, 1, 2, 3, 4] rfl) h hle f_an1 f_an2 f_an3 hw
          · have hw := hw.2 c3037
            refine lv_iconst (v := 0) X.1 X.2.1 dL_law_312 (by decide) ?_
            exact hw.elim
        have hw := hw.2 c3032
        by_cases c3038 : y3001 = 6
        · have hw := hw.1 c3038
          refine lv_tableIn (off := 274) (tgt := 314) X.1 X.2.1 dL_law_40 (by rw [c3038]; decide) (by rw [c3038]; decide) (by rw [c3038]; decide) (by decide) ?_
          refine lv_aload_n X.1 X.2.1 dL_law_314 rfl (lv_at hl 1 rfl) ?_
          refine lv_aload_n X.1 X.2.1 dL_law_315 rfl (lv_at hl 0 rfl) ?_
          refine lv_iload X.1 X.2.1 dL_law_316 (lv_at hl 4 rfl) ?_
          refine lv_iconst (v := 1) X.1 X.2.1 dL_law_318 (by decide) ?_
          refine lv_iadd X.1 X.2.1 dL_law_319 ?_
          obtain ⟨hi, hw⟩ := hw
          refine va_sld X.1 X.2.1 hX hbl hbA h.2.2.1 hi dL_law_320 ?_
          refine lv_aload_n X.1 X.2.1 dL_law_321 rfl (lv_at hl 0 rfl) ?_
          refine lv_iload X.1 X.2.1 dL_law_322 (lv_at hl 4 rfl) ?_
          refine lv_iconst (v := 2) X.1 X.2.1 dL_law_324 (by decide) ?_
          refine lv_iadd X.1 X.2.1 dL_law_325 ?_
          obtain ⟨hi, hw⟩ := hw
          refine va_sld X.1 X.2.1 hX hbl hbA h.2.2.1 hi dL_law_326 ?_
          refine kp_calli X h (kp_runV (rm := { frames := 3, cells := 0, slots := 0, locals := 65 }) (mc := 0) (ms := 0) (rest := []) (Qc := fun A => kp_Qi D cy A Sn _) X h (c_X11_chamber l D cy ad Sn an1 (xs (xn4 + 1).toNatClampNeg) (xs (xn4 + 2).toNatClampNeg) _ h.2.2.2 f_an1 hw) f_an1 cv_L_51 ⟨by decide, by decide, rfl, rfl, by show _ ≤ 601024; omega, by show _ ≤ 7293033; omega⟩ rfl hl.1 rfl (Nat.le_of_ble_eq_true rfl) dL_law_327) (fun y3040 T3039 hw l_T3039 H locs h => ?_)
          have f_an1 := l_T3039.is f_an1
          have f_an2 := l_T3039.is f_an2
          have f_an3 := l_T3039.is f_an3
          have hle := hle.tr l_T3039
          refine lv_aload_n X.1 X.2.1 dL_law_330 rfl (lv_at hl 2 rfl) ?_
          refine lv_aload_n X.1 X.2.1 dL_law_331 rfl (lv_at hl 0 rfl) ?_
          refine lv_iload X.1 X.2.1 dL_law_332 (lv_at hl 4 rfl) ?_
          refine lv_iconst (v := 1) X.1 X.2.1 dL_law_334 (by decide) ?_
          refine lv_iadd X.1 X.2.1 dL_law_335 ?_
          obtain ⟨hi, hw⟩ := hw
          refine va_sld X.1 X.2.1 hX hbl hbA h.2.2.1 hi dL_law_336 ?_
          refine lv_aload_n X.1 X.2.1 dL_law_337 rfl (lv_at hl 0 rfl) ?_
          refine lv_iload X.1 X.2.1 dL_law_338 (lv_at hl 4 rfl) ?_
          refine lv_iconst (v := 2) X.1 X.2.1 dL_law_340 (by decide) ?_
          refine lv_iadd X.1 X.2.1 dL_law_341 ?_
          obtain ⟨hi, hw⟩ := hw
          refine va_sld X.1 X.2.1 hX hbl hbA h.2.2.1 hi dL_law_342 ?_
          refine kp_calli X h (kp_runV (rm := { frames := 1, cells := 0, slots := 0, locals := 22 }) (mc := 0) (ms := 0) (rest := [.int y3040]) (Qc := fun A => kp_Qi D cy A T3039 _) X h (c_X12_chamber l D cy ad T3039 an2 (xs (xn4 + 1).toNatClampNeg) (xs (xn4 + 2).toNatClampNeg) _ h.2.2.2 f_an2 hw) f_an2 cv_L_54 ⟨by decide, by decide, rfl, rfl, by show _ ≤ 601024; omega, by show _ ≤ 7293033; omega⟩ rfl hl.1 rfl (Nat.le_of_ble_eq_true rfl) dL_law_343) (fun y3042 T3041 hw l_T3041 H locs h => ?_)
          have f_an1 := l_T3041.is f_an1
          have f_an2 := l_T3041.is f_an2
          have f_an3 := l_T3041.is f_an3
          have hle := hle.tr l_T3041
          refine lv_icmp_eq (tgt := 579) X.1 X.2.1 dL_law_346 (by decide) (fun c3043 => ?_) (fun c3043 => ?_)
          · have hw := hw.1 c3043
            exact j579 (ce + 0) (sl + 0) (by omega) (by omega) an1 an2 an3 xn4 T3041 H locs ls (lv_sub hl [0, 1, 2, 3, 4] rfl) h hle f_an1 f_an2 f_an3 hw
          · have hw := hw.2 c3043
            refine lv_iconst (v := 0) X.1 X.2.1 dL_law_349 (by decide) ?_
            exact hw.elim
        have hw := hw.2 c3038
        by_cases c3044 : y3001 = 7
        · have hw := hw.1 c3044
          refine lv_tableIn (off := 311) (tgt := 351) X.1 X.2.1 dL_law_40 (by rw [c3044]; decide) (by rw [c3044]; decide) (by rw [c3044]; decide) (by decide) ?_
          refine lv_aload_n X.1 X.2.1 dL_law_351 rfl (lv_at hl 1 rfl) ?_
          refine lv_aload_n X.1 X.2.1 dL_law_352 rfl (lv_at hl 0 rfl) ?_
          refine lv_iload X.1 X.2.1 dL_law_353 (lv_at hl 4 rfl) ?_
          refine lv_iconst (v := 1) X.1 X.2.1 dL_law_355 (by decide) ?_
          refine lv_iadd X.1 X.2.1 dL_law_356 ?_
          obtain ⟨hi, hw⟩ := hw
          refine va_sld X.1 X.2.1 hX hbl hbA h.2.2.1 hi dL_law_357 ?_
          refine lv_aload_n X.1 X.2.1 dL_law_358 rfl (lv_at hl 0 rfl) ?_
          refine lv_iload X.1 X.2.1 dL_law_359 (lv_at hl 4 rfl) ?_
          refine lv_iconst (v := 2) X.1 X.2.1 dL_law_361 (by decide) ?_
          refine lv_iadd X.1 X.2.1 dL_law_362 ?_
          obtain ⟨hi, hw⟩ := hw
          refine va_sld X.1 X.2.1 hX hbl hbA h.2.2.1 hi dL_law_363 ?_
          refine kp_calli X h (kp_runV (rm := { frames := 2, cells := 0, slots := 0, locals := 45 }) (mc := 0) (ms := 0) (rest := []) (Qc := fun A => kp_Qi D cy A Sn _) X h (c_X11_berth l D cy ad Sn an1 (xs (xn4 + 1).toNatClampNeg) (xs (xn4 + 2).toNatClampNeg) _ h.2.2.2 f_an1 hw) f_an1 cv_L_55 ⟨by decide, by decide, rfl, rfl, by show _ ≤ 601024; omega, by show _ ≤ 7293033; omega⟩ rfl hl.1 rfl (Nat.le_of_ble_eq_true rfl) dL_law_364) (fun y3046 T3045 hw l_T3045 H locs h => ?_)
          have f_an1 := l_T3045.is f_an1
          have f_an2 := l_T3045.is f_an2
          have f_an3 := l_T3045.is f_an3
          have hle := hle.tr l_T3045
          refine lv_aload_n X.1 X.2.1 dL_law_367 rfl (lv_at hl 2 rfl) ?_
          refine lv_aload_n X.1 X.2.1 dL_law_368 rfl (lv_at hl 0 rfl) ?_
          refine lv_iload X.1 X.2.1 dL_law_369 (lv_at hl 4 rfl) ?_
          refine lv_iconst (v := 1) X.1 X.2.1 dL_law_371 (by decide) ?_
          refine lv_iadd X.1 X.2.1 dL_law_372 ?_
          obtain ⟨hi, hw⟩ := hw
          refine va_sld X.1 X.2.1 hX hbl hbA h.2.2.1 hi dL_law_373 ?_
          refine lv_aload_n X.1 X.2.1 dL_law_374 rfl (lv_at hl 0 rfl) ?_
          refine lv_iload X.1 X.2.1 dL_law_375 (lv_at hl 4 rfl) ?_
          refine lv_iconst (v := 2) X.1 X.2.1 dL_law_377 (by decide) ?_
          refine lv_iadd X.1 X.2.1 dL_law_378 ?_
          obtain ⟨hi, hw⟩ := hw
          refine va_sld X.1 X.2.1 hX hbl hbA h.2.2.1 hi dL_law_379 ?_
          refine kp_calli X h (kp_runV (rm := { frames := 1, cells := 0, slots := 0, locals := 24 }) (mc := 0) (ms := 0) (rest := [.int y3046]) (Qc := fun A => kp_Qi D cy A T3045 _) X h (c_X12_berth l D cy ad T3045 an2 (xs (xn4 + 1).toNatClampNeg) (xs (xn4 + 2).toNatClampNeg) _ h.2.2.2 f_an2 hw) f_an2 cv_L_58 ⟨by decide, by decide, rfl, rfl, by show _ ≤ 601024; omega, by show _ ≤ 7293033; omega⟩ rfl hl.1 rfl (Nat.le_of_ble_eq_true rfl) dL_law_380) (fun y3048 T3047 hw l_T3047 H locs h => ?_)
          have f_an1 := l_T3047.is f_an1
          have f_an2 := l_T3047.is f_an2
          have f_an3 := l_T3047.is f_an3
          have hle := hle.tr l_T3047
          refine lv_icmp_eq (tgt := 579) X.1 X.2.1 dL_law_383 (by decide) (fun c3049 => ?_) (fun c3049 => ?_)
          · have hw := hw.1 c3049
            exact j579 (ce + 0) (sl + 0) (by omega) (by omega) an1 an2 an3 xn4 T3047 H locs ls (lv_sub hl [0, 1, 2, 3, 4] rfl) h hle f_an1 f_an2 f_an3 hw
          · have hw := hw.2 c3049
            refine lv_iconst (v := 0) X.1 X.2.1 dL_law_386 (by decide) ?_
            exact hw.elim
        have hw := hw.2 c3044
        by_cases c3050 : y3001 = 8
        · have hw := hw.1 c3050
          refine lv_tableIn (off := 348) (tgt := 388) X.1 X.2.1 dL_law_40 (by rw [c3050]; decide) (by rw [c3050]; decide) (by rw [c3050]; decide) (by decide) ?_
          refine lv_aload_n X.1 X.2.1 dL_law_388 rfl (lv_at hl 1 rfl) ?_
          refine lv_aload_n X.1 X.2.1 dL_law_389 rfl (lv_at hl 0 rfl) ?_
          refine lv_iload X.1 X.2.1 dL_law_390 (lv_at hl 4 rfl) ?_
          refine lv_iconst (v := 1) X.1 X.2.1 dL_law_392 (by decide) ?_
          refine lv_iadd X.1 X.2.1 dL_law_393 ?_
          obtain ⟨hi, hw⟩ := hw
          refine va_sld X.1 X.2.1 hX hbl hbA h.2.2.1 hi dL_law_394 ?_
          refine lv_aload_n X.1 X.2.1 dL_law_395 rfl (lv_at hl 0 rfl) ?_
          refine lv_iload X.1 X.2.1 dL_law_396 (lv_at hl 4 rfl) ?_
          refine lv_iconst (v := 2) X.1 X.2.1 dL_law_398 (by decide) ?_
          refine lv_iadd X.1 X.2.1 dL_law_399 ?_
          obtain ⟨hi, hw⟩ := hw
          refine va_sld X.1 X.2.1 hX hbl hbA h.2.2.1 hi dL_law_400 ?_
          refine lv_aload_n X.1 X.2.1 dL_law_401 rfl (lv_at hl 0 rfl) ?_
          refine lv_iload X.1 X.2.1 dL_law_402 (lv_at hl 4 rfl) ?_
          refine lv_iconst (v := 3) X.1 X.2.1 dL_law_404 (by decide) ?_
          refine lv_iadd X.1 X.2.1 dL_law_405 ?_
          obtain ⟨hi, hw⟩ := hw
          refine va_sld X.1 X.2.1 hX hbl hbA h.2.2.1 hi dL_law_406 ?_
          refine lv_aload_n X.1 X.2.1 dL_law_407 rfl (lv_at hl 0 rfl) ?_
          refine lv_iload X.1 X.2.1 dL_law_408 (lv_at hl 4 rfl) ?_
          refine lv_iconst (v := 4) X.1 X.2.1 dL_law_410 (by decide) ?_
          refine lv_iadd X.1 X.2.1 dL_law_411 ?_
          obtain ⟨hi, hw⟩ := hw
          refine va_sld X.1 X.2.1 hX hbl hbA h.2.2.1 hi dL_law_412 ?_
          refine lv_aload_n X.1 X.2.1 dL_law_413 rfl (lv_at hl 3 rfl) ?_
          refine kp_calli X h (kp_runSL (rm := { frames := 8, cells := 1, slots := 6, locals := 187 }) (mc := 1) (ms := 6) (rest := []) (Qc := fun A => kp_Qi D cy A Sn _) X Th h (c_L_run l hlt D cy ad Sn an1 (xs (xn4 + 1).toNatClampNeg) (xs (xn4 + 2).toNatClampNeg) (xs (xn4 + 3).toNatClampNeg) (xs (xn4 + 4).toNatClampNeg) an3 _ h.2.2.2 f_an1 f_an3 hw) cl2_59 ⟨by decide, by decide, rfl, rfl, by show _ ≤ 601024; omega, by show _ ≤ 7293033; omega⟩ rfl hl.1 rfl (Nat.le_of_ble_eq_true rfl) dL_law_414) (fun y3052 T3051 hw l_T3051 H locs h => ?_)
          have f_an1 := l_T3051.is f_an1
          have f_an2 := l_T3051.is f_an2
          have f_an3 := l_T3051.is f_an3
          have hle := hle.tr l_T3051
          refine W.widen (k := ce + 1) (n := sl + 6) (by omega) (by first | omega | (rw [hnf]; omega)) ?_
          refine lv_istore (lv' := [(5, .int y3052), (0, .ref b), (1, .ref an1), (2, .ref an2), (3, .ref an3), (4, .int xn4)]) X.1 X.2.1 dL_law_417 hl (by decide) rfl (fun ls hl => ?_)
          refine lv_aload_n X.1 X.2.1 dL_law_419 rfl (lv_at hl 3 rfl) ?_
          refine lv_aload_n X.1 X.2.1 dL_law_420 rfl (lv_at hl 1 rfl) ?_
          refine lv_iload X.1 X.2.1 dL_law_421 (lv_at hl 5 rfl) ?_
          refine lv_iconst (v := 1) X.1 X.2.1 dL_law_423 (by decide) ?_
          refine lv_iadd X.1 X.2.1 dL_law_424 ?_
          obtain ⟨hi, hw⟩ := hw
          refine va_sld X.1 X.2.1 hX hbl hbA h.2.2.1 hi dL_law_425 ?_
          refine lv_aload_n X.1 X.2.1 dL_law_426 rfl (lv_at hl 1 rfl) ?_
          refine lv_iload X.1 X.2.1 dL_law_427 (lv_at hl 5 rfl) ?_
          refine lv_iconst (v := 2) X.1 X.2.1 dL_law_429 (by decide) ?_
          refine lv_iadd X.1 X.2.1 dL_law_430 ?_
          obtain ⟨hi, hw⟩ := hw
          refine va_sld X.1 X.2.1 hX hbl hbA h.2.2.1 hi dL_law_431 ?_
          refine lv_aload_n X.1 X.2.1 dL_law_432 rfl (lv_at hl 1 rfl) ?_
          refine lv_iload X.1 X.2.1 dL_law_433 (lv_at hl 5 rfl) ?_
          refine lv_iconst (v := 3) X.1 X.2.1 dL_law_435 (by decide) ?_
          refine lv_iadd X.1 X.2.1 dL_law_436 ?_
          obtain ⟨hi, hw⟩ := hw
          refine va_sld X.1 X.2.1 hX hbl hbA h.2.2.1 hi dL_law_437 ?_
          refine lv_aload_n X.1 X.2.1 dL_law_438 rfl (lv_at hl 1 rfl) ?_
          refine lv_iload X.1 X.2.1 dL_law_439 (lv_at hl 5 rfl) ?_
          refine lv_iconst (v := 4) X.1 X.2.1 dL_law_441 (by decide) ?_
          refine lv_iadd X.1 X.2.1 dL_law_442 ?_
          obtain ⟨hi, hw⟩ := hw
          refine va_sld X.1 X.2.1 hX hbl hbA h.2.2.1 hi dL_law_443 ?_
          refine kp_calli X h (kp_runV (rm := { frames := 9, cells := 0, slots := 0, locals := 204 }) (mc := 0) (ms := 0) (rest := []) (Qc := fun A => kp_Qi D cy A T3051 _) X h (c_X12_run l D cy ad T3051 an2 (xs (xn4 + 1).toNatClampNeg) (xs (xn4 + 2).toNatClampNeg) (xs (xn4 + 3).toNatClampNeg) (xs (xn4 + 4).toNatClampNeg) _ h.2.2.2 f_an2 hw) f_an2 cv_L_64 ⟨by decide, by decide, rfl, rfl, by show _ ≤ 601024; omega, by show _ ≤ 7293033; omega⟩ rfl hl.1 rfl (Nat.le_of_ble_eq_true rfl) dL_law_444) (fun y3054 T3053 hw l_T3053 H locs h => ?_)
          have f_an1 := l_T3053.is f_an1
          have f_an2 := l_T3053.is f_an2
          have f_an3 := l_T3053.is f_an3
          have hle := hle.tr l_T3053
          refine lv_istore (lv' := [(6, .int y3054), (5, .int y3052), (0, .ref b), (1, .ref an1), (2, .ref an2), (3, .ref an3), (4, .int xn4)]) X.1 X.2.1 dL_law_447 hl (by decide) rfl (fun ls hl => ?_)
          refine lv_aload_n X.1 X.2.1 dL_law_449 rfl (lv_at hl 4 rfl) ?_
          refine kp_calli X h (kp_runV (rm := { frames := 0, cells := 0, slots := 0, locals := 0 }) (mc := 0) (ms := 0) (rest := []) (Qc := fun A => kp_Qi D cy A T3053 _) X h (c_X12_thrown l D cy ad T3053 an2 _ h.2.2.2 f_an2 hw) f_an2 cv_L_65 ⟨by decide, by decide, rfl, rfl, by show _ ≤ 601024; omega, by show _ ≤ 7293033; omega⟩ rfl hl.1 rfl (Nat.le_of_ble_eq_true rfl) dL_law_450) (fun y3056 T3055 hw l_T3055 H locs h => ?_)
          have f_an1 := l_T3055.is f_an1
          have f_an2 := l_T3055.is f_an2
          have f_an3 := l_T3055.is f_an3
          have hle := hle.tr l_T3055
          refine lv_iload X.1 X.2.1 dL_law_453 (lv_at hl 1 rfl) ?_
          refine lv_icmp_eq (tgt := 460) X.1 X.2.1 dL_law_455 (by decide) (fun c3059 => ?_) (fun c3059 => ?_)
          · have hw := hw.1 c3059
            refine lv_iload X.1 X.2.1 dL_law_460 (lv_at hl 1 rfl) ?_
            refine lv_if_ne (tgt := 477) X.1 X.2.1 dL_law_462 (by decide) (fun c3058 => ?_) (fun c3058 => ?_)
            · have hw := hw.1 c3058
              exact j477 (ce + 1) (sl + 6) (by omega) (by omega) an1 an2 an3 xn4 T3055 H locs ls (lv_sub hl [2, 3, 4, 5, 6] rfl) h hle f_an1 f_an2 f_an3 hw
            · have hw := hw.2 c3058
              refine lv_aload_n X.1 X.2.1 dL_law_465 rfl (lv_at hl 5 rfl) ?_
              refine lv_iconst (v := 0) X.1 X.2.1 dL_law_466 (by decide) ?_
              obtain ⟨hi, hw⟩ := hw
              refine kp_lald X h f_an3 hi dL_law_467 ?_
              refine lv_iload X.1 X.2.1 dL_law_468 (lv_at hl 0 rfl) ?_
              refine lv_i2l X.1 X.2.1 dL_law_470 rfl ?_
              refine W.lcmp X.1 X.2.1 dL_law_471 ?_
              refine lv_if_eq (tgt := 477) X.1 X.2.1 dL_law_472 (by decide) (fun c3057 => ?_) (fun c3057 => ?_)
              · have hw := hw.1 c3057
                exact j477 (ce + 1) (sl + 6) (by omega) (by omega) an1 an2 an3 xn4 T3055 H locs ls (lv_sub hl [2, 3, 4, 5, 6] rfl) h hle f_an1 f_an2 f_an3 hw
              · have hw := hw.2 c3057
                refine lv_iconst (v := 0) X.1 X.2.1 dL_law_475 (by decide) ?_
                exact hw.elim
          · have hw := hw.2 c3059
            refine lv_iconst (v := 0) X.1 X.2.1 dL_law_458 (by decide) ?_
            exact hw.elim
        have hw := hw.2 c3050
        by_cases c3060 : y3001 = 9
        · have hw := hw.1 c3060
          refine lv_tableIn (off := 440) (tgt := 480) X.1 X.2.1 dL_law_40 (by rw [c3060]; decide) (by rw [c3060]; decide) (by rw [c3060]; decide) (by decide) ?_
          refine lv_aload_n X.1 X.2.1 dL_law_480 rfl (lv_at hl 1 rfl) ?_
          refine lv_aload_n X.1 X.2.1 dL_law_481 rfl (lv_at hl 0 rfl) ?_
          refine lv_iload X.1 X.2.1 dL_law_482 (lv_at hl 4 rfl) ?_
          refine lv_iconst (v := 1) X.1 X.2.1 dL_law_484 (by decide) ?_
          refine lv_iadd X.1 X.2.1 dL_law_485 ?_
          obtain ⟨hi, hw⟩ := hw
          refine va_sld X.1 X.2.1 hX hbl hbA h.2.2.1 hi dL_law_486 ?_
          refine kp_calli X h (kp_runV (rm := { frames := 1, cells := 0, slots := 0, locals := 21 }) (mc := 0) (ms := 0) (rest := []) (Qc := fun A => kp_Qi D cy A Sn _) X h (c_X11_told l D cy ad Sn an1 (xs (xn4 + 1).toNatClampNeg) _ h.2.2.2 f_an1 hw) f_an1 cv_L_68 ⟨by decide, by decide, rfl, rfl, by show _ ≤ 601024; omega, by show _ ≤ 7293033; omega⟩ rfl hl.1 rfl (Nat.le_of_ble_eq_true rfl) dL_law_487) (fun y3062 T3061 hw l_T3061 H locs h => ?_)
          have f_an1 := l_T3061.is f_an1
          have f_an2 := l_T3061.is f_an2
          have f_an3 := l_T3061.is f_an3
          have hle := hle.tr l_T3061
          refine lv_aload_n X.1 X.2.1 dL_law_490 rfl (lv_at hl 2 rfl) ?_
          refine lv_aload_n X.1 X.2.1 dL_law_491 rfl (lv_at hl 0 rfl) ?_
          refine lv_iload X.1 X.2.1 dL_law_492 (lv_at hl 4 rfl) ?_
          refine lv_iconst (v := 1) X.1 X.2.1 dL_law_494 (by decide) ?_
          refine lv_iadd X.1 X.2.1 dL_law_495 ?_
          obtain ⟨hi, hw⟩ := hw
          refine va_sld X.1 X.2.1 hX hbl hbA h.2.2.1 hi dL_law_496 ?_
          refine kp_calli X h (kp_runV (rm := { frames := 0, cells := 0, slots := 0, locals := 0 }) (mc := 0) (ms := 0) (rest := [.int y3062]) (Qc := fun A => kp_Qi D cy A T3061 _) X h (c_X12_told l D cy ad T3061 an2 (xs (xn4 + 1).toNatClampNeg) _ h.2.2.2 f_an2 hw) f_an2 cv_L_71 ⟨by decide, by decide, rfl, rfl, by show _ ≤ 601024; omega, by show _ ≤ 7293033; omega⟩ rfl hl.1 rfl (Nat.le_of_ble_eq_true rfl) dL_law_497) (fun y3064 T3063 hw l_T3063 H locs h => ?_)
          have f_an1 := l_T3063.is f_an1
          have f_an2 := l_T3063.is f_an2
          have f_an3 := l_T3063.is f_an3
          have hle := hle.tr l_T3063
          refine lv_icmp_eq (tgt := 579) X.1 X.2.1 dL_law_500 (by decide) (fun c3065 => ?_) (fun c3065 => ?_)
          · have hw := hw.1 c3065
            exact j579 (ce + 0) (sl + 0) (by omega) (by omega) an1 an2 an3 xn4 T3063 H locs ls (lv_sub hl [0, 1, 2, 3, 4] rfl) h hle f_an1 f_an2 f_an3 hw
          · have hw := hw.2 c3065
            refine lv_iconst (v := 0) X.1 X.2.1 dL_law_503 (by decide) ?_
            exact hw.elim
        have hw := hw.2 c3060
        by_cases c3066 : y3001 = 10
        · have hw := hw.1 c3066
          refine lv_tableIn (off := 465) (tgt := 505) X.1 X.2.1 dL_law_40 (by rw [c3066]; decide) (by rw [c3066]; decide) (by rw [c3066]; decide) (by decide) ?_
          refine lv_aload_n X.1 X.2.1 dL_law_505 rfl (lv_at hl 1 rfl) ?_
          refine lv_aload_n X.1 X.2.1 dL_law_506 rfl (lv_at hl 0 rfl) ?_
          refine lv_iload X.1 X.2.1 dL_law_507 (lv_at hl 4 rfl) ?_
          refine lv_iconst (v := 1) X.1 X.2.1 dL_law_509 (by decide) ?_
          refine lv_iadd X.1 X.2.1 dL_law_510 ?_
          obtain ⟨hi, hw⟩ := hw
          refine va_sld X.1 X.2.1 hX hbl hbA h.2.2.1 hi dL_law_511 ?_
          refine lv_aload_n X.1 X.2.1 dL_law_512 rfl (lv_at hl 0 rfl) ?_
          refine lv_iload X.1 X.2.1 dL_law_513 (lv_at hl 4 rfl) ?_
          refine lv_iconst (v := 2) X.1 X.2.1 dL_law_515 (by decide) ?_
          refine lv_iadd X.1 X.2.1 dL_law_516 ?_
          obtain ⟨hi, hw⟩ := hw
          refine va_sld X.1 X.2.1 hX hbl hbA h.2.2.1 hi dL_law_517 ?_
          refine kp_calli X h (kp_runV (rm := { frames := 1, cells := 0, slots := 0, locals := 22 }) (mc := 0) (ms := 0) (rest := []) (Qc := fun A => kp_Qi D cy A Sn _) X h (c_X11_log l D cy ad Sn an1 (xs (xn4 + 1).toNatClampNeg) (xs (xn4 + 2).toNatClampNeg) _ h.2.2.2 f_an1 hw) f_an1 cv_L_72 ⟨by decide, by decide, rfl, rfl, by show _ ≤ 601024; omega, by show _ ≤ 7293033; omega⟩ rfl hl.1 rfl (Nat.le_of_ble_eq_true rfl) dL_law_518) (fun y3068 T3067 hw l_T3067 H locs h => ?_)
          have f_an1 := l_T3067.is f_an1
          have f_an2 := l_T3067.is f_an2
          have f_an3 := l_T3067.is f_an3
          have hle := hle.tr l_T3067
          refine lv_aload_n X.1 X.2.1 dL_law_521 rfl (lv_at hl 2 rfl) ?_
          refine lv_aload_n X.1 X.2.1 dL_law_522 rfl (lv_at hl 0 rfl) ?_
          refine lv_iload X.1 X.2.1 dL_law_523 (lv_at hl 4 rfl) ?_
          refine lv_iconst (v := 1) X.1 X.2.1 dL_law_525 (by decide) ?_
          refine lv_iadd X.1 X.2.1 dL_law_526 ?_
          obtain ⟨hi, hw⟩ := hw
          refine va_sld X.1 X.2.1 hX hbl hbA h.2.2.1 hi dL_law_527 ?_
          refine lv_aload_n X.1 X.2.1 dL_law_528 rfl (lv_at hl 0 rfl) ?_
          refine lv_iload X.1 X.2.1 dL_law_529 (lv_at hl 4 rfl) ?_
          refine lv_iconst (v := 2) X.1 X.2.1 dL_law_531 (by decide) ?_
          refine lv_iadd X.1 X.2.1 dL_law_532 ?_
          obtain ⟨hi, hw⟩ := hw
          refine va_sld X.1 X.2.1 hX hbl hbA h.2.2.1 hi dL_law_533 ?_
          refine kp_calli X h (kp_runV (rm := { frames := 1, cells := 0, slots := 0, locals := 22 }) (mc := 0) (ms := 0) (rest := [.int y3068]) (Qc := fun A => kp_Qi D cy A T3067 _) X h (c_X12_log l D cy ad T3067 an2 (xs (xn4 + 1).toNatClampNeg) (xs (xn4 + 2).toNatClampNeg) _ h.2.2.2 f_an2 hw) f_an2 cv_L_75 ⟨by decide, by decide, rfl, rfl, by show _ ≤ 601024; omega, by show _ ≤ 7293033; omega⟩ rfl hl.1 rfl (Nat.le_of_ble_eq_true rfl) dL_law_534) (fun y3070 T3069 hw l_T3069 H locs h => ?_)
          have f_an1 := l_T3069.is f_an1
          have f_an2 := l_T3069.is f_an2
          have f_an3 := l_T3069.is f_an3
          have hle := hle.tr l_T3069
          refine lv_icmp_eq (tgt := 579) X.1 X.2.1 dL_law_537 (by decide) (fun c3071 => ?_) (fun c3071 => ?_)
          · have hw := hw.1 c3071
            exact j579 (ce + 0) (sl + 0) (by omega) (by omega) an1 an2 an3 xn4 T3069 H locs ls (lv_sub hl [0, 1, 2, 3, 4] rfl) h hle f_an1 f_an2 f_an3 hw
          · have hw := hw.2 c3071
            refine lv_iconst (v := 0) X.1 X.2.1 dL_law_540 (by decide) ?_
            exact hw.elim
        have hw := hw.2 c3066
        by_cases c3072 : y3001 = 11
        · have hw := hw.1 c3072
          refine lv_tableIn (off := 502) (tgt := 542) X.1 X.2.1 dL_law_40 (by rw [c3072]; decide) (by rw [c3072]; decide) (by rw [c3072]; decide) (by decide) ?_
          refine lv_aload_n X.1 X.2.1 dL_law_542 rfl (lv_at hl 1 rfl) ?_
          refine lv_aload_n X.1 X.2.1 dL_law_543 rfl (lv_at hl 0 rfl) ?_
          refine lv_iload X.1 X.2.1 dL_law_544 (lv_at hl 4 rfl) ?_
          refine lv_iconst (v := 1) X.1 X.2.1 dL_law_546 (by decide) ?_
          refine lv_iadd X.1 X.2.1 dL_law_547 ?_
          obtain ⟨hi, hw⟩ := hw
          refine va_sld X.1 X.2.1 hX hbl hbA h.2.2.1 hi dL_law_548 ?_
          refine lv_aload_n X.1 X.2.1 dL_law_549 rfl (lv_at hl 0 rfl) ?_
          refine lv_iload X.1 X.2.1 dL_law_550 (lv_at hl 4 rfl) ?_
          refine lv_iconst (v := 2) X.1 X.2.1 dL_law_552 (by decide) ?_
          refine lv_iadd X.1 X.2.1 dL_law_553 ?_
          obtain ⟨hi, hw⟩ := hw
          refine va_sld X.1 X.2.1 hX hbl hbA h.2.2.1 hi dL_law_554 ?_
          refine kp_calli X h (kp_runV (rm := { frames := 3, cells := 0, slots := 0, locals := 65 }) (mc := 0) (ms := 0) (rest := []) (Qc := fun A => kp_Qi D cy A Sn _) X h (c_X11_look l D cy ad Sn an1 (xs (xn4 + 1).toNatClampNeg) (xs (xn4 + 2).toNatClampNeg) _ h.2.2.2 f_an1 hw) f_an1 cv_L_76 ⟨by decide, by decide, rfl, rfl, by show _ ≤ 601024; omega, by show _ ≤ 7293033; omega⟩ rfl hl.1 rfl (Nat.le_of_ble_eq_true rfl) dL_law_555) (fun y3074 T3073 hw l_T3073 H locs h => ?_)
          have f_an1 := l_T3073.is f_an1
          have f_an2 := l_T3073.is f_an2
          have f_an3 := l_T3073.is f_an3
          have hle := hle.tr l_T3073
          refine lv_aload_n X.1 X.2.1 dL_law_558 rfl (lv_at hl 2 rfl) ?_
          refine lv_aload_n X.1 X.2.1 dL_law_559 rfl (lv_at hl 0 rfl) ?_
          refine lv_iload X.1 X.2.1 dL_law_560 (lv_at hl 4 rfl) ?_
          refine lv_iconst (v := 1) X.1 X.2.1 dL_law_562 (by decide) ?_
          refine lv_iadd X.1 X.2.1 dL_law_563 ?_
          obtain ⟨hi, hw⟩ := hw
          refine va_sld X.1 X.2.1 hX hbl hbA h.2.2.1 hi dL_law_564 ?_
          refine lv_aload_n X.1 X.2.1 dL_law_565 rfl (lv_at hl 0 rfl) ?_
          refine lv_iload X.1 X.2.1 dL_law_566 (lv_at hl 4 rfl) ?_
          refine lv_iconst (v := 2) X.1 X.2.1 dL_law_568 (by decide) ?_
          refine lv_iadd X.1 X.2.1 dL_law_569 ?_
          obtain ⟨hi, hw⟩ := hw
          refine va_sld X.1 X.2.1 hX hbl hbA h.2.2.1 hi dL_law_570 ?_
          refine kp_calli X h (kp_runV (rm := { frames := 1, cells := 0, slots := 0, locals := 22 }) (mc := 0) (ms := 0) (rest := [.int y3074]) (Qc := fun A => kp_Qi D cy A T3073 _) X h (c_X12_look l D cy ad T3073 an2 (xs (xn4 + 1).toNatClampNeg) (xs (xn4 + 2).toNatClampNeg) _ h.2.2.2 f_an2 hw) f_an2 cv_L_79 ⟨by decide, by decide, rfl, rfl, by show _ ≤ 601024; omega, by show _ ≤ 7293033; omega⟩ rfl hl.1 rfl (Nat.le_of_ble_eq_true rfl) dL_law_571) (fun y3076 T3075 hw l_T3075 H locs h => ?_)
          have f_an1 := l_T3075.is f_an1
          have f_an2 := l_T3075.is f_an2
          have f_an3 := l_T3075.is f_an3
          have hle := hle.tr l_T3075
          refine lv_icmp_eq (tgt := 579) X.1 X.2.1 dL_law_574 (by decide) (fun c3077 => ?_) (fun c3077 => ?_)
          · have hw := hw.1 c3077
            exact j579 (ce + 0) (sl + 0) (by omega) (by omega) an1 an2 an3 xn4 T3075 H locs ls (lv_sub hl [0, 1, 2, 3, 4] rfl) h hle f_an1 f_an2 f_an3 hw
          · have hw := hw.2 c3077
            refine lv_iconst (v := 0) X.1 X.2.1 dL_law_577 (by decide) ?_
            exact hw.elim
        have hw := hw.2 c3072
        have t_c3002 := lv_neT (a := 0) c3002 (by decide)
        have t_c3008 := lv_neT (a := 1) c3008 (by decide)
        have t_c3014 := lv_neT (a := 2) c3014 (by decide)
        have t_c3020 := lv_neT (a := 3) c3020 (by decide)
        have t_c3026 := lv_neT (a := 4) c3026 (by decide)
        have t_c3032 := lv_neT (a := 5) c3032 (by decide)
        have t_c3038 := lv_neT (a := 6) c3038 (by decide)
        have t_c3044 := lv_neT (a := 7) c3044 (by decide)
        have t_c3050 := lv_neT (a := 8) c3050 (by decide)
        have t_c3060 := lv_neT (a := 9) c3060 (by decide)
        have t_c3066 := lv_neT (a := 10) c3066 (by decide)
        have t_c3072 := lv_neT (a := 11) c3072 (by decide)
        refine lv_tableOut (tgt := 579) X.1 X.2.1 dL_law_40 (by omega) (by decide) ?_
        exact j579 (ce + 0) (sl + 0) (by omega) (by omega) an1 an2 an3 xn4 Sn H locs ls (lv_sub hl [0, 1, 2, 3, 4] rfl) h hle f_an1 f_an2 f_an3 hw
  unfold wL_law at hw
  refine kp_newO X h nw_L_8 (by decide) (by decide) dL_law_0 (fun b1 T2 n_b1 e_T2 l_T2 f_b1 H h => ?_)
  have hw := hw b1 T2 n_b1 e_T2
  have hle := hle.tr l_T2
  refine W.widen (k := 1) (n := 9) (by decide) (by decide) ?_
  refine lv_dup X.1 X.2.1 dL_law_3 rfl ?_
  refine kp_callv X h (kp_runK (rm := { frames := 6, cells := 407, slots := 15557, locals := 133 }) (mc := 407) (ms := 15557) (rest := [.ref b1]) (Qc := fun A => kp_Qv D cy A T2 _) (hN := hN) X h (c_X11_init l D cy ad T2 b1 _ h.2.2.2 f_b1 hw) ci_L_17 ⟨by decide, by decide, rfl, rfl, by decide, by decide⟩ rfl hl.1 rfl (Nat.le_of_ble_eq_true rfl) dL_law_4) (fun T3 hw l_T3 H locs h => ?_)
  have f_b1 := l_T3.is f_b1
  have hle := hle.tr l_T3
  refine W.widen (k := 408) (n := 15566) (by decide) (by decide) ?_
  refine lv_astore_n (lv' := [(1, .ref b1), (0, .ref b)]) X.1 X.2.1 dL_law_7 rfl hl (by decide) rfl (fun ls hl => ?_)
  refine kp_newO X h nw_L_18 (by decide) (by decide) dL_law_8 (fun b4 T5 n_b4 e_T5 l_T5 f_b4 H h => ?_)
  have hw := hw b4 T5 n_b4 e_T5
  have f_b1 := l_T5.is f_b1
  have hle := hle.tr l_T5
  refine W.widen (k := 409) (n := 15691) (by decide) (by decide) ?_
  refine lv_dup X.1 X.2.1 dL_law_11 rfl ?_
  refine kp_callv X h (kp_runI (rm := { frames := 5, cells := 71, slots := 64622, locals := 108 }) (mc := 71) (ms := 64622) (rest := [.ref b4]) (Qc := fun A => kp_Qv D cy A T5 _) X h (c_X12_init l D cy ad T5 b4 _ h.2.2.2 f_b4 hw) ci_L_20 ⟨by decide, by decide, rfl, rfl, by decide, by decide⟩ rfl hl.1 rfl (Nat.le_of_ble_eq_true rfl) dL_law_12) (fun T6 hw l_T6 H locs h => ?_)
  have f_b1 := l_T6.is f_b1
  have f_b4 := l_T6.is f_b4
  have hle := hle.tr l_T6
  refine W.widen (k := 480) (n := 80313) (by decide) (by decide) ?_
  refine lv_astore_n (lv' := [(2, .ref b4), (1, .ref b1), (0, .ref b)]) X.1 X.2.1 dL_law_15 rfl hl (by decide) rfl (fun ls hl => ?_)
  refine lv_iconst (v := 1) X.1 X.2.1 dL_law_16 (by decide) ?_
  refine kp_newl (n := 1) X h ac_15 (by decide) (by decide) (by decide) (by decide) (by decide) dL_law_17 (fun b7 T8 n_b7 e_T8 l_T8 f_b7 H h => ?_)
  have hw := hw b7 T8 n_b7 e_T8
  have f_b1 := l_T8.is f_b1
  have f_b4 := l_T8.is f_b4
  have hle := hle.tr l_T8
  refine W.widen (k := 481) (n := 80314) (by decide) (by decide) ?_
  refine lv_astore_n (lv' := [(3, .ref b7), (2, .ref b4), (1, .ref b1), (0, .ref b)]) X.1 X.2.1 dL_law_19 rfl hl (by decide) rfl (fun ls hl => ?_)
  refine lv_iconst (v := 0) X.1 X.2.1 dL_law_20 (by decide) ?_
  refine lv_istore (lv' := [(4, .int 0), (3, .ref b7), (2, .ref b4), (1, .ref b1), (0, .ref b)]) X.1 X.2.1 dL_law_21 hl (by decide) rfl (fun ls hl => ?_)
  exact L23 513 481 80314 (by omega) (by omega) b1 b4 b7 0 T8 _ _ ls (lv_sub hl [4, 3, 2, 1, 0] rfl) h hle f_b1 f_b4 f_b7 hw
