section
variable {g : rd_G} {i n p q d k s l b e e' : Nat} {C : Nat → Int32} {r : Int32} {R : Nat → Nat → Int32} {K : rd_K} {A : rd_A} {v w : q_V} {T : co_T} {XL : Int32 → Int32 → Int32 → Prop}
variable {B : q_V → Option (Int32 × q_V)} {B' : q_V → Option (Int64 × q_V)}
set_option maxHeartbeats 200000 in
theorem y_emit2 {f p x y z : Int32} {Bd : Nat} (hB : Bd < 4000) (h : xr g f p Bd w) : ∃ q w', fX12_emit x y z w = some (nI q, w') ∧ q < 4000 ∧ xr g f p (Bd + 1) w' := by
  obtain ⟨qq, hq1, hq2⟩ := h.2.2.2.2
  obtain ⟨a, w3, e3, h3⟩ := y_emit (x := x) (y := y) (z := z) hB h
  have ea : a = nI qq := by
    have := e3
    unfold fX12_emit at this
    simp only [hq2, q_i_sa, q_lt_s, ni_neg (show qq < 2147483648 by omega), eq_false (show ¬ 4000 ≤ qq by omega), or_self, ↓reduceIte, ni_clamp (show qq < 2147483648 by omega), ni_add1, q_i_at, ni_pred] at this
    exact ((Prod.mk.inj (Option.some.inj this)).1).symm
  exact ⟨qq, w3, by rw [e3, ea], by omega, h3⟩
set_option maxHeartbeats 200000 in
theorem in4 {a : Nat} (h : a < 4000) : ¬ (nI a < 0 ∨ 4000 ≤ (nI a).toNatClampNeg) := ni_nin h (by omega)
set_option maxHeartbeats 200000 in
theorem wy_t0 {a r1 : Int32} (h : a &&& 1 = 0 ↔ r1 = 0) : wy l (if a &&& 1 = 0 then 0 else 4) (if r1 = 0 then (0 : Int64) else 0 ||| 4) := by
  have := wy_tr (l := l) (W := 0) (W' := 0) wy_k.1 h
  rw [show (0 : Int32) ||| (if a &&& 1 = 0 then 0 else 4) = (if a &&& 1 = 0 then 0 else 4) from Int32.zero_or] at this
  exact this
set_option maxHeartbeats 200000 in
theorem nat_r {a r1 : Int32} (h : a = 0 ∨ a = 1 ∨ a = 2) (h2 : r1 = (if a = 1 then 1 else 0)) : a &&& 1 = 0 ↔ r1 = 0 := by
  rw [h2]
  rcases h with ca | ca | ca <;> (rw [ca]; decide)
set_option maxHeartbeats 200000 in
/-- if -/
theorem t_if (ok : rd_ok g) (hn : 1 ≤ n) (hn2 : n ≤ 14) (hB : BS g n B B') (hxB : ∀ f p l v, xc g f p l v → cG g f p l (B v)) (hyB : ∀ f p Bd w, xr g f p Bd w → rG g f p Bd (B' w)) (hc : tkc g i ≠ 261 ∧ tkc g i ≠ 262 ∧ tkc g i ≠ 300) : TS g n i (fX8_ifElse B) (fX12_choice B') := by
  intro p C q d R K k s l b A e e' v w h z o hln
  obtain ⟨z, zd, zs⟩ := z
  have zp := z0_p ok z
  have hL := ok.1
  obtain ⟨v1, a1, s1⟩ := c_adv ok h hc.1 hc.2.1
  have s2 := r_now ok s1 hc.1 hc.2.1
  have him := (St_im s2).1
  have t0 := tka_lt ok (show i < i + 1 by omega) him
  have J := US_E ok hn2 (i + 1) p C q d 0 R K k s l b A e e' v1 _ s2 (z0_s ok z (by omega) him) (ov_m ok o (by omega) him (Nat.le_refl _) (Nat.le_refl _)) (Or.inl rfl)
  have tcA : ∀ f p v (y10 y12 y7 : Int32), xc g f p l v → cG g f p l (if q_i v 1805 = 304 then q_bv (fX9_advance v) (fun T14 => q_bd (fX0_add_ 22 0 T14) (fun y17 T16 => q_bd (fX0_size T16) (fun y20 T19 => q_bv (fX0_set (y10 + 1) y20 T19) (fun T21 => q_bd (B T21) (fun y23 T22 => q_lt (y12 ||| y23) (fun y24 => q_bd (fX0_size T22) (fun y27 T26 => q_bv (fX0_set (y17 + 1) y27 T26) (fun T28 => some (y24 ||| y7, T28))))))))) else q_bd (fX0_size v) (fun y31 T30 => q_bv (fX0_set (y10 + 1) y31 T30) (fun T32 => some (y12 ||| 1 ||| y7, T32)))) := by
    intro f p v y10 y12 y7 h
    rw [if_neg (by rw [h.2.1]; decide)]
    exact cG_d (x_size h) (fun a v h => cG_v (x_set ok h) (fun v h => cG_s h))
  have tcB : ∀ f p v (y17 y24 y7 : Int32), xc g f p l v → cG g f p l (q_bd (fX0_size v) (fun y27 T26 => q_bv (fX0_set (y17 + 1) y27 T26) (fun T28 => some (y24 ||| y7, T28)))) := fun f p v y17 y24 y7 h => cG_d (x_size h) (fun a v h => cG_v (x_set ok h) (fun v h => cG_s h))
  have trA : ∀ f p Bd w (y6 : Nat) (z9 : Int64), y6 < 4000 → Bd ≤ 3300 + 20 * (15 - n) → xr g f p Bd w → rG g f p (3300 + 20 * (15 - n)) (q_bd (fX12_skip 14 w) (fun y11 T10 => if y11 = 0 then q_lt (z9 ||| 1) (fun z12 => if nI y6 < 0 ∨ 4000 ≤ (nI y6).toNatClampNeg then none else q_lt (q_sa T10 2415 (upd (q_a T10 2415) (nI y6).toNatClampNeg (q_i T10 2417))) (fun T14 => fX12_choice_b100 B' z12 T14)) else q_bd (fX12_emit 41 0 0 T10) (fun y16 T15 => if nI y6 < 0 ∨ 4000 ≤ (nI y6).toNatClampNeg then none else q_lt (q_sa T15 2415 (upd (q_a T15 2415) (nI y6).toNatClampNeg (q_i T15 2417))) (fun T18 => q_bd (B' T18) (fun z20 T19 => q_lt (z9 ||| z20) (fun z21 => if y16 < 0 ∨ 4000 ≤ y16.toNatClampNeg then none else q_lt (q_sa T19 2415 (upd (q_a T19 2415) y16.toNatClampNeg (q_i T19 2417))) (fun T23 => fX12_choice_b100 B' z21 T23))))))) := by
    intro f p Bd w y6 z9 h1 h2 h
    obtain ⟨w', e1, h'⟩ := y_skip (x := 14) h
    rw [e1, q_bd_s, if_pos rfl, q_lt_s, if_neg (in4 h1)]
    exact rG_s (xr_a (xr_le h' h2) (by omega))
  unfold fX8_ifElse fX12_choice
  rw [a1, q_bv_s, q_lt_s]
  refine jn_dv J (fun f p a v h => ?_) (fun f p w h => ?_) ?_
  · rw [tr_of, q_bd_s]
    exact cG_d (x_add2 ok h) (fun a v h => cG_d (hxB _ _ _ _ h) (fun a v h => tcA _ _ _ _ _ _ h))
  · refine rG_d (y_risky h) (fun a w h => ?_)
    obtain ⟨y6, w3, e3, h3, h4⟩ := y_emit2 (x := 42) (y := 0) (z := 0) (by omega) h
    rw [e3, q_bd_s]
    exact rG_d (hyB _ _ _ _ h4) (fun a w h => trA _ _ _ w y6 _ h3 (by omega) h)
  · intro a v3 w3 E
    obtain ⟨i1, p1, C1, q1, r1, R1, K1, e1, e1', E⟩ := E
    obtain ⟨S, ⟨E1, E2, E3, E4, E5, E6⟩, ⟨E7, E8, E9, t1, E10⟩, E11, ⟨E12, E13, E14⟩, ⟨E15, E15'⟩, E16⟩ := E
    have hi1 := (St_im S).1
    have ta1 := tka_L ok i1
    obtain ⟨z1, z2, z3⟩ := z
    have hnr := nat_r E12 E14
    obtain ⟨v4, a4, s4⟩ := c_add2 (x := 23) (y := 0) ok S (by omega)
    obtain ⟨w5, b5, s5⟩ := r_emit (o := 42) (a := 0) (c := 0) s4 (by omega)
    have JB := hB i1 (p1 + 2) _ (q1 + 1) d r1 _ K1 k s l b A e1 e1' v4 w5 s5 ⟨⟨by omega, by omega, by omega⟩, by omega, by omega⟩ (ov_m ok o (by omega) hi1 E15 E15') ⟨by have := hln.1; omega, LB_m hln.2 rfl (by omega) (by omega)⟩
    have hq1 : q1 < 4000 := by omega
    have hcl : (nI q1).toNatClampNeg = q1 := ni_clamp (by omega)
    rw [tr_of, q_bd_s, a4, q_bd_s, r_risky S.2.2.2.2.1.1.2.2.2.2.2.2, q_bd_s, b5, q_bd_s]
    refine jn_dd JB (fun f p a v h => tcA _ _ _ _ _ _ h) (fun f p a w h => trA _ _ _ w q1 _ hq1 (by omega) h) ?_
    intro o2 v6 z6 w6 X
    obtain ⟨i2, p2, C2, q2, d2, r2, R2, K2, s2', A2, e2, e2', Y, ⟨F0, ⟨F1, F2, F3, F4, F5, F6, F7, F8, F9, F10, _⟩, ⟨G1, G2, G3, t2, G4⟩, F11, ⟨F12, F13, F14⟩, ⟨F15, F15'⟩, F16, F17, F18⟩, cB, n14, H1, H2, H3, H4, H5⟩ := X
    have hi2 := (St_im F0).1
    have ta2 := tka_L ok i2
    rw [c_kind F0, q_lt_s]
    by_cases c304 : tkc g i2 = 304
    · obtain ⟨v7, a7, s7⟩ := c_adv ok F0 (by rw [c304]; decide) (by rw [c304]; decide)
      obtain ⟨w7, b7, s8⟩ := r_skip (c := 304) (x := 14) ok s7 rfl (by decide) c304 (by decide) (by decide)
      have hi3' := (St_im s8).1
      have tx := tka_lt ok (show i2 < i2 + 1 by omega) hi3'
      have tx2 := tka_L ok (i2 + 1)
      obtain ⟨v9, a9, s9⟩ := c_add2 (x := 22) (y := 0) ok s8 (by omega)
      obtain ⟨v10, a10, s10⟩ := c_set (a := p1 + 1) (y := nI (p2 + 2)) ok s9 (by omega)
      obtain ⟨w11, b11, s11⟩ := r_emit (o := 41) (a := 0) (c := 0) s10 (by omega)
      have s12 := r_set (j := 1) (a := q1) (y := nI (q2 + 1)) s11 (by omega)
      have JB2 := hB (i2 + 1) (p2 + 2) _ (q2 + 1) d2 r2 _ K2 k s2' l b A2 e2 e2' v10 _ s12 ⟨⟨by omega, by omega, by omega⟩, by omega, by omega⟩ (ov_m ok F16 (by omega) hi3' (Nat.le_refl _) (Nat.le_refl _)) ⟨by have := hln.1; omega, LB_m hln.2 F12 (by omega) (by omega)⟩
      have hq2 : q2 < 4000 := by omega
      rw [if_pos c304, a7, q_bv_s, a9, q_bd_s, c_size s9, q_bd_s, ni_add1, a10, q_bv_s, b7, q_bd_s, if_neg (show ¬ (1 : Int32) = 0 by decide), b11, q_bd_s, if_neg (in4 hq1), hcl, q_lt_s, s11.2.2.2.2.1.1.2.2.2.1]
      refine jn_dd JB2 (fun f p a v h => tcB _ _ _ _ _ _ h) (fun f p a w h => ?_) ?_
      · rw [q_lt_s, if_neg (in4 hq2)]
        exact rG_s (xr_a (xr_le h (by omega)) (by omega))
      · intro o3 v13 z13 w13 X2
        obtain ⟨i3, p3, C3, q3, d3, r3, R3, K3, s3', A3, e3, e3', Y3, ⟨L0, ⟨L1, L2, L3, L4, L5, L6, L7, L8, L9, L10, _⟩, ⟨M1, M2, M3, t3, M4⟩, L11, ⟨L12, L13, L14⟩, ⟨L15, L15'⟩, L16, L17, L18⟩, cB2, _, N1, N2, N3, N4, N5⟩ := X2
        have hi3 := (St_im L0).1
        have ta3 := tka_L ok i3
        obtain ⟨v14, a14, s14⟩ := c_set (a := p2 + 1) (y := nI p3) ok L0 (by omega)
        have s15 := r_set (j := 1) (a := q2) (y := nI q3) s14 (by omega)
        unfold fX12_choice_b100
        rw [q_lt_s, c_size L0, q_bd_s, ni_add1, a14, q_bv_s, q_lt_s, if_neg (in4 hq2), ni_clamp (by omega), q_lt_s, L0.2.2.2.2.1.1.2.2.2.1]
        have BD : i < i3 ∧ p3 + 2 * tka g i ≤ p + 2 * tka g i3 ∧ q3 + tka g i ≤ q + tka g i3 ∧ 3 * K3.length + tka g i ≤ 3 * K.length + tka g i3 ∧ 5 * d3 + tka g i ≤ 5 * d + tka g i3 ∧ 2 * s3' + tka g i ≤ 2 * s + tka g i3 ∧ p ≤ p3 ∧ q ≤ q3 ∧ d ≤ d3 ∧ s ≤ s3' ∧ k ≤ k := ⟨by omega, by omega, by omega, by omega, by omega, by omega, by omega, by omega, by omega, by omega, by omega⟩
        have hq3 : q3 < 4000 := by omega
        have BD2 : p3 + 2 * tka g i + 2 ≤ p + 2 * tka g i3 ∧ q3 + tka g i + 1 ≤ q + tka g i3 := ⟨by omega, by omega⟩
        clear E2 E3 E4 F2 F3 F4 F5 F6 H1 H2 H3 H4 H5 L2 L3 L4 L5 L6 N1 N2 N3 N4 N5 ta1 ta2 ta3 tx tx2 z1 z2 z3 zd zs zp t0
        have kC : ∀ x, x < p2 → x ≠ p1 + 1 → upd C3 (p2 + 1) (nI p3) x = C2 x := fun x hx hx2 => by rw [upd_ne (by omega), M1 x (by omega), upd_ne hx2, upd_ne (by omega), upd_ne (by omega)]
        have kR : ∀ j x, j < 3 → x < q2 → (j ≠ 1 ∨ x ≠ q1) → rO R3 1 q2 (nI q3) j x = R2 j x := fun j x hj hx hx2 => by rw [rO_x (by omega), M2 j x hj (by omega), rO_x hx2, rE_x (by omega)]
        have kD : ∀ j x, 3 ≤ j → x < d2 → rO R3 1 q2 (nI q3) j x = R2 j x := fun j x hj hx => by rw [rO_x (by omega), M3 j x hj (by omega), rO_x (by omega), rE_j hj]
        refine jn_qq ⟨i3, p3, _, q3, d3, r3, _, K3, k, s3', A3, e3, e3', Y3 ++ Y, ⟨s15, BD, ⟨fun x hx => by rw [kC x (by omega) (by omega), G1 x (by omega), upd_ne (by omega), upd_ne (by omega)]; exact E7 x hx, fun j x hj hx => by rw [kR j x hj (by omega) (by omega), G2 j x hj (by omega), rE_x (by omega)]; exact E8 j x hj hx, fun j x hj hx => by rw [kD j x hj (by omega), G3 j x hj (by omega), rE_j hj, E9 j hj], t3 ++ (t2 ++ t1), by rw [M4, G4, E10]; simp only [List.append_assoc]⟩, fun u h1 h2 => ?_, ⟨L12.trans F12, ?_, fun q => L14 (F14 q)⟩, ⟨by omega, by omega⟩, L16, fun x h1 h2 => ?_, fun T XL x1 x2 x3 x4 => ?_⟩, BD2⟩
        · by_cases c1 : u = i
          · rw [c1]; exact hc.2.2
          · by_cases c2 : u < i1
            · exact E11 u (by omega) c2
            · by_cases c3 : u < i2
              · exact F11 u (by omega) c3
              · by_cases c4 : u = i2
                · rw [c4, c304]; decide
                · exact L11 u (by omega) h2
        · rw [show o2 ||| o3 ||| (if a &&& 1 = 0 then 0 else 4) = (if a &&& 1 = 0 then 0 else 4) ||| o2 ||| o3 by rw [Int32.or_comm (o2 ||| o3), ← Int32.or_assoc]]
          exact wy_or (wy_or (wy_t0 hnr) F13) L13
        · by_cases c1 : x < q2
          · by_cases c2 : x < q1 + 1
            · by_cases c3 : x = q1
              · rw [kR 0 x (by omega) c1 (by omega), G2 0 x (by omega) c2, c3, rE_0, upd_at]; exact fun z => absurd z (by decide)
              · rw [kR 0 x (by omega) c1 (by omega), G2 0 x (by omega) c2, rE_x c3]; exact fun z => absurd z (i30 (E16.1 x h1 (by omega)))
            · rw [kR 0 x (by omega) c1 (by omega), kR 1 x (by omega) c1 (by omega)]; exact F17 x (by omega) c1
          · by_cases c2 : x = q2
            · rw [c2, rO_at]; exact fun _ => m1_n (by omega)
            · rw [rO_x (by omega), rO_x (by omega)]; exact L17 x (by omega) h2
        · have eq0 : rO R3 1 q2 (nI q3) 0 q1 = 42 := by rw [kR 0 q1 (by omega) (by omega) (by omega), G2 0 q1 (by omega) (by omega), rE_0, upd_at]
          have eq2 : rO R3 1 q2 (nI q3) 0 q2 = 41 := by rw [rO_x (by omega), M2 0 q2 (by omega) (by omega), rO_x (by omega), rE_0, upd_at]
          have eq1 : rO R3 1 q2 (nI q3) 1 q1 = nI (q2 + 1) := by rw [rO_x (by omega), M2 1 q1 (by omega) (by omega), rO_at]
          have c0 := ag_c x2 (show p ≤ p1 by omega) (by omega)
          have c1 := ag_c x2 (show p ≤ p1 + 1 by omega) (by omega)
          have c2 := ag_c x2 (show p ≤ p2 by omega) (by omega)
          have c3 := ag_c x2 (show p ≤ p2 + 1 by omega) (by omega)
          have r0 := ag_r0 x2 (show q ≤ q1 by omega) (by omega)
          have r1' := ag_r1 x2 (show q ≤ q1 by omega) (by omega) (by rw [eq0]; decide)
          have r2' := ag_r0 x2 (show q ≤ q2 by omega) (by omega)
          have r3' := ag_r1 x2 (show q ≤ q2 by omega) (by omega) (by rw [eq2]; decide)
          rw [kC p1 (by omega) (by omega), G1 p1 (by omega), upd_ne (by omega), upd_at] at c0
          rw [upd_ne (by omega), M1 (p1 + 1) (by omega), upd_at] at c1
          rw [upd_ne (by omega), M1 p2 (by omega), upd_ne (by omega), upd_ne (by omega), upd_at] at c2
          rw [upd_at] at c3
          rw [eq0] at r0
          rw [eq1] at r1'
          rw [eq2] at r2'
          rw [rO_at] at r3'
          have y1 := E16.2 T XL x1 (ag_E x2 (Nat.le_refl _) (by omega) (Nat.le_refl _) (by omega) (fun x _ hx => by rw [kC x (by omega) (by omega), G1 x (by omega), upd_ne (by omega), upd_ne (by omega)]) (fun j x hj _ hx => by rw [kR j x hj (by omega) (by omega), G2 j x hj (by omega), rE_x (by omega)]) (fun y hy => by rw [M4, G4]; exact List.mem_append_right _ (List.mem_append_right _ hy))) (by have := bl_le S.2.2.2.2.2.2.1; omega)
          have y2 := F18 T XL x1 (ag_S x2 (by omega) (by omega) (by omega) (by omega) (Nat.le_refl _) (by omega) (fun x _ hx => kC x hx (by omega)) (fun j x hj h5 hx => kR j x hj hx (by omega)) (fun j x hj _ hx => kD j x hj hx) (fun y hy => by rw [M4]; exact List.mem_append_right _ hy)) (by have := bl_le F0.2.2.2.2.2.2.1; omega) (fun y hy => x4 y (List.mem_append_right _ hy))
          have y3 := L18 T XL x1 (ag_S x2 (by omega) (Nat.le_refl _) (by omega) (Nat.le_refl _) (by omega) (Nat.le_refl _) (fun x _ hx => upd_ne (by omega)) (fun j x hj h5 hx => rO_x (by omega)) (fun j x hj _ hx => rO_x (by omega)) (fun y hy => hy)) x3 (fun y hy => x4 y (List.mem_append_left _ hy))
          rw [F12] at y3
          refine ⟨fun Fin a S f0 H => ru_IFE (y1 Fin a S f0 H) (by omega) (by omega) (by omega) c0 c1 r0 r1' (y2.1 Fin a S f0 H) c2 c3 r2' r3' (y3.1 Fin a S f0 H), fun y hy => ?_⟩
          rcases List.mem_append.1 hy with hy | hy
          · exact y3.2 y hy
          · exact y2.2 y hy
    · obtain ⟨v7, a7, s7⟩ := c_set (a := p1 + 1) (y := nI p2) ok F0 (by omega)
      have s8 := r_set (j := 1) (a := q1) (y := nI q2) s7 (by omega)
      unfold fX12_choice_b100
      rw [if_neg c304, c_size F0, q_bd_s, ni_add1, a7, q_bv_s, r_skipN (c := 304) (x := 14) ok F0 rfl (by decide) c304, q_bd_s, if_pos rfl, q_lt_s, if_neg (in4 hq1), hcl, q_lt_s, F0.2.2.2.2.1.1.2.2.2.1]
      refine jn_qq ⟨i2, p2, _, q2, d2, r2, _, K2, k, s2', A2, e2, e2', Y, ⟨s8, ⟨by omega, by omega, by omega, by omega, by omega, by omega, by omega, by omega, by omega, by omega, by omega⟩, ⟨fun x hx => by rw [upd_ne (by omega), G1 x (by omega), upd_ne (by omega), upd_ne (by omega)]; exact E7 x hx, fun j x hj hx => by rw [rO_x (by omega), G2 j x hj (by omega), rE_x (by omega)]; exact E8 j x hj hx, fun j x hj hx => by rw [rO_x (by omega), G3 j x hj (by omega), rE_j hj, E9 j hj], t2 ++ t1, by rw [G4, E10, List.append_assoc]⟩, fun u h1 h2 => ?_, ⟨F12, ?_, F14⟩, ⟨by omega, by omega⟩, F16, fun x h1 h2 => ?_, fun T XL x1 x2 x3 x4 => ?_⟩, by omega, by omega⟩
      · by_cases c1 : u = i
        · rw [c1]; exact hc.2.2
        · by_cases c2 : u < i1
          · exact E11 u (by omega) c2
          · exact F11 u (by omega) h2
      · rw [show o2 ||| 1 ||| (if a &&& 1 = 0 then 0 else 4) = (if a &&& 1 = 0 then 0 else 4) ||| o2 ||| 1 by rw [Int32.or_comm (o2 ||| 1), ← Int32.or_assoc]]
        exact wy_or (wy_or (wy_t0 hnr) F13) wy_k.2.1
      · rw [rO_x (show (0 : Nat) ≠ 1 ∨ _ by omega)]
        by_cases c2 : x < q1 + 1
        · rw [G2 0 x (by omega) c2]
          by_cases c3 : x = q1
          · rw [c3, rE_0, upd_at]; exact fun z => absurd z (by decide)
          · rw [rE_x c3]; exact fun z => absurd z (i30 (E16.1 x h1 (by omega)))
        · rw [rO_x (by omega)]; exact F17 x (by omega) (by omega)
      · have eq0 : rO R2 1 q1 (nI q2) 0 q1 = 42 := by rw [rO_x (by omega), G2 0 q1 (by omega) (by omega), rE_0, upd_at]
        have c0 := ag_c x2 (show p ≤ p1 by omega) (by omega)
        have c1 := ag_c x2 (show p ≤ p1 + 1 by omega) (by omega)
        have r0 := ag_r0 x2 (show q ≤ q1 by omega) (by omega)
        have r1' := ag_r1 x2 (show q ≤ q1 by omega) (by omega) (by rw [eq0]; decide)
        rw [upd_ne (by omega), G1 p1 (by omega), upd_ne (by omega), upd_at] at c0
        rw [upd_at] at c1
        rw [eq0] at r0
        rw [rO_at] at r1'
        have y1 := E16.2 T XL x1 (ag_E x2 (Nat.le_refl _) (by omega) (Nat.le_refl _) (by omega) (fun x _ hx => by rw [upd_ne (by omega), G1 x (by omega), upd_ne (by omega), upd_ne (by omega)]) (fun j x hj _ hx => by rw [rO_x (by omega), G2 j x hj (by omega), rE_x (by omega)]) (fun y hy => by rw [G4]; exact List.mem_append_right _ hy)) (by have := bl_le S.2.2.2.2.2.2.1; omega)
        have y2 := F18 T XL x1 (ag_S x2 (by omega) (Nat.le_refl _) (by omega) (Nat.le_refl _) (Nat.le_refl _) (Nat.le_refl _) (fun x _ hx => upd_ne (by omega)) (fun j x hj h5 hx => rO_x (by omega)) (fun j x hj _ _ => rO_x (by omega)) (fun y hy => hy)) x3 x4
        exact ⟨fun Fin a S f0 H => ru_IF (y1 Fin a S f0 H) (by omega) (by omega) (by omega) c0 c1 r0 r1' (y2.1 Fin a S f0 H), y2.2⟩
end
