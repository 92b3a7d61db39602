section
variable {g : rd_G} {i n p i' n' q d k s l b e e' : Nat} {C : Nat → Int32} {r : Int32} {R : Nat → Nat → Int32} {K : rd_K} {A : rd_A} {v w : q_V} {T : co_T} {XL : Int32 → Int32 → Int32 → Prop}
variable {B : q_V → Option (Int32 × q_V)} {B' : q_V → Option (Int64 × q_V)}
set_option maxHeartbeats 200000 in
/-- try -/
theorem t_trial (ok : rd_ok g) (hn : 1 ≤ n) (hn2 : n ≤ 14) (hB : BS g n B B') (hxB : ∀ f p l v, xc g f p l v → cG g f p l (B v)) (hyB : ∀ f p Bd w, xr g f p Bd w → rG g f p Bd (B' w)) (hc : tkc g i = 314) : TS g n i (fX8_trial B (nI (tka g i))) (fX12_trial B' (nI i)) := by
  intro p C q d R K k s l b A e e' v w h z o hln
  have zz := z
  obtain ⟨z, zd, zs⟩ := z
  have zp := z0_p ok z
  have hL := ok.1
  have hm3 := ok.2.2.1.2.2
  have hig := (St_im h).1
  have ta0 := tka_L ok i
  have hd : d < 640 := by omega
  obtain ⟨w1, b1, s1⟩ := r_desc (t := i) ok h hig hd
  obtain ⟨v2, a2, s2⟩ := c_adv ok s1 (by rw [hc]; decide) (by rw [hc]; decide)
  have s3 := r_now ok s2 (by rw [hc]; decide) (by rw [hc]; decide)
  have him := (St_im s3).1
  have t0 : tka g i + 3 ≤ tka g (i + 1) := kw_3 ok hc
  have ta1' := tka_L ok (i + 1)
  obtain ⟨z1, z2, z3⟩ := z
  obtain ⟨v4, a4, s4⟩ := c_part (x := 47) (y := nI (tka g i)) ok s3 (by omega)
  obtain ⟨w5, b5, s5⟩ := r_emit (o := 50) (a := nI d) (c := 0) s4 (by omega)
  have JB := hB (i + 1) (p + 5) _ (q + 1) (d + 1) 0 _ K k s l b A e e' v4 w5 s5 ⟨⟨by omega, by omega, by omega⟩, by omega, by omega⟩ (ov_m ok o (by omega) him (Nat.le_refl _) (Nat.le_refl _)) ⟨by have := hln.1; omega, LB_m hln.2 rfl (by omega) (by omega)⟩
  unfold fX8_trial fX12_trial
  rw [a2, q_bv_s, a4, q_bd_s, b1, q_bd_s, q_lt_s, b5, q_bd_s]
  refine jn_dd JB (fun f p a v h => ?_) (fun f p a w h => ?_) ?_
  · refine cG_d (x_add ok h) (fun a v h => ?_)
    rw [if_neg (by rw [h.2.1]; decide), if_neg (by rw [h.2.1]; decide)]
    exact cG_v (x_refuse h) (fun v h => x_t76 ok h)
  · refine rG_d (y_emit (by omega) h) (fun a w h => ?_)
    rw [y_is h, q_bd_s, if_pos rfl, y_is h, q_bd_s, if_pos rfl, y_wrong h, q_bv_s]
    exact rG_s (xr_le h (by omega))
  · intro o2 v6 z6 w6 X
    obtain ⟨i1, p2, C2, q2, d2, r2, R2, K2, s2', A2, e2, e2', Y, ⟨F0, ⟨F1, F2, F3, F4, F5, F6, F7, F8, F9, F10, _⟩, ⟨G1, G2, G3, t2, G4⟩, F11, ⟨F12, F13, F14⟩, ⟨F15, F15'⟩, F16, F17, F18⟩, cB, n14, H1, H2, H3, H4, H5⟩ := X
    have hi1 := (St_im F0).1
    have ta1 := tka_L ok i1
    obtain ⟨v7, a7, s7⟩ := c_add (y := 54) ok F0 (by omega)
    obtain ⟨w8, b8, s8⟩ := r_emit (o := 48) (a := 0) (c := 0) s7 (by omega)
    rw [a7, q_bd_s, c_kind s7, b8, q_bd_s, r_is (c := 315) (x := 25) ok s8 rfl (by decide), q_bd_s, lx_i0]
    have lC : ∀ x, x < p + 5 → upd C2 p2 54 x = cP C p 47 (nI (tka g i)) x := fun x hx => by rw [upd_ne (by omega), G1 x hx]
    have lR : ∀ j x, j < 3 → x < q + 1 → rE R2 q2 48 0 0 j x = rE (rD R d (nI (tka g i))) q 50 (nI d) 0 j x := fun j x hj hx => by rw [rE_x (by omega), G2 j x hj hx]
    have lD : ∀ j x, 3 ≤ j → x < d + 1 → rE R2 q2 48 0 0 j x = rD R d (nI (tka g i)) j x := fun j x hj hx => by rw [rE_j hj, G3 j x hj hx, rE_j hj]
    have h3' : ∀ u, i ≤ u → u < i1 → tkc g u ≠ 300 := fun u h1 h2 => by
      by_cases c1 : u = i
      · rw [c1, hc]; decide
      · exact F11 u (by omega) h2
    have h41 : ∀ x, q ≤ x → x < q2 + 1 → rE R2 q2 48 0 0 0 x = 41 → rE R2 q2 48 0 0 1 x ≠ -1 := fun x h1 h2 => by
      by_cases c1 : x = q2
      · rw [c1, rE_0, upd_at]; exact fun z => absurd z (by decide)
      · by_cases c2 : x = q
        · rw [c2, lR 0 q (by omega) (by omega), rE_0, upd_at]; exact fun z => absurd z (by decide)
        · rw [rE_x c1, rE_x c1]; exact F17 x (by omega) (by omega)
    by_cases c315 : tkc g i1 = 315
    · obtain ⟨v9, a9, s9⟩ := c_set (a := p + 2) (y := nI (p2 + 1)) ok s8 (by omega)
      have s10 := r_set (j := 8) (a := d) (y := nI (q2 + 1)) s9 (by omega)
      have e17 := s9.2.2.2.2.1.1.2.2.2.1
      unfold fX8_mends fX12_trial_b63 fX12_trial_b82
      rw [if_pos c315, if_pos c315, c_size s8, q_bd_s, show nI p + 2 = nI (p + 2) from ni_add (b := 2), a9, q_bv_s, r_is (c := 315) (x := 25) ok s8 rfl (by decide), q_bd_s, lx_i0, if_pos c315, if_neg (in6 hd), ni_clamp (show d < 2147483648 by omega), q_lt_s, e17]
      refine m_loop (i := i1) (p := p2 + 1) (q := q2 + 1) (d := d2) (K := K2) (s := s2') (A := A2) (e := e2) (e' := e2') (k := k) (l := l) (b := b) ok hn hn2 (by omega) hB hxB hyB ⟨⟨by omega, by omega, by omega⟩, by omega, by omega⟩ ⟨by have := hln.1; omega, LB_m hln.2 F12 (by omega) (by omega)⟩ hd F13 (by omega) (fun f p a v h => x_t76 ok h) ?_ (gm g - i1) 0 0 0 0 0 0 i1 (p2 + 1) _ (q2 + 1) d2 r2 _ K2 s2' A2 e2 e2' [] v9 _ q_N q_N rfl (by unfold q_N; omega) (by unfold q_N; omega) (by omega) (Or.inl rfl) (Or.inl rfl) (by decide) (wy_k (l := l)).1 (ZQ_0 s10 F16)
      intro o3 z3' i3 p3 C3 q3 d3 r3 R3 K3 s3 A3 e3 e3' Y3 v11 w11 v12 w12 hwy Z S
      obtain ⟨Z0, ⟨Za, Zb, Zc, Zd, Ze, Zf, Zg, Zh, Zi, Zj⟩, ⟨x1, x2, x3, t3, x4⟩, x5, ⟨x6, x8⟩, ⟨x9, x9'⟩, x10, x11, x12⟩ := Z
      have hp2 : p2 < 6016 := by omega
      have hq2 : q2 < 4000 := by omega
      have BD : i < i3 ∧ p3 + 1 + 2 * tka g i + 2 ≤ p + 2 * tka g i3 ∧ q3 + 1 + tka g i + 1 ≤ q + tka g i3 ∧ 3 * K3.length + tka g i ≤ 3 * K.length + tka g i3 ∧ 5 * d3 + tka g i ≤ 5 * d + tka g i3 ∧ 2 * s3 + tka g i ≤ 2 * s + tka g i3 ∧ p + 6 ≤ p3 + 1 ∧ q + 1 ≤ q3 + 1 ∧ d + 1 ≤ d3 ∧ s ≤ s3 := ⟨by omega, by omega, by omega, by omega, by omega, by omega, by omega, by omega, by omega, by omega⟩
      clear z1 z2 z3 zd zs zp ta0 ta1 ta1' t0 F2 F3 F4 F5 F6 H1 H2 H3 H4 H5 Zb Zc Zd Ze Zf
      have kC : ∀ x, x < p2 + 1 → x ≠ p + 2 → upd C3 p3 49 x = upd C2 p2 54 x := fun x hx h2 => by rw [upd_ne (by omega), x1 x hx, upd_ne h2]
      have kR : ∀ j x, j < 3 → x < q2 + 1 → rE R3 q3 53 0 0 j x = rE R2 q2 48 0 0 j x := fun j x hj hx => by rw [rE_x (by omega), x2 j x hj hx, rO_x (by omega)]
      have kD : ∀ j x, 3 ≤ j → x < d2 → (j ≠ 8 ∨ x ≠ d) → rE R3 q3 53 0 0 j x = rE R2 q2 48 0 0 j x := fun j x hj hx h8 => by rw [rE_j hj, x3 j x hj hx, rO_x h8]
      refine tr_end (Y := Y3 ++ Y) ok hn2 hB S BD zz ⟨by have := hln.1; omega, hln.2⟩ ⟨fun x hx => by rw [kC x (by omega) (by omega), lC x (by omega), cP_x (by omega)], fun j x hj hx => by rw [kR j x hj (by omega), lR j x hj (by omega), rE_x (by omega), rD_x (by omega)], fun j x hj hx => by rw [kD j x hj (by omega) (by omega), lD j x hj (by omega), rD_x (by omega)], t3 ++ t2, by rw [x4, G4, List.append_assoc]⟩ (fun u h1 h2 => ?_) ⟨x6.trans F12, fun y => x8 (F14 y)⟩ ⟨by omega, by omega⟩ x10 (fun x h1 h2 => ?_) hwy ⟨by rw [kC (p + 1) (by omega) (by omega), lC (p + 1) (by omega), cP_1], by rw [kC (p + 4) (by omega) (by omega), lC (p + 4) (by omega), cP_4], by rw [kD 4 d (by omega) (by omega) (by omega), lD 4 d (by omega) (by omega), rD_4], by rw [kD 6 d (by omega) (by omega) (by omega), lD 6 d (by omega) (by omega), rD_6]⟩ (fun T XL C' R' px qx kF z' zr al g1 g2 g3 g4 g5 g6 g7 c4 hz r4 hzr tf hk op oq => ?_)
      · by_cases c1 : u < i1
        · exact h3' u h1 c1
        · exact x5 u (by omega) h2
      · by_cases c1 : x < q2 + 1
        · rw [kR 0 x (by omega) c1, kR 1 x (by omega) c1]; exact h41 x h1 c1
        · by_cases c2 : x = q3
          · rw [c2, rE_0, upd_at]; exact fun z => absurd z (by decide)
          · rw [rE_x c2, rE_x c2]; exact x11 x (by omega) (by omega)
      · have dq : R' 0 q = 50 := by rw [g6 0 q (by omega) (by omega) (by omega), kR 0 q (by omega) (by omega), lR 0 q (by omega) (by omega), rE_0, upd_at]
        have c0 := ag_c g4 (Nat.le_refl p) (by omega)
        have c1 := ag_c g4 (show p ≤ p + 1 by omega) (by omega)
        have c2 := ag_c g4 (show p ≤ p + 2 by omega) (by omega)
        have c5 := ag_c g4 (show p ≤ p2 by omega) (by omega)
        have c6 := ag_c g4 (show p ≤ p3 by omega) (by omega)
        have r0 := ag_r0 g4 (Nat.le_refl q) (by omega)
        have r1 := ag_r1 g4 (Nat.le_refl q) (by omega) (by rw [dq]; decide)
        have r2' := ag_r0 g4 (show q ≤ q2 by omega) (by omega)
        have r9 := ag_r0 g4 (show q ≤ q3 by omega) (by omega)
        have r6 := ag_d (j := 6) g4 (Nat.le_refl d) (by omega) (by omega) (by omega)
        have r8 := ag_d (j := 8) g4 (Nat.le_refl d) (by omega) (by omega) (by omega)
        rw [g5 p (by omega) (by omega) (by omega) (by omega), kC p (by omega) (by omega), lC p (by omega), cP_0] at c0
        rw [g5 (p + 1) (by omega) (by omega) (by omega) (by omega), kC (p + 1) (by omega) (by omega), lC (p + 1) (by omega), cP_1] at c1
        rw [g5 (p + 2) (by omega) (by omega) (by omega) (by omega), upd_ne (by omega), x1 (p + 2) (by omega), upd_at] at c2
        rw [g5 p2 (by omega) (by omega) (by omega) (by omega), kC p2 (by omega) (by omega), upd_at] at c5
        rw [g5 p3 (by omega) (by omega) (by omega) (by omega), upd_at] at c6
        rw [dq] at r0
        rw [g6 1 q (by omega) (by omega) (by omega), kR 1 q (by omega) (by omega), lR 1 q (by omega) (by omega), rE_1, upd_at] at r1
        rw [g6 0 q2 (by omega) (by omega) (by omega), kR 0 q2 (by omega) (by omega), rE_0, upd_at] at r2'
        rw [g6 0 q3 (by omega) (by omega) (by omega), rE_0, upd_at] at r9
        rw [g7 6 d (by omega) (by omega) (by omega) (by omega), kD 6 d (by omega) (by omega) (by omega), lD 6 d (by omega) (by omega), rD_6] at r6
        rw [g7 8 d (by omega) (by omega) (by omega) (by omega), rE_j (by omega), x3 8 d (by omega) (by omega), rO_at] at r8
        have y1 := F18 T XL g1 (ag_S g4 (by omega) (by omega) (by omega) (by omega) (by omega) (by omega) (fun x h5 hx => by rw [g5 x (by omega) (by omega) (by omega) (by omega), kC x (by omega) (by omega), upd_ne (by omega)]) (fun j x hj h5 hx => by rw [g6 j x hj (by omega) (by omega), kR j x hj (by omega), rE_x (by omega)]) (fun j x hj h5 hx => by rw [g7 j x hj (by omega) (by omega) (by omega), kD j x hj hx (by omega), rE_j hj]) (fun y hy => by rw [x4]; exact List.mem_append_right _ hy)) (by have := bl_le F0.2.2.2.2.2.2.1; omega) (fun y hy => g3 y (List.mem_append_right _ hy))
        have y2 := x12 T XL g1 (ag_S g4 (by omega) (by omega) (by omega) (by omega) (by omega) (Nat.le_refl _) (fun x h5 hx => by rw [g5 x (by omega) (by omega) (by omega) (by omega), upd_ne (by omega)]) (fun j x hj h5 hx => by rw [g6 j x hj (by omega) (by omega), rE_x (by omega)]) (fun j x hj h5 hx => by rw [g7 j x hj (by omega) hx (by omega), rE_j hj]) (fun y hy => hy)) g2 (fun y hy => g3 y (List.mem_append_left _ hy))
        rw [F12] at y2
        refine ⟨fun Fin a S f0 H => ru_TRY1 n14 hd hp2 hq2 c0 c1 c2 c4 hz r0 r1 r4 hzr r6 r8 (y1.1 Fin a S f0 H) c5 r2' (y2.1 Fin a S f0 H) c6 r9 (tf Fin a S f0 H) hk (by omega) (by omega), fun y hy => ?_⟩
        rcases List.mem_append.1 hy with hy | hy
        · exact y2.2 y hy
        · exact y1.2 y hy
    · rw [if_neg c315, if_neg c315, r_is (c := 317) (x := 27) ok s8 rfl (by decide), q_bd_s, lx_i0]
      by_cases c317 : tkc g i1 = 317
      · obtain ⟨w9, b9, s9⟩ := r_emit (o := 53) (a := 0) (c := 0) s8 (by omega)
        unfold fX12_trial_b63 fX12_trial_b82
        rw [if_pos c317, if_pos c317, r_is (c := 315) (x := 25) ok s8 rfl (by decide), q_bd_s, lx_i0, if_neg c315, q_N1, fX12_trial_L91, r_skipN (c := 315) (x := 25) ok s8 rfl (by decide) c315, q_bd_s, if_pos rfl, b9, q_bd_s, if_pos (show (0 : Int32) = 0 from rfl)]
        unfold fX12_trial_b247 fX12_trial_b254
        rw [q_lt_s]
        have ew : (if lg_cmp (z6 &&& 4) 0 = 0 then fX12_trial_b256 B' (nI i) (nI d) z6 w9 else fX12_trial_b256 B' (nI i) (nI d) (z6 &&& -5 ||| 0 ||| 4) w9) = fX12_trial_b256 B' (nI i) (nI d) z6 w9 := by
          rw [lg_if0]
          by_cases c4 : z6 &&& 4 = 0
          · rw [if_pos c4]
          · rw [if_neg c4, n5_4 c4]
        rw [ew]
        have BD : i < i1 ∧ p2 + 1 + 2 * tka g i + 2 ≤ p + 2 * tka g i1 ∧ q2 + 1 + 1 + tka g i + 1 ≤ q + tka g i1 ∧ 3 * K2.length + tka g i ≤ 3 * K.length + tka g i1 ∧ 5 * d2 + tka g i ≤ 5 * d + tka g i1 ∧ 2 * s2' + tka g i ≤ 2 * s + tka g i1 ∧ p + 6 ≤ p2 + 1 ∧ q + 1 ≤ q2 + 1 + 1 ∧ d + 1 ≤ d2 ∧ s ≤ s2' := ⟨by omega, by omega, by omega, by omega, by omega, by omega, by omega, by omega, by omega, by omega⟩
        clear z1 z2 z3 zd zs zp ta0 ta1 ta1' t0 F2 F3 F4 F5 F6 H1 H2 H3 H4 H5
        refine tr_end (Y := Y) ok hn2 hB s9 BD zz ⟨by have := hln.1; omega, hln.2⟩ ⟨fun x hx => by rw [lC x (by omega), cP_x (by omega)], fun j x hj hx => by rw [rE_x (by omega), lR j x hj (by omega), rE_x (by omega), rD_x (by omega)], fun j x hj hx => by rw [rE_j hj, lD j x hj (by omega), rD_x (by omega)], t2, G4⟩ h3' ⟨F12, F14⟩ ⟨by omega, by omega⟩ F16 (fun x h1 h2 => ?_) F13 ⟨by rw [lC (p + 1) (by omega), cP_1], by rw [lC (p + 4) (by omega), cP_4], by rw [rE_j (by omega), lD 4 d (by omega) (by omega), rD_4], by rw [rE_j (by omega), lD 6 d (by omega) (by omega), rD_6]⟩ (fun T XL C' R' px qx kF z' zr al g1 g2 g3 g4 g5 g6 g7 c4 hz r4 hzr tf hk op oq => ?_)
        · by_cases c2 : x = q2 + 1
          · rw [c2, rE_0, upd_at]; exact fun z => absurd z (by decide)
          · rw [rE_x (q := q2 + 1) c2, rE_x (q := q2 + 1) c2]; exact h41 x h1 (by omega)
        · have kR : ∀ j x, j < 3 → x < q2 + 1 → rE (rE R2 q2 48 0 0) (q2 + 1) 53 0 0 j x = rE R2 q2 48 0 0 j x := fun j x hj hx => rE_x (by omega)
          have dq : R' 0 q = 50 := by rw [g6 0 q (by omega) (by omega) (by omega), kR 0 q (by omega) (by omega), lR 0 q (by omega) (by omega), rE_0, upd_at]
          have c0 := ag_c g4 (Nat.le_refl p) (by omega)
          have c2 := ag_c g4 (show p ≤ p + 2 by omega) (by omega)
          have c5 := ag_c g4 (show p ≤ p2 by omega) (by omega)
          have r0 := ag_r0 g4 (Nat.le_refl q) (by omega)
          have r1 := ag_r1 g4 (Nat.le_refl q) (by omega) (by rw [dq]; decide)
          have r2' := ag_r0 g4 (show q ≤ q2 by omega) (by omega)
          have r8 := ag_d (j := 8) g4 (Nat.le_refl d) (by omega) (by omega) (by omega)
          rw [g5 p (by omega) (by omega) (by omega) (by omega), lC p (by omega), cP_0] at c0
          rw [g5 (p + 2) (by omega) (by omega) (by omega) (by omega), lC (p + 2) (by omega), cP_2] at c2
          rw [g5 p2 (by omega) (by omega) (by omega) (by omega), upd_at] at c5
          rw [dq] at r0
          rw [g6 1 q (by omega) (by omega) (by omega), kR 1 q (by omega) (by omega), lR 1 q (by omega) (by omega), rE_1, upd_at] at r1
          rw [g6 0 q2 (by omega) (by omega) (by omega), kR 0 q2 (by omega) (by omega), rE_0, upd_at] at r2'
          rw [g7 8 d (by omega) (by omega) (by omega) (by omega), rE_j (by omega), lD 8 d (by omega) (by omega), rD_8] at r8
          have y1 := F18 T XL g1 (ag_S g4 (by omega) (by omega) (by omega) (by omega) (by omega) (by omega) (fun x h5 hx => by rw [g5 x (by omega) (by omega) (by omega) (by omega), upd_ne (by omega)]) (fun j x hj h5 hx => by rw [g6 j x hj (by omega) (by omega), kR j x hj (by omega), rE_x (by omega)]) (fun j x hj h5 hx => by rw [g7 j x hj (by omega) (by omega) (by omega), rE_j hj, rE_j hj]) (fun y hy => hy)) g2 g3
          exact ⟨fun Fin a S f0 H => ru_TRY0 n14 hd c0 c2 c4 hz r0 r1 r4 hzr r8 (y1.1 Fin a S f0 H) c5 r2' (tf Fin a S f0 H) hk (by omega) (by omega), y1.2⟩
      · obtain ⟨v9, a9, x9⟩ := c_refuse s8
        obtain ⟨w9, b9, y9⟩ := r_wrong (Bd := 3111) ok s8 (by omega)
        rw [if_neg c317, if_neg c317, a9, q_bv_s, b9, q_bv_s]
        exact jn_xx (x_t76 ok x9) (rG_s (xr_le y9 (by omega)))
end
