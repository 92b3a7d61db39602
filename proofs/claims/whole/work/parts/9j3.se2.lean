section
variable {g : rd_G} {i n p q d k s l b e e' : Nat} {C : Nat → Int32} {r : Int32} {R : Nat → Nat → Int32} {K : rd_K} {A : rd_A} {v w : q_V} {T : co_T} {XL : Int32 → Int32 → Int32 → Prop}
variable {B : q_V → Option (Int32 × q_V)} {B' : q_V → Option (Int64 × q_V)}
set_option maxHeartbeats 200000 in
theorem kw_4 (ok : rd_ok g) {j : Nat} (hj : j = 0 ∨ j = 5 ∨ j = 6 ∨ j = 18 ∨ j = 20 ∨ j = 21) (h : tkc g i = nI (300 + j)) : tka g i + 4 ≤ tka g (i + 1) := by
  have h1 := (tk_kl (kw := kw_c) (k := 3) ok.2.1 ok.1 (by omega) h ((kw_len j (by omega)).2.1 hj)).1
  have h2 := tk_al (tp := g.1) ok.1 (i + 1)
  unfold tka; unfold gL at *; omega
set_option maxHeartbeats 200000 in
theorem kw_3 (ok : rd_ok g) (h : tkc g i = 314) : tka g i + 3 ≤ tka g (i + 1) := by
  have h1 := (tk_kl (kw := kw_c) (j := 14) (k := 2) ok.2.1 ok.1 (by omega) h ((kw_len 14 (by omega)).2.2 rfl)).1
  have h2 := tk_al (tp := g.1) ok.1 (i + 1)
  unfold tka; unfold gL at *; omega
set_option maxHeartbeats 200000 in
theorem in6b {a : Nat} (h : a < 640) : ¬ (nI a < 0 ∨ 640 ≤ a) := by
  intro q
  rcases q with q | q
  · rw [ni_neg (by omega)] at q; exact q
  · omega
set_option maxHeartbeats 200000 in
/-- ensure -/
theorem t_ensure (ok : rd_ok g) (hn : 1 ≤ n) (hn2 : n ≤ 14) (hB : BS g n B B') (hxB : ∀ f p l v, xc g f p l v → cG g f p l (B v)) (hyB : ∀ f p Bd w, xr g f p Bd w → rG g f p Bd (B' w)) (hc : tkc g i = 320) : TS g n i (fX8_ensure B (nI (tka g i))) (fX12_ensure B' (nI i)) := by
  intro p C q d R K k s l b A e e' v w h z o hln
  obtain ⟨z, zd, zs⟩ := z
  have zp := z0_p ok z
  have hL := ok.1
  have hig := (St_im h).1
  have ta0 := tka_L ok i
  have hl13 := h.2.2.2.2.2.1.2.2.2.1.2.2.1
  have hd : d < 640 := by omega
  obtain ⟨w1, b1, s1⟩ := r_desc (t := i) ok h hig hd
  obtain ⟨v2, a2, s2⟩ := c_adv ok s1 (by rw [hc]; decide) (by rw [hc]; decide)
  have s3 := r_now ok s2 (by rw [hc]; decide) (by rw [hc]; decide)
  have him := (St_im s3).1
  have t0 : tka g i + 4 ≤ tka g (i + 1) := kw_4 (j := 20) ok (by omega) hc
  have ta1' := tka_L ok (i + 1)
  obtain ⟨z1, z2, z3⟩ := z
  obtain ⟨v4, a4, s4⟩ := c_part (x := 50) (y := nI (tka g i)) ok s3 (by omega)
  obtain ⟨w5, b5, s5⟩ := r_emit (o := 60) (a := nI d) (c := 0) s4 (by omega)
  obtain ⟨w6, b6, s6⟩ := r_emit (o := 41) (a := 0) (c := 0) s5 (by omega)
  have s7 := r_set (j := 3) (a := d) (y := nI (q + 2)) s6 (by omega)
  have J := US_E ok hn2 (i + 1) (p + 5) _ (q + 2) (d + 1) 0 _ K k s l b A e e' v4 _ s7 ⟨by omega, by omega, by omega⟩ (ov_m ok o (by omega) him (Nat.le_refl _) (Nat.le_refl _)) (Or.inl rfl)
  have tc2 : ∀ f p v (y5 y : Int32), xc g f p l v → cG g f p l (q_bd (fX0_add 54 v) (fun y20 T19 => q_bd (fX0_size T19) (fun y23 T22 => q_bv (fX0_set (y5 + 3) y23 T22) (fun T24 => if y = 0 then fX8_ensure_b96 B (nI (tka g i)) 0 T24 else fX8_ensure_b96 B (nI (tka g i)) (y ||| 4) T24)))) := fun f p v y5 y h => cG_d (x_add ok h) (fun a v h => cG_d (x_size h) (fun a v h => cG_v (x_set ok h) (fun v h => cG_i (fun _ => cG_s h) (fun _ => cG_s h))))
  have tr2 : ∀ f p Bd w (y : Int64), Bd < 4000 → Bd + 1 ≤ 3300 + 20 * (15 - n) → xr g f p Bd w → rG g f p (3300 + 20 * (15 - n)) (q_bd (fX12_emit 48 0 0 w) (fun y18 T17 => if nI d < 0 ∨ 640 ≤ (nI d).toNatClampNeg then none else q_lt (q_sa T17 2420 (upd (q_a T17 2420) (nI d).toNatClampNeg (q_i T17 2417))) (fun T20 => if lg_cmp y 0 = 0 then fX12_ensure_b109 B' (nI i) 0 T20 else fX12_ensure_b109 B' (nI i) (y ||| 4) T20))) := by
    intro f p Bd w y h1 h2 h
    refine rG_d (y_emit h1 h) (fun a w h => ?_)
    rw [if_neg (in6 hd), q_lt_s]
    exact rG_i (fun _ => rG_s (xr_a (xr_le h h2) (by omega))) (fun _ => rG_s (xr_a (xr_le h h2) (by omega)))
  have hq1' : q + 1 < 4000 := by omega
  unfold fX8_ensure fX12_ensure
  rw [a2, q_bv_s, a4, q_bd_s, b1, q_bd_s, q_lt_s, b5, q_bd_s, b6, q_bd_s, if_neg (in6 hd), ni_clamp (show d < 2147483648 by omega), s6.2.2.2.2.1.1.2.2.2.1, q_lt_s]
  refine jn_dv J (fun f p a v h => ?_) (fun f p w h => ?_) ?_
  · exact cG_d (x_add ok h) (fun a v h => cG_d (x_size h) (fun a v h => cG_v (x_set ok h) (fun v h => cG_d (hxB _ _ _ _ h) (fun a v h => tc2 _ _ _ _ _ h))))
  · refine rG_d (y_emit (by omega) h) (fun a w h => ?_)
    rw [if_neg (in4 hq1'), q_lt_s]
    refine rG_d (hyB _ _ _ _ (xr_a h (by omega))) (fun a w h => ?_)
    have := tr2 _ _ _ w a (by omega) (by omega) h
    rw [ni_clamp (show d < 2147483648 by omega)] at this
    exact this
  · intro a v8 w8 E
    obtain ⟨i1, p1, C1, q1, r1, R1, K1, e1, e1', E⟩ := E
    obtain ⟨S, ⟨E1, E2, E3, E4, E5, E6⟩, ⟨E7, E8, E9, t1, E10⟩, E11, ⟨E12, E13, E14⟩, ⟨E15, E15'⟩, E16⟩ := E
    have hi1 := (St_im S).1
    have ta1 := tka_L ok i1
    have tii := tka_lt ok (show i + 1 < i1 by omega) hi1
    obtain ⟨v9, a9, s9⟩ := c_add (y := 51) ok S (by omega)
    obtain ⟨v10, a10, s10⟩ := c_set (a := p + 2) (y := nI (p1 + 1)) ok s9 (by omega)
    obtain ⟨w11, b11, s11⟩ := r_emit (o := 61) (a := 0) (c := 0) s10 (by omega)
    have s12 := r_set (j := 1) (a := q + 1) (y := nI (q1 + 1)) s11 (by omega)
    have JB := hB i1 (p1 + 1) _ (q1 + 1) (d + 1) r1 _ K1 k s l b A e1 e1' v10 _ s12 ⟨⟨by omega, by omega, by omega⟩, by omega, by omega⟩ (ov_m ok o (by omega) hi1 E15 E15') ⟨by have := hln.1; omega, LB_m hln.2 rfl (by omega) (by omega)⟩
    rw [a9, q_bd_s, c_size s9, q_bd_s, show nI p + 2 = nI (p + 2) from ni_add (b := 2), a10, q_bv_s, b11, q_bd_s, if_neg (in4 hq1'), ni_clamp (show q + 1 < 2147483648 by omega), q_lt_s, s11.2.2.2.2.1.1.2.2.2.1]
    refine jn_dd JB (fun f p a v h => tc2 _ _ _ _ _ h) (fun f p a w h => ?_) ?_
    · have := tr2 _ _ _ w a (by omega) (by omega) h
      rw [ni_clamp (show d < 2147483648 by omega)] at this
      exact this
    · intro o2 v13 zz w13 X
      obtain ⟨i2, p2, C2, q2, d2, r2, R2, K2, s2', A2, e2, e2', Y, ⟨F0, ⟨F1, F2, F3, F4, F5, F6, F7, F8, F9, F10, _⟩, ⟨G1, G2, G3, t2, G4⟩, F11, ⟨F12, F13, F14⟩, ⟨F15, F15'⟩, F16, F17, F18⟩, cB, n14, H1, H2, H3, H4, H5⟩ := X
      have hi2 := (St_im F0).1
      have ta2 := tka_L ok i2
      obtain ⟨v14, a14, s14⟩ := c_add (y := 54) ok F0 (by omega)
      obtain ⟨v15, a15, s15⟩ := c_set (a := p + 3) (y := nI (p2 + 1)) ok s14 (by omega)
      obtain ⟨w16, b16, s16⟩ := r_emit (o := 48) (a := 0) (c := 0) s15 (by omega)
      have s17 := r_set (j := 5) (a := d) (y := nI (q2 + 1)) s16 (by omega)
      have BD : i < i2 ∧ p2 + 1 + 2 * tka g i ≤ p + 2 * tka g i2 ∧ q2 + 1 + tka g i ≤ q + tka g i2 ∧ 3 * K2.length + tka g i ≤ 3 * K.length + tka g i2 ∧ 5 * d2 + tka g i ≤ 5 * d + tka g i2 ∧ 2 * s2' + tka g i ≤ 2 * s + tka g i2 ∧ p ≤ p2 + 1 ∧ q ≤ q2 + 1 ∧ d ≤ d2 ∧ s ≤ s2' ∧ k ≤ k := ⟨by omega, by omega, by omega, by omega, by omega, by omega, by omega, by omega, by omega, by omega, by omega⟩
      have BD2 : p2 + 1 + 2 * tka g i + 2 ≤ p + 2 * tka g i2 ∧ q2 + 1 + tka g i + 1 ≤ q + tka g i2 := ⟨by omega, by omega⟩
      have hp16 : p1 ≤ 6016 := by omega
      have hq1b : q1 < 4000 := by omega
      rw [a14, q_bd_s, c_size s14, q_bd_s, show nI p + 3 = nI (p + 3) from ni_add (b := 3), a15, q_bv_s, b16, q_bd_s, if_neg (in6b hd), q_lt_s, s16.2.2.2.2.1.1.2.2.2.1]
      clear E2 E3 E4 F2 F3 F4 F5 F6 H1 H2 H3 H4 H5 ta1 ta2 tii z1 z2 z3 zd zs zp t0 ta0 ta1'
      obtain ⟨oo, oz, ho1, ho2, hwy⟩ : ∃ (oo : Int32) (oz : Int64), (∀ u : q_V, (if o2 = 0 then fX8_ensure_b96 B (nI (tka g i)) 0 u else fX8_ensure_b96 B (nI (tka g i)) (o2 ||| 4) u) = some (oo, u)) ∧ (∀ u : q_V, (if lg_cmp zz 0 = 0 then fX12_ensure_b109 B' (nI i) 0 u else fX12_ensure_b109 B' (nI i) (zz ||| 4) u) = some (oz, u)) ∧ wy l oo oz := by
        by_cases c0 : o2 = 0
        · have c1 := (wy_z F13 hl13).1 c0
          exact ⟨0, 0, fun u => by rw [if_pos c0]; rfl, fun u => by rw [lg_if0, if_pos c1]; rfl, wy_k.1⟩
        · have c1 : ¬ zz = 0 := fun q => c0 ((wy_z F13 hl13).2 q)
          exact ⟨o2 ||| 4, zz ||| 4, fun u => by rw [if_neg c0]; rfl, fun u => by rw [lg_if0, if_neg c1]; rfl, wy_or F13 wy_k.2.2.2.1⟩
      rw [ho1, ho2]
      -- the rows, as they stand at the end
      have kC : ∀ x, x < p1 → x ≠ p + 2 → x ≠ p + 3 → upd (upd C2 p2 54) (p + 3) (nI (p2 + 1)) x = C1 x := fun x hx h2 h3 => by rw [upd_ne h3, upd_ne (by omega), G1 x (by omega), upd_ne h2, upd_ne (by omega)]
      have kR : ∀ j x, j < 3 → x < q1 → (j ≠ 1 ∨ x ≠ q + 1) → rO (rE R2 q2 48 0 0) 5 d (nI (q2 + 1)) j x = R1 j x := fun j x hj hx h2 => by rw [rO_x (by omega), rE_x (by omega), G2 j x hj (by omega), rO_x h2, rE_x (by omega)]
      have kD : ∀ j x, 3 ≤ j → x < d + 1 → (j ≠ 5 ∨ x ≠ d) → rO (rE R2 q2 48 0 0) 5 d (nI (q2 + 1)) j x = rO (rE (rE (rD R d (nI (tka g i))) q 60 (nI d) 0) (q + 1) 41 0 0) 3 d (nI (q + 2)) j x := fun j x hj hx h2 => by rw [rO_x h2, rE_j hj, G3 j x hj (by omega), rO_x (by omega), rE_j hj, E9 j hj]
      have lC : ∀ x, x < p + 5 → C1 x = cP C p 50 (nI (tka g i)) x := fun x hx => E7 x hx
      refine jn_qq ⟨i2, p2 + 1, _, q2 + 1, d2, r2, _, K2, k, s2', A2, e2, e2', Y, ⟨s17, BD, ⟨fun x hx => by rw [kC x (by omega) (by omega) (by omega), lC x (by omega), cP_x (by omega)], fun j x hj hx => by rw [kR j x hj (by omega) (by omega), E8 j x hj (by omega), rO_x (by omega), rE_x (by omega), rE_x (by omega), rD_x (by omega)], fun j x hj hx => by rw [kD j x hj (by omega) (by omega), rO_x (by omega), rE_j hj, rE_j hj, rD_x (by omega)], t2 ++ t1, by rw [G4, E10, List.append_assoc]⟩, fun u h1 h2 => ?_, ⟨F12, hwy, F14⟩, ⟨by omega, by omega⟩, F16, fun x h1 h2 => ?_, fun T XL x1 x2 x3 x4 => ?_⟩, BD2⟩
      · by_cases c1 : u = i
        · rw [c1, hc]; decide
        · by_cases c2 : u < i1
          · exact E11 u (by omega) c2
          · exact F11 u (by omega) h2
      · by_cases c1 : x = q2
        · rw [rO_x (by omega), c1, rE_0, upd_at]; exact fun z => absurd z (by decide)
        · by_cases c2 : x < q1 + 1
          · by_cases c3 : x = q1
            · rw [rO_x (by omega), rE_x c1, G2 0 x (by omega) c2, rO_x (by omega), c3, rE_0, upd_at]; exact fun z => absurd z (by decide)
            · by_cases c4 : x = q + 1
              · intro _
                rw [rO_x (by omega), rE_x c1, G2 1 x (by omega) c2, c4, rO_at]; exact m1_n (by omega)
              · by_cases c5 : x = q
                · rw [kR 0 x (by omega) (by omega) (by omega), E8 0 x (by omega) (by omega), rO_x (by omega), rE_x c4, c5, rE_0, upd_at]; exact fun z => absurd z (by decide)
                · rw [kR 0 x (by omega) (by omega) (by omega)]; exact fun z => absurd z (i30 (E16.1 x (by omega) (by omega)))
          · rw [rO_x (by omega), rE_x c1, rO_x (by omega), rE_x c1]; exact F17 x (by omega) (by omega)
      · have d0 : rO (rE R2 q2 48 0 0) 5 d (nI (q2 + 1)) 0 q = 60 := by rw [kR 0 q (by omega) (by omega) (by omega), E8 0 q (by omega) (by omega), rO_x (by omega), rE_x (by omega), rE_0, upd_at]
        have d1 : rO (rE R2 q2 48 0 0) 5 d (nI (q2 + 1)) 0 (q + 1) = 41 := by rw [kR 0 (q + 1) (by omega) (by omega) (by omega), E8 0 (q + 1) (by omega) (by omega), rO_x (by omega), rE_0, upd_at]
        have c0 := ag_c x2 (Nat.le_refl p) (by omega)
        have c1 := ag_c x2 (show p ≤ p + 1 by omega) (by omega)
        have c2 := ag_c x2 (show p ≤ p + 2 by omega) (by omega)
        have c3 := ag_c x2 (show p ≤ p + 3 by omega) (by omega)
        have c4 := ag_c x2 (show p ≤ p1 by omega) (by omega)
        have c5 := ag_c x2 (show p ≤ p2 by omega) (by omega)
        have r0 := ag_r0 x2 (Nat.le_refl q) (by omega)
        have r1' := ag_r1 x2 (Nat.le_refl q) (by omega) (by rw [d0]; decide)
        have r2' := ag_r0 x2 (show q ≤ q + 1 by omega) (by omega)
        have r3' := ag_r1 x2 (show q ≤ q + 1 by omega) (by omega) (by rw [d1]; decide)
        have r4' := ag_r0 x2 (show q ≤ q1 by omega) (by omega)
        have r8' := ag_r0 x2 (show q ≤ q2 by omega) (by omega)
        have r5' := ag_d (j := 3) x2 (Nat.le_refl d) (by omega) (by omega) (by omega)
        have r6' := ag_d (j := 5) x2 (Nat.le_refl d) (by omega) (by omega) (by omega)
        have r7' := ag_d (j := 6) x2 (Nat.le_refl d) (by omega) (by omega) (by omega)
        rw [kC p (by omega) (by omega) (by omega), lC p (by omega), cP_0] at c0
        rw [kC (p + 1) (by omega) (by omega) (by omega), lC (p + 1) (by omega), cP_1] at c1
        rw [upd_ne (by omega), upd_ne (by omega), G1 (p + 2) (by omega), upd_at] at c2
        rw [upd_at] at c3
        rw [upd_ne (by omega), upd_ne (by omega), G1 p1 (by omega), upd_ne (by omega), upd_at] at c4
        rw [upd_ne (by omega), upd_at] at c5
        rw [d0] at r0
        rw [kR 1 q (by omega) (by omega) (by omega), E8 1 q (by omega) (by omega), rO_x (by omega), rE_x (by omega), rE_1, upd_at] at r1'
        rw [d1] at r2'
        rw [rO_x (by omega), rE_x (by omega), G2 1 (q + 1) (by omega) (by omega), rO_at] at r3'
        rw [rO_x (by omega), rE_x (by omega), G2 0 q1 (by omega) (by omega), rO_x (by omega), rE_0, upd_at] at r4'
        rw [rO_x (by omega), rE_0, upd_at] at r8'
        rw [kD 3 d (by omega) (by omega) (by omega), rO_at] at r5'
        rw [rO_at] at r6'
        rw [kD 6 d (by omega) (by omega) (by omega), rO_x (by omega), rE_j (by omega), rE_j (by omega), rD_6] at r7'
        have y1 := E16.2 T XL x1 (ag_S x2 (by omega) (by omega) (by omega) (by omega) (by omega) (by omega) (fun x h5 hx => kC x hx (by omega) (by omega)) (fun j x hj h5 hx => kR j x hj hx (by omega)) (fun j x hj h5 hx => absurd h5 (by omega)) (fun y hy => by rw [G4]; exact List.mem_append_right _ hy)) (by have := bl_le S.2.2.2.2.2.2.1; omega)
        have y2 := F18 T XL x1 (ag_S x2 (by omega) (by omega) (by omega) (by omega) (by omega) (Nat.le_refl _) (fun x h5 hx => by rw [upd_ne (by omega), upd_ne (by omega)]) (fun j x hj h5 hx => by rw [rO_x (by omega), rE_x (by omega)]) (fun j x hj h5 hx => by rw [rO_x (by omega), rE_j hj]) (fun y hy => hy)) x3 x4
        exact ⟨fun Fin a S f0 H => ru_STS (ru_ENSURE H.1 (y1 Fin a S f0 H) (by omega) (by omega) (by omega) hd hp16 c0 c1 c2 c3 c4 r0 r1' r2' r3' r4' r5' r6' r7' (y2.1 Fin a S f0 H) c5 r8'), y2.2⟩
end
