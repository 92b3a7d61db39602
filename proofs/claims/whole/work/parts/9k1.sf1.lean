section
variable {g : rd_G} {i j n p q d k s l b e e' : Nat} {C : Nat → Int32} {r : Int32} {R : Nat → Nat → Int32} {K : rd_K} {A : rd_A} {v w : q_V} {T : co_T} {XL : Int32 → Int32 → Int32 → Prop}
variable {B : q_V → Option (Int32 × q_V)} {B' : q_V → Option (Int64 × q_V)}
set_option maxHeartbeats 200000 in
theorem wy_rp {o own ag W a r1 x3 : Int32} {W' m1 m2 w1 : Int64} (hW : wy l W W') (h1 : o &&& (1 ||| ag) = 0 ↔ m1 = 0) (h2 : o &&& (1 ||| own) = 0 ↔ m2 = 0) (hr : a &&& 1 = 0 ↔ r1 = 0) : ∃ (oo : Int32) (oz : Int64), (∀ u : q_V, (if o &&& (1 ||| ag) = 0 then fX8_repeatLoop_b156 B w1 x3 o own W u else fX8_repeatLoop_b156 B w1 x3 o own (W ||| (if a &&& 1 = 0 then 0 else 4)) u) = some (oo, u)) ∧ (∀ u : q_V, q_i u 2425 = r1 → (if (if m1 = 0 then (0 : Int32) else 1) = 0 then some (W' ||| (if m2 = 0 then 0 else 1), u) else fX12_risky (W' ||| (if m2 = 0 then 0 else 1)) u) = some (oz, u)) ∧ wy l oo oz := by
  unfold fX8_repeatLoop_b156 fX8_repeatLoop_b175
  have e41 : (W ||| 4) ||| 1 = (W ||| 1) ||| 4 := by rw [Int32.or_assoc, Int32.or_comm 4 1, ← Int32.or_assoc]
  have n10 : ¬ (1 : Int32) = 0 := by decide
  by_cases c2 : m2 = 0
  · have c2' := h2.2 c2
    by_cases c1 : m1 = 0
    · have c1' := h1.2 c1
      exact ⟨W, W' ||| 0, fun u => by rw [if_pos c1', if_pos c2'], fun u _ => by rw [if_pos c1, if_pos c2, if_pos rfl], by rw [Int64.or_zero]; exact hW⟩
    · have c1' : ¬ o &&& (1 ||| ag) = 0 := fun z => c1 (h1.1 z)
      by_cases c3 : r1 = 0
      · exact ⟨W, W' ||| 0, fun u => by rw [if_neg c1', if_pos c2', if_pos (hr.2 c3), Int32.or_zero], fun u hu => by rw [if_neg c1, if_pos c2, if_neg n10, r_risky hu, if_pos c3], by rw [Int64.or_zero]; exact hW⟩
      · exact ⟨W ||| 4, (W' ||| 0) ||| 4, fun u => by rw [if_neg c1', if_pos c2', if_neg (fun z => c3 (hr.1 z))], fun u hu => by rw [if_neg c1, if_pos c2, if_neg n10, r_risky hu, if_neg c3], by rw [Int64.or_zero]; exact wy_or hW wy_k.2.2.2.1⟩
  · have c2' : ¬ o &&& (1 ||| own) = 0 := fun z => c2 (h2.1 z)
    by_cases c1 : m1 = 0
    · have c1' := h1.2 c1
      exact ⟨W ||| 1, W' ||| 1, fun u => by rw [if_pos c1', if_neg c2'], fun u _ => by rw [if_pos c1, if_neg c2, if_pos rfl], wy_or hW wy_k.2.1⟩
    · have c1' : ¬ o &&& (1 ||| ag) = 0 := fun z => c1 (h1.1 z)
      by_cases c3 : r1 = 0
      · exact ⟨W ||| 1, W' ||| 1, fun u => by rw [if_neg c1', if_neg c2', if_pos (hr.2 c3), Int32.or_zero], fun u hu => by rw [if_neg c1, if_neg c2, if_neg n10, r_risky hu, if_pos c3], wy_or hW wy_k.2.1⟩
      · exact ⟨(W ||| 4) ||| 1, (W' ||| 1) ||| 4, fun u => by rw [if_neg c1', if_neg c2', if_neg (fun z => c3 (hr.1 z))], fun u hu => by rw [if_neg c1, if_neg c2, if_neg n10, r_risky hu, if_neg c3], by rw [e41]; exact wy_or (wy_or hW wy_k.2.1) wy_k.2.2.2.1⟩
set_option maxHeartbeats 200000 in
/-- repeat -/
theorem t_repeat {x : Int64} (ok : rd_ok g) (hn : 1 ≤ n) (hn2 : n ≤ 14) (hB : BS g n B B') (hxB : ∀ f p l v, xc g f p l v → cG g f p l (B v)) (hij : i ≤ j) (hj : tkc g j = 321) (hk : ∀ m, i ≤ m → m < j → tkc g m ≠ 300) (h : St g j n p C j n q d 0 R K k s l b A e e' v w) (z : z1 g n i p q K.length d s) (o : ov g i s e e') (hln : l + 1 ≤ n ∧ LB A l p d) :
    jn g l (3300 + 20 * (15 - n)) (SPT g n i p C q d R K k s l b A e e') (fX8_repeatLoop B x (nI (tka g i)) v) (fX12_loop B' (nI i) x w) := by
  obtain ⟨⟨z1, z2, z3⟩, zd, zs⟩ := z
  have hL := ok.1
  have hm3 := ok.2.2.1.2.2
  have hjg := (St_im h).1
  have taj := tka_L ok j
  have tij : tka g i ≤ tka g j := by
    by_cases c : i = j
    · rw [c]; exact Nat.le_refl _
    · exact Nat.le_of_lt (tka_lt ok (show i < j by omega) hjg)
  have hd : d < 640 := by omega
  have hl1 := hln.1
  have hi3 : i < 3002 := by omega
  have ii : ¬ (nI i < 0 ∨ 3002 ≤ (nI i).toNatClampNeg) := ni_nin (by omega) (by omega)
  obtain ⟨w1, b1, s1⟩ := r_desc (t := i) ok h (by omega) hd
  obtain ⟨v2, a2, s2⟩ := c_adv ok s1 (by rw [hj]; decide) (by rw [hj]; decide)
  obtain ⟨w3, b3, s3⟩ := r_skip (c := 321) (x := 45) ok s2 rfl (by decide) hj (by decide) (by decide)
  have him := (St_im s3).1
  have t0 : tka g j + 5 ≤ tka g (j + 1) := kw_21 ok hj
  have ta1 := tka_L ok (j + 1)
  have hk16 : k ≤ 1600 := by have := h.2.2.2.2.2.1.1; omega
  obtain ⟨v4, a4, s4⟩ := c_add (y := 32) ok s3 (by omega)
  obtain ⟨v5, a5, s5⟩ := c_part (x := 46) (y := nI (tka g i)) ok s4 (by omega)
  obtain ⟨w6, b6, s6⟩ := r_emit (o := 43) (a := nI d) (c := 0) s5 (by omega)
  obtain ⟨w7, b7, s7⟩ := r_emit (o := 56) (a := nI d) (c := 0) s6 (by omega)
  have hR4 : rE (rE (rD R d (nI (tka g i))) q 43 (nI d) 0) (q + 1) 56 (nI d) 0 4 d = -1 := by rw [rE_j (by omega), rE_j (by omega), rD_4]
  have JR := j_round (x := x) (at_ := p + 1) (dd := d) ok hn hn2 hB s7 ⟨⟨by omega, by omega, by omega⟩, by omega, by omega⟩ (ov_m ok o (by omega) him (Nat.le_refl _) (Nat.le_refl _)) hl1 (LB_m hln.2 rfl (by omega) (Nat.le_refl _)) (by omega) (by omega) cP_4 hR4
  unfold fX8_repeatLoop fX12_loop
  rw [a2, q_bv_s, a4, q_bd_s, a5, q_bd_s, b1, q_bd_s, q_lt_e s1.2.2.2.2.2.1.1.2.2.1, r_is (c := 321) (x := 45) ok s1 rfl (by decide), if_pos hj, q_bd_s, q_lt_s, b3, q_bd_s, if_neg (show ¬ (1 : Int32) = 0 by decide), b6, q_bd_s, b7, q_bd_s]
  unfold fX12_loop_b215
  rw [if_neg (show ¬ (1 : Int32) = 0 by decide), b229_eq (r_fine s7)]
  refine jn_dd JR (fun f p a v h => ?_) (fun f p a w h => ?_) ?_
  · exact cG_d (x_own h) (fun a v h => cG_d (x_ln h) (fun a v h => cG_d (x_ag h) (fun a v h => cG_v (x_exp h) (fun v h => cG_d (x_add2 ok h) (fun a v h => cG_d (x_E h) (fun a v h => x_rpE ok h))))))
  · rw [rrE_1]
    exact rG_le (y_rpU hd hi3 (by omega) (xr_k h hk16)) (by omega)
  · intro o2 v8 zz w8 X
    obtain ⟨i2, pe, C2, qe, d2, r2, R2, K2, s2', A2, e2, e2', Y, F0, ⟨F1, F2, F3, F4, F5, F6, F7, F8, F9, F10⟩, ⟨G1, G2, G3, t2, G4⟩, F11, ⟨F12, F13, F14⟩, ⟨F15, F15'⟩, F16, F17, n14, F18⟩ := X
    have hi2 := (St_im F0).1
    have ti2 := tka_L ok i2
    have hb14 : l < 14 := by omega
    have N0 := F0.2.2.2.2.2.1
    rw [c_own F0 hb14, q_bd_s, (c_ag F0 hb14).1, q_bd_s, (c_ag F0 hb14).2, q_bd_s, rrE_1, q_si_ix N0.1.2.2.1, N0.2.2.2.1.2.1]
    unfold rpU
    by_cases hu : tkc g i2 = 322
    · obtain ⟨v9, a9, s9⟩ := c_exp (y := 322) ok F0 hu (by decide) (by decide)
      obtain ⟨w10, b10, s10⟩ := r_take (c := 322) (x := 46) ok s9 rfl (by decide) hu (by decide) (by decide)
      have hiu := (St_im s10).1
      have tu : tka g i2 + 2 ≤ tka g (i2 + 1) := kw_2 (j := 22) ok (by omega) hu
      have tiu := tka_L ok (i2 + 1)
      obtain ⟨v11, a11, s11⟩ := c_add2 (x := 31) (y := nI (tka g i)) ok s10 (by omega)
      have s12 := r_set (j := 3) (a := d) (y := nI qe) s11 (by omega)
      obtain ⟨w13, b13, s13⟩ := r_emit (o := 55) (a := nI (tka g i)) (c := 0) s12 (by omega)
      rw [show rdj 3 = 2418 from rfl] at b13
      have s14 := r_risk (x := 0) s13
      have J := US_E ok hn2 (i2 + 1) (pe + 2) _ (qe + 1) d2 0 _ K2 k s2' l b A2 e2 e2' v11 _ s14 ⟨by omega, by omega, by omega⟩ (ov_m ok F16 (by omega) hiu (Nat.le_refl _) (Nat.le_refl _)) (Or.inl rfl)
      rw [a9, q_bv_s, a11, q_bd_s, b10, q_bv_s, if_neg (in6 hd), ni_clamp (show d < 2147483648 by omega), s10.2.2.2.2.1.1.2.2.2.1, q_lt_s, if_neg ii, ni_clamp (show i < 2147483648 by omega), show q_a (q_sa w10 2418 (upd (q_a w10 2418) d (nI qe))) 2405 i = nI (tka g i) from r_place ok s12 (by omega), b13, q_bd_s]
      refine jn_dv J (fun f p a v h => x_rpE ok h) (fun f p w h => rG_le (y_rpT hd (by omega) h) (by omega)) ?_
      intro a v15 w15 E
      obtain ⟨i1, p1, C1, q1, r1, R1, K1, e1, e1', E⟩ := E
      obtain ⟨S, ⟨E1, E2, E3, E4, E5, E6⟩, ⟨E7, E8, E9, t1, E10⟩, E11, ⟨E12, E13, E14⟩, ⟨E15, E15'⟩, E16⟩ := E
      have hi1 := (St_im S).1
      have ti1 := tka_L ok i1
      have hnr := nat_r E12 E14
      obtain ⟨v16, a16, s16⟩ := c_add2 (x := 23) (y := nI p) ok S (by omega)
      obtain ⟨v17, a17, s17⟩ := c_set (a := p + 1 + 2) (y := nI pe) ok s16 (by omega)
      obtain ⟨v18, a18, s18⟩ := c_set (a := p + 1 + 3) (y := nI (p1 + 2)) ok s17 (by omega)
      unfold rpT fX8_setRound
      rw [tr_of, q_bd_s, a16, q_bd_s, c_size s16, q_bd_s, show nI (p + 1) + 2 = nI (p + 1 + 2) from ni_add (b := 2), a17, q_bv_s, show nI (p + 1) + 3 = nI (p + 1 + 3) from ni_add (b := 3), a18, q_bv_s, q_bv_s]
      by_cases h59 : tkc g i1 = 59
      · obtain ⟨v19, a19, s19⟩ := c_exp (y := 59) ok s18 h59 (by decide) (by decide)
        obtain ⟨w20, b20, s20⟩ := r_takeS (c := 59) ok s19 rfl (by decide) h59 (by decide) (by decide)
        have hi9 := (St_im s20).1
        have t9 := tka_lt ok (show i1 < i1 + 1 by omega) hi9
        obtain ⟨w21, b21, s21⟩ := r_emit (o := 57) (a := nI d) (c := nI (q + 1)) s20 (by omega)
        have s22 := r_set (j := 5) (a := d) (y := nI (q1 + 1)) s21 (by omega)
        obtain ⟨oo, oz, ho1, ho2, hwy⟩ := wy_rp (B := B) (w1 := x) (x3 := nI (tka g i)) (wy_own hb14 F13) (wy_ag hb14 F13).1 (wy_ag hb14 F13).2 hnr
        rw [a19, q_bv_s, q_lt_s, q_lt_s, ho1, b20, q_bv_s, b21, q_bd_s, Int64.zero_or, ho2 w21 s21.2.2.2.2.1.1.2.2.2.2.2.2, q_bd_s, if_neg (in6 hd), ni_clamp (show d < 2147483648 by omega), s21.2.2.2.2.1.1.2.2.2.1]
        have BD : i < i1 + 1 ∧ p1 + 2 + 2 * tka g i ≤ p + 2 * tka g (i1 + 1) ∧ q1 + 1 + tka g i ≤ q + tka g (i1 + 1) ∧ 3 * K1.length + tka g i ≤ 3 * K.length + tka g (i1 + 1) ∧ 5 * d2 + tka g i ≤ 5 * d + tka g (i1 + 1) ∧ 2 * s2' + tka g i ≤ 2 * s + tka g (i1 + 1) ∧ p ≤ p1 + 2 ∧ q ≤ q1 + 1 ∧ d ≤ d2 ∧ s ≤ s2' ∧ k ≤ k := ⟨by omega, by omega, by omega, by omega, by omega, by omega, by omega, by omega, by omega, by omega, by omega⟩
        have BD2 : p1 + 2 + 2 * tka g i + 2 ≤ p + 2 * tka g (i1 + 1) ∧ q1 + 1 + tka g i + 1 ≤ q + tka g (i1 + 1) := ⟨by omega, by omega⟩
        have hp1 : p1 ≤ 6016 := by omega
        have hnu : 10 * (14 - n) + 4 + 2 * n ≤ 142 := by omega
        have hn14 : n + 1 ≤ 14 := by omega
        have hE1 : i < i1 := by omega
        have hji2 : j + 1 < i2 := by omega
        have hi21 : i2 + 1 < i1 := by omega
        have hq2 : q + 2 < qe := by omega
        have hp2 : p + 6 < pe := by omega
        have hEp : pe + 2 ≤ p1 := by omega
        have hEq : qe + 1 ≤ q1 := by omega
        have hdd2 : d + 1 ≤ d2 := by omega
        have hee : e1 ≤ e := by omega
        have hee' : e1' ≤ e' := by omega
        have hov := ov_m ok F16 (show i2 ≤ i1 + 1 by omega) hi9 E15 E15'
        clear E2 E3 E4 F2 F3 F4 F5 F6 z1 z2 z3 zd zs t0 ta1 ti1 ti2 taj tij t9 tu tiu
        have kC : ∀ x, x < pe → x ≠ p + 3 → x ≠ p + 4 → upd (upd (upd (upd C1 p1 23) (p1 + 1) (nI p)) (p + 1 + 2) (nI pe)) (p + 1 + 3) (nI (p1 + 2)) x = C2 x := fun x hx h3 h4 => by rw [upd_ne (by omega), upd_ne (by omega), upd_ne (by omega), upd_ne (by omega), E7 x (by omega), upd_ne (by omega), upd_ne (by omega)]
        have kR : ∀ j x, j < 3 → x < qe → rO (rE R1 q1 57 (nI d) (nI (q + 1))) 5 d (nI (q1 + 1)) j x = R2 j x := fun j x hj hx => by rw [rO_x (by omega), rE_x (by omega), E8 j x hj (by omega), rE_x (by omega), rO_x (by omega)]
        have kD : ∀ j x, 3 ≤ j → (j ≠ 5 ∨ x ≠ d) → (j ≠ 3 ∨ x ≠ d) → rO (rE R1 q1 57 (nI d) (nI (q + 1))) 5 d (nI (q1 + 1)) j x = R2 j x := fun j x hj h5 h3 => by rw [rO_x h5, rE_j hj, E9 j hj, rE_j hj, rO_x h3]
        refine jn_qq ⟨i1 + 1, p1 + 2, _, q1 + 1, d2, r1, _, K1, k, s2', A2, e1, e1', Y, ⟨s22, BD, ⟨fun x hx => by rw [kC x (by omega) (by omega) (by omega), G1 x (by omega) (by omega), cP_x (by omega), upd_ne (by omega)], fun j x hj hx => by rw [kR j x hj (by omega), G2 j x hj (by omega), rE_x (by omega), rE_x (by omega), rD_x (by omega)], fun j x hj hx => by rw [kD j x hj (by omega) (by omega), G3 j x hj (by omega) (by omega), rE_j hj, rE_j hj, rD_x (by omega)], t1 ++ t2, by rw [E10, G4, List.append_assoc]⟩, fun u h1 h2 => ?_, ⟨F12, hwy, F14⟩, ⟨hee, hee'⟩, hov, fun x h1 h2 => ?_, fun T XL x1 x2 x3 x4 => ?_⟩, BD2⟩
        · by_cases c1 : u < j
          · exact hk u h1 c1
          · by_cases c2 : u = j
            · rw [c2, hj]; decide
            · by_cases c3 : u < i2
              · exact F11 u (by omega) c3
              · by_cases c4 : u = i2
                · rw [c4, hu]; decide
                · by_cases c5 : u < i1
                  · exact E11 u (by omega) c5
                  · rw [show u = i1 by omega, h59]; decide
        · by_cases c1 : x = q1
          · rw [rO_x (by omega), c1, rE_0, upd_at]; exact fun z => absurd z (by decide)
          · by_cases c2 : x < qe
            · rw [kR 0 x (by omega) c2, kR 1 x (by omega) c2]
              by_cases c3 : x < q + 2
              · rw [G2 0 x (by omega) c3]
                by_cases c4 : x = q + 1
                · rw [c4, rE_0, upd_at]; exact fun z => absurd z (by decide)
                · rw [rE_x c4, show x = q by omega, rE_0, upd_at]; exact fun z => absurd z (by decide)
              · exact F17 x (by omega) c2
            · by_cases c3 : x = qe
              · rw [rO_x (by omega), rE_x c1, E8 0 x (by omega) (by omega), c3, rE_0, upd_at]; exact fun z => absurd z (by decide)
              · rw [rO_x (by omega), rE_x c1]; exact fun z => absurd z (i30 (E16.1 x (by omega) (by omega)))
        · have d0 : rO (rE R1 q1 57 (nI d) (nI (q + 1))) 5 d (nI (q1 + 1)) 0 q = 43 := by rw [kR 0 q (by omega) (by omega), G2 0 q (by omega) (by omega), rE_x (by omega), rE_0, upd_at]
          have d1 : rO (rE R1 q1 57 (nI d) (nI (q + 1))) 5 d (nI (q1 + 1)) 0 (q + 1) = 56 := by rw [kR 0 (q + 1) (by omega) (by omega), G2 0 (q + 1) (by omega) (by omega), rE_0, upd_at]
          have d2' : rO (rE R1 q1 57 (nI d) (nI (q + 1))) 5 d (nI (q1 + 1)) 0 qe = 55 := by rw [rO_x (by omega), rE_x (by omega), E8 0 qe (by omega) (by omega), rE_0, upd_at]
          have d3 : rO (rE R1 q1 57 (nI d) (nI (q + 1))) 5 d (nI (q1 + 1)) 0 q1 = 57 := by rw [rO_x (by omega), rE_0, upd_at]
          have c0 := ag_c x2 (Nat.le_refl p) (by omega)
          have c1 := ag_c x2 (show p ≤ pe by omega) (by omega)
          have c2 := ag_c x2 (show p ≤ pe + 1 by omega) (by omega)
          have c3 := ag_c x2 (show p ≤ p1 by omega) (by omega)
          have c4 := ag_c x2 (show p ≤ p1 + 1 by omega) (by omega)
          have m0 := ag_c x2 (show p ≤ p + 1 by omega) (by omega)
          have m1 := ag_c x2 (show p ≤ p + 1 + 1 by omega) (by omega)
          have m2 := ag_c x2 (show p ≤ p + 1 + 2 by omega) (by omega)
          have m3 := ag_c x2 (show p ≤ p + 1 + 3 by omega) (by omega)
          have m4 := ag_c x2 (show p ≤ p + 1 + 4 by omega) (by omega)
          have r0 := ag_r0 x2 (Nat.le_refl q) (by omega)
          have r1' := ag_r1 x2 (Nat.le_refl q) (by omega) (by rw [d0]; decide)
          have r2' := ag_r0 x2 (show q ≤ q + 1 by omega) (by omega)
          have r3' := ag_r1 x2 (show q ≤ q + 1 by omega) (by omega) (by rw [d1]; decide)
          have r4' := ag_r0 x2 (show q ≤ qe by omega) (by omega)
          have r5' := ag_r1 x2 (show q ≤ qe by omega) (by omega) (by rw [d2']; decide)
          have r6' := ag_r0 x2 (show q ≤ q1 by omega) (by omega)
          have r7' := ag_r1 x2 (show q ≤ q1 by omega) (by omega) (by rw [d3]; decide)
          have r8' := ag_r2 x2 (show q ≤ q1 by omega) (by omega)
          have u3 := ag_d (j := 3) x2 (Nat.le_refl d) (by omega) (by omega) (by omega)
          have u4 := ag_d (j := 4) x2 (Nat.le_refl d) (by omega) (by omega) (by omega)
          have u5 := ag_d (j := 5) x2 (Nat.le_refl d) (by omega) (by omega) (by omega)
          have u6 := ag_d (j := 6) x2 (Nat.le_refl d) (by omega) (by omega) (by omega)
          rw [kC p (by omega) (by omega) (by omega), G1 p (by omega) (by omega), cP_x (by omega), upd_at] at c0
          rw [upd_ne (by omega), upd_ne (by omega), upd_ne (by omega), upd_ne (by omega), E7 pe (by omega), upd_ne (by omega), upd_at] at c1
          rw [upd_ne (by omega), upd_ne (by omega), upd_ne (by omega), upd_ne (by omega), E7 (pe + 1) (by omega), upd_at] at c2
          rw [upd_ne (by omega), upd_ne (by omega), upd_ne (by omega), upd_at] at c3
          rw [upd_ne (by omega), upd_ne (by omega), upd_at] at c4
          rw [kC (p + 1) (by omega) (by omega) (by omega), G1 (p + 1) (by omega) (by omega), cP_0] at m0
          rw [kC (p + 1 + 1) (by omega) (by omega) (by omega), G1 (p + 1 + 1) (by omega) (by omega), cP_1] at m1
          rw [upd_ne (by omega), upd_at] at m2
          rw [upd_at] at m3
          rw [kC (p + 1 + 4) (by omega) (by omega) (by omega)] at m4
          rw [d0] at r0
          rw [kR 1 q (by omega) (by omega), G2 1 q (by omega) (by omega), rE_x (by omega), rE_1, upd_at] at r1'
          rw [d1] at r2'
          rw [kR 1 (q + 1) (by omega) (by omega), G2 1 (q + 1) (by omega) (by omega), rE_1, upd_at] at r3'
          rw [d2'] at r4'
          rw [rO_x (by omega), rE_x (by omega), E8 1 qe (by omega) (by omega), rE_1, upd_at] at r5'
          rw [d3] at r6'
          rw [rO_x (by omega), rE_1, upd_at] at r7'
          rw [rO_x (by omega), rE_2, upd_at] at r8'
          rw [rO_x (by omega), rE_j (by omega), E9 3 (by omega), rE_j (by omega), rO_at] at u3
          rw [kD 4 d (by omega) (by omega) (by omega)] at u4
          rw [rO_at] at u5
          rw [kD 6 d (by omega) (by omega) (by omega), G3 6 d (by omega) (by omega) (by omega), rE_j (by omega), rE_j (by omega), rD_6] at u6
          have y1 := E16.2 T XL x1 (ag_S x2 (by omega) (by omega) (by omega) (by omega) (by omega) (by omega) (fun x h5 hx => by rw [upd_ne (by omega), upd_ne (by omega), upd_ne (by omega), upd_ne (by omega)]) (fun j x hj h5 hx => by rw [rO_x (by omega), rE_x (by omega)]) (fun j x hj h5 hx => absurd h5 (by omega)) (fun y hy => hy)) x3
          have y2 := F18 T XL x1 (ag_S x2 (by omega) (by omega) (by omega) (by omega) (by omega) (Nat.le_refl _) (fun x h5 hx => kC x hx (by omega) (by omega)) (fun j x hj h5 hx => kR j x hj hx) (fun j x hj h5 hx => kD j x hj (by omega) (by omega)) (fun y hy => by rw [E10]; exact List.mem_append_right _ hy)) (by have := bl_le F0.2.2.2.2.2.2.1; omega) x4
          exact ⟨fun Fin a S f0 H => ru_STS (ru_REPEAT H.1 (y1 Fin a S f0 H) hnu hn14 hd hp1 c0 c1 c2 c3 c4 r0 r1' r2' r3' r4' r5' r6' r7' r8' u4 rfl u5 (y2.2 pe (p1 + 2) qe (q1 + 1) _ m0 m1 m2 m3 m4 u3 u4 u5 u6 Fin a S f0 H) (by omega)), y2.1⟩
      · obtain ⟨v19, a19, s19⟩ := c_expX s18 h59
        obtain ⟨w20, b20, s20⟩ := r_takeSX (c := 59) (Bd := 3302 + 20 * (14 - n)) ok s18 rfl (by decide) h59 (by omega)
        rw [a19, q_bv_s, q_lt_s, b20, q_bv_s]
        refine jn_xx (cG_i (fun _ => x_156 s19) (fun _ => x_156 s19)) (rG_le (rG_d (y_emit (by omega) s20) (fun a w h => rG_d (B1 := 3302 + 20 * (14 - n) + 1) (rG_i (fun _ => rG_s h) (fun _ => y_risky h)) (fun a w h => ?_))) (show 3302 + 20 * (14 - n) + 1 ≤ 3300 + 20 * (15 - n) by omega))
        rw [if_neg (in6 hd)]
        exact rG_s (xr_a h (by omega))
    · obtain ⟨v9, a9, s9⟩ := c_expX F0 hu
      obtain ⟨w10, b10, s10⟩ := r_takeX (c := 322) (x := 46) (Bd := 3302 + 20 * (14 - n)) ok F0 rfl (by decide) hu (by omega)
      rw [a9, q_bv_s, b10, q_bv_s, if_neg (in6 hd), q_lt_s, if_neg ii]
      refine jn_xx (cG_d (x_add2 ok s9) (fun a v h => cG_d (x_E h) (fun a v h => x_rpE ok h))) (rG_d (y_emit (by omega) (xr_a s10 (by omega))) (fun a w h => rG_v (y_E (xr_i h (by omega))) (fun w h => rG_le (y_rpT hd (by omega) h) (by omega))))
end
