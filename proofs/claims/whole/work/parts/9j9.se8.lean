section
variable {g : rd_G} {i j n p q d k s l b e e' : Nat} {C : Nat → Int32} {r : Int32} {R : Nat → Nat → Int32} {K : rd_K} {A : rd_A} {v w : q_V} {T : co_T} {XL : Int32 → Int32 → Int32 → Prop}
variable {B : q_V → Option (Int32 × q_V)} {B' : q_V → Option (Int64 × q_V)}
set_option maxHeartbeats 200000 in
theorem y_b229 {f p : Int32} {Bd : Nat} {x1 xn4 xn5 xn6 xn7 : Int32} {w2 wt0 : Int64} (h : xr g f p Bd w) : rG g f p Bd (fX12_loop_b229 B' x1 w2 xn4 xn5 xn6 xn7 wt0 w) := by
  unfold fX12_loop_b229
  rw [y_fine h, q_bd_s, if_pos rfl]; exact rG_s h
set_option maxHeartbeats 200000 in
theorem y_rrE0 {f p : Int32} {Bd k0 dd : Nat} {x1 xn7 : Int32} {w2 wt0 z : Int64} (hk : k0 ≤ 1600) (hd : dd < 640) (h : xr g f p Bd w) : rG g f p Bd (rrE x1 w2 B' (nI dd) (nI k0) 0 xn7 wt0 z w) := by
  unfold rrE fX12_loop_b373 fX12_loop_b378 fX12_loop_b416
  simp only [q_lt_s, eq_self, ↓reduceIte, if_neg (in6 hd)]
  exact rG_s (xr_a (xr_k h hk) (by omega))
set_option maxHeartbeats 200000 in
theorem kw_w : 2 ^ (8 * 4) ≤ (kw_c 5).toBitVec.toNat := by decide +kernel
set_option maxHeartbeats 200000 in
theorem kw_5 (ok : rd_ok g) (h : tkc g i = 305) : tka g i + 5 ≤ tka g (i + 1) := by
  have h1 := (tk_kl (kw := kw_c) (j := 5) (k := 4) ok.2.1 ok.1 (by omega) h kw_w).1
  have h2 := tk_al (tp := g.1) ok.1 (i + 1)
  unfold tka; unfold gL at *; omega
set_option maxHeartbeats 200000 in
theorem or_r3 {a b c : Int64} : (a ||| b) ||| c = (b ||| c) ||| a := by rw [Int64.or_assoc, Int64.or_comm]
set_option maxHeartbeats 200000 in
/-- while -/
theorem t_while {x : Int64} (ok : rd_ok g) (hn : 1 ≤ n) (hn2 : n ≤ 14) (hB : BS g n B B') (hxB : ∀ f p l v, xc g f p l v → cG g f p l (B v)) (hij : i ≤ j) (hj : tkc g j = 305) (hk : ∀ m, i ≤ m → m < j → tkc g m ≠ 300) (h : St g j n p C j n q d 0 R K k s l b A e e' v w) (z : z1 g n i p q K.length d s) (o : ov g i s e e') (hln : l + 1 ≤ n ∧ LB A l p d) :
    jn g l (3300 + 20 * (15 - n)) (SPT g n i p C q d R K k s l b A e e') (fX8_whileLoop B x (nI (tka g i)) v) (fX12_loop B' (nI i) x w) := by
  obtain ⟨⟨z1, z2, z3⟩, zd, zs⟩ := z
  have hL := ok.1
  have hm3 := ok.2.2.1.2.2
  have hjg := (St_im h).1
  have taj := tka_L ok j
  have tij : tka g i ≤ tka g j := by
    by_cases c : i = j
    · rw [c]; exact Nat.le_refl _
    · exact Nat.le_of_lt (tka_lt ok (show i < j by omega) hjg)
  have hd : d < 640 := by omega
  have hl1 := hln.1
  have ii : ¬ (nI i < 0 ∨ 3002 ≤ (nI i).toNatClampNeg) := ni_nin (by omega) (by omega)
  obtain ⟨w1, b1, s1⟩ := r_desc (t := i) ok h (by omega) hd
  obtain ⟨v2, a2, s2⟩ := c_adv ok s1 (by rw [hj]; decide) (by rw [hj]; decide)
  obtain ⟨w3, b3, s3⟩ := r_skip (c := 305) (x := 15) ok s2 rfl (by decide) hj (by decide) (by decide)
  have him := (St_im s3).1
  have t0 : tka g j + 5 ≤ tka g (j + 1) := kw_5 ok hj
  have ta1 := tka_L ok (j + 1)
  have hk16 : k ≤ 1600 := by have := h.2.2.2.2.2.1.1; omega
  obtain ⟨v4, a4, s4⟩ := c_add2 (x := 30) (y := nI (tka g i)) ok s3 (by omega)
  obtain ⟨w5, b5, s5⟩ := r_emit (o := 43) (a := nI d) (c := 0) s4 (by omega)
  have s6 := r_set (j := 3) (a := d) (y := nI (q + 1)) s5 (by omega)
  obtain ⟨w7, b7, s7⟩ := r_emit (o := 44) (a := nI (tka g i)) (c := 0) s6 (by omega)
  rw [show rdj 3 = 2418 from rfl] at b7
  have J := US_E ok hn2 (j + 1) (p + 2) _ (q + 2) (d + 1) 0 _ K k s l b A e e' v4 w7 s7 ⟨by omega, by omega, by omega⟩ (ov_m ok o (by omega) him (Nat.le_refl _) (Nat.le_refl _)) (Or.inl rfl)
  have j7 : ¬ tkc g j = 321 := by rw [hj]; decide
  have tcE : ∀ f p v (y13 y16 y5 y18 y10 : Int32), xc g f p l v → cG g f p l (q_bd (fX0_size v) (fun y21 T20 => q_bv (fX0_set (y13 + 1) y21 T20) (fun T22 => q_bd (fX0_size T22) (fun y25 T24 => q_bv (fX8_setRound y16 y5 y25 T24) (fun T26 => q_bd (fX8_ownWays T26) (fun y28 T27 => some ((((y18 &&& (y28 ^^^ (-1))) &&& (-2)) ||| 1) ||| y10, T27))))))) := fun f p v y13 y16 y5 y18 y10 h => cG_d (x_size h) (fun a v h => cG_v (x_set ok h) (fun v h => cG_d (x_size h) (fun a v h => cG_v (x_sr ok h) (fun v h => cG_d (x_own h) (fun a v h => cG_s h)))))
  unfold fX8_whileLoop fX12_loop
  rw [a2, q_bv_s, a4, q_bd_s, b1, q_bd_s, q_lt_e s1.2.2.2.2.2.1.1.2.2.1, r_is (c := 321) (x := 45) ok s1 rfl (by decide), if_neg j7, q_bd_s, q_lt_e s1.2.2.2.2.1.1.2.2.2.1, r_skipN (c := 321) (x := 45) ok s1 rfl (by decide) j7, q_bd_s, if_pos rfl, b3, q_bd_s, if_neg (show ¬ (1 : Int32) = 0 by decide), b5, q_bd_s, if_neg (in6 hd), ni_clamp (show d < 2147483648 by omega), s5.2.2.2.2.1.1.2.2.2.1, q_lt_s, if_neg ii, ni_clamp (show i < 2147483648 by omega), show q_a (q_sa w5 2418 (upd (q_a w5 2418) d (nI (q + 1)))) 2405 i = nI (tka g i) from r_place ok s6 (by omega), b7, q_bd_s]
  refine jn_dv J (fun f p a v h => ?_) (fun f p w h => ?_) ?_
  · rw [tr_of, q_bd_s]
    exact cG_d (x_add2 ok h) (fun a v h => cG_d (x_part ok h) (fun a v h => cG_d (x_round ok (by omega) hxB h) (fun a v h => tcE _ _ _ _ _ _ _ _ h)))
  · refine rG_d (y_emit (by omega) h) (fun a w h => ?_)
    unfold fX12_loop_b215
    rw [if_pos rfl]
    exact rG_le (rG_d (y_risky h) (fun a w h => y_b229 h)) (by omega)
  · intro a v8 w8 E
    obtain ⟨i1, p1, C1, q1, r1, R1, K1, e1, e1', E⟩ := E
    obtain ⟨S, ⟨E1, E2, E3, E4, E5, E6⟩, ⟨E7, E8, E9, t1, E10⟩, E11, ⟨E12, E13, E14⟩, ⟨E15, E15'⟩, E16⟩ := E
    have hi1 := (St_im S).1
    have ti1 := tka_L ok i1
    have hnr := nat_r E12 E14
    obtain ⟨v9, a9, s9⟩ := c_add2 (x := 23) (y := 0) ok S (by omega)
    obtain ⟨v10, a10, s10⟩ := c_part (x := 46) (y := nI (tka g i)) ok s9 (by omega)
    obtain ⟨w11, b11, s11⟩ := r_emit (o := 45) (a := nI d) (c := 0) s10 (by omega)
    have hR4 : rE R1 q1 45 (nI d) 0 4 d = -1 := by rw [rE_j (by omega), E9 4 (by omega), rE_j (by omega), rO_x (by omega), rE_j (by omega), rD_4]
    have JR := j_round (x := x) (at_ := p1 + 2) (dd := d) ok hn hn2 hB s11 ⟨⟨by omega, by omega, by omega⟩, by omega, by omega⟩ (ov_m ok o (by omega) hi1 E15 E15') hl1 (LB_m hln.2 rfl (by omega) (Nat.le_refl _)) (by omega) (by omega) cP_4 hR4
    rw [tr_of, q_bd_s, a9, q_bd_s, a10, q_bd_s, b11, q_bd_s]
    unfold fX12_loop_b215
    rw [if_pos rfl, r_risky s11.2.2.2.2.1.1.2.2.2.2.2.2, q_bd_s, b229_eq (r_fine s11)]
    refine jn_dd JR (fun f p a v h => tcE _ _ _ _ _ _ _ _ h) (fun f p a w h => rG_le (y_rrE0 hk16 hd h) (by omega)) ?_
    intro o2 v12 zz w12 X
    obtain ⟨i2, pe, C2, qe, d2, r2, R2, K2, s2', A2, e2, e2', Y, F0, ⟨F1, F2, F3, F4, F5, F6, F7, F8, F9, F10⟩, ⟨G1, G2, G3, t2, G4⟩, F11, ⟨F12, F13, F14⟩, ⟨F15, F15'⟩, F16, F17, n14, F18⟩ := X
    have hi2 := (St_im F0).1
    have ti2 := tka_L ok i2
    obtain ⟨v13, a13, s13⟩ := c_set (a := p1 + 1) (y := nI pe) ok F0 (by omega)
    obtain ⟨v14, a14, s14⟩ := c_set (a := p1 + 2 + 2) (y := nI p) ok s13 (by omega)
    obtain ⟨v15, a15, s15⟩ := c_set (a := p1 + 2 + 3) (y := nI pe) ok s14 (by omega)
    have s16 := r_set (j := 5) (a := d) (y := nI qe) s15 (by omega)
    have N0 := F0.2.2.2.2.2.1
    unfold rrE fX8_setRound fX12_loop_b373 fX12_loop_b378 fX12_loop_b416
    rw [c_size F0, q_bd_s, ni_add1, a13, q_bv_s, c_size s13, q_bd_s, show nI (p1 + 2) + 2 = nI (p1 + 2 + 2) from ni_add (b := 2), a14, q_bv_s, show nI (p1 + 2) + 3 = nI (p1 + 2 + 3) from ni_add (b := 3), a15, q_bv_s, q_bv_s, c_own s15 (by omega), q_bd_s, q_si_ix N0.1.2.2.1, q_lt_s, N0.2.2.2.1.2.1, q_lt_s, q_lt_s, q_lt_s, if_pos rfl, q_lt_s, if_pos rfl, if_neg (in6 hd), ni_clamp (show d < 2147483648 by omega), q_lt_s, F0.2.2.2.2.1.1.2.2.2.1]
    have BD : i < i2 ∧ pe + 2 * tka g i ≤ p + 2 * tka g i2 ∧ qe + tka g i ≤ q + tka g i2 ∧ 3 * K2.length + tka g i ≤ 3 * K.length + tka g i2 ∧ 5 * d2 + tka g i ≤ 5 * d + tka g i2 ∧ 2 * s2' + tka g i ≤ 2 * s + tka g i2 ∧ p ≤ pe ∧ q ≤ qe ∧ d ≤ d2 ∧ s ≤ s2' ∧ k ≤ k := ⟨by omega, by omega, by omega, by omega, by omega, by omega, by omega, by omega, by omega, by omega, by omega⟩
    have BD2 : pe + 2 * tka g i + 2 ≤ p + 2 * tka g i2 ∧ qe + tka g i + 1 ≤ q + tka g i2 := ⟨by omega, by omega⟩
    have hp6 : pe ≤ 6016 := by omega
    have hp1 : p1 ≤ 6016 := by omega
    have hq1 : q1 < 4000 := by omega
    have hb14 : l < 14 := by omega
    have hnu : 10 * (14 - n) + 4 + 2 * n ≤ 142 := by omega
    have hn14 : n + 1 ≤ 14 := by omega
    have hE1 : i < i1 := by omega
    have hE2 : i1 ≤ i2 := by omega
    have hq2 : q1 + 1 < qe := by omega
    have hp2 : p1 + 7 < pe := by omega
    have hEp : p + 2 ≤ p1 := by omega
    have hEq : q + 2 ≤ q1 := by omega
    have hdd2 : d + 1 ≤ d2 := by omega
    have hee : e2 ≤ e := by omega
    have hee' : e2' ≤ e' := by omega
    have hji1 : j < i1 := by omega
    clear E2 E3 E4 F2 F3 F4 F5 F6 z1 z2 z3 zd zs t0 ta1 ti1 ti2 taj tij
    have kC : ∀ x, x < p1 → upd (upd (upd C2 (p1 + 1) (nI pe)) (p1 + 2 + 2) (nI p)) (p1 + 2 + 3) (nI pe) x = C1 x := fun x hx => by rw [upd_ne (by omega), upd_ne (by omega), upd_ne (by omega), G1 x (by omega) (by omega), cP_x (by omega), upd_ne (by omega), upd_ne (by omega)]
    have kR : ∀ j x, j < 3 → x < q1 → rO R2 5 d (nI qe) j x = R1 j x := fun j x hj hx => by rw [rO_x (by omega), G2 j x hj (by omega), rE_x (by omega)]
    have kD : ∀ j x, 3 ≤ j → x < d + 1 → (j ≠ 4 ∨ x ≠ d) → R2 j x = rO (rE (rD R d (nI (tka g i))) q 43 (nI d) 0) 3 d (nI (q + 1)) j x := fun j x hj hx h2 => by rw [G3 j x hj (by omega) h2, rE_j hj, E9 j hj, rE_j hj]
    have wyE := wy_or (wy_or (wy_own hb14 F13) (wy_k (l := l)).2.1) (wy_t0 (l := l) hnr)
    refine jn_qq ⟨i2, pe, _, qe, d2, r2, _, K2, k, s2', A2, e2, e2', Y, ⟨s16, BD, ⟨fun x hx => by rw [kC x (by omega), E7 x (by omega), upd_ne (by omega), upd_ne (by omega)], fun j x hj hx => by rw [kR j x hj (by omega), E8 j x hj (by omega), rE_x (by omega), rO_x (by omega), rE_x (by omega), rD_x (by omega)], fun j x hj hx => by rw [rO_x (by omega), kD j x hj (by omega) (by omega), rO_x (by omega), rE_j hj, rD_x (by omega)], t2 ++ t1, by rw [G4, E10, List.append_assoc]⟩, fun u h1 h2 => ?_, ⟨F12, ?_, F14⟩, ⟨hee, hee'⟩, F16, fun x h1 h2 => ?_, fun T XL x1 x2 x3 x4 => ?_⟩, BD2⟩
    · by_cases c1 : u < j
      · exact hk u h1 c1
      · by_cases c2 : u = j
        · rw [c2, hj]; decide
        · by_cases c3 : u < i1
          · exact E11 u (by omega) c3
          · exact F11 u (by omega) h2
    · rw [or_r3]; exact wyE
    · by_cases c2 : x < q1 + 1
      · by_cases c3 : x = q1
        · rw [rO_x (by omega), G2 0 x (by omega) c2, c3, rE_0, upd_at]; exact fun z => absurd z (by decide)
        · by_cases c4 : x = q + 1
          · rw [kR 0 x (by omega) (by omega), E8 0 x (by omega) (by omega), c4, rE_0, upd_at]; exact fun z => absurd z (by decide)
          · by_cases c5 : x = q
            · rw [kR 0 x (by omega) (by omega), E8 0 x (by omega) (by omega), rE_x c4, rO_x (by omega), c5, rE_0, upd_at]; exact fun z => absurd z (by decide)
            · rw [kR 0 x (by omega) (by omega)]; exact fun z => absurd z (i30 (E16.1 x (by omega) (by omega)))
      · rw [rO_x (by omega), rO_x (by omega)]; exact F17 x (by omega) (by omega)
    · have d0 : rO R2 5 d (nI qe) 0 q = 43 := by rw [kR 0 q (by omega) (by omega), E8 0 q (by omega) (by omega), rE_x (by omega), rO_x (by omega), rE_0, upd_at]
      have d1 : rO R2 5 d (nI qe) 0 (q + 1) = 44 := by rw [kR 0 (q + 1) (by omega) (by omega), E8 0 (q + 1) (by omega) (by omega), rE_0, upd_at]
      have d2' : rO R2 5 d (nI qe) 0 q1 = 45 := by rw [rO_x (by omega), G2 0 q1 (by omega) (by omega), rE_0, upd_at]
      have c0 := ag_c x2 (Nat.le_refl p) (by omega)
      have c1 := ag_c x2 (show p ≤ p + 1 by omega) (by omega)
      have c2 := ag_c x2 (show p ≤ p1 by omega) (by omega)
      have c3 := ag_c x2 (show p ≤ p1 + 1 by omega) (by omega)
      have c4 := ag_c x2 (show p ≤ p1 + 2 by omega) (by omega)
      have c5 := ag_c x2 (show p ≤ p1 + 2 + 1 by omega) (by omega)
      have c6 := ag_c x2 (show p ≤ p1 + 2 + 2 by omega) (by omega)
      have c7 := ag_c x2 (show p ≤ p1 + 2 + 3 by omega) (by omega)
      have c8 := ag_c x2 (show p ≤ p1 + 2 + 4 by omega) (by omega)
      have r0 := ag_r0 x2 (Nat.le_refl q) (by omega)
      have r1' := ag_r1 x2 (Nat.le_refl q) (by omega) (by rw [d0]; decide)
      have r2' := ag_r0 x2 (show q ≤ q + 1 by omega) (by omega)
      have r3' := ag_r1 x2 (show q ≤ q + 1 by omega) (by omega) (by rw [d1]; decide)
      have r4' := ag_r0 x2 (show q ≤ q1 by omega) (by omega)
      have r5' := ag_r1 x2 (show q ≤ q1 by omega) (by omega) (by rw [d2']; decide)
      have r6' := ag_d (j := 3) x2 (Nat.le_refl d) (by omega) (by omega) (by omega)
      have r7' := ag_d (j := 4) x2 (Nat.le_refl d) (by omega) (by omega) (by omega)
      have r8' := ag_d (j := 5) x2 (Nat.le_refl d) (by omega) (by omega) (by omega)
      have r9' := ag_d (j := 6) x2 (Nat.le_refl d) (by omega) (by omega) (by omega)
      rw [kC p (by omega), E7 p (by omega), upd_ne (by omega), upd_at] at c0
      rw [kC (p + 1) (by omega), E7 (p + 1) (by omega), upd_at] at c1
      rw [upd_ne (by omega), upd_ne (by omega), upd_ne (by omega), G1 p1 (by omega) (by omega), cP_x (by omega), upd_ne (by omega), upd_at] at c2
      rw [upd_ne (by omega), upd_ne (by omega), upd_at] at c3
      rw [upd_ne (by omega), upd_ne (by omega), upd_ne (by omega), G1 (p1 + 2) (by omega) (by omega), cP_0] at c4
      rw [upd_ne (by omega), upd_ne (by omega), upd_ne (by omega), G1 (p1 + 2 + 1) (by omega) (by omega), cP_1] at c5
      rw [upd_ne (by omega), upd_at] at c6
      rw [upd_at] at c7
      rw [upd_ne (by omega), upd_ne (by omega), upd_ne (by omega)] at c8
      rw [d0] at r0
      rw [kR 1 q (by omega) (by omega), E8 1 q (by omega) (by omega), rE_x (by omega), rO_x (by omega), rE_1, upd_at] at r1'
      rw [d1] at r2'
      rw [kR 1 (q + 1) (by omega) (by omega), E8 1 (q + 1) (by omega) (by omega), rE_1, upd_at] at r3'
      rw [d2'] at r4'
      rw [rO_x (by omega), G2 1 q1 (by omega) (by omega), rE_1, upd_at] at r5'
      rw [rO_x (by omega), kD 3 d (by omega) (by omega) (by omega), rO_at] at r6'
      rw [rO_x (by omega)] at r7'
      rw [rO_at] at r8'
      rw [rO_x (by omega), kD 6 d (by omega) (by omega) (by omega), rO_x (by omega), rE_j (by omega), rD_6] at r9'
      have y1 := E16.2 T XL x1 (ag_S x2 (by omega) (by omega) (by omega) (by omega) (by omega) (by omega) (fun x h5 hx => kC x hx) (fun j x hj h5 hx => kR j x hj hx) (fun j x hj h5 hx => absurd h5 (by omega)) (fun y hy => by rw [G4]; exact List.mem_append_right _ hy)) (by have := bl_le S.2.2.2.2.2.2.1; omega)
      have y2 := F18 T XL x1 (ag_S x2 (by omega) (by omega) (by omega) (by omega) (by omega) (Nat.le_refl _) (fun x h5 hx => by rw [upd_ne (by omega), upd_ne (by omega), upd_ne (by omega)]) (fun j x hj h5 hx => by rw [rO_x (by omega)]) (fun j x hj h5 hx => by rw [rO_x (by omega)]) (fun y hy => hy)) x3 x4
      exact ⟨fun Fin a S f0 H => ru_STS (ru_WHILE H.1 (y1 Fin a S f0 H) hnu hn14 hd hp6 c0 c1 c2 c3 r0 r1' r2' r3' r4' r5' r7' rfl r8' (y2.2 p pe (q + 1) qe _ c4 c5 c6 c7 c8 r6' r7' r8' r9' Fin a S f0 H) (by omega)), y2.1⟩
end
