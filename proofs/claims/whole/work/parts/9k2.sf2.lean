section
variable {g : rd_G} {i j n p q d k s l b e e' : Nat} {C : Nat → Int32} {r : Int32} {R : Nat → Nat → Int32} {K : rd_K} {A : rd_A} {v w : q_V} {T : co_T} {XL : Int32 → Int32 → Int32 → Prop}
variable {B : q_V → Option (Int32 × q_V)} {B' : q_V → Option (Int64 × q_V)}
set_option maxHeartbeats 200000 in
theorem x_ea {f p : Int32} {w1 : Int64} {x3 y17 y20 x0 : Int32} (ok : rd_ok g) (hl : l < 2147483647) (hxB : ∀ f p l v, xc g f p l v → cG g f p l (B v)) (h : xc g f p l v) : cG g f p l (fX8_eachLoop_b110 B w1 x3 y17 y20 x0 v) := by
  unfold fX8_eachLoop_b110 fX5_forgetBehind
  refine cG_d (x_add2 ok h) (fun a v h => cG_d (x_add ok h) (fun a v h => cG_d (x_part ok h) (fun a v h => cG_d (x_round ok hl hxB h) (fun a v h => ?_))))
  rw [q_lt_s, q_bv_s]
  refine cG_d (x_add2 ok (xc_i h (by omega))) (fun a v h => cG_d (x_size h) (fun a v h => cG_v (x_set ok h) (fun v h => cG_d (x_size h) (fun a v h => cG_v (x_sr ok h) (fun v h => cG_d (x_add2 ok h) (fun a v h => cG_d (x_own h) (fun a v h => ?_)))))))
  rw [tr_of, q_bd_s]
  exact cG_s h
/-- each, behind its E's -/
def eaT (B : q_V → Option (Int32 × q_V)) (w1 : Int64) (x3 : Int32) (z4 : Int64) (y5 y11 y16 : Int32) (T15 : q_V) : Option (Int32 × q_V) :=
  q_lt ((y11 ||| y16) : Int32) (fun y17 =>
  q_bd (fX5_knownNow T15) (fun y20 T19 =>
  q_bd (fX9_isStopped T19) (fun y23 T22 =>
  if y23 = 0 then
  q_bd (fX5_tellVariable z4 y5 T22) (fun y26 T25 =>
  fX8_eachLoop_b110 B w1 x3 y17 y20 y26 T25)
  else
  fX8_eachLoop_b110 B w1 x3 y17 y20 0 T22)))
set_option maxHeartbeats 200000 in
theorem x_eaT {f p : Int32} {w1 z4 : Int64} {x3 y5 y11 y16 : Int32} (ok : rd_ok g) (hl : l < 2147483647) (hxB : ∀ f p l v, xc g f p l v → cG g f p l (B v)) (h : xc g f p l v) : cG g f p l (eaT B w1 x3 z4 y5 y11 y16 v) := by
  unfold eaT fX5_knownNow
  rw [q_lt_s, q_bd_s, x_stop h, q_bd_s, if_neg (show ¬ (1 : Int32) = 0 by decide)]
  exact x_ea ok hl hxB h
/-- the same in the reference -/
def eaR (B' : q_V → Option (Int64 × q_V)) (x1 : Int32) (w2 : Int64) (y2 y3 y5 y6 y12 : Int32) (T17 : q_V) : Option (Int64 × q_V) :=
  q_bd (fX12_fine T17) (fun y19 T18 =>
  if y19 = 0 then
  some (0, T18)
  else
  q_bd (fX12_tell y12 T18) (fun y22 T21 =>
  if (y2) < 0 ∨ 640 ≤ (y2).toNatClampNeg then none else
  q_lt (q_sa T21 2422 ((upd (q_a T21 2422) (y2.toNatClampNeg) y22))) (fun T23 =>
  q_bd (fX12_emit 46 y2 0 T23) (fun y25 T24 =>
  if (y2) < 0 ∨ 640 ≤ (y2).toNatClampNeg then none else
  q_lt (q_sa T24 2418 ((upd (q_a T24 2418) (y2.toNatClampNeg) (q_i T24 2417)))) (fun T27 =>
  q_bd (fX12_emit 47 y2 0 T27) (fun y29 T28 =>
  fX12_loop_b215 B' x1 w2 y2 y3 y5 y6 T28))))))
set_option maxHeartbeats 200000 in
theorem y_eaR {f p : Int32} {Bd : Nat} {x1 y2 y3 y5 y6 y12 : Int32} {w2 : Int64} (h : xr g f p Bd w) : rG g f p Bd (eaR B' x1 w2 y2 y3 y5 y6 y12 w) := by
  unfold eaR
  rw [y_fine h, q_bd_s, if_pos rfl]; exact rG_s h
set_option maxHeartbeats 200000 in
/-- each -/
theorem t_each {x : Int64} (ok : rd_ok g) (hn : 1 ≤ n) (hn2 : n ≤ 14) (hB : BS g n B B') (hxB : ∀ f p l v, xc g f p l v → cG g f p l (B v)) (hij : i ≤ j) (hj : tkc g j = 306) (hk : ∀ m, i ≤ m → m < j → tkc g m ≠ 300) (h : St g j n p C j n q d 0 R K k s l b A e e' v w) (z : z1 g n i p q K.length d s) (o : ov g i s e e') (hln : l + 1 ≤ n ∧ LB A l p d) :
    jn g l (3300 + 20 * (15 - n)) (SPT g n i p C q d R K k s l b A e e') (fX8_eachLoop B x (nI (tka g i)) v) (fX12_loop B' (nI i) x w) := by
  obtain ⟨⟨z1, z2, z3⟩, zd, zs⟩ := z
  have hL := ok.1
  have hm3 := ok.2.2.1.2.2
  have hjg := (St_im h).1
  have taj := tka_L ok j
  have tij : tka g i ≤ tka g j := by
    by_cases c : i = j
    · rw [c]; exact Nat.le_refl _
    · exact Nat.le_of_lt (tka_lt ok (show i < j by omega) hjg)
  have hd : d < 640 := by omega
  have hl1 := hln.1
  have hl2 : l < 2147483647 := by omega
  have hi3 : i < 3002 := by omega
  obtain ⟨w1, b1, s1⟩ := r_desc (t := i) ok h (by omega) hd
  obtain ⟨v2, a2, s2⟩ := c_adv ok s1 (by rw [hj]; decide) (by rw [hj]; decide)
  have s3 := r_now ok s2 (by rw [hj]; decide) (by rw [hj]; decide)
  have him := (St_im s3).1
  have t0 : tka g j + 4 ≤ tka g (j + 1) := kw_4 (j := 6) ok (by omega) hj
  have ta1 := tka_L ok (j + 1)
  have hk16 : k ≤ 1600 := by have := h.2.2.2.2.2.1.1; omega
  have j5 : ¬ tkc g j = 321 := by rw [hj]; decide
  have j7 : ¬ tkc g j = 305 := by rw [hj]; decide
  unfold fX8_eachLoop fX12_loop
  rw [a2, q_bv_s, q_lt_s, q_lt_s, b1, q_bd_s, q_lt_e s1.2.2.2.2.2.1.1.2.2.1, r_is (c := 321) (x := 45) ok s1 rfl (by decide), if_neg j5, q_bd_s, q_lt_e s1.2.2.2.2.1.1.2.2.2.1, r_skipN (c := 321) (x := 45) ok s1 rfl (by decide) j5, q_bd_s, if_pos rfl, r_skipN (c := 305) (x := 15) ok s1 rfl (by decide) j7, q_bd_s, if_pos rfl, q_lt_s, q_lt_e (r_i s3)]
  by_cases c1 : tkc g (j + 1) = 259
  · obtain ⟨v4, a4, s4⟩ := c_exp ok s3 c1 (by decide) (by decide)
    obtain ⟨w4, b4, s5⟩ := r_take (c := 259) (x := 2) ok s4 rfl (by decide) c1 (by decide) (by decide)
    rw [a4, q_bv_s, b4, q_bv_s, c_name s2 c1, c_place s2]
    by_cases c2 : tkc g (j + 2) = 307
    · obtain ⟨v6, a6, s6⟩ := c_exp ok s5 c2 (by decide) (by decide)
      obtain ⟨w7, b7, s7⟩ := r_take (c := 307) (x := 17) ok s6 rfl (by decide) c2 (by decide) (by decide)
      have him7 := (St_im s7).1
      have t1 := tka_lt ok (show j + 1 < j + 2 by omega) (by omega)
      have t2 : tka g (j + 2) + 2 ≤ tka g (j + 3) := kw_2 (j := 7) ok (by omega) c2
      have ta3 := tka_L ok (j + 3)
      have X0 := AQ_0 (M := 3) (i := i) (hb := 10 * (14 - n) + 6) ok s7 (by omega) (fun u h1 h2 => by
        by_cases u0 : u < j
        · exact hk u h1 u0
        · by_cases u1 : u = j
          · rw [u1, hj]; decide
          · by_cases u2 : u = j + 1
            · rw [u2, c1]; decide
            · rw [show u = j + 2 by omega, c2]; decide) (Or.inl rfl)
      have J := US_E ok hn2 (j + 3) p C q (d + 1) 0 _ K k s l b A e e' v6 w7 s7 ⟨by omega, by omega, by omega⟩ (ov_m ok o (by omega) him7 (Nat.le_refl _) (Nat.le_refl _)) (Or.inl rfl)
      rw [a6, q_bv_s, b7, q_bv_s]
      refine jn_dv J (fun f p a v h => cG_v (x_exp h) (fun v h => cG_d (x_E h) (fun a v h => x_eaT ok hl2 hxB h))) (fun f p w h => rG_le (rG_v (y_take h) (fun w h => rG_v (y_E h) (fun w h => y_eaR h))) (by omega)) ?_
      intro a v8 w8 E
      obtain ⟨i4, p4, C4, q4, r4, R4, K4, e4, e4', E⟩ := E
      have X1 := AQ_s ok X0 E (Nat.le_refl _) (fun u h1 h2 => absurd h1 (by omega)) (by omega) (Or.inl rfl)
      have E5 := E.2.2.2.2.1
      have E1 := E.2.1.1
      have S4 := X1.1
      have hi4 := (St_im S4).1
      have ti4 := tka_L ok i4
      obtain ⟨_, Y2, Y3, Y4, Y5, Y6⟩ := X1.2.1
      by_cases c3 : tkc g i4 = 308
      · obtain ⟨v9, a9, s9⟩ := c_exp ok S4 c3 (by decide) (by decide)
        obtain ⟨w10, b10, s10⟩ := r_take (c := 308) (x := 18) ok s9 rfl (by decide) c3 (by decide) (by decide)
        have him10 := (St_im s10).1
        have t3 : tka g i4 + 2 ≤ tka g (i4 + 1) := kw_2 (j := 8) ok (by omega) c3
        have ti5 := tka_L ok (i4 + 1)
        have J2 := US_E ok hn2 (i4 + 1) p4 C4 q4 (d + 1) r4 _ K4 k s l b A e4 e4' v9 w10 s10 ⟨by omega, by omega, by omega⟩ (ov_m ok o (by omega) him10 X1.2.2.2.2.1.1 X1.2.2.2.2.1.2) X1.2.2.2.2.2.1
        rw [a9, q_bv_s, b10, q_bv_s]
        refine jn_dv J2 (fun f p a v h => x_eaT ok hl2 hxB h) (fun f p w h => rG_le (y_eaR h) (by omega)) ?_
        intro a' v11 w11 E'
        obtain ⟨i5, p5, C5, q5, r5, R5, K5, e5, e5', E'⟩ := E'
        have X2 := AQ_s ok X1 E' (show i4 ≤ i4 + 1 by omega) (fun u h1 h2 => by rw [show u = i4 by omega, c3]; decide) (by omega) X1.2.2.2.2.2.1
        have E5' := E'.2.2.2.2.1
        have E1' := E'.2.1.1
        have hnr : (a ||| a') &&& 1 = 0 ↔ r5 = 0 := by
          rw [or_1 E5'.1, nat_r E5.1 E5.2.2, E5'.2.2]
          by_cases c : a' = 1
          · rw [if_pos c]; exact ⟨fun z => absurd c z.2, fun z => absurd z (by decide)⟩
          · rw [if_neg c]; exact ⟨fun z => z.1, fun z => ⟨z, c⟩⟩
        have S := X2.1
        have hi5 := (St_im S).1
        have ti6 := tka_L ok i5
        have tj5 := tka_lt ok (show j + 1 < i5 by omega) hi5
        obtain ⟨_, Z2, Z3, Z4, Z5, Z6⟩ := X2.2.1
        obtain ⟨X7, X8, X9, tK, X10⟩ := X2.2.2.1
        have X11 := X2.2.2.2.1
        have X12 := X2.2.2.2.2.1
        have X14 := X2.2.2.2.2.2.2
        obtain ⟨_, U2, U3, U4, U5, U6⟩ := E.2.1
        obtain ⟨_, W2, W3, W4, W5, W6⟩ := E'.2.1
        have hov5 : ov g (j + 1) s e5 e5' := ov_m ok o (by omega) (by omega) X12.1 X12.2
        obtain ⟨v12, w12, e9, e9', a12, b12, s12, h9, h9', h9n, h9o⟩ := j_tell (t := j + 1) ok S (by omega) c1 hov5 (by omega)
        have N2 := S.2.2.2.2.2.1
        obtain ⟨c0, k1, k2, k3⟩ := N2.2.1
        obtain ⟨v13, a13, s13⟩ := c_add2 (x := 33) (y := nI s) ok s12 (by omega)
        obtain ⟨v14, a14, s14⟩ := c_add (y := 0) ok s13 (by omega)
        obtain ⟨v15, a15, s15⟩ := c_part (x := 46) (y := nI (tka g i)) ok s14 (by omega)
        have s16 := r_set (j := 7) (a := d) (y := nI s) s15 (by omega)
        obtain ⟨w17, b17, s17⟩ := r_emit (o := 46) (a := nI d) (c := 0) s16 (by omega)
        rw [show rdj 7 = 2422 from rfl] at b17
        have s18 := r_set (j := 3) (a := d) (y := nI (q5 + 1)) s17 (by omega)
        obtain ⟨w19, b19, s19⟩ := r_emit (o := 47) (a := nI d) (c := 0) s18 (by omega)
        rw [show rdj 3 = 2418 from rfl] at b19
        have hR4 : rE (rO (rE (rO R5 7 d (nI s)) q5 46 (nI d) 0) 3 d (nI (q5 + 1))) (q5 + 1) 47 (nI d) 0 4 d = -1 := by rw [rE_j (by omega), rO_x (by omega), rE_j (by omega), rO_x (by omega), X9 4 (by omega), rD_4]
        have JR := j_round (x := x) (at_ := p5 + 2 + 1) (dd := d) ok hn hn2 hB s19 ⟨⟨by omega, by omega, by omega⟩, by omega, by omega⟩ (fun hs => ⟨tka g (j + 1), tj5, (h9o hs).1, (h9o hs).2⟩) hl1 (LB_m hln.2 rfl (by omega) (Nat.le_refl _)) (by omega) (by omega) cP_4 hR4
        unfold fX8_eachLoop_b110 fX5_knownNow
        rw [q_lt_s, q_bd_s, k1, c_stop ok S, q_bd_s, if_pos rfl, a12, q_bd_s, a13, q_bd_s, a14, q_bd_s, a15, q_bd_s, r_fine S, q_bd_s, if_neg (show ¬ (1 : Int32) = 0 by decide), b12, q_bd_s, if_neg (in6 hd), ni_clamp (show d < 2147483648 by omega), q_lt_s, b17, q_bd_s, if_neg (in6b hd), s17.2.2.2.2.1.1.2.2.2.1, q_lt_s, b19, q_bd_s]
        unfold fX12_loop_b215
        rw [if_pos rfl, r_risky s19.2.2.2.2.1.1.2.2.2.2.2.2, q_bd_s, b229_eq (r_fine s19)]
        refine jn_dd JR (fun f p a v h => ?_) (fun f p a w h => rG_le (y_rrE0 hk16 hd h) (by omega)) ?_
        · unfold fX5_forgetBehind
          rw [q_lt_s, q_bv_s]
          refine cG_d (x_add2 ok (xc_i h (by omega))) (fun a v h => cG_d (x_size h) (fun a v h => cG_v (x_set ok h) (fun v h => cG_d (x_size h) (fun a v h => cG_v (x_sr ok h) (fun v h => cG_d (x_add2 ok h) (fun a v h => cG_d (x_own h) (fun a v h => ?_)))))))
          rw [tr_of, q_bd_s]
          exact cG_s h
        · intro o2 v20 zz w20 X
          obtain ⟨i2, pe, C2, qe, d2, r2, R2, K2, s2', A2, e2, e2', Y, F0, ⟨F1, F2, F3, F4, F5, F6, F7, F8, F9, F10⟩, ⟨G1, G2, G3, t2', G4⟩, F11, ⟨F12, F13, F14⟩, ⟨F15, F15'⟩, F16, F17, n14, F18⟩ := X
          have hi2 := (St_im F0).1
          have ti2 := tka_L ok i2
          have sF := j_forget (k0 := k) (c0 := c0) F0 (by omega) k2 (fun q => (k3 (by omega)).1)
          obtain ⟨v21, a21, s21⟩ := c_add2 (x := 34) (y := nI p5) ok sF (by omega)
          obtain ⟨v22, a22, s22⟩ := c_set (a := p5 + 2) (y := nI (pe + 2)) ok s21 (by omega)
          obtain ⟨v23, a23, s23⟩ := c_set (a := p5 + 2 + 1 + 2) (y := nI pe) ok s22 (by omega)
          obtain ⟨v24, a24, s24⟩ := c_set (a := p5 + 2 + 1 + 3) (y := nI (pe + 2)) ok s23 (by omega)
          obtain ⟨v25, a25, s25⟩ := c_add2 (x := 26) (y := 2) ok s24 (by omega)
          have s26 := r_set (j := 5) (a := d) (y := nI qe) s25 (by omega)
          have N0 := sF.2.2.2.2.2.1
          unfold rrE fX8_setRound fX5_forgetBehind fX12_loop_b373 fX12_loop_b378 fX12_loop_b416
          rw [q_lt_s, q_bv_s, a21, q_bd_s, c_size s21, q_bd_s, a22, q_bv_s, c_size s22, q_bd_s, show nI (p5 + 2 + 1) + 2 = nI (p5 + 2 + 1 + 2) from ni_add (b := 2), a23, q_bv_s, show nI (p5 + 2 + 1) + 3 = nI (p5 + 2 + 1 + 3) from ni_add (b := 3), a24, q_bv_s, q_bv_s, a25, q_bd_s, c_own s25 (by omega), q_bd_s, tr_of, q_bd_s, q_lt_s, N0.2.2.2.1.2.1, q_lt_s, q_lt_s, q_lt_s, if_pos rfl, q_lt_s, if_pos rfl, if_neg (in6 hd), ni_clamp (show d < 2147483648 by omega), q_lt_s, sF.2.2.2.2.1.1.2.2.2.1]
          have BD : i < i2 ∧ pe + 2 + 2 + 2 * tka g i ≤ p + 2 * tka g i2 ∧ qe + tka g i ≤ q + tka g i2 ∧ 3 * K2.length + tka g i ≤ 3 * K.length + tka g i2 ∧ 5 * d2 + tka g i ≤ 5 * d + tka g i2 ∧ 2 * s2' + tka g i ≤ 2 * s + tka g i2 ∧ p ≤ pe + 2 + 2 ∧ q ≤ qe ∧ d ≤ d2 ∧ s ≤ s2' ∧ k ≤ k := ⟨by omega, by omega, by omega, by omega, by omega, by omega, by omega, by omega, by omega, by omega, by omega⟩
          have BD2 : pe + 2 + 2 + 2 * tka g i + 2 ≤ p + 2 * tka g i2 ∧ qe + tka g i + 1 ≤ q + tka g i2 := ⟨by omega, by omega⟩
          have hp6 : pe ≤ 6016 := by omega
          have hb14 : l < 14 := by omega
          have hnu : 10 * (14 - n) + 6 + 2 * n ≤ 142 := by omega
          have hn14 : n + 1 ≤ 14 := by omega
          have hi52 : i5 < i2 := by omega
          have hq2 : q5 + 2 < qe := by omega
          have hp2 : p5 + 8 < pe := by omega
          have hdd2 : d + 1 ≤ d2 := by omega
          have hee : e2 ≤ e := by omega
          have hee' : e2' ≤ e' := by omega
          have hee5 : e2 ≤ e5 := by omega
          clear F2 F3 F4 F5 F6 z1 z2 z3 zd zs t0 ta1 ti2 taj tij t1 t2 ta3 ti4 Y2 Y3 Y4 t3 ti5 Z2 Z3 Z4 U2 U3 U4 W2 W3 W4 ti6 tj5
          have kC : ∀ x, x < p5 → upd (upd (upd (upd (upd (upd (upd C2 pe 34) (pe + 1) (nI p5)) (p5 + 2) (nI (pe + 2))) (p5 + 2 + 1 + 2) (nI pe)) (p5 + 2 + 1 + 3) (nI (pe + 2))) (pe + 2) 26) (pe + 2 + 1) 2 x = C5 x := fun x hx => by rw [upd_ne (by omega), upd_ne (by omega), upd_ne (by omega), upd_ne (by omega), upd_ne (by omega), upd_ne (by omega), upd_ne (by omega), G1 x (by omega) (by omega), cP_x (by omega), upd_ne (by omega), upd_ne (by omega), upd_ne (by omega)]
          have kR : ∀ j x, j < 3 → x < q5 → rO R2 5 d (nI qe) j x = R5 j x := fun j x hj hx => by rw [rO_x (by omega), G2 j x hj (by omega), rE_x (by omega), rO_x (by omega), rE_x (by omega), rO_x (by omega)]
          have wyE := wy_or (wy_or (wy_own hb14 F13) (wy_k (l := l)).2.1) (wy_t0 (l := l) hnr)
          refine jn_qq ⟨i2, pe + 2 + 2, _, qe, d2, r2, _, K2, k, s2', A2, e2, e2', Y, ⟨s26, BD, ⟨fun x hx => by rw [kC x (by omega), X7 x hx], fun j x hj hx => by rw [kR j x hj (by omega), X8 j x hj hx, rD_x (by omega)], fun j x hj hx => by rw [rO_x (by omega), G3 j x hj (by omega) (by omega), rE_j hj, rO_x (by omega), rE_j hj, rO_x (by omega), X9 j hj, rD_x (by omega)], t2' ++ tK, by rw [G4, X10, List.append_assoc]⟩, fun u h1 h2 => ?_, ⟨F12, ?_, F14⟩, ⟨hee, hee'⟩, F16, fun x h1 h2 => ?_, fun T XL x1 x2 x3 x4 => ?_⟩, BD2⟩
          · by_cases c1 : u < i5
            · exact X11 u h1 c1
            · exact F11 u (by omega) h2
          · rw [or_r3]; exact wyE
          · by_cases c2 : x < q5 + 2
            · by_cases c3 : x = q5 + 1
              · rw [rO_x (by omega), G2 0 x (by omega) c2, c3, rE_0, upd_at]; exact fun z => absurd z (by decide)
              · by_cases c4 : x = q5
                · rw [rO_x (by omega), G2 0 x (by omega) c2, rE_x c3, rO_x (by omega), c4, rE_0, upd_at]; exact fun z => absurd z (by decide)
                · rw [kR 0 x (by omega) (by omega)]; exact fun z => absurd z (i30 (X14.1 x (by omega) (by omega)))
            · rw [rO_x (by omega), rO_x (by omega)]; exact F17 x (by omega) (by omega)
          · have d0 : rO R2 5 d (nI qe) 0 q5 = 46 := by rw [rO_x (by omega), G2 0 q5 (by omega) (by omega), rE_x (by omega), rO_x (by omega), rE_0, upd_at]
            have d1 : rO R2 5 d (nI qe) 0 (q5 + 1) = 47 := by rw [rO_x (by omega), G2 0 (q5 + 1) (by omega) (by omega), rE_0, upd_at]
            have c0 := ag_c x2 (show p ≤ p5 by omega) (by omega)
            have c1 := ag_c x2 (show p ≤ p5 + 1 by omega) (by omega)
            have c2 := ag_c x2 (show p ≤ p5 + 2 by omega) (by omega)
            have c3 := ag_c x2 (show p ≤ pe by omega) (by omega)
            have c4 := ag_c x2 (show p ≤ pe + 1 by omega) (by omega)
            have c5 := ag_c x2 (show p ≤ pe + 2 by omega) (by omega)
            have c6 := ag_c x2 (show p ≤ pe + 2 + 1 by omega) (by omega)
            have m0 := ag_c x2 (show p ≤ p5 + 2 + 1 by omega) (by omega)
            have m1 := ag_c x2 (show p ≤ p5 + 2 + 1 + 1 by omega) (by omega)
            have m2 := ag_c x2 (show p ≤ p5 + 2 + 1 + 2 by omega) (by omega)
            have m3 := ag_c x2 (show p ≤ p5 + 2 + 1 + 3 by omega) (by omega)
            have m4 := ag_c x2 (show p ≤ p5 + 2 + 1 + 4 by omega) (by omega)
            have r0 := ag_r0 x2 (show q ≤ q5 by omega) (by omega)
            have r1' := ag_r1 x2 (show q ≤ q5 by omega) (by omega) (by rw [d0]; decide)
            have r2' := ag_r0 x2 (show q ≤ q5 + 1 by omega) (by omega)
            have r3' := ag_r1 x2 (show q ≤ q5 + 1 by omega) (by omega) (by rw [d1]; decide)
            have u3 := ag_d (j := 3) x2 (Nat.le_refl d) (by omega) (by omega) (by omega)
            have u4 := ag_d (j := 4) x2 (Nat.le_refl d) (by omega) (by omega) (by omega)
            have u5 := ag_d (j := 5) x2 (Nat.le_refl d) (by omega) (by omega) (by omega)
            have u6 := ag_d (j := 6) x2 (Nat.le_refl d) (by omega) (by omega) (by omega)
            have u7 := ag_d (j := 7) x2 (Nat.le_refl d) (by omega) (by omega) (by omega)
            rw [upd_ne (by omega), upd_ne (by omega), upd_ne (by omega), upd_ne (by omega), upd_ne (by omega), upd_ne (by omega), upd_ne (by omega), G1 p5 (by omega) (by omega), cP_x (by omega), upd_ne (by omega), upd_ne (by omega), upd_at] at c0
            rw [upd_ne (by omega), upd_ne (by omega), upd_ne (by omega), upd_ne (by omega), upd_ne (by omega), upd_ne (by omega), upd_ne (by omega), G1 (p5 + 1) (by omega) (by omega), cP_x (by omega), upd_ne (by omega), upd_at] at c1
            rw [upd_ne (by omega), upd_ne (by omega), upd_ne (by omega), upd_ne (by omega), upd_at] at c2
            rw [upd_ne (by omega), upd_ne (by omega), upd_ne (by omega), upd_ne (by omega), upd_ne (by omega), upd_ne (by omega), upd_at] at c3
            rw [upd_ne (by omega), upd_ne (by omega), upd_ne (by omega), upd_ne (by omega), upd_ne (by omega), upd_at] at c4
            rw [upd_ne (by omega), upd_at] at c5
            rw [upd_at] at c6
            rw [upd_ne (by omega), upd_ne (by omega), upd_ne (by omega), upd_ne (by omega), upd_ne (by omega), upd_ne (by omega), upd_ne (by omega), G1 (p5 + 2 + 1) (by omega) (by omega), cP_0] at m0
            rw [upd_ne (by omega), upd_ne (by omega), upd_ne (by omega), upd_ne (by omega), upd_ne (by omega), upd_ne (by omega), upd_ne (by omega), G1 (p5 + 2 + 1 + 1) (by omega) (by omega), cP_1] at m1
            rw [upd_ne (by omega), upd_ne (by omega), upd_ne (by omega), upd_at] at m2
            rw [upd_ne (by omega), upd_ne (by omega), upd_at] at m3
            rw [upd_ne (by omega), upd_ne (by omega), upd_ne (by omega), upd_ne (by omega), upd_ne (by omega), upd_ne (by omega), upd_ne (by omega)] at m4
            rw [d0] at r0
            rw [rO_x (by omega), G2 1 q5 (by omega) (by omega), rE_x (by omega), rO_x (by omega), rE_1, upd_at] at r1'
            rw [d1] at r2'
            rw [rO_x (by omega), G2 1 (q5 + 1) (by omega) (by omega), rE_1, upd_at] at r3'
            rw [rO_x (by omega), G3 3 d (by omega) (by omega) (by omega), rE_j (by omega), rO_at] at u3
            rw [rO_x (by omega)] at u4
            rw [rO_at] at u5
            rw [rO_x (by omega), G3 6 d (by omega) (by omega) (by omega), rE_j (by omega), rO_x (by omega), rE_j (by omega), rO_x (by omega), X9 6 (by omega), rD_6] at u6
            rw [rO_x (by omega), G3 7 d (by omega) (by omega) (by omega), rE_j (by omega), rO_x (by omega), rE_j (by omega), rO_at] at u7
            have y1 := X14.2 T XL x1 (ag_S x2 (by omega) (by omega) (by omega) (by omega) (by omega) (by omega) (fun x h5 hx => kC x hx) (fun j x hj h5 hx => kR j x hj hx) (fun j x hj h5 hx => absurd h5 (by omega)) (fun y hy => by rw [G4]; exact List.mem_append_right _ hy)) (by have := bl_le S.2.2.2.2.2.2.1; omega) (by omega)
            have y2 := F18 T XL x1 (ag_S x2 (by omega) (by omega) (by omega) (by omega) (by omega) (Nat.le_refl _) (fun x h5 hx => by rw [upd_ne (by omega), upd_ne (by omega), upd_ne (by omega), upd_ne (by omega), upd_ne (by omega), upd_ne (by omega), upd_ne (by omega)]) (fun j x hj h5 hx => by rw [rO_x (by omega)]) (fun j x hj h5 hx => by rw [rO_x (by omega)]) (fun y hy => hy)) x3 x4
            have hs24 : s < 24 := h9n (by have := bl_le s12.2.2.2.2.2.2.1; omega)
            exact ⟨fun Fin a S f0 H => ru_EACH H.1 (y1 Fin a S f0 H) hnu (by omega) hn14 hd hs24 hp6 c0 c1 c2 c3 c4 c5 c6 r0 r1' r2' r3' u4 rfl u5 u7 (y2.2 pe (pe + 2) (q5 + 1) qe _ m0 m1 m2 m3 m4 u3 u4 u5 u6 Fin a S f0 H) (by omega), y2.1⟩
      · obtain ⟨v9, a9, x9⟩ := c_expX S4 c3
        obtain ⟨w10, b10, y10⟩ := r_takeX (c := 308) (x := 18) (Bd := 3111 + 20 * (14 - n)) ok S4 rfl (by decide) c3 (by omega)
        rw [a9, q_bv_s, b10, q_bv_s]
        exact jn_xx (cG_d (x_E x9) (fun a v h => x_eaT ok hl2 hxB h)) (rG_le (rG_v (y_E y10) (fun w h => y_eaR h)) (by omega))
    · obtain ⟨v6, a6, x6⟩ := c_expX s5 c2
      obtain ⟨w7, b7, y7⟩ := r_takeX (c := 307) (x := 17) (Bd := 3111) ok s5 rfl (by decide) c2 (by omega)
      rw [a6, q_bv_s, b7, q_bv_s]
      exact jn_xx (cG_d (x_E x6) (fun a v h => cG_v (x_exp h) (fun v h => cG_d (x_E h) (fun a v h => x_eaT ok hl2 hxB h)))) (rG_le (rG_v (y_E y7) (fun w h => rG_v (y_take h) (fun w h => rG_v (y_E h) (fun w h => y_eaR h)))) (by omega))
  · obtain ⟨v4, a4, x4⟩ := c_expX s3 c1
    obtain ⟨w4, b4, y4⟩ := r_takeX (c := 259) (x := 2) (Bd := 3111) ok s3 rfl (by decide) c1 (by omega)
    rw [a4, q_bv_s, b4, q_bv_s]
    exact jn_xx (cG_v (x_exp x4) (fun v h => cG_d (x_E h) (fun a v h => cG_v (x_exp h) (fun v h => cG_d (x_E h) (fun a v h => x_eaT ok hl2 hxB h))))) (rG_le (rG_v (y_take y4) (fun w h => rG_v (y_E h) (fun w h => rG_v (y_take h) (fun w h => rG_v (y_E h) (fun w h => y_eaR h))))) (by omega))
end
