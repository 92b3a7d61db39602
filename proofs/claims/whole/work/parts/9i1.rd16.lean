section
variable {g : rd_G} {i n p q d k s l b e e' : Nat} {C : Nat → Int32} {r : Int32} {R : Nat → Nat → Int32} {K : rd_K} {A : rd_A} {v w : q_V}
variable {U N : q_V → Option (Int32 × q_V)} {U' N' : q_V → Option q_V} {hb hw hu Bw Bu Bd : Nat}
set_option maxHeartbeats 200000 in
theorem cmp_no {c : Int32} (h1 : c ≠ 60) (h2 : c ≠ 256) (h3 : c ≠ 257) (h4 : c ≠ 258) : fX2_comparison c v = some (-1, v) := by
  unfold fX2_comparison
  rw [if_neg h1, if_neg h2, if_neg h3, if_neg h4]
set_option maxHeartbeats 200000 in
theorem t_step {i1 p1 q1 e1 e1' : Nat} {C1 : Nat → Int32} {r1 a x y c0 : Int32} {R1 : Nat → Nat → Int32} {K1 : rd_K} (ok : rd_ok g) (z : z0 g i p q K.length) (o : ov g i s e e') (r01 : r = 0 ∨ r = 1) (E : EQ g i n p C q d r R K k s l b A e e' hu a i1 p1 C1 q1 r1 R1 K1 e1 e1' v w) (hU : US g n hu Bu (fX2_sum U N) (fX12_sum U' N')) (h1u : 1 ≤ hu) (hB3 : Bu < 4000) (hc : tkc g i1 = c0) (hxy : c0 = 256 ∧ x = 13 ∧ y = 12 ∨ c0 = 257 ∧ x = 14 ∧ y = 13 ∨ c0 = 60 ∧ x = 15 ∧ y = 14 ∨ c0 = 258 ∧ x = 16 ∧ y = 15) :
    jn g l (Bu + 1) (EP g i n p C q d r R K k s l b A e e' (hu + 1)) (q_bv (fX9_advance v) (fun T7 => q_bd (fX2_sum U N T7) (fun y9 T8 => q_lt ((a ||| y9) &&& 1) (fun y10 => q_bd (fX0_add x T8) (fun y13 T12 => fX2_test_b46 U N y10 T12))))) (vu (fX12_test_b64 U' N' y w)) := by
  have E' := E
  obtain ⟨S, ⟨E1, E2, E3, E4, E5, E6⟩, _, _, ⟨E12, E13, E14⟩, ⟨E15, E15'⟩, _⟩ := E'
  have zE : z0 g i1 p1 q1 K1.length := by
    obtain ⟨z1, z2, z3⟩ := z
    exact ⟨by omega, by omega, by omega⟩
  have hne : tkc g i1 ≠ 261 ∧ tkc g i1 ≠ 262 ∧ tkc g i1 ≠ 40 ∧ tkc g i1 ≠ 260 ∧ tkc g i1 ≠ 41 ∧ tkc g i1 ≠ 300 := by
    rw [hc]
    rcases hxy with h | h | h | h <;> (rw [h.1]; decide)
  have r1' : r1 = 0 ∨ r1 = 1 := by
    rw [E14]; split
    · exact Or.inr rfl
    · exact r01
  obtain ⟨v1, a1, s1⟩ := c_adv ok S hne.1 hne.2.1
  have s2 := r_now ok s1 hne.1 hne.2.1
  have him := (St_im s2).1
  have J := hU (i1 + 1) p1 C1 q1 d r1 R1 K1 k s l b A e1 e1' v1 _ s2 (z0_s ok zE (by omega) him) (ov_m ok o (by omega) him E15 E15') r1'
  unfold fX12_test_b64 fX2_test_b46
  rw [a1, q_bv_s, if_neg (by rcases hxy with h | h | h | h <;> (rw [h.2.2]; decide)), vu_lt, q_lt_s, vu_bv]
  refine jn_dv J (fun f p a v h => ?_) (fun f p w h => ?_) ?_
  · exact cG_d (x_add (y := x) ok h) (fun a' v h => cG_s h)
  · rw [vu_bd]
    exact rG_d (y_emit hB3 h) (fun a w h => rG_s h)
  · intro a2 v3 w3 E2
    obtain ⟨i3, p3, C3, q3, r3, R3, K3, e3, e3', E2⟩ := E2
    have E2' := E2
    obtain ⟨S3, ⟨F1, F2, F3, F4, F5, F6⟩, _, _, ⟨F12, F13, F14⟩, ⟨F15, F15'⟩, _⟩ := E2'
    have hi3 := (St_im S3).1
    have t1 := tka_L ok i3
    have t2 := tka_lt ok (show i1 < i1 + 1 by omega) him
    have hL := ok.1
    obtain ⟨z1, z2, z3⟩ := zE
    obtain ⟨v4, a4, s4⟩ := c_add (y := x) ok S3 (by omega)
    obtain ⟨w6, b6, s6⟩ := r_emit (o := y) (a := 0) (c := 0) s4 (by omega)
    obtain ⟨nt, nt1, nt2, nt3⟩ := nat_or E12 F12 F14 E14
    rw [q_lt_s, nt1, a4, q_bd_s, b6, q_bd_s, vu_some]
    refine jn_qq ⟨i3, p3 + 1, _, q3 + 1, r3, _, K3, e3, e3', E_bin ok E E2 s6 ⟨hne.2.2.1, hne.2.2.2.1, hne.2.2.2.2.1, hne.2.2.2.2.2⟩ nt2 nt3 (by omega) (Nat.le_refl _) (by rcases hxy with h | h | h | h <;> (rw [h.2.2]; decide)) (fun T XL y0 c0 r0 => ?_)⟩
    rcases hxy with hxy | hxy | hxy | hxy
    · rw [hxy.2.1] at c0; rw [hxy.2.2] at r0
      exact fun Fin a S f0 H => ru_SAME (y0 Fin a S f0 H) (by omega) c0 r0
    · rw [hxy.2.1] at c0; rw [hxy.2.2] at r0
      exact fun Fin a S f0 H => ru_DIFF (y0 Fin a S f0 H) (by omega) c0 r0
    · rw [hxy.2.1] at c0; rw [hxy.2.2] at r0
      exact fun Fin a S f0 H => ru_LESS (y0 Fin a S f0 H) (by omega) c0 r0
    · rw [hxy.2.1] at c0; rw [hxy.2.2] at r0
      exact fun Fin a S f0 H => ru_ATM (y0 Fin a S f0 H) (by omega) c0 r0
set_option maxHeartbeats 200000 in
theorem US_test (ok : rd_ok g) (hU : US g n hu Bu (fX2_sum U N) (fX12_sum U' N')) (h1u : 1 ≤ hu) (hB3 : Bu < 4000) : US g n (hu + 1) (Bu + 1) (fX2_test U N) (fX12_test U' N') := by
  intro i p C q d r R K k s l b A e e' v w h z o r01
  unfold fX2_test fX12_test
  rw [vu_bv]
  refine jn_dv (hU i p C q d r R K k s l b A e e' v w h z o r01) (fun f p a v h => ?_) (fun f p w h => ?_) ?_
  · unfold fX2_test_b46
    rw [x_cmp h, q_bd_s, if_pos rfl]; exact cG_s h
  · unfold fX12_test_b64
    rw [y_is h, q_bd_s, if_pos rfl, y_is h, q_bd_s, if_pos rfl, y_sign h, q_bd_s, if_pos rfl, y_is h, q_bd_s, if_pos rfl, if_pos rfl]; exact rG_s (xr_le h (by omega))
  · intro a v2 w2 E
    obtain ⟨i1, p1, C1, q1, r1, R1, K1, e1, e1', E⟩ := E
    have S := E.1
    rw [c_kind S, r_is (c := 256) (x := 301) ok S rfl (by decide), q_bd_s, lx_i0]
    by_cases c1 : tkc g i1 = 256
    · rw [if_pos c1, c1, show fX2_comparison 256 v2 = some (13, v2) from rfl, q_bd_s, if_neg (by decide)]
      exact t_step ok z o r01 E hU h1u hB3 c1 (Or.inl ⟨rfl, rfl, rfl⟩)
    · rw [if_neg c1, r_is (c := 257) (x := 302) ok S rfl (by decide), q_bd_s, lx_i0]
      by_cases c2 : tkc g i1 = 257
      · rw [if_pos c2, c2, show fX2_comparison 257 v2 = some (14, v2) from rfl, q_bd_s, if_neg (by decide)]
        exact t_step ok z o r01 E hU h1u hB3 c2 (Or.inr (Or.inl ⟨rfl, rfl, rfl⟩))
      · rw [if_neg c2, r_sign (c := 60) ok S rfl (by decide), q_bd_s, lx_i0]
        by_cases c3 : tkc g i1 = 60
        · rw [if_pos c3, c3, show fX2_comparison 60 v2 = some (15, v2) from rfl, q_bd_s, if_neg (by decide)]
          exact t_step ok z o r01 E hU h1u hB3 c3 (Or.inr (Or.inr (Or.inl ⟨rfl, rfl, rfl⟩)))
        · rw [if_neg c3, r_is (c := 258) (x := 303) ok S rfl (by decide), q_bd_s, lx_i0]
          by_cases c4 : tkc g i1 = 258
          · rw [if_pos c4, c4, show fX2_comparison 258 v2 = some (16, v2) from rfl, q_bd_s, if_neg (by decide)]
            exact t_step ok z o r01 E hU h1u hB3 c4 (Or.inr (Or.inr (Or.inr ⟨rfl, rfl, rfl⟩)))
          · rw [if_neg c4, cmp_no c3 c1 c2 c4, q_bd_s, if_pos rfl]
            unfold fX2_test_b46 fX12_test_b64
            rw [if_pos rfl, vu_some]
            exact jn_qq ⟨i1, p1, C1, q1, r1, R1, K1, e1, e1', EQ_hb E (by omega)⟩
set_option maxHeartbeats 200000 in
/-- not -/
theorem US_neg (ok : rd_ok g) (hT : US g n hu Bu (fX2_test U N) (fX12_test U' N')) (hN : n < 14 → US g (n + 1) hw Bw N N') (hyN : ∀ f p B w, xr g f p B w → rG g f p B (vu (N' w))) (h1u : 1 ≤ hu) (hwu : n < 14 → hw ≤ hu) (hB1 : Bu ≤ Bd) (hB2 : Bw + 1 ≤ Bd) (hB3 : Bw < 4000) (hB4 : 3011 ≤ Bd) : US g n hu Bd (fX2_negation U N) (fX12_turned U' N') := by
  intro i p C q d r R K k s l b A e e' v w h z o r01
  have zp := z0_p ok z
  have hn := St_n h
  unfold fX2_negation fX12_turned
  rw [c_kind h, r_is (c := 328) (x := 32) ok h rfl (by decide), q_bd_s, lx_i0]
  by_cases c : tkc g i = 328
  · rw [if_pos c, if_pos c, vu_bv]
    have tc : ∀ f p (a : Int32) v, xc g f p l v → cG g f p l (fX2_negation_b48 U N a v) := by
      intro f p a v h
      unfold fX2_negation_b48
      exact cG_v (x_end h) (fun v h => cG_d (x_add ok h) (fun a v h => cG_s h))
    have tr : ∀ f p B w, xr g f p B w → B < 4000 → B + 1 ≤ Bd → rG g f p Bd (vu (q_lt (q_si w 2411 (q_i w 2411 - 1)) (fun T48 => q_bd (fX12_emit 6 0 0 T48) (fun y50 T49 => some T49)))) := by
      intro f p B w h h1 h2
      rw [vu_lt, q_lt_s, vu_bd]
      exact rG_d (y_emit h1 (xr_i h (by omega))) (fun a w h => rG_s (xr_le h h2))
    by_cases h14 : n = 14
    · subst h14
      obtain ⟨v1, a1, x1⟩ := c_expN3 h c
      obtain ⟨w1, b1, y1⟩ := r_nest3 (Bd := 3010) ok h (by omega)
      rw [a1, q_bv_s, b1, q_bv_s, x_stop x1, q_bd_s, if_neg (by decide), vu_bv]
      exact jn_xx (tc _ _ _ _ x1) (rG_v (hyN _ _ _ _ y1) (fun w h => tr _ _ _ _ h (by omega) (by omega)))
    · obtain ⟨v1, a1, s1⟩ := c_expN ok h c (by decide) (by decide) (by omega)
      obtain ⟨w1, b1, s2⟩ := r_nest ok s1 (by omega) (by rw [c]; decide) (by rw [c]; decide)
      have him := (St_im s2).1
      have J := hN (by omega) (i + 1) p C q d r R K k s l b A e e' v1 w1 s2 (z0_s ok z (by omega) him) (ov_m ok o (by omega) him (Nat.le_refl _) (Nat.le_refl _)) r01
      rw [a1, q_bv_s, c_stop ok s1, q_bd_s, if_pos rfl, b1, q_bv_s, vu_bv]
      refine jn_dv J (fun f p a v h => tc f p _ v h) (fun f p w h => tr f p _ w h hB3 hB2) ?_
      intro a v2 w2 E
      obtain ⟨i1, p1, C1, q1, r1, R1, K1, e1, e1', E⟩ := E
      have E' := E
      obtain ⟨S, ⟨E1, E2, E3, E4, E5, E6⟩, _, _, ⟨E12, _, _⟩, _, _⟩ := E'
      have hi1 := (St_im S).1
      have t0 := tka_lt ok (show i < i + 1 by omega) him
      have t1 := tka_L ok i1
      have hL := ok.1
      obtain ⟨z1, z2, z3⟩ := z
      obtain ⟨v3, a3, s3⟩ := c_end S
      obtain ⟨v4, a4, s4⟩ := c_add (y := 6) ok s3 (by omega)
      have s5 := r_un s4
      obtain ⟨w6, b6, s6⟩ := r_emit (o := 6) (a := 0) (c := 0) s5 (by omega)
      unfold fX2_negation_b48
      rw [a3, q_bv_s, a4, q_bd_s, vu_lt, q_lt_s, b6, q_bd_s, vu_some]
      refine jn_qq (E_un ok E s6 (by omega) (fun m h1 h2 => ?_) (and1 E12) (pln_no (by omega) (by rw [c]; decide) (by rw [c]; decide) (by rw [c]; decide)) (by decide) (fun T XL y0 c0 r0 => ?_))
      · have : m = i := by omega
        rw [this, c]; decide
      · exact fun Fin a S f0 H => ru_NOT (dv_hb y0 (hwu (by omega)) Fin a S f0 H) h1u c0 r0
  · rw [if_neg c, if_neg c, q_bd_eta, q_bv_eta]
    obtain ⟨a, v1, b1, w1, e1, e2, h1⟩ := hT i p C q d r R K k s l b A e e' v w h z o r01
    refine ⟨a, v1, b1, w1, e1, e2, ?_⟩
    rcases h1 with h1 | h1
    · obtain ⟨f, p, x1, x2⟩ := h1
      exact Or.inl ⟨f, p, x1, xr_le x2 hB1⟩
    · exact Or.inr h1
set_option maxHeartbeats 200000 in
theorem rO_at {j x : Nat} {y : Int32} : rO R j x y j x = y := by unfold rO; rw [if_pos rfl, upd_at]
set_option maxHeartbeats 200000 in
theorem rO_x {j x m u : Nat} {y : Int32} (h : m ≠ j ∨ u ≠ x) : rO R j x y m u = R m u := by
  unfold rO
  split
  · rename_i z
    rcases h with h | h
    · exact absurd z h
    · rw [upd_ne h, z]
  · rfl
set_option maxHeartbeats 200000 in
theorem rO_j {j x m : Nat} {y : Int32} (h : m ≠ j) : rO R j x y m = R m := by unfold rO; rw [if_neg h]
set_option maxHeartbeats 200000 in
theorem kw_2 (ok : rd_ok g) {j : Nat} (hj : j < 40) (h : tkc g i = nI (300 + j)) : tka g i + 2 ≤ tka g (i + 1) := by
  have h1 := (tk_kl (kw := kw_c) (k := 1) ok.2.1 ok.1 hj h (kw_len j hj).1).1
  have h2 := tk_al (tp := g.1) ok.1 (i + 1)
  unfold tka; unfold gL at *; omega
set_option maxHeartbeats 200000 in
/-- or, and -/
theorem E_oa {i1 p1 q1 e1 e1' i3 p3 q3 e3 e3' : Nat} {C1 C3 : Nat → Int32} {r1 r3 a a2 a' : Int32} {R1 R3 : Nat → Nat → Int32} {K1 K3 : rd_K} {v1 w1 v3 w3 : q_V} {o : Bool} (ok : rd_ok g) (E1 : EQ g i n p C q d r R K k s l b A e e' hb a i1 p1 C1 q1 r1 R1 K1 e1 e1' v1 w1) (E2 : EQ g (i1 + 1) n (p1 + 2) (upd (upd C1 p1 (if o then 24 else 25)) (p1 + 1) 0) (q1 + 1) d r1 (rE R1 q1 (if o then 16 else 17) 0 0) K1 k s l b A e1 e1' hb a2 i3 p3 C3 q3 r3 R3 K3 e3 e3' v3 w3) (S : St g i3 n (p3 + 1) (upd (upd C3 p3 7) (p1 + 1) (nI (p3 + 1))) i3 n (q3 + 1) d r3 (rO (rE R3 q3 18 0 0) 1 q1 (nI (q3 + 1))) K3 k s l b A e3 e3' v w) (hop : tkc g i1 = (if o then 326 else 327)) (h1b : 1 ≤ hb) (ha : a' = 0 ∨ a' = 1) (hr : r3 = (if a' = 1 then 1 else r)) :
    EQ g i n p C q d r R K k s l b A e e' hb a' i3 (p3 + 1) (upd (upd C3 p3 7) (p1 + 1) (nI (p3 + 1))) (q3 + 1) r3 (rO (rE R3 q3 18 0 0) 1 q1 (nI (q3 + 1))) K3 e3 e3' v w := by
  obtain ⟨X0, ⟨X1, X2, X3, X4, X5, X6⟩, ⟨X7, X8, X9, t1, X10⟩, X11, X12, X13, X14⟩ := E1
  obtain ⟨Y0, ⟨Y1, Y2, Y3, Y4, Y5, Y6⟩, ⟨Y7, Y8, Y9, t2, Y10⟩, Y11, Y12, Y13, Y14⟩ := E2
  have hi3 := (St_im S).1
  have t : tka g i1 + 2 ≤ tka g (i1 + 1) := by
    cases o
    · exact kw_2 (j := 27) ok (by omega) hop
    · exact kw_2 (j := 26) ok (by omega) hop
  have hopn : tkc g i1 ≠ 40 ∧ tkc g i1 ≠ 260 ∧ tkc g i1 ≠ 41 ∧ tkc g i1 ≠ 300 := by
    rw [hop]; cases o <;> decide
  refine ⟨S, ⟨by omega, by omega, by omega, by omega, by omega, by omega⟩, ⟨fun x hx => by rw [upd_ne (by omega), upd_ne (by omega), Y7 x (by omega), upd_ne (by omega), upd_ne (by omega)]; exact X7 x hx, fun j x hj hx => by rw [rO_x (by omega), rE_x (by omega), Y8 j x hj (by omega), rE_x (by omega)]; exact X8 j x hj hx, fun j hj => by rw [rO_j (by omega), rE_j hj, Y9 j hj, rE_j hj]; exact X9 j hj, t2 ++ t1, by rw [Y10, X10, List.append_assoc]⟩, fun u h1 h2 => ?_, ⟨?_, ⟨?_, ?_⟩, hr⟩, ⟨by omega, by omega⟩, fun x h1 h2 => ?_, fun T XL x1 x2 x3 => ?_⟩
  · by_cases m1 : u < i1
    · exact X11 u h1 m1
    · by_cases m2 : u = i1
      · rw [m2]; exact hopn.2.2.2
      · exact Y11 u (by omega) h2
  · rcases ha with ha | ha
    · exact Or.inl ha
    · exact Or.inr (Or.inl ha)
  · intro y; rcases ha with ha | ha <;> (rw [ha] at y; exact absurd y (by decide))
  · intro y
    rcases pln_k y i1 (by omega) (by omega) with z | z | z
    · exact absurd z hopn.1
    · exact absurd z hopn.2.1
    · exact absurd z hopn.2.2.1
  · rw [rO_x (by omega)]
    by_cases c : x = q3
    · rw [c, rE_0, upd_at]; decide
    · rw [rE_x c]
      by_cases c2 : x < q1 + 1
      · rw [Y8 0 x (by omega) c2]
        by_cases c3 : x = q1
        · rw [c3, rE_0, upd_at]; cases o <;> decide
        · rw [rE_x c3]; exact X14.1 x h1 (by omega)
      · exact Y14.1 x (by omega) (by omega)
  · have c0 := ag_c x2 (show p ≤ p1 by omega) (by omega)
    have c1 := ag_c x2 (show p ≤ p1 + 1 by omega) (by omega)
    have c2 := ag_c x2 (show p ≤ p3 by omega) (by omega)
    have r0 := ag_r0 x2 (show q ≤ q1 by omega) (by omega)
    have r2 := ag_r0 x2 (show q ≤ q3 by omega) (by omega)
    rw [upd_ne (by omega), upd_ne (by omega), Y7 p1 (by omega), upd_ne (by omega), upd_at] at c0
    rw [upd_at] at c1
    rw [upd_ne (by omega), upd_at] at c2
    have er0 : rO (rE R3 q3 18 0 0) 1 q1 (nI (q3 + 1)) 0 q1 = (if o then 16 else 17) := by rw [rO_x (by omega), rE_x (by omega), Y8 0 q1 (by omega) (by omega), rE_0, upd_at]
    have r1 := ag_r1 x2 (show q ≤ q1 by omega) (by omega) (by rw [er0]; cases o <;> decide)
    rw [er0] at r0
    rw [rO_at] at r1
    rw [rO_x (by omega), rE_0, upd_at] at r2
    have a1 := X14.2 T XL x1 (ag_E x2 (Nat.le_refl _) (by omega) (Nat.le_refl _) (by omega) (fun x _ hx => by rw [upd_ne (by omega), upd_ne (by omega), Y7 x (by omega), upd_ne (by omega), upd_ne (by omega)]) (fun j x hj _ hx => by rw [rO_x (by omega), rE_x (by omega), Y8 j x hj (by omega), rE_x (by omega)]) (fun y hy => by rw [Y10]; exact List.mem_append_right _ hy)) (by have := bl_le X0.2.2.2.2.2.2.1; omega)
    have a2 := Y14.2 T XL x1 (ag_E x2 (by omega) (by omega) (by omega) (by omega) (fun x _ _ => by rw [upd_ne (by omega), upd_ne (by omega)]) (fun j x _ _ _ => by rw [rO_x (by omega), rE_x (by omega)]) (fun y hy => hy)) x3
    exact fun Fin a S f0 H => ru_OA (o := o) (a1 Fin a S f0 H) h1b c0 c1 r0 r1 (a2 Fin a S f0 H) c2 r2
set_option maxHeartbeats 200000 in
theorem x_conjG {f p : Int32} {m : Nat} {y c : Int32} (h : xc g f p l v) : cG g f p l (fX2_conjunction_L7 U N (m + 1) y c v) := by
  rw [fX2_conjunction_L7, h.2.1, if_neg (show ¬ (263 : Int32) = 327 by decide)]; exact cG_i (fun _ => cG_s h) (fun _ => cG_s h)
set_option maxHeartbeats 200000 in
theorem y_conjG {f p : Int32} {B m : Nat} (h : xr g f p B w) : rG g f p B (vu (fX12_both_L4 U' N' (m + 1) w)) := by
  obtain ⟨w', e, h'⟩ := y_skip (x := 31) h
  rw [fX12_both_L4, e, q_bd_s, if_pos rfl]; exact rG_s h'
set_option maxHeartbeats 200000 in
theorem conj_loop (ok : rd_ok g) (z : z0 g i p q K.length) (o : ov g i s e e') (r01 : r = 0 ∨ r = 1) (hU : US g n hu Bu (N) (N')) (h1u : 1 ≤ hu) (hB : Bu + 1 ≤ Bd) (hB3 : Bu < 4000) :
    ∀ u c a i1 p1 C1 q1 r1 R1 K1 e1 e1' v w N1 N2, gm g - i1 = u → u < N1 → u < N2 → c + i + 1 ≤ i1 → EQ g i n p C q d r R K k s l b A e e' hu a i1 p1 C1 q1 r1 R1 K1 e1 e1' v w → jn g l Bd (EP g i n p C q d r R K k s l b A e e' hu) (fX2_conjunction_L7 U N N1 a (nI c) v) (vu (fX12_both_L4 U' N' N2 w)) := by
  have hm3 := ok.2.2.1.2.2
  intro u
  induction u using Nat.strongRecOn with
  | ind u ih =>
    intro c a i1 p1 C1 q1 r1 R1 K1 e1 e1' v w N1 N2 hu1 hN1 hN2 hc E
    obtain ⟨N1, rfl⟩ : ∃ x, N1 = x + 1 := ⟨N1 - 1, by omega⟩
    obtain ⟨N2, rfl⟩ : ∃ x, N2 = x + 1 := ⟨N2 - 1, by omega⟩
    have E' := E
    obtain ⟨S, ⟨E1, E2, E3, E4, E5, E6⟩, _, _, ⟨E12, E13, E14⟩, ⟨E15, E15'⟩, _⟩ := E'
    have hi1 := (St_im S).1
    have zE : z0 g i1 p1 q1 K1.length := by
      obtain ⟨z1, z2, z3⟩ := z
      exact ⟨by omega, by omega, by omega⟩
    have r1' : r1 = 0 ∨ r1 = 1 := by
      rw [E14]; split
      · exact Or.inr rfl
      · exact r01
    rw [fX2_conjunction_L7, if_neg (show ¬ (3000 : Int32) ≤ nI c from ni_nle (a := 3000) (by omega) (by omega)), c_kind S, fX12_both_L4]
    by_cases ct : tkc g i1 = 327
    · have zp := z0_p ok zE
      obtain ⟨v1, a1, s1⟩ := c_adv ok S (by rw [ct]; decide) (by rw [ct]; decide)
      obtain ⟨w1, b1, s2⟩ := r_skip (c := 327) (x := 31) ok s1 rfl (by decide) ct (by decide) (by decide)
      have him := (St_im s2).1
      have tk2 : tka g i1 + 2 ≤ tka g (i1 + 1) := kw_2 (j := 27) ok (by omega) ct
      obtain ⟨v2, a2, s3⟩ := c_add2 (x := 25) (y := 0) ok s2 (by omega)
      obtain ⟨w2, b2, s4⟩ := r_emit (o := 17) (a := 0) (c := 0) s3 (by omega)
      have J := hU (i1 + 1) (p1 + 2) _ (q1 + 1) d r1 _ K1 k s l b A e1 e1' v2 w2 s4 (by obtain ⟨z1, z2, z3⟩ := zE; exact ⟨by omega, by omega, by omega⟩) (ov_m ok o (by omega) him E15 E15') r1'
      obtain ⟨M1, rfl⟩ : ∃ x, N1 = x + 1 := ⟨N1 - 1, by omega⟩
      obtain ⟨M2, rfl⟩ : ∃ x, N2 = x + 1 := ⟨N2 - 1, by omega⟩
      have hL := ok.1
      have t9 := tka_L ok i1
      have q4 : ¬ (nI q1 < 0 ∨ 4000 ≤ (nI q1).toNatClampNeg) := ni_nin (by omega) (by omega)
      have q5 : (nI q1).toNatClampNeg = q1 := ni_clamp (by omega)
      rw [if_pos ct, a1, q_bv_s, a2, q_bd_s, b1, q_bd_s, if_neg (by decide), b2, q_bd_s, vu_bv]
      unfold fX2_endJoined
      refine jn_dv J (fun f p a v h => ?_) (fun f p w h => ?_) ?_
      · rw [q_lt_s]
        refine cG_v (l1 := l) ?_ (fun v h => x_conjG h)
        exact cG_e (x_add ok h) (fun a v h => cG_e (x_size h) (fun a v h => cG_u (x_set ok h) (fun v h => cG_s h)))
      · rw [vu_bd]
        refine rG_d (y_emit hB3 h) (fun a w h => ?_)
        rw [if_neg q4, q_lt_s]
        exact y_conjG (xr_a (xr_le h hB) (by omega))
      · intro a3 v3 w3 E9
        obtain ⟨i3, p3, C3, q3, r3, R3, K3, e3, e3', E9⟩ := E9
        have E9' := E9
        obtain ⟨S3, ⟨F1, F2, F3, F4, F5, F6⟩, _, _, ⟨F12, F13, F14⟩, ⟨F15, F15'⟩, _⟩ := E9'
        have hi3 := (St_im S3).1
        have t1 := tka_L ok i3
        obtain ⟨z1, z2, z3⟩ := zE
        obtain ⟨v4, a4, s5⟩ := c_add (y := 7) ok S3 (by omega)
        obtain ⟨v5, a5, s6⟩ := c_set (a := p1 + 1) (y := nI (p3 + 1)) ok s5 (by omega)
        obtain ⟨w6, b6, s7⟩ := r_emit (o := 18) (a := 0) (c := 0) s6 (by omega)
        have s8 := r_set (j := 1) (a := q1) (y := nI (q3 + 1)) s7 (by omega)
        obtain ⟨nt, nt1, nt2, nt3⟩ := nat_or E12 F12 F14 E14
        rw [q_lt_s, nt1, a4, q_bd_s, c_size s5, q_bd_s, ni_add1, a5, q_bv_s, q_bv_s, q_lt_s, ni_add1, b6, q_bd_s, if_neg q4, q5, q_lt_s, s7.2.2.2.2.1.1.2.2.2.1]
        exact ih (gm g - i3) (by omega) (c + 1) nt i3 (p3 + 1) _ (q3 + 1) r3 _ K3 e3 e3' v5 _ _ _ rfl (by omega) (by omega) (by omega) (E_oa (o := false) ok E E9 s8 ct h1u nt2 nt3)
    · rw [if_neg ct, r_skipN (c := 327) (x := 31) ok S rfl (by decide) ct, q_bd_s, if_pos rfl]
      exact jn_qq ⟨i1, p1, C1, q1, r1, R1, K1, e1, e1', E⟩
set_option maxHeartbeats 200000 in
theorem US_conj (ok : rd_ok g) (hU : US g n hu Bu (N) (N')) (h1u : 1 ≤ hu) (hB3 : Bu < 4000) : US g n hu (Bu + 1) (fX2_conjunction U N) (fX12_both U' N') := by
  intro i p C q d r R K k s l b A e e' v w h z o r01
  have hm3 := ok.2.2.1.2.2
  unfold fX2_conjunction fX12_both
  rw [vu_bv]
  refine jn_dv (hU i p C q d r R K k s l b A e e' v w h z o r01) (fun f p a v h => x_conjL h) (fun f p w h => y_bothL (xr_le h (by omega))) ?_
  intro a v2 w2 E
  obtain ⟨i1, p1, C1, q1, r1, R1, K1, e1, e1', E⟩ := E
  have hi1 : i < i1 := E.2.1.1
  have hi1m := (St_im E.1).1
  exact conj_loop ok z o r01 hU h1u (Nat.le_refl _) hB3 (gm g - i1) 0 a i1 p1 C1 q1 r1 R1 K1 e1 e1' v2 w2 q_N q_N rfl (by unfold q_N; omega) (by unfold q_N; omega) (by omega) E
set_option maxHeartbeats 200000 in
theorem x_wholG {f p : Int32} {m : Nat} {y c : Int32} (h : xc g f p l v) : cG g f p l (fX2_whole_L7 U N (m + 1) y c v) := by
  rw [fX2_whole_L7, h.2.1, if_neg (show ¬ (263 : Int32) = 326 by decide)]; exact cG_i (fun _ => cG_s h) (fun _ => cG_s h)
set_option maxHeartbeats 200000 in
theorem y_wholG {f p : Int32} {B m : Nat} (h : xr g f p B w) : rG g f p B (vu (fX12_expression_L4 U' N' (m + 1) w)) := by
  obtain ⟨w', e, h'⟩ := y_skip (x := 30) h
  rw [fX12_expression_L4, e, q_bd_s, if_pos rfl]; exact rG_s h'
set_option maxHeartbeats 200000 in
theorem whole_loop (ok : rd_ok g) (z : z0 g i p q K.length) (o : ov g i s e e') (r01 : r = 0 ∨ r = 1) (hU : US g n hu Bu (fX2_conjunction U N) (fX12_both U' N')) (h1u : 1 ≤ hu) (hB : Bu + 1 ≤ Bd) (hB3 : Bu < 4000) :
    ∀ u c a i1 p1 C1 q1 r1 R1 K1 e1 e1' v w N1 N2, gm g - i1 = u → u < N1 → u < N2 → c + i + 1 ≤ i1 → EQ g i n p C q d r R K k s l b A e e' hu a i1 p1 C1 q1 r1 R1 K1 e1 e1' v w → jn g l Bd (EP g i n p C q d r R K k s l b A e e' hu) (fX2_whole_L7 U N N1 a (nI c) v) (vu (fX12_expression_L4 U' N' N2 w)) := by
  have hm3 := ok.2.2.1.2.2
  intro u
  induction u using Nat.strongRecOn with
  | ind u ih =>
    intro c a i1 p1 C1 q1 r1 R1 K1 e1 e1' v w N1 N2 hu1 hN1 hN2 hc E
    obtain ⟨N1, rfl⟩ : ∃ x, N1 = x + 1 := ⟨N1 - 1, by omega⟩
    obtain ⟨N2, rfl⟩ : ∃ x, N2 = x + 1 := ⟨N2 - 1, by omega⟩
    have E' := E
    obtain ⟨S, ⟨E1, E2, E3, E4, E5, E6⟩, _, _, ⟨E12, E13, E14⟩, ⟨E15, E15'⟩, _⟩ := E'
    have hi1 := (St_im S).1
    have zE : z0 g i1 p1 q1 K1.length := by
      obtain ⟨z1, z2, z3⟩ := z
      exact ⟨by omega, by omega, by omega⟩
    have r1' : r1 = 0 ∨ r1 = 1 := by
      rw [E14]; split
      · exact Or.inr rfl
      · exact r01
    rw [fX2_whole_L7, if_neg (show ¬ (3000 : Int32) ≤ nI c from ni_nle (a := 3000) (by omega) (by omega)), c_kind S, fX12_expression_L4]
    by_cases ct : tkc g i1 = 326
    · have zp := z0_p ok zE
      obtain ⟨v1, a1, s1⟩ := c_adv ok S (by rw [ct]; decide) (by rw [ct]; decide)
      obtain ⟨w1, b1, s2⟩ := r_skip (c := 326) (x := 30) ok s1 rfl (by decide) ct (by decide) (by decide)
      have him := (St_im s2).1
      have tk2 : tka g i1 + 2 ≤ tka g (i1 + 1) := kw_2 (j := 26) ok (by omega) ct
      obtain ⟨v2, a2, s3⟩ := c_add2 (x := 24) (y := 0) ok s2 (by omega)
      obtain ⟨w2, b2, s4⟩ := r_emit (o := 16) (a := 0) (c := 0) s3 (by omega)
      have J := hU (i1 + 1) (p1 + 2) _ (q1 + 1) d r1 _ K1 k s l b A e1 e1' v2 w2 s4 (by obtain ⟨z1, z2, z3⟩ := zE; exact ⟨by omega, by omega, by omega⟩) (ov_m ok o (by omega) him E15 E15') r1'
      obtain ⟨M1, rfl⟩ : ∃ x, N1 = x + 1 := ⟨N1 - 1, by omega⟩
      obtain ⟨M2, rfl⟩ : ∃ x, N2 = x + 1 := ⟨N2 - 1, by omega⟩
      have hL := ok.1
      have t9 := tka_L ok i1
      have q4 : ¬ (nI q1 < 0 ∨ 4000 ≤ (nI q1).toNatClampNeg) := ni_nin (by omega) (by omega)
      have q5 : (nI q1).toNatClampNeg = q1 := ni_clamp (by omega)
      rw [if_pos ct, a1, q_bv_s, a2, q_bd_s, b1, q_bd_s, if_neg (by decide), b2, q_bd_s, vu_bv]
      unfold fX2_endJoined
      refine jn_dv J (fun f p a v h => ?_) (fun f p w h => ?_) ?_
      · rw [q_lt_s]
        refine cG_v (l1 := l) ?_ (fun v h => x_wholG h)
        exact cG_e (x_add ok h) (fun a v h => cG_e (x_size h) (fun a v h => cG_u (x_set ok h) (fun v h => cG_s h)))
      · rw [vu_bd]
        refine rG_d (y_emit hB3 h) (fun a w h => ?_)
        rw [if_neg q4, q_lt_s]
        exact y_wholG (xr_a (xr_le h hB) (by omega))
      · intro a3 v3 w3 E9
        obtain ⟨i3, p3, C3, q3, r3, R3, K3, e3, e3', E9⟩ := E9
        have E9' := E9
        obtain ⟨S3, ⟨F1, F2, F3, F4, F5, F6⟩, _, _, ⟨F12, F13, F14⟩, ⟨F15, F15'⟩, _⟩ := E9'
        have hi3 := (St_im S3).1
        have t1 := tka_L ok i3
        obtain ⟨z1, z2, z3⟩ := zE
        obtain ⟨v4, a4, s5⟩ := c_add (y := 7) ok S3 (by omega)
        obtain ⟨v5, a5, s6⟩ := c_set (a := p1 + 1) (y := nI (p3 + 1)) ok s5 (by omega)
        obtain ⟨w6, b6, s7⟩ := r_emit (o := 18) (a := 0) (c := 0) s6 (by omega)
        have s8 := r_set (j := 1) (a := q1) (y := nI (q3 + 1)) s7 (by omega)
        obtain ⟨nt, nt1, nt2, nt3⟩ := nat_or E12 F12 F14 E14
        rw [q_lt_s, nt1, a4, q_bd_s, c_size s5, q_bd_s, ni_add1, a5, q_bv_s, q_bv_s, q_lt_s, ni_add1, b6, q_bd_s, if_neg q4, q5, q_lt_s, s7.2.2.2.2.1.1.2.2.2.1]
        exact ih (gm g - i3) (by omega) (c + 1) nt i3 (p3 + 1) _ (q3 + 1) r3 _ K3 e3 e3' v5 _ _ _ rfl (by omega) (by omega) (by omega) (E_oa (o := true) ok E E9 s8 ct h1u nt2 nt3)
    · rw [if_neg ct, r_skipN (c := 326) (x := 30) ok S rfl (by decide) ct, q_bd_s, if_pos rfl]
      exact jn_qq ⟨i1, p1, C1, q1, r1, R1, K1, e1, e1', E⟩
set_option maxHeartbeats 200000 in
theorem US_whole (ok : rd_ok g) (hU : US g n hu Bu (fX2_conjunction U N) (fX12_both U' N')) (h1u : 1 ≤ hu) (hB3 : Bu < 4000) : US g n hu (Bu + 1) (fX2_whole U N) (fX12_expression U' N') := by
  intro i p C q d r R K k s l b A e e' v w h z o r01
  have hm3 := ok.2.2.1.2.2
  unfold fX2_whole fX12_expression
  rw [vu_bv]
  refine jn_dv (hU i p C q d r R K k s l b A e e' v w h z o r01) (fun f p a v h => x_wholeL h) (fun f p w h => y_exprL (xr_le h (by omega))) ?_
  intro a v2 w2 E
  obtain ⟨i1, p1, C1, q1, r1, R1, K1, e1, e1', E⟩ := E
  have hi1 : i < i1 := E.2.1.1
  have hi1m := (St_im E.1).1
  exact whole_loop ok z o r01 hU h1u (Nat.le_refl _) hB3 (gm g - i1) 0 a i1 p1 C1 q1 r1 R1 K1 e1 e1' v2 w2 q_N q_N rfl (by unfold q_N; omega) (by unfold q_N; omega) (by omega) E
end
