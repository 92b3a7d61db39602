/-- some E's, one behind the other -/
def AQ (g : rd_G) (M i n p : Nat) (C : Nat → Int32) (q d : Nat) (R : Nat → Nat → Int32) (K : rd_K) (k s l b : Nat) (A : rd_A) (e e' m hb i1 p1 : Nat) (C1 : Nat → Int32) (q1 : Nat) (r1 : Int32) (R1 : Nat → Nat → Int32) (K1 : rd_K) (e1 e1' : Nat) (v w : q_V) : Prop :=
  St g i1 n p1 C1 i1 n q1 d r1 R1 K1 k s l b A e1 e1' v w ∧ (i ≤ i1 ∧ p1 + 2 * tka g i ≤ p + 2 * tka g i1 ∧ q1 + tka g i ≤ q + tka g i1 ∧ 3 * K1.length + tka g i ≤ 3 * K.length + tka g i1 ∧ p ≤ p1 ∧ q ≤ q1) ∧ ((∀ x, x < p → C1 x = C x) ∧ (∀ j x, j < 3 → x < q → R1 j x = R j x) ∧ (∀ j, 3 ≤ j → R1 j = R j) ∧ ∃ t, K1 = t ++ K) ∧ (∀ m, i ≤ m → m < i1 → tkc g m ≠ 300) ∧ (e1 ≤ e ∧ e1' ≤ e') ∧ (r1 = 0 ∨ r1 = 1) ∧ (∀ x, q ≤ x → x < q1 → R1 0 x < 30) ∧ ∀ T XL, hT g T → ag g T C1 R1 K1 p p1 q q1 d d → e1 = rd_N → m ≤ M → dv_A T XL m hb p p1 q q1
section
variable {g : rd_G} {i n p q d k s l b e e' : Nat} {C : Nat → Int32} {r : Int32} {R : Nat → Nat → Int32} {K : rd_K} {A : rd_A} {v w : q_V}
variable {U N : q_V → Option (Int32 × q_V)} {U' N' : q_V → Option q_V} {hb hw Bw Bd : Nat}
set_option maxHeartbeats 200000 in
theorem AQ_0 {M i1 : Nat} (ok : rd_ok g) (h : St g i1 n p C i1 n q d r R K k s l b A e e' v w) (hi : i ≤ i1) (hk : ∀ m, i ≤ m → m < i1 → tkc g m ≠ 300) (r01 : r = 0 ∨ r = 1) : AQ g M i n p C q d R K k s l b A e e' 0 hb i1 p C q r R K e e' v w := by
  have t : tka g i ≤ tka g i1 := by
    by_cases c : i = i1
    · rw [c]; exact Nat.le_refl _
    · exact Nat.le_of_lt (tka_lt ok (show i < i1 by omega) (St_im h).1)
  exact ⟨h, ⟨hi, by omega, by omega, by omega, Nat.le_refl _, Nat.le_refl _⟩, ⟨fun _ _ => rfl, fun _ _ _ _ => rfl, fun _ _ => rfl, [], rfl⟩, hk, ⟨Nat.le_refl _, Nat.le_refl _⟩, r01, fun x h1 h2 => absurd h1 (by omega), fun T XL _ _ _ _ => fun Fin a S f0 H => ru_NIL⟩
set_option maxHeartbeats 200000 in
theorem AQ_s {M m i1 p1 q1 e1 e1' i2 i3 p3 q3 e3 e3' : Nat} {C1 C3 : Nat → Int32} {r1 r2 r3 a : Int32} {R1 R3 : Nat → Nat → Int32} {K1 K3 : rd_K} {v1 w1 : q_V} (ok : rd_ok g) (X : AQ g M i n p C q d R K k s l b A e e' m hb i1 p1 C1 q1 r1 R1 K1 e1 e1' v1 w1) (E : EQ g i2 n p1 C1 q1 d r2 R1 K1 k s l b A e1 e1' hw a i3 p3 C3 q3 r3 R3 K3 e3 e3' v w) (h12 : i1 ≤ i2) (hk : ∀ m, i1 ≤ m → m < i2 → tkc g m ≠ 300) (hh : hw + M ≤ hb + 1) (r01 : r2 = 0 ∨ r2 = 1) : AQ g M i n p C q d R K k s l b A e e' (m + 1) hb i3 p3 C3 q3 r3 R3 K3 e3 e3' v w := by
  obtain ⟨X0, ⟨X1, X2, X3, X4, X5, X6⟩, ⟨X7, X8, X9, t1, X10⟩, X11, X12, X13, X14⟩ := X
  obtain ⟨S, ⟨E1, E2, E3, E4, E5, E6⟩, ⟨E7, E8, E9, t2, E10⟩, E11, ⟨E12, E13, E14⟩, E15, E16⟩ := E
  have hi3 := (St_im S).1
  have t : tka g i1 ≤ tka g i2 := by
    by_cases c : i1 = i2
    · rw [c]; exact Nat.le_refl _
    · exact Nat.le_of_lt (tka_lt ok (show i1 < i2 by omega) (by omega))
  refine ⟨S, ⟨by omega, by omega, by omega, by omega, by omega, by omega⟩, ⟨fun x hx => by rw [E7 x (by omega)]; exact X7 x hx, fun j x hj hx => by rw [E8 j x hj (by omega)]; exact X8 j x hj hx, fun j hj => by rw [E9 j hj]; exact X9 j hj, t2 ++ t1, by rw [E10, X10, List.append_assoc]⟩, fun y h1 h2 => ?_, ⟨by omega, by omega⟩, ?_, fun x h1 h2 => ?_, fun T XL x1 x2 x3 x4 => ?_⟩
  · by_cases m1 : y < i1
    · exact X11 y h1 m1
    · by_cases m2 : y < i2
      · exact hk y (by omega) m2
      · exact E11 y (by omega) h2
  · rw [E14]; split
    · exact Or.inr rfl
    · exact r01
  · by_cases c : x < q1
    · rw [E8 0 x (by omega) c]; exact X14.1 x h1 c
    · exact E16.1 x (by omega) h2
  · have a1 := X14.2 T XL x1 (ag_E x2 (Nat.le_refl _) E5 (Nat.le_refl _) E6 (fun x _ hx => E7 x hx) (fun j x hj _ hx => E8 j x hj hx) (fun y hy => by rw [E10]; exact List.mem_append_right _ hy)) (by have := bl_le X0.2.2.2.2.2.2.1; omega) (by omega)
    have a2 := E16.2 T XL x1 (ag_E x2 X5 (Nat.le_refl _) X6 (Nat.le_refl _) (fun x _ _ => rfl) (fun j x _ _ _ => rfl) (fun y hy => hy)) x3
    exact fun Fin a S f0 H => ru_SNOC (a1 Fin a S f0 H) (a2 Fin a S f0 H) (by omega)
set_option maxHeartbeats 200000 in
/-- the end of a question -/
theorem u_close {m i1 p1 q1 e1 e1' : Nat} {C1 : Nat → Int32} {r1 x y : Int32} {R1 : Nat → Nat → Int32} {K1 : rd_K} {x2 x1' : Int32} (ok : rd_ok g) (z : z0 g i p q K.length) (X : AQ g 8 i (n + 1) p C q d R K k s l b A e e' m hb i1 p1 C1 q1 r1 R1 K1 e1 e1' v w) (hi : i < i1) (hp : ∀ j, i < j → ¬ pln g i j) (H : ∀ T XL, dv_A T XL m hb p p1 q q1 → co_c T p1 x → co_r T 0 q1 y → dv_A T XL 1 hb p (p1 + 1) q (q1 + 1)) (hm : m ≤ 8) (hy30 : y < 30) (hB2 : 3012 ≤ Bd) : jn g l Bd (EP g i n p C q d r R K k s l b A e e' hb) (fX2_query_b57 U N x x2 v) (vu (fX12_question_b47 U' N' x1' y w)) := by
  obtain ⟨S, ⟨X1, X2, X3, X4, X5, X6⟩, ⟨X7, X8, X9, X10⟩, X11, X12, X13, X14⟩ := X
  have hi1 := (St_im S).1
  have t1 := tka_L ok i1
  have hL := ok.1
  obtain ⟨z1, z2, z3⟩ := z
  unfold fX2_query_b57 fX12_question_b47
  simp only [vu_bv, vu_lt, vu_bd]
  obtain ⟨v3, a3, s3⟩ := c_end S
  rw [a3, q_bv_s]
  by_cases c41 : tkc g i1 = 41
  · obtain ⟨v4, a4, s4⟩ := c_exp ok s3 c41 (by decide) (by decide)
    obtain ⟨w4, b4, s5⟩ := r_takeS (c := 41) ok s4 rfl (by decide) c41 (by decide) (by decide)
    have s6 := r_risk (x := 1) (r_un s5)
    obtain ⟨v7, a7, s7⟩ := c_add (y := x) ok s6 (by omega)
    obtain ⟨w8, b8, s8⟩ := r_emit (o := y) (a := 0) (c := 0) s7 (by omega)
    rw [a4, q_bv_s, a7, q_bd_s, b4, q_bv_s, q_lt_s, q_lt_s, b8, q_bd_s, vu_some]
    have t2 := tka_lt ok (show i1 < i1 + 1 by omega) (St_im s8).1
    refine jn_qq ⟨i1 + 1, p1 + 1, _, q1 + 1, 1, _, K1, e1, e1', s8, ⟨by omega, by omega, by omega, by omega, by omega, by omega⟩, ⟨fun x hx => by rw [upd_ne (by omega)]; exact X7 x hx, fun j x hj hx => by rw [rE_x (by omega)]; exact X8 j x hj hx, fun j hj => by rw [rE_j hj]; exact X9 j hj, X10⟩, fun u h1 h2 => ?_, ⟨Or.inr (Or.inl rfl), ⟨fun y => absurd y (by decide), fun y => absurd y (hp _ (by omega))⟩, by rw [if_pos rfl]⟩, X12, fun x h1 h2 => ?_, fun T XL x1 x2 x3 => ?_⟩
    · by_cases m1 : u = i1
      · rw [m1, c41]; decide
      · exact X11 u h1 (by omega)
    · by_cases c : x = q1
      · rw [c, rE_0, upd_at]; exact hy30
      · rw [rE_x c]; exact X14.1 x h1 (by omega)
    · have c0 := ag_c x2 (show p ≤ p1 by omega) (by omega)
      have r0 := ag_r0 x2 (show q ≤ q1 by omega) (by omega)
      rw [upd_at] at c0
      rw [rE_0, upd_at] at r0
      refine H T XL (X14.2 T XL x1 ?_ x3 hm) c0 r0
      exact ag_E x2 (Nat.le_refl _) (by omega) (Nat.le_refl _) (by omega) (fun x _ hx => upd_ne (by omega)) (fun j x _ _ hx => rE_x (by omega)) (fun m hm => hm)
  · obtain ⟨v4, a4, x4⟩ := c_expX s3 c41
    obtain ⟨w4, b4, y4⟩ := r_takeSX (c := 41) (Bd := 3011) ok s3 rfl (by decide) c41 (by omega)
    rw [a4, q_bv_s, b4, q_bv_s, q_lt_s, q_lt_s]
    exact jn_xx (cG_d (x_add ok x4) (fun a v h => cG_s h)) (rG_d (y_emit (by omega) (xr_i (xr_i y4 (by omega)) (by omega))) (fun a w h => rG_s (xr_le h (by omega))))
set_option maxHeartbeats 200000 in
theorem u_query {x y x1' c0 : Int32} {m : Nat} (ok : rd_ok g) (h : St g i n p C i n q d r R K k s l b A e e' v w) (z : z0 g i p q K.length) (o : ov g i s e e') (r01 : r = 0 ∨ r = 1) (c : tkc g i = c0) (hc : c0 ≠ 261 ∧ c0 ≠ 262 ∧ c0 ≠ 300 ∧ c0 ≠ 40 ∧ c0 ≠ 260 ∧ c0 ≠ 41) (hm : m = 1 ∨ m = 2) (hm' : x1' = nI m) (hW : n < 14 → US g (n + 1) hw Bw (fX2_whole U N) (fX12_expression U' N')) (hx : ∀ f p l v, xc g f p l v → cG g f p l (fX2_whole U N v)) (hy : ∀ f p B w, xr g f p B w → rG g f p B (vu (fX12_expression U' N' w))) (hhb : n < 14 → hw + 7 ≤ hb) (hB : Bw + 1 ≤ Bd) (hB3 : Bw < 4000) (hB4 : 3011 ≤ Bw) (hy30 : y < 30)
    (H : n < 14 → ∀ T XL p1 q1, dv_A T XL m hb p p1 q q1 → co_c T p1 x → co_r T 0 q1 y → dv_A T XL 1 hb p (p1 + 1) q (q1 + 1)) : jn g l Bd (EP g i n p C q d r R K k s l b A e e' hb) (fX2_query U N x (nI m) v) (vu (fX12_question U' N' x1' y w)) := by
  have zp := z0_p ok z
  have hn := St_n h
  subst hm'
  have tc57 : ∀ f p v, xc g f p l v → cG g f p l (fX2_query_b57 U N x (nI m) v) := by
    intro f p v h
    unfold fX2_query_b57
    exact cG_v (x_end h) (fun v h => cG_v (x_exp h) (fun v h => cG_d (x_add ok h) (fun a v h => cG_s h)))
  have tcL : ∀ f p v u N1, xc g f p l v → cG g f p l (fX2_query_L18 U N x (nI m) (N1 + 1) u v) := by
    intro f p v u N1 h
    rw [fX2_query_L18, x_stop h, q_bd_s, if_neg (show ¬ (1 : Int32) = 0 by decide)]
    exact cG_i (fun _ => tc57 f p v h) (fun _ => tc57 f p v h)
  have tr47 : ∀ f p B w, xr g f p B w → B < 4000 → B + 1 ≤ Bd → rG g f p Bd (vu (fX12_question_b47 U' N' (nI m) y w)) := by
    intro f p B w h h1 h2
    unfold fX12_question_b47
    simp only [vu_bv, vu_lt, vu_bd]
    exact rG_v (y_takeS h) (fun w h => rG_d (y_emit h1 (xr_i (xr_i h (by omega)) (by omega))) (fun a w h => rG_s (xr_le h h2)))
  have trE : ∀ f p B w, xr g f p B w → B < 4000 → B + 1 ≤ Bd → rG g f p Bd (vu (if nI m = 2 then q_bv (fX12_takeSign 44 w) (fun T6 => q_bv (fX12_expression U' N' T6) (fun T7 => fX12_question_b47 U' N' (nI m) y T7)) else fX12_question_b47 U' N' (nI m) y w)) := by
    intro f p B w h h1 h2
    rw [vu_if]
    exact rG_i (fun _ => rG_u (y_takeS h) (fun w h => rG_u (hy _ _ _ _ h) (fun w h => tr47 f p _ w h h1 h2))) (fun _ => tr47 f p _ w h h1 h2)
  have hpl : ∀ j, i < j → ¬ pln g i j := fun j hj => pln_no hj (by rw [c]; exact hc.2.2.2.1) (by rw [c]; exact hc.2.2.2.2.1) (by rw [c]; exact hc.2.2.2.2.2)
  obtain ⟨v1, a1, s1⟩ := c_adv ok h (by rw [c]; exact hc.1) (by rw [c]; exact hc.2.1)
  have s2 := r_now ok s1 (by rw [c]; exact hc.1) (by rw [c]; exact hc.2.1)
  have him := (St_im s2).1
  have t0 := tka_lt ok (show i < i + 1 by omega) him
  unfold fX2_query fX12_question
  rw [a1, q_bv_s, q_lt_s, r_sign (c := 40) ok s2 rfl (by decide), q_bd_s]
  by_cases c40 : tkc g (i + 1) = 40
  · rw [if_pos c40, if_neg (by decide)]
    by_cases h14 : n = 14
    · subst h14
      obtain ⟨v3, a3, x3⟩ := c_expN3 s2 c40
      obtain ⟨w3, b3, y3⟩ := r_nest3 (Bd := 3010) ok s2 (by omega)
      rw [a3, q_bv_s, b3, q_bv_s]
      refine jn_xx (tcL _ _ _ _ _ x3) ?_
      rw [vu_bv]
      exact rG_v (hy _ _ _ _ y3) (fun w h => trE _ _ _ _ h (by omega) (by omega))
    · obtain ⟨v3, a3, s3⟩ := c_expN ok s2 c40 (by decide) (by decide) (by omega)
      obtain ⟨w3, b3, s4⟩ := r_nest ok s3 (by omega) (by rw [c40]; decide) (by rw [c40]; decide)
      have him2 := (St_im s4).1
      have J := hW (by omega) (i + 2) p C q d r R K k s l b A e e' v3 w3 s4 (z0_s ok z (by omega) him2) (ov_m ok o (by omega) him2 (Nat.le_refl _) (Nat.le_refl _)) r01
      have X0 := AQ_0 (M := 8) (i := i) (hb := hb) ok s4 (by omega) (fun u h1 h2 => by
        by_cases u1 : u = i
        · rw [u1, c]; exact hc.2.2.1
        · rw [show u = i + 1 by omega, c40]; decide) r01
      rw [a3, q_bv_s, b3, q_bv_s, q_N1, fX2_query_L18, if_neg (show ¬ nI m ≤ 0 by rw [show (0 : Int32) = nI 0 from rfl, ni_le (by omega) (by omega)]; omega), c_stop ok s3, q_bd_s, if_pos rfl, if_pos (by decide)]
      unfold fX2_query_b46
      rw [vu_bv]
      refine jn_dv J (fun f p a v h => tcL f p v _ _ h) (fun f p w h => trE f p _ w h hB3 hB) ?_
      intro a v5 w5 E
      obtain ⟨i1, p1, C1, q1, r1, R1, K1, e1, e1', E⟩ := E
      have hi1 : i < i1 := by have := E.2.1.1; omega
      have X1 := AQ_s ok X0 E (Nat.le_refl _) (fun u h1 h2 => absurd h1 (by omega)) (by have := hhb (by omega); omega) r01
      have S1 := X1.1
      have hi1m := (St_im S1).1
      rw [q_lt_s, show (0 : Int32) + 1 = nI 1 from rfl]
      show jn g l Bd _ (fX2_query_L18 U N x (nI m) 1999999999 (nI 1) v5) _
      rw [show 1999999999 = 1999999998 + 1 from rfl, fX2_query_L18]
      rcases hm with hm | hm
      · subst hm
        rw [if_pos (ni_ple (Nat.le_refl _) (by omega)), if_neg (show ¬ nI 1 = 2 by decide)]
        exact u_close ok z X1 hi1 hpl (fun T XL => H (by omega) T XL _ _) (by omega) hy30 (by omega)
      · subst hm
        rw [if_neg (ni_nle (by omega) (by omega)), c_stop ok S1, q_bd_s, if_pos rfl, if_neg (show ¬ nI 1 ≤ 0 by decide), if_pos (show nI 2 = 2 from rfl), vu_bv]
        have zE : z0 g i1 p1 q1 K1.length := by
          obtain ⟨z1, z2, z3⟩ := z
          obtain ⟨_, X2, X3, X4, _, _⟩ := X1.2.1
          exact ⟨by omega, by omega, by omega⟩
        have zp1 := z0_p ok zE
        by_cases c44 : tkc g i1 = 44
        · obtain ⟨v6, a6, s6⟩ := c_exp ok S1 c44 (by decide) (by decide)
          obtain ⟨w6, b6, s7⟩ := r_takeS (c := 44) ok s6 rfl (by decide) c44 (by decide) (by decide)
          have him3 := (St_im s7).1
          have J2 := hW (by omega) (i1 + 1) p1 C1 q1 d r1 R1 K1 k s l b A e1 e1' v6 w6 s7 (z0_s ok zE (by omega) him3) (ov_m ok o (by omega) him3 X1.2.2.2.2.1.1 X1.2.2.2.2.1.2) X1.2.2.2.2.2.1
          rw [a6, q_bv_s, b6, q_bv_s, vu_bv]
          unfold fX2_query_b46
          refine jn_dv J2 (fun f p a v h => tcL f p v _ _ h) (fun f p w h => tr47 f p _ w h hB3 hB) ?_
          intro a2 v8 w8 E2
          obtain ⟨i3, p3, C3, q3, r3, R3, K3, e3, e3', E2⟩ := E2
          have X2 := AQ_s ok X1 E2 (by omega) (fun u h1 h2 => by rw [show u = i1 by omega, c44]; decide) (by have := hhb (by omega); omega) X1.2.2.2.2.2.1
          have hi3 : i < i3 := by have := E2.2.1.1; omega
          rw [q_lt_s, ni_add1]
          show jn g l Bd _ (fX2_query_L18 U N x (nI 2) 1999999998 (nI (1 + 1)) v8) _
          rw [show 1999999998 = 1999999997 + 1 from rfl, fX2_query_L18, if_pos (ni_ple (by omega) (by omega))]
          exact u_close ok z X2 hi3 hpl (fun T XL => H (by omega) T XL _ _) (by omega) hy30 (by omega)
        · obtain ⟨v6, a6, x6⟩ := c_expX S1 c44
          obtain ⟨w6, b6, y6⟩ := r_takeSX (c := 44) (Bd := 3011) ok S1 rfl (by decide) c44 (by omega)
          rw [a6, q_bv_s, b6, q_bv_s, vu_bv]
          unfold fX2_query_b46
          exact jn_xx (cG_d (hx _ _ _ _ x6) (fun a v h => tcL _ _ v _ _ h)) (rG_v (hy _ _ _ _ y6) (fun w h => tr47 _ _ _ w h (by omega) (by omega)))
  · rw [if_neg c40, if_pos rfl]
    obtain ⟨v3, a3, x3⟩ := c_expNX s2 c40
    obtain ⟨w3, b3, y3⟩ := r_wrong (Bd := 3010) ok s2 (by omega)
    rw [a3, q_bv_s, b3, q_bv_s]
    exact jn_xx (tcL _ _ _ _ _ x3) (rG_s (xr_le y3 (by omega)))
end
