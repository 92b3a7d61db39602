section
variable {g : rd_G} {i n p q d k s l b e e' : Nat} {C : Nat → Int32} {r : Int32} {R : Nat → Nat → Int32} {K : rd_K} {A : rd_A} {v w : q_V}
variable {U N : q_V → Option (Int32 × q_V)} {U' N' : q_V → Option q_V} {hb hw Bw Bd : Nat}
set_option maxHeartbeats 200000 in
theorem z0_s (ok : rd_ok g) (z : z0 g i p q K.length) {j : Nat} (h1 : i ≤ j) (hj : j ≤ gm g) : z0 g j p q K.length := by
  obtain ⟨z1, z2, z3⟩ := z
  by_cases c : i = j
  · rw [← c]; exact ⟨z1, z2, z3⟩
  · have := tka_lt ok (show i < j by omega) hj
    exact ⟨by omega, by omega, by omega⟩
set_option maxHeartbeats 200000 in
theorem u_brackets (ok : rd_ok g) (h : St g i n p C i n q d r R K k s l b A e e' v w) (z : z0 g i p q K.length) (o : ov g i s e e') (r01 : r = 0 ∨ r = 1) (c : tkc g i = 40) (hW : n < 14 → US g (n + 1) hw Bw (fX2_whole U N) (fX12_expression U' N')) (hy : ∀ f p B w, xr g f p B w → rG g f p B (vu (fX12_expression U' N' w))) (hhb : n < 14 → hw ≤ hb) (hB : Bw ≤ Bd) (hB2 : 3010 ≤ Bd) :
    jn g l Bd (EP g i n p C q d r R K k s l b A e e' hb) (fX2_inBrackets U N v) (vu (q_bv (fX12_nest w) (fun T41 => q_bv (fX12_expression U' N' T41) (fun T42 => q_bv (fX12_takeSign 41 T42) (fun T43 => q_lt (q_si T43 2411 (q_i T43 2411 - 1)) (fun T44 => fX12_unit_b364 U' N' T44)))))) := by
  have zp := z0_p ok z
  have hn := St_n h
  have tc : ∀ f p (a : Int32) v, xc g f p l v → cG g f p l (fX2_inBrackets_b27 U N a v) := by
    intro f p a v h
    unfold fX2_inBrackets_b27
    exact cG_v (x_end h) (fun v h => cG_v (x_exp h) (fun v h => cG_s h))
  have tr : ∀ f p w, xr g f p Bd w → rG g f p Bd (q_bv (fX12_takeSign 41 w) (fun T43 => q_lt (q_si T43 2411 (q_i T43 2411 - 1)) (fun T44 => vu (some T44)))) := by
    intro f p w h
    exact rG_v (y_takeS h) (fun w h => rG_s (xr_i h (by omega)))
  unfold fX12_unit_b364
  simp only [vu_bv, vu_lt]
  unfold fX2_inBrackets
  by_cases h14 : n = 14
  · subst h14
    obtain ⟨v1, a1, x1⟩ := c_expN3 h c
    obtain ⟨w1, b1, y1⟩ := r_nest3 (Bd := Bd) ok h (by omega)
    rw [a1, q_bv_s, b1, q_bv_s, x_stop x1, q_bd_s, if_neg (by decide)]
    exact jn_xx (tc _ _ _ _ x1) (rG_v (hy _ _ _ _ y1) (fun w h => tr _ _ _ h))
  · obtain ⟨v1, a1, s1⟩ := c_expN ok h c (by decide) (by decide) (by omega)
    obtain ⟨w1, b1, s2⟩ := r_nest ok s1 (by omega) (by rw [c]; decide) (by rw [c]; decide)
    have him := (St_im s2).1
    have J := hW (by omega) (i + 1) p C q d r R K k s l b A e e' v1 w1 s2 (z0_s ok z (by omega) him) (ov_m ok o (by omega) him (Nat.le_refl _) (Nat.le_refl _)) r01
    rw [a1, q_bv_s, c_stop ok s1, q_bd_s, if_pos rfl, b1, q_bv_s]
    refine jn_dv J (fun f p a v h => tc f p a v h) (fun f p w h => tr f p w (xr_le h hB)) ?_
    intro a v2 w2 E
    obtain ⟨i1, p1, C1, q1, r1, R1, K1, e1, e1', S, ⟨E1, E2, E3, E4, E5, E6⟩, ⟨E7, E8, E9, E10⟩, E11, ⟨E12, E13, E14⟩, E15, E16⟩ := E
    obtain ⟨v3, a3, s3⟩ := c_end S
    have hq1 : q1 ≤ Bd := by
      have := tka_L ok i1; have := ok.1
      have := z.2.1; have := tka_lt ok (show i < i + 1 by omega) him
      omega
    unfold fX2_inBrackets_b27
    rw [a3, q_bv_s]
    by_cases c41 : tkc g i1 = 41
    · obtain ⟨v4, a4, s4⟩ := c_exp ok s3 c41 (by decide) (by decide)
      obtain ⟨w4, b4, s5⟩ := r_takeS (c := 41) ok s4 rfl (by decide) c41 (by decide) (by decide)
      have s6 := r_un s5
      rw [a4, q_bv_s, b4, q_bv_s, q_lt_s, vu_some]
      have hi1 := (St_im s6).1
      have t1 := tka_lt ok (show i < i + 1 by omega) him
      have t2 := tka_lt ok (show i1 < i1 + 1 by omega) hi1
      refine jn_qq ⟨i1 + 1, p1, C1, q1, r1, R1, K1, e1, e1', s6, ⟨by omega, by omega, by omega, by omega, E5, E6⟩, ⟨E7, E8, E9, E10⟩, fun m h1 h2 => ?_, ⟨E12, ?_, E14⟩, E15, E16.1, fun T XL x1 x2 x3 => dv_hb (E16.2 T XL x1 x2 x3) (hhb (by omega))⟩
      · by_cases m1 : m = i
        · rw [m1, c]; decide
        · by_cases m2 : m = i1
          · rw [m2, c41]; decide
          · exact E11 m (by omega) (by omega)
      · rw [E13, pln_s (show i < i1 by omega)]
        exact ⟨fun y => ⟨c, c41, y⟩, fun y => y.2.2⟩
    · obtain ⟨v4, a4, x4⟩ := c_expX s3 c41
      obtain ⟨w4, b4, y4⟩ := r_takeSX (c := 41) (Bd := Bd) ok s3 rfl (by decide) c41 hq1
      rw [a4, q_bv_s, b4, q_bv_s, q_lt_s, vu_some]
      exact jn_xx (cG_s x4) (rG_s (xr_i y4 (by omega)))
set_option maxHeartbeats 200000 in
/-- a piece and an order behind it -/
theorem E_un {i0 i1 p1 q1 e1 e1' hb0 : Nat} {C1 : Nat → Int32} {r1 : Int32} {R1 : Nat → Nat → Int32} {K1 : rd_K} {a a' x y : Int32} {n' : Nat} {v2 w2 v3 w3 : q_V} (ok : rd_ok g) (E : EQ g i0 n' p C q d r R K k s l b A e e' hb0 a i1 p1 C1 q1 r1 R1 K1 e1 e1' v2 w2) (S : St g i1 n (p1 + 1) (upd C1 p1 x) i1 n (q1 + 1) d r1 (rE R1 q1 y 0 0) K1 k s l b A e1 e1' v3 w3) (hi : i < i0) (hk : ∀ m, i ≤ m → m < i0 → tkc g m ≠ 300) (ha : a' = (if a = 1 then 1 else 0)) (hp : ¬ pln g i i1) (hy : y < 30) (H : ∀ T XL, dv_A T XL 1 hb0 p p1 q q1 → co_c T p1 x → co_r T 0 q1 y → dv_A T XL 1 hb p (p1 + 1) q (q1 + 1)) : EP g i n p C q d r R K k s l b A e e' hb a' v3 () w3 := by
  obtain ⟨S0, ⟨E1, E2, E3, E4, E5, E6⟩, ⟨E7, E8, E9, E10⟩, E11, ⟨E12, E13, E14⟩, E15, E16⟩ := E
  have hi1 := (St_im S).1
  have t1 := tka_lt ok hi (by omega)
  refine ⟨i1, p1 + 1, _, q1 + 1, r1, _, K1, e1, e1', S, ⟨by omega, by omega, by omega, by omega, by omega, by omega⟩, ⟨fun x hx => by rw [upd_ne (by omega)]; exact E7 x hx, fun j x hj hx => by rw [rE_x (by omega)]; exact E8 j x hj hx, fun j hj => by rw [rE_j hj]; exact E9 j hj, E10⟩, fun m h1 h2 => ?_, ⟨?_, ?_, ?_⟩, E15, fun x h1 h2 => ?_, fun T XL x1 x2 x3 => ?_⟩
  · by_cases m1 : m < i0
    · exact hk m h1 m1
    · exact E11 m (by omega) h2
  · rw [ha]; split
    · exact Or.inr (Or.inl rfl)
    · exact Or.inl rfl
  · constructor
    · intro y; rw [ha] at y; split at y <;> exact absurd y (by decide)
    · intro y; exact absurd y hp
  · rw [E14, ha]
    by_cases c : a = 1
    · rw [if_pos c, if_pos c, if_pos rfl]
    · rw [if_neg c, if_neg c, if_neg (by decide)]
  · by_cases c : x = q1
    · rw [c, rE_0, upd_at]; exact hy
    · rw [rE_x c]; exact E16.1 x h1 (by omega)
  · have c0 := ag_c x2 (show p ≤ p1 by omega) (by omega)
    have r0 := ag_r0 x2 (show q ≤ q1 by omega) (by omega)
    rw [upd_at] at c0
    rw [rE_0, upd_at] at r0
    refine H T XL (E16.2 T XL x1 ?_ x3) c0 r0
    exact ag_E x2 (Nat.le_refl _) (by omega) (Nat.le_refl _) (by omega) (fun x _ hx => upd_ne (by omega)) (fun j x _ _ hx => rE_x (by omega)) (fun m hm => hm)
set_option maxHeartbeats 200000 in
theorem and1 {a : Int32} (h : a = 0 ∨ a = 1 ∨ a = 2) : a &&& 1 = (if a = 1 then 1 else 0) := by
  rcases h with h | h | h <;> (subst h; decide)
set_option maxHeartbeats 200000 in
theorem u_negative (ok : rd_ok g) (h : St g i n p C i n q d r R K k s l b A e e' v w) (z : z0 g i p q K.length) (o : ov g i s e e') (r01 : r = 0 ∨ r = 1) (c : tkc g i = 45) (hW : n < 14 → US g (n + 1) hw Bw U U') (hy : ∀ f p B w, xr g f p B w → rG g f p B (vu (U' w))) (hhb : n < 14 → hw ≤ hb) (h1b : 1 ≤ hb) (hB : Bw + 1 ≤ Bd) (hB3 : Bw < 4000) (hB2 : 3011 ≤ Bd) :
    jn g l Bd (EP g i n p C q d r R K k s l b A e e' hb) (fX2_negative U N v) (vu (q_bv (fX12_nest w) (fun T46 => q_bv (U' T46) (fun T47 => q_lt (q_si T47 2411 (q_i T47 2411 - 1)) (fun T48 => q_bd (fX12_emit 5 0 0 T48) (fun y50 T49 => fX12_unit_b364 U' N' T49)))))) := by
  have zp := z0_p ok z
  have hn := St_n h
  have tc : ∀ f p (a : Int32) v, xc g f p l v → cG g f p l (fX2_negative_b29 U N a v) := by
    intro f p a v h
    unfold fX2_negative_b29
    exact cG_v (x_end h) (fun v h => cG_d (x_add ok h) (fun a v h => cG_s h))
  have tr : ∀ f p B w, xr g f p B w → B < 4000 → B + 1 ≤ Bd → rG g f p Bd (q_lt (q_si w 2411 (q_i w 2411 - 1)) (fun T48 => q_bd (fX12_emit 5 0 0 T48) (fun y50 T49 => vu (some T49)))) := by
    intro f p B w h h1 h2
    exact rG_d (y_emit h1 (xr_i h (by omega))) (fun a w h => rG_s (xr_le h h2))
  unfold fX12_unit_b364
  simp only [vu_bv, vu_lt, vu_bd]
  unfold fX2_negative
  by_cases h14 : n = 14
  · subst h14
    obtain ⟨v1, a1, x1⟩ := c_expN3 h c
    obtain ⟨w1, b1, y1⟩ := r_nest3 (Bd := 3010) ok h (by omega)
    rw [a1, q_bv_s, b1, q_bv_s, x_stop x1, q_bd_s, if_neg (by decide)]
    exact jn_xx (tc _ _ _ _ x1) (rG_v (hy _ _ _ _ y1) (fun w h => tr _ _ _ _ h (by omega) (by omega)))
  · obtain ⟨v1, a1, s1⟩ := c_expN ok h c (by decide) (by decide) (by omega)
    obtain ⟨w1, b1, s2⟩ := r_nest ok s1 (by omega) (by rw [c]; decide) (by rw [c]; decide)
    have him := (St_im s2).1
    have J := hW (by omega) (i + 1) p C q d r R K k s l b A e e' v1 w1 s2 (z0_s ok z (by omega) him) (ov_m ok o (by omega) him (Nat.le_refl _) (Nat.le_refl _)) r01
    rw [a1, q_bv_s, c_stop ok s1, q_bd_s, if_pos rfl, b1, q_bv_s]
    refine jn_dv J (fun f p a v h => tc f p _ v h) (fun f p w h => tr f p _ w h hB3 hB) ?_
    intro a v2 w2 E
    obtain ⟨i1, p1, C1, q1, r1, R1, K1, e1, e1', E⟩ := E
    have E' := E
    obtain ⟨S, ⟨E1, E2, E3, E4, E5, E6⟩, _, _, ⟨E12, _, _⟩, _, _⟩ := E'
    have hi1 := (St_im S).1
    have t0 := tka_lt ok (show i < i + 1 by omega) him
    have t1 := tka_L ok i1
    have hL := ok.1
    obtain ⟨z1, z2, z3⟩ := z
    obtain ⟨v3, a3, s3⟩ := c_end S
    obtain ⟨v4, a4, s4⟩ := c_add (y := 5) ok s3 (by omega)
    have s5 := r_un s4
    obtain ⟨w6, b6, s6⟩ := r_emit (o := 5) (a := 0) (c := 0) s5 (by omega)
    unfold fX2_negative_b29
    rw [a3, q_bv_s, a4, q_bd_s, q_lt_s, b6, q_bd_s, vu_some]
    refine jn_qq (E_un ok E s6 (by omega) (fun m h1 h2 => ?_) (and1 E12) (pln_no (by omega) (by rw [c]; decide) (by rw [c]; decide) (by rw [c]; decide)) (by decide) (fun T XL y0 c0 r0 => ?_))
    · have : m = i := by omega
      rw [this, c]; decide
    · exact fun Fin a S f0 H => ru_NEG (dv_hb y0 (hhb (by omega)) Fin a S f0 H) h1b c0 r0
end
