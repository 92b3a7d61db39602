section
variable {g : rd_G} {i n p q d k s l b e e' : Nat} {C : Nat → Int32} {r : Int32} {R : Nat → Nat → Int32} {K : rd_K} {A : rd_A} {v w : q_V}
variable {U N : q_V → Option (Int32 × q_V)} {U' N' : q_V → Option q_V} {hb hw Bw Bd : Nat}
set_option maxHeartbeats 200000 in
/-- the end of a call -/
theorem u_cend {m i1 p1 q1 e1 e1' : Nat} {C1 : Nat → Int32} {r1 : Int32} {R1 : Nat → Nat → Int32} {K1 : rd_K} (ok : rd_ok g) (z : z0 g i p q K.length) (X : AQ g 8 (i + 2) (n + 1) p C q d R K k s l b A e e' m hb i1 p1 C1 q1 r1 R1 K1 e1 e1' v w) (hi : i + 1 < i1) (hc : tkc g i = 259) (c40 : tkc g (i + 1) = 40) (hm : m < 4000) (h8 : 8 ≤ hb) (hB2 : 3012 ≤ Bd) : jn g l Bd (fun (_ : Unit) v _ w => ∃ i1 p1 C1 q1 r1 R1 K1 e1 e1', EQ g i n p C q d r R K k s l b A e e' hb 1 i1 p1 C1 q1 r1 R1 K1 e1 e1' v w ∧ p1 + 2 * tka g i + 4 ≤ p + 2 * tka g i1 ∧ q1 + tka g i + 2 ≤ q + tka g i1) (vu (fX2_callOf_b86 U N (tkw g i) (nI (tka g i)) (nI m) v)) (vu (fX12_call_b32 U' N' (nI i) (nI m) w)) := by
  obtain ⟨S, ⟨X1, X2, X3, X4, X5, X6⟩, ⟨X7, X8, X9, t, X10⟩, X11, X12, X13, X14⟩ := X
  have hi1 := (St_im S).1
  have t1 := tka_L ok i1
  have hL := ok.1
  have hN : rd_N = 1000000 := rfl
  obtain ⟨z1, z2, z3⟩ := z
  have t3 := tka_lt ok (show i < i + 1 by omega) (by omega)
  have t4 := tka_lt ok (show i + 1 < i + 2 by omega) (by omega)
  rw [rcn_b32]
  unfold fX2_callOf_b86
  simp only [vu_bv, vu_lt, vu_bd]
  obtain ⟨v3, a3, s3⟩ := c_end S
  rw [a3, q_bv_s]
  by_cases c41 : tkc g i1 = 41
  · obtain ⟨v4, a4, s4⟩ := c_exp ok s3 c41 (by decide) (by decide)
    obtain ⟨w4, b4, s5⟩ := r_takeS (c := 41) ok s4 rfl (by decide) c41 (by decide) (by decide)
    have s6 := r_un s5
    have hi2 := (St_im s6).1
    have t2 := tka_lt ok (show i1 < i1 + 1 by omega) hi2
    obtain ⟨y, v7, w7, a7, b7, s7, H7⟩ := j_call (t := i) (m := m) ok s6 (by omega) hc (by omega) (by omega) (by omega)
    obtain ⟨v8, a8, s8⟩ := c_add2 (x := 53) (y := y) ok s7 (by omega)
    rw [a4, q_bv_s, a7, q_bd_s, a8, q_bd_s, b4, q_bv_s, q_lt_s, r_fine s6, q_bd_s, if_neg (by decide), b7, vu_some, vu_some]
    refine jn_qq ⟨i1 + 1, p1 + 2, _, q1 + 1, 1, _, _, _, e1', ⟨s8, ⟨by omega, by omega, by omega, ?_, by omega, by omega⟩, ⟨fun x hx => by rw [upd_ne (by omega), upd_ne (by omega)]; exact X7 x hx, fun j x hj hx => by rw [rE_x (by omega)]; exact X8 j x hj hx, fun j hj => by rw [rE_j hj]; exact X9 j hj, (tkw g i, i, m, q1) :: t, by rw [X10]; rfl⟩, fun u h1 h2 => ?_, ⟨Or.inr (Or.inl rfl), ⟨fun y => absurd y (by decide), fun y => absurd y (pln_no (by omega) (by rw [hc]; decide) (by rw [hc]; decide) (by rw [hc]; decide))⟩, by rw [if_pos rfl]⟩, ⟨by omega, X12.2⟩, fun x h1 h2 => ?_, fun T XL x1 x2 x3 => ?_⟩, by omega, by omega⟩
    · simp only [List.length_cons]; omega
    · by_cases m1 : u = i1
      · rw [m1, c41]; decide
      · by_cases m2 : u = i
        · rw [m2, hc]; decide
        · by_cases m3 : u = i + 1
          · rw [m3, c40]; decide
          · exact X11 u (by omega) (by omega)
    · by_cases c : x = q1
      · rw [c, rE_0, upd_at]; decide
      · rw [rE_x c]; exact X14.1 x h1 (by omega)
    · have hle := bl_le S.2.2.2.2.2.2.1
      have hbv : bv g (tkw g i, i, m, q1) = rd_N := by
        have hb1 : bv g (tkw g i, i, m, q1) ≤ rd_N := by
          unfold bv
          have := tka_L ok i
          split
          · split
            · exact Nat.le_refl _
            · simp only; omega
          · simp only; omega
        omega
      obtain ⟨f1, f2, f3⟩ := H7 hbv
      obtain ⟨kk, pe, qe, h1, h2, h3⟩ := x1 _ f1
      have hkm : kk = m := by
        rw [f2, ni_eq (by omega) (by omega)] at h1; exact h1.symm
      subst hkm
      have c0 := ag_c x2 (show p ≤ p1 by omega) (by omega)
      have c1 := ag_c x2 (show p ≤ p1 + 1 by omega) (by omega)
      have r0 := ag_r0 x2 (show q ≤ q1 by omega) (by omega)
      have r2 := ag_r2 x2 (show q ≤ q1 by omega) (by omega)
      have r1 := x2.2.2.2 (tkw g i, i, kk, q1) (List.mem_cons_self ..)
      rw [upd_ne (by omega), upd_at] at c0
      rw [upd_at, f3] at c1
      rw [rE_0, upd_at] at r0
      rw [rE_2, upd_at] at r2
      have sA := X14.2 T XL x1 (ag_E x2 (Nat.le_refl _) (by omega) (Nat.le_refl _) (by omega) (fun x _ hx => by rw [upd_ne (by omega), upd_ne (by omega)]) (fun j x _ _ hx => rE_x (by omega)) (fun m hm => List.mem_cons_of_mem _ hm)) (by omega) h2
      exact dv_CALL sA (by omega) (by omega) h3 c0 c1 r0 ⟨r0.1, r1⟩ r2
  · obtain ⟨v4, a4, x4⟩ := c_expX s3 c41
    obtain ⟨w4, b4, y4⟩ := r_takeSX (c := 41) (Bd := Bd) ok s3 rfl (by decide) c41 (by omega)
    have y5 := xr_i (k := 2411) (x := q_i w4 2411 - 1) y4 (by omega)
    rw [a4, q_bv_s, b4, q_bv_s, q_lt_s, y_fine y5, q_bd_s, if_pos rfl]
    exact jn_xx (cG_d (x_callee ok x4) (fun a v h => cG_d (x_add2 ok h) (fun a v h => cG_s h))) (rG_s y5)
set_option maxHeartbeats 200000 in
/-- the further arguments -/
theorem u_cargs (ok : rd_ok g) (z : z0 g i p q K.length) (o : ov g i s e e') (hc : tkc g i = 259) (c40 : tkc g (i + 1) = 40) (hW : US g (n + 1) hw Bw (fX2_whole U N) (fX12_expression U' N')) (hhb : hw + 7 ≤ hb) (h8 : 8 ≤ hb) (hB : Bw ≤ Bd) (hB2 : 3012 ≤ Bd) (tc : ∀ f p m v, xc g f p l v → cG g f p l (vu (fX2_callOf_b86 U N (tkw g i) (nI (tka g i)) m v))) (tr : ∀ f p m w, xr g f p Bd w → rG g f p Bd (vu (fX12_call_b32 U' N' (nI i) m w))) :
    ∀ u m c i1 p1 C1 q1 r1 R1 K1 e1 e1' v w N1 N2, gm g - i1 = u → u < N1 → u < N2 → m + i ≤ i1 → c + i + 1 ≤ i1 → i + 1 < i1 → AQ g 8 (i + 2) (n + 1) p C q d R K k s l b A e e' m hb i1 p1 C1 q1 r1 R1 K1 e1 e1' v w → jn g l Bd (fun (_ : Unit) v _ w => ∃ i1 p1 C1 q1 r1 R1 K1 e1 e1', EQ g i n p C q d r R K k s l b A e e' hb 1 i1 p1 C1 q1 r1 R1 K1 e1 e1' v w ∧ p1 + 2 * tka g i + 4 ≤ p + 2 * tka g i1 ∧ q1 + tka g i + 2 ≤ q + tka g i1) (vu (fX2_callOf_L45 U N (tkw g i) (nI (tka g i)) N1 (nI m) (nI c) v)) (vu (q_bd (fX12_skip 144 w) (fun y4 T3 => if y4 = 0 then fX12_call_b32 U' N' (nI i) (nI m) T3 else fX12_call_L15 U' N' (nI i) N2 (nI m) T3))) := by
  have hm3 := ok.2.2.1.2.2
  intro u
  induction u using Nat.strongRecOn with
  | ind u ih =>
    intro m c i1 p1 C1 q1 r1 R1 K1 e1 e1' v w N1 N2 hu hN1 hN2 hm hcc hi1 X
    obtain ⟨N1, rfl⟩ : ∃ x, N1 = x + 1 := ⟨N1 - 1, by omega⟩
    obtain ⟨N2, rfl⟩ : ∃ x, N2 = x + 1 := ⟨N2 - 1, by omega⟩
    have S := X.1
    have hi1m := (St_im S).1
    have zE : z0 g i1 p1 q1 K1.length := by
      obtain ⟨z1, z2, z3⟩ := z
      obtain ⟨_, X2, X3, X4, _, _⟩ := X.2.1
      have t3 := tka_lt ok (show i < i + 2 by omega) (by omega)
      exact ⟨by omega, by omega, by omega⟩
    rw [fX2_callOf_L45, if_neg (show ¬ (3000 : Int32) ≤ nI c from ni_nle (a := 3000) (by omega) (by omega)), c_kind S]
    by_cases c44 : tkc g i1 = 44
    · obtain ⟨v2, a2, s2⟩ := c_adv ok S (by rw [c44]; decide) (by rw [c44]; decide)
      obtain ⟨w2, b2, s3⟩ := r_skip (c := 44) (x := 144) ok s2 rfl (by decide) c44 (by decide) (by decide)
      have him := (St_im s3).1
      have J := hW (i1 + 1) p1 C1 q1 d r1 R1 K1 k s l b A e1 e1' v2 w2 s3 (z0_s ok zE (by omega) him) (ov_m ok o (by omega) him X.2.2.2.2.1.1 X.2.2.2.2.1.2) X.2.2.2.2.2.1
      rw [if_pos c44, a2, q_bv_s, b2, q_bd_s, if_neg (by decide), fX12_call_L15, vu_bd, vu_bv]
      refine jn_dv J (fun f p a v h => ?_) (fun f p w h => ?_) ?_
      · rw [q_lt_s, q_lt_s]
        obtain ⟨N1, rfl⟩ : ∃ x, N1 = x + 1 := ⟨N1 - 1, by omega⟩
        rw [fX2_callOf_L45, vu_if, h.2.1, if_neg (show ¬ (263 : Int32) = 44 by decide)]
        exact cG_i (fun _ => tc _ _ _ _ h) (fun _ => tc _ _ _ _ h)
      · obtain ⟨w', e, h'⟩ := y_skip (x := 144) (xr_le h hB)
        rw [vu_lt, q_lt_s, e, q_bd_s, if_pos rfl]
        exact tr _ _ _ _ h'
      · intro a v4 w4 E
        obtain ⟨i3, p3, C3, q3, r3, R3, K3, e3, e3', E⟩ := E
        have X2 := AQ_s ok X E (by omega) (fun u h1 h2 => by rw [show u = i1 by omega, c44]; decide) (by omega) X.2.2.2.2.2.1
        have hi3 : i1 + 1 < i3 := E.2.1.1
        have hi3m := (St_im X2.1).1
        rw [q_lt_s, q_lt_s, ni_add1, ni_add1, vu_lt, q_lt_s]
        exact ih (gm g - i3) (by omega) (m + 1) (c + 1) i3 p3 C3 q3 r3 R3 K3 e3 e3' v4 w4 N1 N2 rfl (by omega) (by omega) (by omega) (by omega) (by omega) X2
    · rw [if_neg c44, r_skipN (c := 44) (x := 144) ok S rfl (by decide) c44, q_bd_s, if_pos rfl]
      exact u_cend ok z X hi1 hc c40 (by omega) h8 hB2
set_option maxHeartbeats 200000 in
theorem u_call (ok : rd_ok g) (h : St g i n p C i n q d r R K k s l b A e e' v w) {v1 w1 : q_V} (h1 : St g (i + 1) n p C (i + 1) n q d r R K k s l b A e e' v1 w1) (z : z0 g i p q K.length) (o : ov g i s e e') (r01 : r = 0 ∨ r = 1) (hc : tkc g i = 259) (c40 : tkc g (i + 1) = 40) (hW : n < 14 → US g (n + 1) hw Bw (fX2_whole U N) (fX12_expression U' N')) (hx : ∀ f p l v, xc g f p l v → cG g f p l (fX2_whole U N v)) (hy : ∀ f p B w, xr g f p B w → rG g f p B (vu (fX12_expression U' N' w))) (hhb : n < 14 → hw + 7 ≤ hb) (h8 : n < 14 → 8 ≤ hb) (hB : Bw ≤ Bd) (hB2 : 3012 ≤ Bd) :
    jn g l Bd (fun (_ : Unit) v _ w => ∃ i1 p1 C1 q1 r1 R1 K1 e1 e1', EQ g i n p C q d r R K k s l b A e e' hb 1 i1 p1 C1 q1 r1 R1 K1 e1 e1' v w ∧ p1 + 2 * tka g i + 4 ≤ p + 2 * tka g i1 ∧ q1 + tka g i + 2 ≤ q + tka g i1) (vu (fX2_callOf U N (tkw g i) (nI (tka g i)) v1)) (vu (fX12_call U' N' (nI i) w1)) := by
  have zp := z0_p ok z
  have hn := St_n h
  have hm3 := ok.2.2.1.2.2
  have tc : ∀ f p m v, xc g f p l v → cG g f p l (vu (fX2_callOf_b86 U N (tkw g i) (nI (tka g i)) m v)) := by
    intro f p m v h
    unfold fX2_callOf_b86
    exact cG_u (x_end h) (fun v h => cG_u (x_exp h) (fun v h => cG_e (x_callee ok h) (fun a v h => cG_e (x_add2 ok h) (fun a v h => cG_s h))))
  have tr : ∀ f p m w, xr g f p Bd w → rG g f p Bd (vu (fX12_call_b32 U' N' (nI i) m w)) := by
    intro f p m w h
    rw [rcn_b32]
    refine rG_u (y_takeS h) (fun w h => ?_)
    have y5 := xr_i (k := 2411) (x := q_i w 2411 - 1) h (by omega)
    rw [q_lt_s, y_fine y5, q_bd_s, if_pos rfl]
    exact rG_s y5
  have trL : ∀ f p B w N2, xr g f p B w → B ≤ Bd → rG g f p Bd (vu (fX12_call_L15 U' N' (nI i) (N2 + 1) 0 w)) := by
    intro f p B w N2 h hB
    rw [fX12_call_L15]
    refine rG_u (hy _ _ _ _ h) (fun w h => ?_)
    obtain ⟨w', e, h'⟩ := y_skip (x := 144) (xr_le h hB)
    rw [q_lt_s, e, q_bd_s, if_pos rfl]
    exact tr _ _ _ _ h'
  have him := (St_im h1).1
  have t0 := tka_lt ok (show i < i + 1 by omega) him
  unfold fX2_callOf fX12_call
  by_cases h14 : n = 14
  · subst h14
    obtain ⟨v3, a3, x3⟩ := c_expN3 h1 c40
    obtain ⟨w3, b3, y3⟩ := r_nest3 (Bd := 3010) ok h1 (by omega)
    rw [a3, q_bv_s, b3, q_bv_s, if_neg (by rw [x3.2.1]; decide), x_stop x3, q_bd_s, if_neg (by decide), y_sign y3, q_bd_s, if_pos rfl]
    exact jn_xx (tc _ _ _ _ x3) (trL _ _ _ _ _ y3 (by omega))
  · obtain ⟨v3, a3, s3⟩ := c_expN ok h1 c40 (by decide) (by decide) (by omega)
    obtain ⟨w3, b3, s4⟩ := r_nest ok s3 (by omega) (by rw [c40]; decide) (by rw [c40]; decide)
    have him2 := (St_im s4).1
    have X0 := AQ_0 (M := 8) (i := i + 2) (hb := hb) ok s4 (Nat.le_refl _) (fun u h1 h2 => absurd h1 (by omega)) r01
    rw [a3, q_bv_s, b3, q_bv_s, c_kind s4, r_sign (c := 41) ok s4 rfl (by decide), q_bd_s]
    by_cases c41 : tkc g (i + 1 + 1) = 41
    · rw [if_pos c41, if_pos c41, if_neg (by decide)]
      exact u_cend (m := 0) ok z X0 (by omega) hc c40 (by omega) (h8 (by omega)) hB2
    · rw [if_neg c41, if_neg c41, if_pos rfl, c_stop ok s4, q_bd_s, if_pos rfl, q_N1, fX12_call_L15, vu_bd, vu_bv]
      have J := hW (by omega) (i + 1 + 1) p C q d r R K k s l b A e e' v3 w3 s4 (z0_s ok z (by omega) him2) (ov_m ok o (by omega) him2 (Nat.le_refl _) (Nat.le_refl _)) r01
      refine jn_dv J (fun f p a v h => ?_) (fun f p w h => ?_) ?_
      · rw [q_lt_s, fX2_callOf_L45, vu_if, h.2.1, if_neg (show ¬ (263 : Int32) = 44 by decide)]
        exact cG_i (fun _ => tc _ _ _ _ h) (fun _ => tc _ _ _ _ h)
      · obtain ⟨w', e, h'⟩ := y_skip (x := 144) (xr_le h hB)
        rw [vu_lt, q_lt_s, e, q_bd_s, if_pos rfl]
        exact tr _ _ _ _ h'
      · intro a v4 w4 E
        obtain ⟨i3, p3, C3, q3, r3, R3, K3, e3, e3', E⟩ := E
        have X2 := AQ_s ok X0 E (Nat.le_refl _) (fun u h1 h2 => absurd h1 (by omega)) (by have := hhb (by omega); omega) r01
        have hi3 : i + 1 + 1 < i3 := E.2.1.1
        have hi3m := (St_im X2.1).1
        rw [q_lt_s, vu_lt, q_lt_s]
        exact u_cargs ok z o hc c40 (hW (by omega)) (hhb (by omega)) (h8 (by omega)) hB hB2 tc tr (gm g - i3) 1 0 i3 p3 C3 q3 r3 R3 K3 e3 e3' v4 w4 _ _ rfl (by omega) (by omega) (by omega) (by omega) (by omega) X2
end
