section
variable {g : rd_G} {i n p q d k s l b e e' : Nat} {C : Nat → Int32} {r : Int32} {R : Nat → Nat → Int32} {K : rd_K} {A : rd_A} {v w : q_V}
variable {U N : q_V → Option (Int32 × q_V)} {U' N' : q_V → Option q_V} {hb hw hu Bw Bu Bd : Nat}
set_option maxHeartbeats 200000 in
theorem x_prodG {f p : Int32} {m : Nat} {y c : Int32} (h : xc g f p l v) : cG g f p l (fX2_product_L7 U N (m + 1) y c v) := by
  rw [fX2_product_L7, x_fac h, q_bd_s, if_pos rfl]; exact cG_i (fun _ => cG_s h) (fun _ => cG_s h)
set_option maxHeartbeats 200000 in
theorem y_prodG {f p : Int32} {B m : Nat} (h : xr g f p B w) : rG g f p B (vu (fX12_product_L4 U' N' (m + 1) w)) := by
  rw [fX12_product_L4, y_sign h, q_bd_s, if_pos rfl, y_sign h, q_bd_s, if_pos rfl, y_sign h, q_bd_s, if_pos rfl]; exact rG_s h
set_option maxHeartbeats 200000 in
theorem x_sumG {f p : Int32} {m : Nat} {y c : Int32} (h : xc g f p l v) : cG g f p l (fX2_sum_L7 U N (m + 1) y c v) := by
  rw [fX2_sum_L7, h.2.1, if_neg (show ¬ (263 : Int32) = 43 by decide), if_neg (show ¬ (263 : Int32) = 45 by decide)]; exact cG_i (fun _ => cG_s h) (fun _ => cG_s h)
set_option maxHeartbeats 200000 in
theorem y_sumG {f p : Int32} {B m : Nat} (h : xr g f p B w) : rG g f p B (vu (fX12_sum_L4 U' N' (m + 1) w)) := by
  rw [fX12_sum_L4, y_sign h, q_bd_s, if_pos rfl, y_sign h, q_bd_s, if_pos rfl]; exact rG_s h
set_option maxHeartbeats 200000 in
theorem fac_42 : fX2_factor 42 v = some (10, v) := rfl
set_option maxHeartbeats 200000 in
theorem fac_47 : fX2_factor 47 v = some (11, v) := rfl
set_option maxHeartbeats 200000 in
theorem fac_37 : fX2_factor 37 v = some (12, v) := rfl
set_option maxHeartbeats 200000 in
theorem fac_no {c : Int32} (h1 : c ≠ 42) (h2 : c ≠ 47) (h3 : c ≠ 37) : fX2_factor c v = some (-1, v) := by
  unfold fX2_factor
  rw [if_neg h3, if_neg h1, if_neg h2]
set_option maxHeartbeats 200000 in
theorem p_loop (ok : rd_ok g) (z : z0 g i p q K.length) (o : ov g i s e e') (r01 : r = 0 ∨ r = 1) (hU : US g n hu Bu U U') (h1u : 1 ≤ hu) (hB : Bu + 1 ≤ Bd) (hB3 : Bu < 4000) :
    ∀ u c a i1 p1 C1 q1 r1 R1 K1 e1 e1' v w N1 N2, gm g - i1 = u → u < N1 → u < N2 → c + i + 1 ≤ i1 → EQ g i n p C q d r R K k s l b A e e' (hu + 1) a i1 p1 C1 q1 r1 R1 K1 e1 e1' v w → jn g l Bd (EP g i n p C q d r R K k s l b A e e' (hu + 1)) (fX2_product_L7 U N N1 a (nI c) v) (vu (fX12_product_L4 U' N' N2 w)) := by
  have hm3 := ok.2.2.1.2.2
  intro u
  induction u using Nat.strongRecOn with
  | ind u ih =>
    intro c a i1 p1 C1 q1 r1 R1 K1 e1 e1' v w N1 N2 hu1 hN1 hN2 hc E
    obtain ⟨N1, rfl⟩ : ∃ x, N1 = x + 1 := ⟨N1 - 1, by omega⟩
    obtain ⟨N2, rfl⟩ : ∃ x, N2 = x + 1 := ⟨N2 - 1, by omega⟩
    have S := E.1
    have hi1 := (St_im S).1
    rw [fX2_product_L7, if_neg (show ¬ (3000 : Int32) ≤ nI c from ni_nle (a := 3000) (by omega) (by omega)), c_kind S, fX12_product_L4, r_sign (c := 42) ok S rfl (by decide), q_bd_s, lx_i0]
    have go : ∀ c0 x y, tkc g i1 = c0 → (c0 = 42 ∧ x = 10 ∧ y = 9 ∨ c0 = 47 ∧ x = 11 ∧ y = 10 ∨ c0 = 37 ∧ x = 12 ∧ y = 11) → jn g l Bd (EP g i n p C q d r R K k s l b A e e' (hu + 1)) (q_bv (fX9_advance v) (fun T => q_bd (U T) (fun y5 T9 => if x = 10 then fX2_product_b68 U N a (nI c) x y5 (fun xn1_ xn2_ S_ => fX2_product_L7 U N N1 xn1_ xn2_ S_) T9 else if y5 = 2 then fX2_product_b68 U N a (nI c) x y5 (fun xn1_ xn2_ S_ => fX2_product_L7 U N N1 xn1_ xn2_ S_) T9 else fX2_product_b69 U N a (nI c) x y5 1 (fun xn1_ xn2_ S_ => fX2_product_L7 U N N1 xn1_ xn2_ S_) T9))) (vu (fX12_product_b61 U' N' y (fun S_ => fX12_product_L4 U' N' N2 S_) w)) := by
      intro c0 x y hc0 hxy
      have hnx : i1 < gm g := by
        rcases Nat.lt_or_ge i1 (gm g) with z | z
        · exact z
        · have e : i1 = gm g := by omega
          exfalso
          rcases ok.2.2.1.2.1 with y | y
          · rw [← e, show tk_c g.1 (gL g) kw_c i1 = tkc g i1 from rfl, hc0] at y
            rcases hxy with h | h | h <;> (rw [h.1] at y; exact absurd y (by decide))
          · rw [← e, show tk_c g.1 (gL g) kw_c i1 = tkc g i1 from rfl, hc0] at y
            rcases hxy with h | h | h <;> (rw [h.1] at y; exact absurd y (by decide))
      obtain ⟨M1, rfl⟩ : ∃ x, N1 = x + 1 := ⟨N1 - 1, by omega⟩
      obtain ⟨M2, rfl⟩ : ∃ x, N2 = x + 1 := ⟨N2 - 1, by omega⟩
      refine p_step ok z o r01 E hU h1u hB hB3 hc0 hxy (fun f p a c v h => x_prodG h) (fun f p w h => y_prodG h) (fun a' i3 p3 C3 q3 r3 R3 K3 e3 e3' v3 w3 h3 E3 => ?_)
      have hi3 := (St_im E3.1).1
      exact ih (gm g - i3) (by omega) (c + 1) a' i3 p3 C3 q3 r3 R3 K3 e3 e3' v3 w3 _ _ rfl (by omega) (by omega) (by omega) E3
    by_cases c42 : tkc g i1 = 42
    · rw [if_pos c42, c42, fac_42, q_bd_s, if_neg (show ¬ (10 : Int32) = -1 by decide), c_kind S, c42, fac_42, q_bd_s]
      unfold fX12_product_b31
      rw [r_sign (c := 42) ok S rfl (by decide), q_bd_s, lx_i0, if_pos c42]
      exact go 42 10 9 c42 (Or.inl ⟨rfl, rfl, rfl⟩)
    · rw [if_neg c42, r_sign (c := 47) ok S rfl (by decide), q_bd_s, lx_i0]
      by_cases c47 : tkc g i1 = 47
      · rw [if_pos c47, c47, fac_47, q_bd_s, if_neg (show ¬ (11 : Int32) = -1 by decide), c_kind S, c47, fac_47, q_bd_s]
        unfold fX12_product_b31
        rw [r_sign (c := 42) ok S rfl (by decide), q_bd_s, lx_i0, if_neg c42, r_sign (c := 47) ok S rfl (by decide), q_bd_s, lx_i0, if_pos c47]
        exact go 47 11 10 c47 (Or.inr (Or.inl ⟨rfl, rfl, rfl⟩))
      · rw [if_neg c47, r_sign (c := 37) ok S rfl (by decide), q_bd_s, lx_i0]
        by_cases c37 : tkc g i1 = 37
        · rw [if_pos c37, c37, fac_37, q_bd_s, if_neg (show ¬ (12 : Int32) = -1 by decide), c_kind S, c37, fac_37, q_bd_s]
          unfold fX12_product_b31
          rw [r_sign (c := 42) ok S rfl (by decide), q_bd_s, lx_i0, if_neg c42, r_sign (c := 47) ok S rfl (by decide), q_bd_s, lx_i0, if_neg c47]
          exact go 37 12 11 c37 (Or.inr (Or.inr ⟨rfl, rfl, rfl⟩))
        · rw [if_neg c37, fac_no c42 c47 c37, q_bd_s, if_pos rfl]
          exact jn_qq ⟨i1, p1, C1, q1, r1, R1, K1, e1, e1', E⟩
set_option maxHeartbeats 200000 in
theorem EQ_hb {hb1 hb2 i1 p1 q1 e1 e1' : Nat} {C1 : Nat → Int32} {r1 a : Int32} {R1 : Nat → Nat → Int32} {K1 : rd_K} (E : EQ g i n p C q d r R K k s l b A e e' hb1 a i1 p1 C1 q1 r1 R1 K1 e1 e1' v w) (h : hb1 ≤ hb2) : EQ g i n p C q d r R K k s l b A e e' hb2 a i1 p1 C1 q1 r1 R1 K1 e1 e1' v w :=
  ⟨E.1, E.2.1, E.2.2.1, E.2.2.2.1, E.2.2.2.2.1, E.2.2.2.2.2.1, E.2.2.2.2.2.2.1, fun T XL h1 h2 h3 => dv_hb (E.2.2.2.2.2.2.2 T XL h1 h2 h3) h⟩
set_option maxHeartbeats 200000 in
theorem US_product (ok : rd_ok g) (hU : US g n hu Bu U U') (h1u : 1 ≤ hu) (hB3 : Bu < 4000) : US g n (hu + 1) (Bu + 1) (fX2_product U N) (fX12_product U' N') := by
  intro i p C q d r R K k s l b A e e' v w h z o r01
  have hm3 := ok.2.2.1.2.2
  unfold fX2_product fX12_product
  rw [vu_bv]
  refine jn_dv (hU i p C q d r R K k s l b A e e' v w h z o r01) (fun f p a v h => x_prodL h) (fun f p w h => y_prodL (xr_le h (by omega))) ?_
  intro a v2 w2 E
  obtain ⟨i1, p1, C1, q1, r1, R1, K1, e1, e1', E⟩ := E
  have hi1 : i < i1 := E.2.1.1
  have hi1m := (St_im E.1).1
  exact p_loop ok z o r01 hU h1u (Nat.le_refl _) hB3 (gm g - i1) 0 a i1 p1 C1 q1 r1 R1 K1 e1 e1' v2 w2 q_N q_N rfl (by unfold q_N; omega) (by unfold q_N; omega) (by omega) (EQ_hb E (by omega))
set_option maxHeartbeats 200000 in
theorem nat_or {a a2 r1 r3 : Int32} (E12 : a = 0 ∨ a = 1 ∨ a = 2) (F12 : a2 = 0 ∨ a2 = 1 ∨ a2 = 2) (F14 : r3 = (if a2 = 1 then 1 else r1)) (E14 : r1 = (if a = 1 then 1 else r)) : ∃ nt : Int32, (a ||| a2) &&& 1 = nt ∧ (nt = 0 ∨ nt = 1) ∧ r3 = (if nt = 1 then 1 else r) := by
  rw [or1 E12 F12]
  by_cases y1 : a = 1 ∨ a2 = 1
  · refine ⟨1, if_pos y1, Or.inr rfl, ?_⟩
    rw [F14, E14, if_pos rfl]
    rcases y1 with y1 | y1
    · rw [if_pos y1]; split <;> rfl
    · rw [if_pos y1]
  · refine ⟨0, if_neg y1, Or.inl rfl, ?_⟩
    rw [F14, E14, if_neg (fun q => y1 (Or.inr q)), if_neg (fun q => y1 (Or.inl q)), if_neg (by decide)]
set_option maxHeartbeats 200000 in
/-- sums -/
theorem s_step {i1 p1 q1 e1 e1' : Nat} {C1 : Nat → Int32} {r1 a x y c0 : Int32} {R1 : Nat → Nat → Int32} {K1 : rd_K} {c : Nat} (ok : rd_ok g) (z : z0 g i p q K.length) (o : ov g i s e e') (r01 : r = 0 ∨ r = 1) (E : EQ g i n p C q d r R K k s l b A e e' (hu + 1) a i1 p1 C1 q1 r1 R1 K1 e1 e1' v w) (hU : US g n hu Bu (fX2_product U N) (fX12_product U' N')) (h1u : 1 ≤ hu) (hB : Bu + 1 ≤ Bd) (hB3 : Bu < 4000) (hc : tkc g i1 = c0) (hxy : c0 = 43 ∧ x = 8 ∧ y = 7 ∨ c0 = 45 ∧ x = 9 ∧ y = 8)
    {Kc : Int32 → Int32 → q_V → Option (Int32 × q_V)} {Kr : q_V → Option q_V} (hKc : ∀ f p a c v, xc g f p l v → cG g f p l (Kc a c v)) (hKr : ∀ f p w, xr g f p Bd w → rG g f p Bd (vu (Kr w))) {Q : Int32 → q_V → Unit → q_V → Prop}
    (hK : ∀ a' i3 p3 C3 q3 r3 R3 K3 e3 e3' v3 w3, i1 < i3 → EQ g i n p C q d r R K k s l b A e e' (hu + 1) a' i3 p3 C3 q3 r3 R3 K3 e3 e3' v3 w3 → jn g l Bd Q (Kc a' (nI (c + 1)) v3) (vu (Kr w3))) :
    jn g l Bd Q (fX2_sum_b57 U N a (nI c) x Kc v) (vu (fX12_sum_b38 U' N' y Kr w)) := by
  have E' := E
  obtain ⟨S, ⟨E1, E2, E3, E4, E5, E6⟩, _, _, ⟨E12, E13, E14⟩, ⟨E15, E15'⟩, _⟩ := E'
  have zE : z0 g i1 p1 q1 K1.length := by
    obtain ⟨z1, z2, z3⟩ := z
    exact ⟨by omega, by omega, by omega⟩
  have hne : tkc g i1 ≠ 261 ∧ tkc g i1 ≠ 262 ∧ tkc g i1 ≠ 40 ∧ tkc g i1 ≠ 260 ∧ tkc g i1 ≠ 41 ∧ tkc g i1 ≠ 300 := by
    rw [hc]
    rcases hxy with h | h <;> (rw [h.1]; decide)
  have r1' : r1 = 0 ∨ r1 = 1 := by
    rw [E14]; split
    · exact Or.inr rfl
    · exact r01
  obtain ⟨v1, a1, s1⟩ := c_adv ok S hne.1 hne.2.1
  have s2 := r_now ok s1 hne.1 hne.2.1
  have him := (St_im s2).1
  have J := hU (i1 + 1) p1 C1 q1 d r1 R1 K1 k s l b A e1 e1' v1 _ s2 (z0_s ok zE (by omega) him) (ov_m ok o (by omega) him E15 E15') r1'
  unfold fX2_sum_b57 fX12_sum_b38
  rw [a1, q_bv_s, vu_lt, q_lt_s, vu_bv]
  refine jn_dv J (fun f p a v h => ?_) (fun f p w h => ?_) ?_
  · exact cG_d (x_add (y := x) ok h) (fun a' v h => hKc f p _ _ v h)
  · rw [vu_bd]
    exact rG_d (y_emit hB3 h) (fun a w h => hKr _ _ _ (xr_le h hB))
  · intro a2 v3 w3 E2
    obtain ⟨i3, p3, C3, q3, r3, R3, K3, e3, e3', E2⟩ := E2
    have E2' := E2
    obtain ⟨S3, ⟨F1, F2, F3, F4, F5, F6⟩, _, _, ⟨F12, F13, F14⟩, ⟨F15, F15'⟩, _⟩ := E2'
    have hi3 := (St_im S3).1
    have t1 := tka_L ok i3
    have t2 := tka_lt ok (show i1 < i1 + 1 by omega) him
    have hL := ok.1
    obtain ⟨z1, z2, z3⟩ := zE
    obtain ⟨v4, a4, s4⟩ := c_add (y := x) ok S3 (by omega)
    obtain ⟨w6, b6, s6⟩ := r_emit (o := y) (a := 0) (c := 0) s4 (by omega)
    obtain ⟨nt, nt1, nt2, nt3⟩ := nat_or E12 F12 F14 E14
    rw [q_lt_s, nt1, a4, q_bd_s, q_lt_s, ni_add1, b6, q_bd_s]
    refine hK nt i3 (p3 + 1) _ (q3 + 1) r3 _ K3 e3 e3' v4 w6 (by omega) (E_bin ok E E2 s6 ⟨hne.2.2.1, hne.2.2.2.1, hne.2.2.2.2.1, hne.2.2.2.2.2⟩ nt2 nt3 (Nat.le_refl _) (Nat.le_refl _) (by rcases hxy with h | h <;> (rw [h.2.2]; decide)) (fun T XL y0 c0 r0 => ?_))
    rcases hxy with hxy | hxy
    · rw [hxy.2.1] at c0; rw [hxy.2.2] at r0
      exact fun Fin a S f0 H => ru_ADD (y0 Fin a S f0 H) (by omega) c0 r0
    · rw [hxy.2.1] at c0; rw [hxy.2.2] at r0
      exact fun Fin a S f0 H => ru_SUB (y0 Fin a S f0 H) (by omega) c0 r0
set_option maxHeartbeats 200000 in
theorem s_loop (ok : rd_ok g) (z : z0 g i p q K.length) (o : ov g i s e e') (r01 : r = 0 ∨ r = 1) (hU : US g n hu Bu (fX2_product U N) (fX12_product U' N')) (h1u : 1 ≤ hu) (hB : Bu + 1 ≤ Bd) (hB3 : Bu < 4000) :
    ∀ u c a i1 p1 C1 q1 r1 R1 K1 e1 e1' v w N1 N2, gm g - i1 = u → u < N1 → u < N2 → c + i + 1 ≤ i1 → EQ g i n p C q d r R K k s l b A e e' (hu + 1) a i1 p1 C1 q1 r1 R1 K1 e1 e1' v w → jn g l Bd (EP g i n p C q d r R K k s l b A e e' (hu + 1)) (fX2_sum_L7 U N N1 a (nI c) v) (vu (fX12_sum_L4 U' N' N2 w)) := by
  have hm3 := ok.2.2.1.2.2
  intro u
  induction u using Nat.strongRecOn with
  | ind u ih =>
    intro c a i1 p1 C1 q1 r1 R1 K1 e1 e1' v w N1 N2 hu1 hN1 hN2 hc E
    obtain ⟨N1, rfl⟩ : ∃ x, N1 = x + 1 := ⟨N1 - 1, by omega⟩
    obtain ⟨N2, rfl⟩ : ∃ x, N2 = x + 1 := ⟨N2 - 1, by omega⟩
    have S := E.1
    have hi1 := (St_im S).1
    rw [fX2_sum_L7, if_neg (show ¬ (3000 : Int32) ≤ nI c from ni_nle (a := 3000) (by omega) (by omega)), c_kind S, fX12_sum_L4, r_sign (c := 43) ok S rfl (by decide), q_bd_s, lx_i0]
    have go : ∀ c0 x y, tkc g i1 = c0 → (c0 = 43 ∧ x = 8 ∧ y = 7 ∨ c0 = 45 ∧ x = 9 ∧ y = 8) → jn g l Bd (EP g i n p C q d r R K k s l b A e e' (hu + 1)) (fX2_sum_b57 U N a (nI c) x (fun xn1_ xn2_ S_ => fX2_sum_L7 U N N1 xn1_ xn2_ S_) v) (vu (fX12_sum_b38 U' N' y (fun S_ => fX12_sum_L4 U' N' N2 S_) w)) := by
      intro c0 x y hc0 hxy
      have hnx : i1 < gm g := by
        rcases Nat.lt_or_ge i1 (gm g) with z | z
        · exact z
        · have e : i1 = gm g := by omega
          exfalso
          rcases ok.2.2.1.2.1 with y | y
          · rw [← e, show tk_c g.1 (gL g) kw_c i1 = tkc g i1 from rfl, hc0] at y
            rcases hxy with h | h <;> (rw [h.1] at y; exact absurd y (by decide))
          · rw [← e, show tk_c g.1 (gL g) kw_c i1 = tkc g i1 from rfl, hc0] at y
            rcases hxy with h | h <;> (rw [h.1] at y; exact absurd y (by decide))
      obtain ⟨M1, rfl⟩ : ∃ x, N1 = x + 1 := ⟨N1 - 1, by omega⟩
      obtain ⟨M2, rfl⟩ : ∃ x, N2 = x + 1 := ⟨N2 - 1, by omega⟩
      refine s_step ok z o r01 E hU h1u hB hB3 hc0 hxy (fun f p a c v h => x_sumG h) (fun f p w h => y_sumG h) (fun a' i3 p3 C3 q3 r3 R3 K3 e3 e3' v3 w3 h3 E3 => ?_)
      have hi3 := (St_im E3.1).1
      exact ih (gm g - i3) (by omega) (c + 1) a' i3 p3 C3 q3 r3 R3 K3 e3 e3' v3 w3 _ _ rfl (by omega) (by omega) (by omega) E3
    unfold fX2_sum_b38
    by_cases c43 : tkc g i1 = 43
    · rw [if_pos c43, if_pos c43, c_kind S, if_pos c43]
      unfold fX12_sum_b22
      rw [r_sign (c := 43) ok S rfl (by decide), q_bd_s, lx_i0, if_pos c43]
      exact go 43 8 7 c43 (Or.inl ⟨rfl, rfl, rfl⟩)
    · rw [if_neg c43, if_neg c43, r_sign (c := 45) ok S rfl (by decide), q_bd_s, lx_i0]
      by_cases c45 : tkc g i1 = 45
      · rw [if_pos c45, if_pos c45, c_kind S, if_neg c43]
        unfold fX12_sum_b22
        rw [r_sign (c := 43) ok S rfl (by decide), q_bd_s, lx_i0, if_neg c43]
        exact go 45 9 8 c45 (Or.inr ⟨rfl, rfl, rfl⟩)
      · rw [if_neg c45, if_neg c45]
        exact jn_qq ⟨i1, p1, C1, q1, r1, R1, K1, e1, e1', E⟩
set_option maxHeartbeats 200000 in
theorem US_sum (ok : rd_ok g) (hU : US g n hu Bu (fX2_product U N) (fX12_product U' N')) (h1u : 1 ≤ hu) (hB3 : Bu < 4000) (hx : ∀ f p l v, xc g f p l v → cG g f p l (U v)) (hy : ∀ f p B w, xr g f p B w → rG g f p B (vu (U' w))) : US g n (hu + 1) (Bu + 1) (fX2_sum U N) (fX12_sum U' N') := by
  intro i p C q d r R K k s l b A e e' v w h z o r01
  have hm3 := ok.2.2.1.2.2
  unfold fX2_sum fX12_sum
  rw [vu_bv]
  refine jn_dv (hU i p C q d r R K k s l b A e e' v w h z o r01) (fun f p a v h => x_sumL h) (fun f p w h => y_sumL (xr_le h (by omega))) ?_
  intro a v2 w2 E
  obtain ⟨i1, p1, C1, q1, r1, R1, K1, e1, e1', E⟩ := E
  have hi1 : i < i1 := E.2.1.1
  have hi1m := (St_im E.1).1
  exact s_loop ok z o r01 hU h1u (Nat.le_refl _) hB3 (gm g - i1) 0 a i1 p1 C1 q1 r1 R1 K1 e1 e1' v2 w2 q_N q_N rfl (by unfold q_N; omega) (by unfold q_N; omega) (by omega) (EQ_hb E (by omega))
end
