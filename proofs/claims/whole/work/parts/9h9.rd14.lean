section
variable {g : rd_G} {i n p q d k s l b e e' : Nat} {C : Nat → Int32} {r : Int32} {R : Nat → Nat → Int32} {K : rd_K} {A : rd_A} {v w : q_V}
variable {U N : q_V → Option (Int32 × q_V)} {U' N' : q_V → Option q_V} {hb hw hu Bw Bu Bd : Nat}
set_option maxHeartbeats 200000 in
theorem or1 {a c : Int32} (h : a = 0 ∨ a = 1 ∨ a = 2) (h2 : c = 0 ∨ c = 1 ∨ c = 2) : (a ||| c) &&& 1 = (if a = 1 ∨ c = 1 then 1 else 0) := by
  rcases h with h | h | h <;> rcases h2 with h2 | h2 | h2 <;> (subst h; subst h2; decide)
set_option maxHeartbeats 200000 in
/-- two E's and an order behind them -/
theorem E_bin {i1 p1 q1 e1 e1' hb1 hb2 i3 p3 q3 e3 e3' : Nat} {C1 C3 : Nat → Int32} {r1 r2 r3 r4 a a2 a' x y : Int32} {R1 R3 : Nat → Nat → Int32} {K1 K3 : rd_K} {v1 w1 v3 w3 : q_V} (ok : rd_ok g) (E1 : EQ g i n p C q d r R K k s l b A e e' hb1 a i1 p1 C1 q1 r1 R1 K1 e1 e1' v1 w1) (E2 : EQ g (i1 + 1) n p1 C1 q1 d r2 R1 K1 k s l b A e1 e1' hb2 a2 i3 p3 C3 q3 r3 R3 K3 e3 e3' v3 w3) (S : St g i3 n (p3 + 1) (upd C3 p3 x) i3 n (q3 + 1) d r4 (rE R3 q3 y 0 0) K3 k s l b A e3 e3' v w) (hop : tkc g i1 ≠ 40 ∧ tkc g i1 ≠ 260 ∧ tkc g i1 ≠ 41 ∧ tkc g i1 ≠ 300) (ha : a' = 0 ∨ a' = 1) (hr : r4 = (if a' = 1 then 1 else r)) (hh : hb1 ≤ hb) (hh2 : hb2 + 1 ≤ hb) (hy30 : y < 30) (H : ∀ T XL, dv_A T XL 2 hb p p3 q q3 → co_c T p3 x → co_r T 0 q3 y → dv_A T XL 1 hb p (p3 + 1) q (q3 + 1)) :
    EQ g i n p C q d r R K k s l b A e e' hb a' i3 (p3 + 1) (upd C3 p3 x) (q3 + 1) r4 (rE R3 q3 y 0 0) K3 e3 e3' v w := by
  obtain ⟨X0, ⟨X1, X2, X3, X4, X5, X6⟩, ⟨X7, X8, X9, t1, X10⟩, X11, X12, X13, X14⟩ := E1
  obtain ⟨Y0, ⟨Y1, Y2, Y3, Y4, Y5, Y6⟩, ⟨Y7, Y8, Y9, t2, Y10⟩, Y11, Y12, Y13, Y14⟩ := E2
  have hi3 := (St_im S).1
  have t := tka_lt ok (show i1 < i1 + 1 by omega) (by omega)
  refine ⟨S, ⟨by omega, by omega, by omega, by omega, by omega, by omega⟩, ⟨fun x hx => by rw [upd_ne (by omega), Y7 x (by omega)]; exact X7 x hx, fun j x hj hx => by rw [rE_x (by omega), Y8 j x hj (by omega)]; exact X8 j x hj hx, fun j hj => by rw [rE_j hj, Y9 j hj]; exact X9 j hj, t2 ++ t1, by rw [Y10, X10, List.append_assoc]⟩, fun u h1 h2 => ?_, ⟨?_, ⟨?_, ?_⟩, hr⟩, ⟨by omega, by omega⟩, fun x h1 h2 => ?_, fun T XL x1 x2 x3 => ?_⟩
  · by_cases m1 : u < i1
    · exact X11 u h1 m1
    · by_cases m2 : u = i1
      · rw [m2]; exact hop.2.2.2
      · exact Y11 u (by omega) h2
  · rcases ha with ha | ha
    · exact Or.inl ha
    · exact Or.inr (Or.inl ha)
  · intro y; rcases ha with ha | ha <;> (rw [ha] at y; exact absurd y (by decide))
  · intro y
    rcases pln_k y i1 (by omega) (by omega) with z | z | z
    · exact absurd z hop.1
    · exact absurd z hop.2.1
    · exact absurd z hop.2.2.1
  · by_cases c : x = q3
    · rw [c, rE_0, upd_at]; exact hy30
    · rw [rE_x c]
      by_cases c2 : x < q1
      · rw [Y8 0 x (by omega) c2]; exact X14.1 x h1 c2
      · exact Y14.1 x (by omega) (by omega)
  · have c0 := ag_c x2 (show p ≤ p3 by omega) (by omega)
    have r0 := ag_r0 x2 (show q ≤ q3 by omega) (by omega)
    rw [upd_at] at c0
    rw [rE_0, upd_at] at r0
    have a1 := X14.2 T XL x1 (ag_E x2 (Nat.le_refl _) (by omega) (Nat.le_refl _) (by omega) (fun x _ hx => by rw [upd_ne (by omega)]; exact Y7 x hx) (fun j x hj _ hx => by rw [rE_x (by omega)]; exact Y8 j x hj hx) (fun y hy => by rw [Y10]; exact List.mem_append_right _ hy)) (by have := bl_le X0.2.2.2.2.2.2.1; omega)
    have a2 := Y14.2 T XL x1 (ag_E x2 X5 (by omega) X6 (by omega) (fun x _ _ => upd_ne (by omega)) (fun j x _ _ _ => rE_x (by omega)) (fun y hy => hy)) x3
    exact H T XL (dv_2 a1 a2 hh hh2) c0 r0
set_option maxHeartbeats 200000 in
/-- a step of a product -/
theorem p_step {i1 p1 q1 e1 e1' : Nat} {C1 : Nat → Int32} {r1 a x y c0 : Int32} {R1 : Nat → Nat → Int32} {K1 : rd_K} {c : Nat} (ok : rd_ok g) (z : z0 g i p q K.length) (o : ov g i s e e') (r01 : r = 0 ∨ r = 1) (E : EQ g i n p C q d r R K k s l b A e e' (hu + 1) a i1 p1 C1 q1 r1 R1 K1 e1 e1' v w) (hU : US g n hu Bu U U') (h1u : 1 ≤ hu) (hB : Bu + 1 ≤ Bd) (hB3 : Bu < 4000) (hc : tkc g i1 = c0) (hxy : c0 = 42 ∧ x = 10 ∧ y = 9 ∨ c0 = 47 ∧ x = 11 ∧ y = 10 ∨ c0 = 37 ∧ x = 12 ∧ y = 11)
    {Kc : Int32 → Int32 → q_V → Option (Int32 × q_V)} {Kr : q_V → Option q_V} (hKc : ∀ f p a c v, xc g f p l v → cG g f p l (Kc a c v)) (hKr : ∀ f p w, xr g f p Bd w → rG g f p Bd (vu (Kr w))) {Q : Int32 → q_V → Unit → q_V → Prop}
    (hK : ∀ a' i3 p3 C3 q3 r3 R3 K3 e3 e3' v3 w3, i1 < i3 → EQ g i n p C q d r R K k s l b A e e' (hu + 1) a' i3 p3 C3 q3 r3 R3 K3 e3 e3' v3 w3 → jn g l Bd Q (Kc a' (nI (c + 1)) v3) (vu (Kr w3))) :
    jn g l Bd Q (q_bv (fX9_advance v) (fun T => q_bd (U T) (fun y5 T9 => if x = 10 then fX2_product_b68 U N a (nI c) x y5 Kc T9 else if y5 = 2 then fX2_product_b68 U N a (nI c) x y5 Kc T9 else fX2_product_b69 U N a (nI c) x y5 1 Kc T9))) (vu (fX12_product_b61 U' N' y Kr w)) := by
  have E' := E
  obtain ⟨S, ⟨E1, E2, E3, E4, E5, E6⟩, _, _, ⟨E12, E13, E14⟩, ⟨E15, E15'⟩, _⟩ := E'
  have zE : z0 g i1 p1 q1 K1.length := by
    obtain ⟨z1, z2, z3⟩ := z
    exact ⟨by omega, by omega, by omega⟩
  have hne : tkc g i1 ≠ 261 ∧ tkc g i1 ≠ 262 ∧ tkc g i1 ≠ 40 ∧ tkc g i1 ≠ 260 ∧ tkc g i1 ≠ 41 ∧ tkc g i1 ≠ 300 := by
    rw [hc]
    rcases hxy with h | h | h <;> (rw [h.1]; decide)
  have r1' : r1 = 0 ∨ r1 = 1 := by
    rw [E14]; split
    · exact Or.inr rfl
    · exact r01
  obtain ⟨v1, a1, s1⟩ := c_adv ok S hne.1 hne.2.1
  have s2 := r_now ok s1 hne.1 hne.2.1
  have him := (St_im s2).1
  have J := hU (i1 + 1) p1 C1 q1 d r1 R1 K1 k s l b A e1 e1' v1 _ s2 (z0_s ok zE (by omega) him) (ov_m ok o (by omega) him E15 E15') r1'
  unfold fX12_product_b61
  rw [a1, q_bv_s, q_lt_s, q_lt_s, vu_bv]
  have tr : ∀ f p B w u, (u = 0 ∨ u = 1) → xr g f p B w → B < 4000 → B + 1 ≤ Bd → rG g f p Bd (vu (fX12_product_b108 U' N' y u Kr w)) := by
    intro f p B w u hu h h1 h2
    unfold fX12_product_b108
    rw [if_neg (by rcases hu with hu | hu <;> (rw [hu]; decide)), vu_lt, q_lt_s, vu_bd]
    exact rG_d (y_emit h1 (xr_i h (by omega))) (fun a w h => hKr _ _ _ (xr_le h h2))
  refine jn_dv J (fun f p a v h => ?_) (fun f p w h => ?_) ?_
  · unfold fX2_product_b68 fX2_product_b69 fX2_product_b86
    rw [if_pos rfl, if_neg (show ¬ (1 : Int32) = 0 by decide)]
    have t := fun (u : Int32) => cG_d (x_add (y := x) ok h) (fun a' v h => hKc f p u (nI c + 1) v h)
    exact cG_i (fun _ => t _) (fun _ => cG_i (fun _ => t _) (fun _ => t _))
  · rw [vu_if]
    refine rG_i (fun _ => ?_) (fun _ => tr _ _ _ _ 1 (Or.inr rfl) h hB3 hB)
    rw [vu_if]
    refine rG_i (fun _ => tr _ _ _ _ 0 (Or.inl rfl) h hB3 hB) (fun _ => ?_)
    obtain ⟨yy, ey⟩ := y_plain (a := i1 + 1) ok him h
    rw [r_i s2, ey, q_bd_s, vu_if]
    exact rG_i (fun _ => tr _ _ _ _ 1 (Or.inr rfl) h hB3 hB) (fun _ => tr _ _ _ _ 0 (Or.inl rfl) h hB3 hB)
  · intro a2 v3 w3 E2
    obtain ⟨i3, p3, C3, q3, r3, R3, K3, e3, e3', E2⟩ := E2
    have E2' := E2
    obtain ⟨S3, ⟨F1, F2, F3, F4, F5, F6⟩, _, _, ⟨F12, F13, F14⟩, ⟨F15, F15'⟩, _⟩ := E2'
    have hi3 := (St_im S3).1
    have t1 := tka_L ok i3
    have t2 := tka_lt ok (show i1 < i1 + 1 by omega) him
    have hL := ok.1
    obtain ⟨z1, z2, z3⟩ := zE
    have r3' : r3 = 0 ∨ r3 = 1 := by
      rw [F14]; split
      · exact Or.inr rfl
      · exact r1'
    obtain ⟨v4, a4, s4⟩ := c_add (y := x) ok S3 (by omega)
    have fin : ∀ a' r4 : Int32, (a' = 0 ∨ a' = 1) → r4 = (if a' = 1 then 1 else r) → (r4 = 0 ∨ r4 = 1) → jn g l Bd Q (fX2_product_b86 U N (nI c) x a' Kc v3) (vu (fX12_product_b108 U' N' y r4 Kr w3)) := by
      intro a' r4 h1 h2 h3
      have s5 := r_risk (x := r4) s4
      obtain ⟨w6, b6, s6⟩ := r_emit (o := y) (a := 0) (c := 0) s5 (by omega)
      unfold fX2_product_b86 fX12_product_b108
      rw [if_neg (by rcases h3 with h3 | h3 <;> (rw [h3]; decide)), a4, q_bd_s, q_lt_s, ni_add1, q_lt_s, b6, q_bd_s]
      refine hK a' i3 (p3 + 1) _ (q3 + 1) r4 _ K3 e3 e3' v4 w6 (by omega) (E_bin ok E E2 s6 ⟨hne.2.2.1, hne.2.2.2.1, hne.2.2.2.2.1, hne.2.2.2.2.2⟩ h1 h2 (Nat.le_refl _) (Nat.le_refl _) (by rcases hxy with h | h | h <;> (rw [h.2.2]; decide)) (fun T XL y0 c0 r0 => ?_))
      rcases hxy with hxy | hxy | hxy
      · rw [hxy.2.1] at c0; rw [hxy.2.2] at r0
        exact fun Fin a S f0 H => ru_MUL (y0 Fin a S f0 H) (by omega) c0 r0
      · rw [hxy.2.1] at c0; rw [hxy.2.2] at r0
        exact fun Fin a S f0 H => ru_DIV (y0 Fin a S f0 H) (by omega) c0 r0
      · rw [hxy.2.1] at c0; rw [hxy.2.2] at r0
        exact fun Fin a S f0 H => ru_REST (y0 Fin a S f0 H) (by omega) c0 r0
    obtain ⟨nt, nt1, nt2, nt3⟩ : ∃ nt : Int32, (a ||| a2) &&& 1 = nt ∧ (nt = 0 ∨ nt = 1) ∧ r3 = (if nt = 1 then 1 else r) := by
      rw [or1 E12 F12]
      by_cases y1 : a = 1 ∨ a2 = 1
      · refine ⟨1, if_pos y1, Or.inr rfl, ?_⟩
        rw [F14, E14, if_pos rfl]
        rcases y1 with y1 | y1
        · rw [if_pos y1]; split <;> rfl
        · rw [if_pos y1]
      · refine ⟨0, if_neg y1, Or.inl rfl, ?_⟩
        rw [F14, E14, if_neg (fun q => y1 (Or.inr q)), if_neg (fun q => y1 (Or.inl q)), if_neg (by decide)]
    obtain ⟨j3, rfl⟩ : ∃ x, i3 = x + 1 := ⟨i3 - 1, by omega⟩
    obtain ⟨yp, ep, ep1, ep2⟩ := r_plain (a := i1 + 1) ok S3 (by omega)
    rw [r_i s2, S3.2.2.2.2.1.1.2.2.2.2.2.2]
    unfold fX2_product_b68 fX2_product_b69
    rw [if_pos rfl, if_neg (show ¬ (1 : Int32) = 0 by decide), nt1]
    have F := fin nt r3 nt2 nt3 r3'
    by_cases xm : x = 10
    · have ym : y = 9 := by
        rcases hxy with h | h | h
        · exact h.2.2
        · rw [h.2.1] at xm; exact absurd xm (by decide)
        · rw [h.2.1] at xm; exact absurd xm (by decide)
      rw [if_pos xm]
      rcases r3' with r3' | r3'
      · rw [if_pos r3', if_pos ym]; unfold fX12_product_b107; rw [r3'] at F; exact F
      · rw [if_neg (show ¬ r3 = 0 by rw [r3']; decide)]; unfold fX12_product_b103; rw [r3'] at F; exact F
    · have ym : y ≠ 9 := by
        rcases hxy with h | h | h
        · exact absurd h.2.1 xm
        · rw [h.2.2]; decide
        · rw [h.2.2]; decide
      rw [if_neg xm]
      by_cases a22 : a2 = 2
      · have hpl := ep2.2 (F13.1 a22)
        rw [if_pos a22]
        rcases r3' with r3' | r3'
        · rw [if_pos r3', if_neg ym, ep, q_bd_s, hpl, if_neg (by decide)]; unfold fX12_product_b107; rw [r3'] at F; exact F
        · rw [if_neg (show ¬ r3 = 0 by rw [r3']; decide)]; unfold fX12_product_b103; rw [r3'] at F; exact F
      · rw [if_neg a22]
        have F := fin 1 1 (Or.inr rfl) (by rw [if_pos rfl]) (Or.inr rfl)
        have yp0 : yp = 0 := by
          rcases ep1 with h | h
          · exact h
          · exact absurd (F13.2 (ep2.1 h)) a22
        rcases r3' with r3' | r3'
        · rw [if_pos r3', if_neg ym, ep, q_bd_s, yp0, if_pos rfl]; exact F
        · rw [if_neg (show ¬ r3 = 0 by rw [r3']; decide)]; exact F
end
