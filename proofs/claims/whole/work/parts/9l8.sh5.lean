section
variable {g : rd_G} {i n p i' n' q d k s l b e e' : Nat} {C : Nat → Int32} {r : Int32} {R : Nat → Nat → Int32} {K : rd_K} {A : rd_A} {v w : q_V} {T : co_T} {XL : Int32 → Int32 → Int32 → Prop}
variable {B : q_V → Option (Int32 × q_V)} {B' : q_V → Option (Int64 × q_V)}
set_option maxHeartbeats 200000 in
/-- one mend -/
theorem t_mend {c d0 Bd : Nat} {x0 x1 x2 a3 a4 a5 t6 : Int32} {wn3 w7 : Int64} {Kc : Int32 → Int32 → Int32 → Int32 → q_V → Option (Int32 × q_V)} {Kr : Int32 → Int64 → Int32 → Int32 → Int64 → q_V → Option (Int64 × q_V)} {Q : Int32 → q_V → Int64 → q_V → Prop} (ok : rd_ok g) (hn : 1 ≤ n) (hn2 : n ≤ 14) (hB : BS g n B B') (hxB : ∀ f p l v, xc g f p l v → cG g f p l (B v)) (hyB : ∀ f p Bd w, xr g f p Bd w → rG g f p Bd (B' w))
    (h : St g (i + 1) n p C (i + 1) n q d r R K k s l b A e e' v w) (hc : tkc g i = 315) (z : (p ≤ 2 * tka g i + 8 ∧ q ≤ tka g i + 9 ∧ 3 * K.length ≤ tka g i + 10) ∧ 5 * d ≤ tka g i + 10 + n ∧ 2 * s ≤ tka g i + 10) (o : ov g i s e e') (hln : l ≤ n ∧ LB A l p d) (h5 : a5 = 0 ∨ a5 = 1) (h6 : t6 = 0 ∨ t6 = 1) (h3 : a3 = if t6 = 0 then 0 else 4) (hw : wy l a4 w7)
    (hBd : 3301 + 20 * (14 - n) ≤ Bd) (hKc : ∀ f p a b c d v, xc g f p l v → cG g f p l (Kc a b c d v)) (hKr : ∀ f p a b c w, xr g f p (3301 + 20 * (14 - n)) w → rG g f p Bd (Kr (nI d0) wn3 a b c w))
    (hK : ∀ a3 a4 a5 t6 w7 o2 z2 i2 p2 C2 q2 d2 r2 R2 K2 s2 A2 e2 e2' Y v w, (a5 = 0 ∨ a5 = 1) → (t6 = 0 ∨ t6 = 1) → (a3 = if t6 = 0 then 0 else 4) → wy l a4 w7 → SQ dv_6 g n i n p C q d R K k s l b A e e' o2 z2 i2 p2 C2 q2 d2 r2 R2 K2 k s2 A2 e2 e2' Y v w → p2 + 2 * tka g i + 2 ≤ p + 2 * tka g i2 → q2 + tka g i + 1 ≤ q + tka g i2 → jn g l Bd Q (Kc a3 a4 a5 (nI (c + 1)) v) (Kr (nI d0) wn3 a5 t6 w7 w)) :
    jn g l Bd Q (if q_i v 1805 = 316 then fX8_mends_b74 B x1 x2 a3 a4 a5 (nI c) 1 Kc v else fX8_mends_b74 B x1 x2 a3 a4 a5 (nI c) 0 Kc v) (q_bd (fX12_is 26 w) (fun y9 T8 => q_lt (q_si T8 2425 0) (fun T10 => q_bd (fX12_list 52 51 T10) (fun y12 T11 => if t6 = 0 then if a5 = 0 then if (q_i T11 2425) = 0 then fX12_trial_b144 B' x0 (nI d0) wn3 a5 w7 y9 y12 Kr T11 else fX12_trial_b140 B' x0 (nI d0) wn3 a5 w7 y9 y12 Kr T11 else fX12_trial_b144 B' x0 (nI d0) wn3 a5 w7 y9 y12 Kr T11 else fX12_trial_b140 B' x0 (nI d0) wn3 a5 w7 y9 y12 Kr T11)))) := by
  have hL := ok.1
  have him := (St_im h).1
  have ta0 := tka_L ok i
  have t0 : tka g i + 2 ≤ tka g (i + 1) := by
    have h1 := (tk_kl (kw := kw_c) (j := 15) (k := 1) ok.2.1 ok.1 (by omega) hc ((kw_len 15 (by omega)).1)).1
    have h2 := tk_al (tp := g.1) ok.1 (i + 1)
    unfold tka; unfold gL at *; omega
  have s1 := r_risk (x := 0) h
  have ws : ∀ (o2 : Int32) (z2 : Int64), wy l o2 z2 → wy l (a4 ||| (if a5 = 0 then o2 else 0)) (if a5 = 0 then w7 ||| z2 else w7) := fun o2 z2 h => by
    by_cases c5 : a5 = 0
    · rw [if_pos c5, if_pos c5]; exact wy_or hw h
    · rw [if_neg c5, if_neg c5, Int32.or_zero]; exact hw
  rw [c_kind h, r_is (c := 316) (x := 26) ok h rfl (by decide), q_bd_s, q_lt_s]
  by_cases c316 : tkc g (i + 1) = 316
  · obtain ⟨v2, a2, s2⟩ := c_adv ok s1 (by rw [c316]; decide) (by rw [c316]; decide)
    obtain ⟨w3, b3, s3⟩ := r_any (x1 := 52) (x2 := 51) ok (by decide) s2 c316 (by omega)
    have hi3 := (St_im s3).1
    have ta1 : tka g (i + 1) + 2 ≤ tka g (i + 1 + 1) := by
      have h1 := (tk_kl (kw := kw_c) (j := 16) (k := 1) ok.2.1 ok.1 (by omega) c316 ((kw_len 16 (by omega)).1)).1
      have h2 := tk_al (tp := g.1) ok.1 (i + 1 + 1)
      unfold tka; unfold gL at *; omega
    obtain ⟨t7, h7, hif, ha3⟩ := m_t6 (a5 := a5) (nt := 0) (r1 := 0) h6 h3 ⟨fun _ => rfl, fun _ => by decide⟩
    rw [if_pos c316, if_pos c316, b3, q_bd_s, s3.2.2.2.2.1.1.2.2.2.2.2.2, hif, m_145 h7]
    unfold fX8_mends_b74 fX8_mends_b88 fX8_mends_b103 fX8_mends_b123 fX12_trial_b145
    rw [if_neg (show ¬ (1 : Int32) = 0 by decide), a2, q_bv_s, if_neg (show ¬ (1 : Int32) = 0 by decide), if_neg (show ¬ (1 : Int32) = 0 by decide)]
    refine t_mb (i := i) (p := p) (C := C) (R := R) (q := q) (K := K) (e := e) (e' := e') (ax := none) ok hn2 hB z o hln s3 ⟨by omega, by omega, by omega, by omega, Nat.le_refl _, by omega⟩ ⟨fun _ _ => rfl, fun j x hj hx => by rw [rO_x (by omega), rE_x (by omega), rE_x (by omega)], fun j hj => by funext x; rw [rO_x (by omega), rE_j hj, rE_j hj], [], rfl⟩ (fun u h1 h2 => ?_) ⟨Nat.le_refl _, Nat.le_refl _⟩ (fun y h1 h2 h3 => ?_) ⟨by omega, by omega⟩ ⟨fun m hm => (by cases hm), fun _ => rfl⟩ (fun m hm => (by cases hm)) (fun T XL p2 q2 g1 g2 g3 g4 g5 y2 c0 c1 r0 => ?_) hBd (fun f p a v h => ?_) (fun f p a w h => ?_) (fun o2 z2 i2 p2 C2 q2 d2 r2 R2 K2 s2 A2 e2 e2' Y v w X B1 B2 => ?_)
    · by_cases c1 : u = i
      · rw [c1, hc]; decide
      · rw [show u = i + 1 by omega, c316]; decide
    · rw [rO_x (show (0 : Nat) ≠ 1 ∨ _ by omega), rE_x h3, show y = q by omega, rE_0, upd_at]
      exact fun z => absurd z (by decide)
    · have d0 : rO (rO (rE (rE R q 52 (-1) 0) (q + 1) 41 0 0) 1 q (nI (q + 2))) 1 (q + 1) (nI (q2 + 1)) 0 q = 52 := by rw [rO_x (by omega), rO_x (by omega), rE_x (by omega), rE_0, upd_at]
      have r1 := ag_r0 g5 (Nat.le_refl q) (by omega)
      have r2 := ag_r1 g5 (Nat.le_refl q) (by omega) (by rw [d0]; decide)
      rw [d0] at r1
      rw [rO_x (by omega), rO_at] at r2
      exact fun Fin a S f0 H => ru_M6Y (y2 Fin a S f0 H) c0 c1 r1 r2 r0
    · rw [m_Fc]; exact hKc _ _ _ _ _ _ _ h
    · rw [m_Fr]; exact hKr _ _ _ _ _ _ h
    · rw [m_Fc, m_Fr, ha3, (m_or (any := 1) h5 (Or.inr rfl)).1]
      refine hK _ _ _ t7 _ o2 z2 i2 p2 C2 q2 d2 r2 R2 K2 s2 A2 e2 e2' Y v w ?_ h7 rfl (ws _ _ X.2.2.2.2.1.2.1) X B1 B2
      rw [← (m_or (any := 1) h5 (Or.inr rfl)).1]; exact (m_or (any := 1) h5 (Or.inr rfl)).2
  · have J := l_list (M := dv_5 n) (x1 := 52) (x2 := 51) (c1 := 29) (r := 0) ok hn2 (by decide) (by decide) (by decide) (by decide) dv_5N (dv_5E (by omega) (by omega)) dv_5A ⟨by omega, by omega, by omega⟩ (ov_m ok o (by omega) him (Nat.le_refl _) (Nat.le_refl _)) s1 c316
    rw [if_neg c316, if_neg c316]
    unfold fX8_mends_b74 fX8_mends_b88
    rw [if_pos (show (0 : Int32) = 0 from rfl), if_pos (show (0 : Int32) = 0 from rfl)]
    refine jl_dd J (fun f p a v h => ?_) (fun f p y w hy h => ?_) ?_
    · unfold fX8_mends_b103 fX8_mends_b123
      rw [if_pos (show (0 : Int32) = 0 from rfl)]
      refine cG_d (x_size h) (fun a v h => cG_d (x_add ok h) (fun a v h => cG_d (hxB _ _ _ _ h) (fun a v h => cG_d (x_add ok h) (fun a v h => cG_d (x_size h) (fun a v h => cG_v (x_set ok h) (fun v h => ?_))))))
      rw [m_Fc]; exact hKc _ _ _ _ _ _ _ h
    · obtain ⟨t7, h7, hif, _⟩ := m_t6 (a5 := a5) (nt := if q_i w 2425 = 0 then 0 else 1) (r1 := q_i w 2425) h6 h3 (by split <;> simp_all)
      rw [hif, m_145 h7]
      unfold fX12_trial_b145
      refine rG_d (hyB _ _ _ _ h) (fun a w h => rG_d (y_emit (by omega) h) (fun a w h => ?_))
      rw [if_neg (in4 hy), q_lt_s, m_Fr]
      exact hKr _ _ _ _ _ _ (xr_a (xr_le h (by omega)) (by omega))
    · intro nt v3 y3 w3 X
      obtain ⟨i1, pj, C1, qj, r1, R1, K1, e1, e1', hy3, S, ⟨E1, E2, E3, E4, E5, E6⟩, ⟨E7, E8, E9, t1, E10⟩, E11, ⟨E12, E13⟩, E14, ⟨E15, E16⟩, E17, E18⟩ := X
      subst hy3
      obtain ⟨t7, h7, hif, ha3⟩ := m_t6 (a5 := a5) (nt := nt) (r1 := r1) h6 h3 E12
      rw [S.2.2.2.2.1.1.2.2.2.2.2.2, hif, m_145 h7]
      unfold fX8_mends_b103 fX8_mends_b123 fX12_trial_b145
      rw [if_pos (show (0 : Int32) = 0 from rfl), c_size S, q_bd_s, show nI (pj + 2) - 1 = nI (pj + 1) from ni_pred]
      refine t_mb (i := i) (p := p) (C := C) (R := R) (q := q) (K := K) (e := e) (e' := e') (ax := some (pj + 1)) ok hn2 hB z o hln S ⟨by omega, by omega, by omega, by omega, by omega, by omega⟩ ⟨E7, E8, E9, t1, E10⟩ (fun u h1 h2 => ?_) E14 (fun y h1 h2 h3 => ?_) ⟨by omega, by omega⟩ ⟨fun m hm => by cases hm; exact ⟨rfl, by omega⟩, fun hm => by cases hm⟩ (fun m hm => by cases hm; omega) (fun T XL p2 q2 g1 g2 g3 g4 g5 y2 c0 c1 r0 => ?_) hBd (fun f p a v h => ?_) (fun f p a w h => ?_) (fun o2 z2 i2 p2 C2 q2 d2 r2 R2 K2 s2 A2 e2 e2' Y v w X B1 B2 => ?_)
      · by_cases c1 : u = i
        · rw [c1, hc]; decide
        · exact E11 u (by omega) h2
      · exact fun z => absurd z (E17 y h1 (by omega))
      · have c2 := ag_c g5 (show p ≤ pj by omega) (by omega)
        have c3 := ag_c g5 (show p ≤ pj + 1 by omega) (by omega)
        have dd : rO R1 1 qj (nI (q2 + 1)) 0 qj = 41 := by rw [rO_x (by omega)]; exact E16
        have r1' := ag_r0 g5 (show q ≤ qj by omega) (by omega)
        have r2' := ag_r1 g5 (show q ≤ qj by omega) (by omega) (by rw [dd]; decide)
        rw [uA_x (fun m hm => by cases hm; omega), E15] at c2
        rw [show uA (some (pj + 1)) C1 (nI (p2 + 1)) (pj + 1) = nI (p2 + 1) from upd_at ..] at c3
        rw [dd] at r1'
        rw [rO_at] at r2'
        have y1 := E18 T XL g1 (ag_E g5 (Nat.le_refl _) (by omega) (Nat.le_refl _) (by omega) (fun x _ hx => by rw [uA_x (fun m hm => by cases hm; omega)]) (fun j x hj _ hx => by rw [rO_x (by omega)]) (fun y hy => hy)) g2
        exact fun Fin a S f0 H => ru_M6L (y1 Fin a S f0 H) (y2 Fin a S f0 H) c2 c3 c0 c1 r1' r2' r0
      · rw [m_Fc]; exact hKc _ _ _ _ _ _ _ h
      · rw [m_Fr]; exact hKr _ _ _ _ _ _ h
      · rw [m_Fc, m_Fr, ha3, (m_or (any := 0) h5 (Or.inl rfl)).1]
        refine hK _ _ _ t7 _ o2 z2 i2 p2 C2 q2 d2 r2 R2 K2 s2 A2 e2 e2' Y v w ?_ h7 rfl (ws _ _ X.2.2.2.2.1.2.1) X B1 B2
        rw [← (m_or (any := 0) h5 (Or.inl rfl)).1]; exact (m_or (any := 0) h5 (Or.inl rfl)).2
end
