section
variable {Fin : q_V → q_V → Prop} {a : ru_P} {T : co_T} {XL : Int32 → Int32 → Int32 → Prop} {f0 nu : Nat} {L : List (Nat × Nat)}
/-- a LIST of a choose, its number on both piles -/
def ru_SC3 (Fin : q_V → q_V → Prop) (a : ru_P) (T : co_T) (XL : Int32 → Int32 → Int32 → Prop) (f0 nu : Nat) (L : List (Nat × Nat)) (pt qt p p' q q' : Nat) : Prop :=
  p ≤ p' ∧ q ≤ q' ∧ ∀ c f f1 h g np t cl vc vr v w, ru_bd nu f1 f0 h g np t cl → nu + 1 ≤ 14 → f ≤ f1 → ru_D T XL cl t np v w → ru_W v w → q_a v 802 h = q_a w 2515 g → ru_K np t h g cl vc vr v w →
    (∀ f' v' w', ru_D T XL cl t np v' w' → ru_W v' w' → f' ≤ f → ru_K np t h g cl vc vr v' w' → ru_G Fin a (40000 * f' + c) (mC v' pt h f' np cl) (mR w' qt g f' t cl)) →
    (∀ f' v' w', ru_D T XL cl t np v' w' → ru_W v' w' → f' ≤ f → q_a v' 802 h = q_a w' 2515 g → ru_K np t h g cl vc vr v' w' → ru_G Fin a (40000 * f' + c) (mC v' p' (h + 1) f' np cl) (mR w' q' (g + 1) f' t cl)) →
    ru_x Fin a T XL L c f h g np t cl vc vr → ru_G Fin a (40000 * f + c + 4 * (p' - p)) (mC v p (h + 1) f np cl) (mR w q (g + 1) f t cl)
set_option maxHeartbeats 200000 in
theorem ru_x_f {c f f' h g np t cl : Nat} {vc vr : q_V} (x : ru_x Fin a T XL L c f h g np t cl vc vr) (hf : f' ≤ f) : ru_x Fin a T XL L c f' h g np t cl vc vr :=
  fun f2 p2 h2 q2 g2 v w D W hf2 K => x f2 p2 h2 q2 g2 v w D W (by omega) K
set_option maxHeartbeats 200000 in
theorem ru_C31 {hb p p1 q q1 pt qt : Nat} (s1 : ru_SA Fin a T XL f0 1 hb p p1 q q1) (hhb : hb + 2 * (nu + 1) ≤ 142) (h1b : 1 ≤ hb) (c0 : co_c T p1 28) (c1 : co_c T (p1 + 1) (nI pt)) (r0 : co_r T 0 q1 58) (r1 : co_r T 1 q1 (nI qt)) : ru_SC3 Fin a T XL f0 nu L pt qt p (p1 + 2) q (q1 + 1) := by
  have o1 := s1.1
  have o2 := s1.2.1
  refine ⟨by omega, by omega, ?_⟩
  intro c f f1 h g np t cl vc vr v w bd hn hf D W N K hit miss x
  obtain ⟨b1, b2, b3, b4, b5, b6, b7, b8, b9, b10⟩ := id bd
  refine ru_mono (s1.2.2 (c + 1) f (h + 1) (g + 1) np t cl v w D W (by omega) b2 (by omega) (by omega) (by omega) (by omega) b9 b10 ?_ ?_) (by omega)
  · intro f3 v3 w3 D3 W3 hf3 K3 E
    have E0 : q_a v3 802 (h + 1) = q_a w3 2515 (g + 1) := E 0 (by omega)
    have N3 : q_a v3 802 h = q_a w3 2515 g := by rw [K3.2.1 h (by omega), K3.2.2.2.1 g (by omega)]; exact N
    have K4 : ru_K np t h g cl vc vr v3 w3 := ru_K_tr K K3 (Nat.le_refl _) (Nat.le_refl _) (by omega) (by omega) (Nat.le_refl _)
    rw [show 40000 * f3 + (c + 1) = 40000 * f3 + c + 1 from by omega]
    by_cases z : q_a v3 802 (h + 1) = q_a v3 802 h
    · refine ru_bb (w := 1) (vc1 := mC v3 pt h f3 np cl) (vr1 := mR w3 qt g f3 t cl) (by omega) ?_ ?_ D3.2.2.2.2.1.2.2.1 W3.1 D3.2.2.2.2.1.2.2.2.1 D3.2.2.2.2.1.2.2.2.2 ⟨Nat.le_add_right _ _, Nat.le_refl _⟩ (hit f3 v3 w3 D3 W3 hf3 K4)
      · rw [cs_step D3.1 c0, cd_28, q_bv_id, cs_S D3.1 c1, q_bd_s, cs_pop (by omega), q_bd_s]
        unfold fX4_match fX4_match_b19 fX4_flow_b272
        rw [cs_peek0 (by omega), q_bd_s, if_pos z, cs_pop (by omega), q_bd_s, q_lt_s, mC_s810, q_bv_s]
      · rw [rs_step D3.1 r0, rd_58, q_bv_id, r1.2, rs_pop (by omega), q_bd_s, mR_2516, ni_pred, if_neg (by rw [ni_in (show g < 4000 by omega) (by omega)]; exact id), ni_clamp (by omega), mR_a, ← E0, ← N3, if_pos z]
        unfold fX12_stepOfStatement_b390 fX12_stepOfStatement_b600 fX12_chooses
        rw [if_neg (by decide), mR_2516, ni_pred, mR_s2516, q_lt_s, mR_s2510, q_lt_s, q_bv_s]
    · refine ru_bb (w := 1) (vc1 := mC v3 (p1 + 2) (h + 1) f3 np cl) (vr1 := mR w3 (q1 + 1) (g + 1) f3 t cl) (by omega) ?_ ?_ D3.2.2.2.2.1.2.2.1 W3.1 D3.2.2.2.2.1.2.2.2.1 D3.2.2.2.2.1.2.2.2.2 ⟨Nat.le_add_right _ _, Nat.le_refl _⟩ (miss f3 v3 w3 D3 W3 hf3 N3 K4)
      · rw [cs_step D3.1 c0, cd_28, q_bv_id, cs_S D3.1 c1, q_bd_s, cs_pop (by omega), q_bd_s]
        unfold fX4_match fX4_match_b19 fX4_flow_b272
        rw [cs_peek0 (by omega), q_bd_s, if_neg z, q_bv_s]
      · rw [rs_step D3.1 r0, rd_58, q_bv_id, r1.2, rs_pop (by omega), q_bd_s, mR_2516, ni_pred, if_neg (by rw [ni_in (show g < 4000 by omega) (by omega)]; exact id), ni_clamp (by omega), mR_a, ← E0, ← N3, if_neg z]
        unfold fX12_stepOfStatement_b390 fX12_stepOfStatement_b600 fX12_chooses
        rw [if_pos rfl, q_bv_s]
  · intro f3 p2 h2 q2 g2 v3 w3 D3 wt hf3 K3
    exact ru_monoL (x f3 p2 h2 q2 g2 v3 w3 D3 (ru_wl_t wt) hf3 (ru_K_tr K K3 (Nat.le_refl _) (Nat.le_refl _) (by omega) (by omega) (Nat.le_refl _))) (by omega)
set_option maxHeartbeats 200000 in
theorem ru_C3A {p p1 p' q q1 q' pt qt : Nat} (s1 : ru_SC3 Fin a T XL f0 nu L pt qt p p1 q q1) (s2 : ru_SC3 Fin a T XL f0 nu L pt qt p1 p' q1 q') : ru_SC3 Fin a T XL f0 nu L pt qt p p' q q' := by
  have o1 := s1.1
  have o2 := s1.2.1
  have o3 := s2.1
  have o4 := s2.2.1
  refine ⟨by omega, by omega, ?_⟩
  intro c f f1 h g np t cl vc vr v w bd hn hf D W N K hit miss x
  refine ru_mono (s1.2.2 (c + 4 * (p' - p1)) f f1 h g np t cl vc vr v w bd hn hf D W N K ?_ ?_ (ru_x_c x (by omega))) (by omega)
  · intro f3 v3 w3 D3 W3 hf3 K3
    exact ru_mono (hit f3 v3 w3 D3 W3 hf3 K3) (by omega)
  · intro f3 v3 w3 D3 W3 hf3 N3 K3
    refine ru_mono (s2.2.2 c f3 f1 h g np t cl vc vr v3 w3 bd hn (by omega) D3 W3 N3 K3 ?_ ?_ (ru_x_f x hf3)) (by omega)
    · intro f4 v4 w4 D4 W4 hf4 K4
      exact hit f4 v4 w4 D4 W4 (by omega) K4
    · intro f4 v4 w4 D4 W4 hf4 N4 K4
      exact miss f4 v4 w4 D4 W4 (by omega) N4 K4
/-- whens, one behind the other -/
def ru_SC4 (Fin : q_V → q_V → Prop) (a : ru_P) (T : co_T) (XL : Int32 → Int32 → Int32 → Prop) (f0 nu : Nat) (L : List (Nat × Nat)) (px qx p p' q q' : Nat) : Prop :=
  p ≤ p' ∧ q ≤ q' ∧ ∀ c f f1 h g np t cl vc vr v w, ru_bd nu f1 f0 h g np t cl → nu + 1 ≤ 14 → f ≤ f1 → ru_D T XL cl t np v w → ru_W v w → q_a v 802 h = q_a w 2515 g → ru_K np t h g cl vc vr v w →
    (∀ f' v' w', ru_D T XL cl t np v' w' → ru_V v' w' → f' ≤ f → ru_K np t h g cl vc vr v' w' → ru_G Fin a (40000 * f' + c) (mC v' px h f' np cl) (mR w' qx g f' t cl)) →
    (∀ f' v' w', ru_D T XL cl t np v' w' → ru_W v' w' → f' ≤ f → q_a v' 802 h = q_a w' 2515 g → ru_K np t h g cl vc vr v' w' → ru_G Fin a (40000 * f' + c) (mC v' p' (h + 1) f' np cl) (mR w' q' (g + 1) f' t cl)) →
    ru_x Fin a T XL L c f h g np t cl vc vr → ru_G Fin a (40000 * f + c + 4 * (p' - p)) (mC v p (h + 1) f np cl) (mR w q (g + 1) f t cl)
set_option maxHeartbeats 200000 in
theorem ru_C4N {px qx p q : Nat} : ru_SC4 Fin a T XL f0 nu L px qx p p q q :=
  ⟨Nat.le_refl _, Nat.le_refl _, fun c f f1 h g np t cl vc vr v w bd hn hf D W N K dn nx x => ru_mono (nx f v w D W (Nat.le_refl _) N K) (by omega)⟩
set_option maxHeartbeats 200000 in
theorem ru_C4A {p p1 p' q q1 q' px qx : Nat} (s1 : ru_SC4 Fin a T XL f0 nu L px qx p p1 q q1) (s2 : ru_SC4 Fin a T XL f0 nu L px qx p1 p' q1 q') : ru_SC4 Fin a T XL f0 nu L px qx p p' q q' := by
  have o1 := s1.1
  have o2 := s1.2.1
  have o3 := s2.1
  have o4 := s2.2.1
  refine ⟨by omega, by omega, ?_⟩
  intro c f f1 h g np t cl vc vr v w bd hn hf D W N K dn nx x
  refine ru_mono (s1.2.2 (c + 4 * (p' - p1)) f f1 h g np t cl vc vr v w bd hn hf D W N K ?_ ?_ (ru_x_c x (by omega))) (by omega)
  · intro f3 v3 w3 D3 W3 hf3 K3
    exact ru_mono (dn f3 v3 w3 D3 W3 hf3 K3) (by omega)
  · intro f3 v3 w3 D3 W3 hf3 N3 K3
    refine ru_mono (s2.2.2 c f3 f1 h g np t cl vc vr v3 w3 bd hn (by omega) D3 W3 N3 K3 ?_ ?_ (ru_x_f x hf3)) (by omega)
    · intro f4 v4 w4 D4 W4 hf4 K4
      exact dn f4 v4 w4 D4 W4 (by omega) K4
    · intro f4 v4 w4 D4 W4 hf4 N4 K4
      exact nx f4 v4 w4 D4 W4 (by omega) N4 K4
set_option maxHeartbeats 200000 in
theorem ru_C4B {p p2 q q2 px qx c f f1 h g np t cl : Nat} {vc vr v w : q_V} (hn2 : nu + 2 ≤ 14) (s2 : ru_SS Fin a T XL f0 (nu + 2) L p p2 q q2) (c2 : co_c T p2 22) (c3 : co_c T (p2 + 1) (nI px)) (r2 : co_r T 0 q2 41) (r3 : co_r T 1 q2 (nI qx)) (bd : ru_bd nu f1 f0 h g np t cl) (hf : f ≤ f1) (D : ru_D T XL cl t np v w) (V : ru_V v w) (K : ru_K np t h g cl vc vr v w)
    (dn : ∀ f' v' w', ru_D T XL cl t np v' w' → ru_V v' w' → f' ≤ f → ru_K np t h g cl vc vr v' w' → ru_G Fin a (40000 * f' + c) (mC v' px h f' np cl) (mR w' qx g f' t cl)) (x : ru_x Fin a T XL L c f h g np t cl vc vr) :
    ru_G Fin a (40000 * f + c + 4 * (p2 + 2 - p)) (mC v p h f np cl) (mR w q g f t cl) := by
  have o1 := s2.1
  have s := ru_NEST (by omega) (ru_NEST hn2 s2)
  refine ru_mono (s.2.2 (c + 1) f h g np t cl v w D V ⟨by have := bd.1; omega, bd.2⟩ ?_ (ru_x_c (ru_x_tr x (Nat.le_refl _) K) (by omega))) (by omega)
  intro f3 v3 w3 D3 V3 hf3 K3
  rw [show 40000 * f3 + (c + 1) = 40000 * f3 + c + 1 from by omega]
  exact ru_JUMP D3 V3 c2 c3 r2 r3 (dn f3 v3 w3 D3 V3 hf3 (ru_K_tr K K3 (Nat.le_refl _) (Nat.le_refl _) (Nat.le_refl _) (Nat.le_refl _) (Nat.le_refl _)))
set_option maxHeartbeats 200000 in
theorem ru_C4L {p pj p2 q qj q2 px qx : Nat} (hn2 : nu + 2 ≤ 14) (s1 : ru_SC3 Fin a T XL f0 nu L (pj + 2) (qj + 1) p pj q qj) (s2 : ru_SS Fin a T XL f0 (nu + 2) L (pj + 2) p2 (qj + 1) q2) (c0 : co_c T pj 22) (c1 : co_c T (pj + 1) (nI (p2 + 2))) (c2 : co_c T p2 22) (c3 : co_c T (p2 + 1) (nI px)) (r0 : co_r T 0 qj 41) (r1 : co_r T 1 qj (nI (q2 + 1))) (r2 : co_r T 0 q2 41) (r3 : co_r T 1 q2 (nI qx)) : ru_SC4 Fin a T XL f0 nu L px qx p (p2 + 2) q (q2 + 1) := by
  have o1 := s1.1
  have o2 := s1.2.1
  have o3 := s2.1
  have o4 := s2.2.1
  refine ⟨by omega, by omega, ?_⟩
  intro c f f1 h g np t cl vc vr v w bd hn hf D W N K dn nx x
  refine ru_mono (s1.2.2 (c + 4 * (p2 + 2 - pj)) f f1 h g np t cl vc vr v w bd hn hf D W N K ?_ ?_ (ru_x_c x (by omega))) (by omega)
  · intro f3 v3 w3 D3 W3 hf3 K3
    refine ru_mono (ru_C4B (c := c) hn2 s2 c2 c3 r2 r3 bd (by omega) D3 (ru_wv W3) K3 ?_ (ru_x_f x hf3)) (by omega)
    intro f4 v4 w4 D4 V4 hf4 K4
    exact dn f4 v4 w4 D4 V4 (by omega) K4
  · intro f3 v3 w3 D3 W3 hf3 N3 K3
    exact ru_mono (ru_JUMP D3 (ru_wv W3) c0 c1 r0 r1 (nx f3 v3 w3 D3 W3 hf3 N3 K3)) (by omega)
set_option maxHeartbeats 200000 in
theorem ru_C4Y {p p2 q q2 px qx : Nat} (hn2 : nu + 2 ≤ 14) (s2 : ru_SS Fin a T XL f0 (nu + 2) L (p + 2) p2 (q + 2) q2) (c0 : co_c T p 26) (c1 : co_c T (p + 1) 1) (c2 : co_c T p2 22) (c3 : co_c T (p2 + 1) (nI px)) (r0 : co_r T 0 q 59) (r1 : co_r T 1 q (nI (q + 2))) (r2 : co_r T 0 q2 41) (r3 : co_r T 1 q2 (nI qx)) : ru_SC4 Fin a T XL f0 nu L px qx p (p2 + 2) q (q2 + 1) := by
  have o3 := s2.1
  have o4 := s2.2.1
  refine ⟨by omega, by omega, ?_⟩
  intro c f f1 h g np t cl vc vr v w bd hn hf D W N K dn nx x
  obtain ⟨b1, b2, b3, b4, b5, b6, b7, b8, b9, b10⟩ := id bd
  refine ru_mono (B := 40000 * f + c + 4 * (p2 + 2 - (p + 2)) + 1) (ru_bb (w := 1) (vc1 := mC v (p + 2) h f np cl) (vr1 := mR w (q + 2) g f t cl) (by omega) ?_ ?_ D.2.2.2.2.1.2.2.1 W.1 D.2.2.2.2.1.2.2.2.1 D.2.2.2.2.1.2.2.2.2 ⟨Nat.le_add_right _ _, Nat.le_refl _⟩ (ru_C4B (c := c) hn2 s2 c2 c3 r2 r3 bd hf D (ru_wv W) K dn x)) (by omega)
  · rw [cs_step D.1 c0, cd_26, q_bv_id, cs_S D.1 c1, q_bd_s, mC_803, ni_pred, if_neg (by rw [ni_neg (by omega)]; exact id), q_lt_s, mC_s803]; rfl
  · rw [rs_step D.1 r0, rd_59, q_bv_id, r1.2]
    unfold fX12_stepOfStatement_b600 fX12_chooses
    rw [if_neg (by decide), mR_2516, ni_pred, mR_s2516, q_lt_s, mR_s2510, q_lt_s, q_bv_s]
set_option maxHeartbeats 200000 in
theorem ru_CHOOSE {hb p p1 pd px q q1 qd qx : Nat} (s1 : ru_SA Fin a T XL f0 1 hb p p1 q q1) (hhb : hb + 2 * nu ≤ 142) (h0 : 1 ≤ hb) (hn : nu + 1 ≤ 14) (s4 : ru_SC4 Fin a T XL f0 nu L px qx p1 pd q1 qd) (c0 : co_c T pd 26) (c1 : co_c T (pd + 1) 1) (r0 : co_r T 0 qd 4) (s2 : ru_SS Fin a T XL f0 nu L (pd + 2) px (qd + 1) qx) : ru_ST Fin a T XL f0 nu L p px q qx := by
  have o1 := s4.1
  have o2 := s4.2.1
  have o3 := s2.1
  have o4 := s2.2.1
  refine ru_BES s1 hhb (by omega) (by omega) ?_
  intro c f h g np t cl vc vr d W bd E n x
  have E0 : q_a vc 802 h = q_a vr 2515 g := E 0 (by omega)
  obtain ⟨b1, b2, b3, b4, b5, b6, b7, b8, b9, b10⟩ := id bd
  refine ru_mono (s4.2.2 (c + 4 * (px - pd)) f f h g np t cl vc vr vc vr bd hn (Nat.le_refl _) d W E0 ru_K_id ?_ ?_ (ru_x_c x (by omega))) (by omega)
  · intro f3 v3 w3 D3 V3 hf3 K3
    exact ru_mono (n f3 v3 w3 D3 V3 hf3 K3) (by omega)
  · intro f3 v3 w3 D3 W3 hf3 N3 K3
    refine ru_mono (B := 40000 * f3 + c + 4 * (px - (pd + 2)) + 1) (ru_bb (w := 1) (vc1 := mC v3 (pd + 2) h f3 np cl) (vr1 := mR w3 (qd + 1) g f3 t cl) (by omega) ?_ ?_ D3.2.2.2.2.1.2.2.1 W3.1 D3.2.2.2.2.1.2.2.2.1 D3.2.2.2.2.1.2.2.2.2 ⟨Nat.le_add_right _ _, Nat.le_refl _⟩ (s2.2.2 c f3 h g np t cl v3 w3 D3 (ru_wv W3) ⟨by omega, bd.2⟩ (ru_n_tr n hf3 K3) (ru_x_tr x hf3 K3))) (by omega)
    · rw [cs_step D3.1 c0, cd_26, q_bv_id, cs_S D3.1 c1, q_bd_s, mC_803, ni_pred, if_neg (by rw [ni_neg (by omega)]; exact id), q_lt_s, mC_s803]; rfl
    · rw [rs_step D3.1 r0, rd_4, mR_2516, ni_pred, mR_s2516, q_lt_s]; rfl
end
