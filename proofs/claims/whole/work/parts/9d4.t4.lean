section
variable {Fin : q_V → q_V → Prop} {a : ru_P} {T : co_T} {XL : Int32 → Int32 → Int32 → Prop} {f0 nu : Nat} {L : List (Nat × Nat)}
set_option maxHeartbeats 200000 in
theorem ru_K_mm {np t h g cl : Nat} {vA wA v w : q_V} (K : ru_K (np + 1) (t + 1) h g (cl + 1) vA wA v w) : ru_K np t h g (cl + 1) vA wA (ru_mc v np cl) (ru_mm w t (cl + 1)) := by
  have K' : ru_K np t h g (cl + 1) vA wA v w := ⟨fun k n x y => K.1 k n x (by omega), K.2.1, fun j n x y z => K.2.2.1 j n x y (by omega), K.2.2.2⟩
  refine ⟨fun k n x y => ?_, fun i x => ?_, fun j n x y z => ⟨?_, ?_⟩, fun i x => ?_, fun i x => ?_, ?_, fun i x => ?_⟩
  · rw [mc_f (by omega) (by omega)]; exact K'.1 k n x y
  · unfold ru_mc; rw [q_a_sf, q_a_sf, q_a_sf, wr_a (by omega), ct_a (by omega)]; exact K'.2.1 i x
  · by_cases c : j = 2489
    · subst c
      unfold ru_mm
      rw [q_a_si]; unfold ru_s
      rw [q_a_sa, if_pos rfl, upd_ne (by omega), q_a_sa, if_neg (by omega), q_a_sa, if_neg (by omega), nt_a (by omega), q_a_si]; exact (K'.2.2.1 2489 n x y z).1
    · rw [mm_a (by omega) c (by omega) (by omega)]; exact (K'.2.2.1 j n x y z).1
  · rw [mm_b]; exact (K'.2.2.1 j n x y z).2
  · rw [mm_a (by omega) (by omega) (by omega) (by omega)]; exact K'.2.2.2.1 i x
  · rw [mm_a (by omega) (by omega) (by omega) (by omega), mm_a (by omega) (by omega) (by omega) (by omega)]; exact K'.2.2.2.2.1 i x
  · unfold ru_mc; rw [q_a_sf, q_a_sf, q_a_sf, wr_a (by omega), ct_a (by omega)]; exact K'.2.2.2.2.2.1
  · rw [mc_f (by omega) (by omega)]; exact K'.2.2.2.2.2.2 i x
/-- MENDS, one behind the other -/
def ru_SM6 (Fin : q_V → q_V → Prop) (a : ru_P) (T : co_T) (XL : Int32 → Int32 → Int32 → Prop) (f0 nu : Nat) (L : List (Nat × Nat)) (p p' q q' : Nat) : Prop :=
  p ≤ p' ∧ q ≤ q' ∧ ∀ c f f1 h g np t cl vA wA v w, ru_AC f0 nu h g np t cl f1 vA wA → f ≤ f1 → ru_D T XL cl (t + 1) (np + 1) v w → ru_W v w → ru_K (np + 1) (t + 1) h g cl vA wA v w →
    (∀ f' v' w', ru_D T XL cl (t + 1) (np + 1) v' w' → ru_W v' w' → f' ≤ f → ru_K (np + 1) (t + 1) h g cl vA wA v' w' → ru_G Fin a (40000 * f' + c) (mC v' p' h f' (np + 1) cl) (mR w' q' g f' (t + 1) cl)) →
    (∀ f' p'' h'' q'' g'' v' w', ru_D T XL cl (t + 1) (np + 1) v' w' → ru_wt v' w' → f' ≤ f → ru_K (np + 1) (t + 1) h g cl vA wA v' w' → ru_L Fin a (40000 * f' + c) (mC v' p'' h'' f' (np + 1) cl) (mR w' q'' g'' f' (t + 1) cl)) →
    (∀ f' p'' h'' q'' g'' v' w', ru_D T XL cl (t + 1) (np + 1) v' w' → ru_we L v' w' → f' ≤ f → ru_MD h g np t cl vA wA v' w' → ru_L Fin a (40000 * f' + c) (mC v' p'' h'' f' (np + 1) cl) (mR w' q'' g'' f' (t + 1) cl)) →
    ru_G Fin a (40000 * f + c + 4 * (p' - p)) (mC v p h f (np + 1) cl) (mR w q g f (t + 1) cl)
set_option maxHeartbeats 200000 in
theorem ru_M6N {p q : Nat} : ru_SM6 Fin a T XL f0 nu L p p q q :=
  ⟨Nat.le_refl _, Nat.le_refl _, fun c f f1 h g np t cl vA wA v w AC hf D W K nx tr md => ru_mono (nx f v w D W (Nat.le_refl _) K) (by omega)⟩
set_option maxHeartbeats 200000 in
theorem ru_M6A {p p1 p' q q1 q' : Nat} (s1 : ru_SM6 Fin a T XL f0 nu L p p1 q q1) (s2 : ru_SM6 Fin a T XL f0 nu L p1 p' q1 q') : ru_SM6 Fin a T XL f0 nu L p p' q q' := by
  have o1 := s1.1
  have o2 := s1.2.1
  have o3 := s2.1
  have o4 := s2.2.1
  refine ⟨by omega, by omega, ?_⟩
  intro c f f1 h g np t cl vA wA v w AC hf D W K nx tr md
  refine ru_mono (s1.2.2 (c + 4 * (p' - p1)) f f1 h g np t cl vA wA v w AC hf D W K ?_ ?_ ?_) (by omega)
  · intro f3 v3 w3 D3 W3 hf3 K3
    refine ru_mono (s2.2.2 c f3 f1 h g np t cl vA wA v3 w3 AC (by omega) D3 W3 K3 ?_ ?_ ?_) (by omega)
    · intro f4 v4 w4 D4 W4 hf4 K4
      exact nx f4 v4 w4 D4 W4 (by omega) K4
    · intro f4 p2 h2 q2 g2 v4 w4 D4 W4 hf4 K4
      exact tr f4 p2 h2 q2 g2 v4 w4 D4 W4 (by omega) K4
    · intro f4 p2 h2 q2 g2 v4 w4 D4 W4 hf4 K4
      exact md f4 p2 h2 q2 g2 v4 w4 D4 W4 (by omega) K4
  · intro f3 p2 h2 q2 g2 v3 w3 D3 wt hf3 K3
    exact ru_monoL (tr f3 p2 h2 q2 g2 v3 w3 D3 wt hf3 K3) (by omega)
  · intro f3 p2 h2 q2 g2 v3 w3 D3 wt hf3 K3
    exact ru_monoL (md f3 p2 h2 q2 g2 v3 w3 D3 wt hf3 K3) (by omega)
set_option maxHeartbeats 200000 in
/-- a mend's block -/
theorem ru_MB {p p2 q q2 c f f1 h g np t cl : Nat} {vA wA v w : q_V} (s2 : ru_SS Fin a T XL f0 (nu + 1) L (p + 1) p2 q q2) (c0 : co_c T p 48) (c1 : co_c T p2 54) (r1 : co_r T 0 q2 48) (AC : ru_AC f0 nu h g np t cl f1 vA wA) (hf : f ≤ f1) (D : ru_D T XL cl (t + 1) (np + 1) v w) (W : ru_W v w) (K : ru_K (np + 1) (t + 1) h g cl vA wA v w)
    (md : ∀ f' p'' h'' q'' g'' v' w', ru_D T XL cl (t + 1) (np + 1) v' w' → ru_we L v' w' → f' ≤ f → ru_MD h g np t cl vA wA v' w' → ru_L Fin a (40000 * f' + c) (mC v' p'' h'' f' (np + 1) cl) (mR w' q'' g'' f' (t + 1) cl)) :
    ru_G Fin a (40000 * f + c + 4 * (p2 + 1 - p)) (mC v p h f (np + 1) cl) (mR (ru_mm w t cl) q g f (t + 1) cl) := by
  have o1 := s2.1
  obtain ⟨bd, hn, e1, e2, eg⟩ := AC
  obtain ⟨b1, b2, b3, b4, b5, b6, b7, b8, b9, b10⟩ := id bd
  obtain ⟨cl, rfl⟩ : ∃ k, cl = k + 1 := ⟨cl - 1, by omega⟩
  have ek : q_f v 2001 np = q_a w 2498 t := by rw [K.1 2001 np (by omega) (by omega), e1, (K.2.2.1 2498 t (by omega) (by omega) (by omega)).1]
  have ec : q_f v 2002 np = q_a w 2499 t := by rw [K.1 2002 np (by omega) (by omega), e2, (K.2.2.1 2499 t (by omega) (by omega) (by omega)).1]
  refine ru_mono (B := 40000 * f + c + 4 * (p2 + 1 - (p + 1)) + 1) (ru_G_l (fun hl => ?_)) (by omega)
  have hl' : ru_l v ≤ 2000000000 := by rw [ru_l_mC] at hl; exact hl
  have Dm := ru_D_mm D ek ec hl'
  have Vm : ru_V (ru_mc v np cl) (ru_mm w t (cl + 1)) := ⟨by rw [mc_f (by omega) (by omega)]; exact W.1, by unfold ru_mm; rw [q_i_si, if_pos rfl]⟩
  have lm : ru_l (ru_mc v np cl) ≤ ru_l v + 2 := by
    have e : ru_l (ru_mc v np cl) = ru_l (ru_wr (ru_ct v 13) 8 (q_f v 2001 np)) := by unfold ru_l ru_mc; rw [q_a_sf, q_a_sf, q_a_sf]
    rw [e, ru_l_wr (vc := ru_ct v 13) (by rw [show q_a (ru_ct v 13) 1400 16 = q_a v 1400 16 from by unfold ru_ct; rw [q_a_sa, if_pos rfl, upd_ne (by omega)]]; exact ru_n16 D.2.2.1) (by rw [ru_l_ct (by omega)]; exact hl'), ru_l_ct (by omega)]; omega
  refine ru_cs (cs_MENDED D.1 (by omega) (by omega) c0) D.2.2.2.2.1.2.2.1 W.1 ⟨by rw [ru_l_mC, ru_l_mC]; exact lm, Nat.le_of_eq (ru_w_e (fun i => mc_f (by omega) (by omega)))⟩ (ru_BODY s2 c1 r1 Dm Vm (ru_bd_up bd hn hf (by omega) b6) ?_)
  intro f' p'' h'' q'' g'' v2 w2 d2 we2 pe hf2 K2
  refine md f' p'' h'' q'' g'' v2 w2 d2 we2 hf2 ⟨fun k h1 h2 h3 => ?_, ?_, ?_, ?_, ?_, ?_, ?_⟩
  · rw [K2.1 k np h1 (by omega), mc_f (by omega) (by omega), K.1 k np h1 (by omega)]
  · rw [K2.1 1201 np (by omega) (by omega)]; unfold ru_mc; rw [q_f_sf, if_pos ⟨rfl, rfl⟩]
  · rw [(K2.2.2.1 2488 t (by omega) (by omega) (by omega)).1, mm_a (by omega) (by omega) (by omega) (by omega), (K.2.2.1 2488 t (by omega) (by omega) (by omega)).1]
  · rw [(K2.2.2.1 2489 t (by omega) (by omega) (by omega)).1, mm_st]
  · rw [(K2.2.2.1 2490 t (by omega) (by omega) (by omega)).1, mm_a (by omega) (by omega) (by omega) (by omega), (K.2.2.1 2490 t (by omega) (by omega) (by omega)).1]
  · rw [(K2.2.2.1 2492 t (by omega) (by omega) (by omega)).1, mm_a (by omega) (by omega) (by omega) (by omega), (K.2.2.1 2492 t (by omega) (by omega) (by omega)).1]
  · exact ru_K_tr (ru_K_mm K) K2 (by omega) (by omega) (Nat.le_refl _) (Nat.le_refl _) (Nat.le_refl _)
set_option maxHeartbeats 200000 in
theorem ru_M6L {p pj p2 q qj q2 : Nat} (s1 : ru_SM5 Fin a T XL f0 nu (pj + 2) (qj + 1) p pj q qj) (s2 : ru_SS Fin a T XL f0 (nu + 1) L (pj + 3) p2 (qj + 1) q2) (c0 : co_c T pj 22) (c1 : co_c T (pj + 1) (nI (p2 + 1))) (c2 : co_c T (pj + 2) 48) (c3 : co_c T p2 54) (r0 : co_r T 0 qj 41) (r1 : co_r T 1 qj (nI (q2 + 1))) (r2 : co_r T 0 q2 48) : ru_SM6 Fin a T XL f0 nu L p (p2 + 1) q (q2 + 1) := by
  have o1 := s1.1
  have o2 := s1.2.1
  have o3 := s2.1
  have o4 := s2.2.1
  refine ⟨by omega, by omega, ?_⟩
  intro c f f1 h g np t cl vA wA v w AC hf D W K nx tr md
  refine ru_mono (s1.2.2 (c + 4 * (p2 + 1 - pj)) f f1 h g np t cl vA wA v w AC hf D W K ?_ ?_ ?_) (by omega)
  · intro f3 v3 w3 D3 W3 hf3 K3
    refine ru_mono (ru_MB (c := c) s2 c2 c3 r2 AC (by omega) D3 W3 K3 ?_) (by omega)
    intro f4 p3 h3 q3 g3 v4 w4 D4 we hf4 M
    exact md f4 p3 h3 q3 g3 v4 w4 D4 we (by omega) M
  · intro f3 v3 w3 D3 W3 hf3 K3
    exact ru_mono (ru_JUMP D3 (ru_wv W3) c0 c1 r0 r1 (nx f3 v3 w3 D3 W3 hf3 K3)) (by omega)
  · intro f3 p3 h2 q3 g2 v3 w3 D3 wt hf3 K3
    exact ru_monoL (tr f3 p3 h2 q3 g2 v3 w3 D3 wt hf3 K3) (by omega)
set_option maxHeartbeats 200000 in
theorem ru_M6Y {p p2 q q2 : Nat} (s2 : ru_SS Fin a T XL f0 (nu + 1) L (p + 1) p2 (q + 2) q2) (c2 : co_c T p 48) (c3 : co_c T p2 54) (r0 : co_r T 0 q 52) (r1 : co_r T 1 q (nI (q + 2))) (r2 : co_r T 0 q2 48) : ru_SM6 Fin a T XL f0 nu L p (p2 + 1) q (q2 + 1) := by
  have o3 := s2.1
  have o4 := s2.2.1
  refine ⟨by omega, by omega, ?_⟩
  intro c f f1 h g np t cl vA wA v w AC hf D W K nx tr md
  obtain ⟨b1, b2, b3, b4, b5, b6, b7, b8, b9, b10⟩ := id AC.1
  have eg : q_a w 2492 t = nI g := ((K.2.2.1 2492 t (by omega) (by omega) (by omega)).1).trans AC.2.2.2.2
  refine ru_rs (v1 := mR (ru_mm w t cl) (q + 2) g f (t + 1) cl) ?_ D.2.2.2.2.1.2.2.2.1 D.2.2.2.2.1.2.2.2.2 (ru_MB s2 c2 c3 r2 AC hf D W K md)
  rw [rs_step D.1 r0, rd_52, q_bv_id, r1.2, rs_mends (by omega) (by omega) eg (ru_n70 D.2.2.1), q_bv_s]; rfl
end
