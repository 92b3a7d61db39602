section
variable {Fin : q_V → q_V → Prop} {a : ru_P} {T : co_T} {XL : Int32 → Int32 → Int32 → Prop} {f0 nu : Nat} {L : List (Nat × Nat)}
def ru_AC (f0 nu h g np t cl f1 : Nat) (vA wA : q_V) : Prop := ru_bd nu f1 f0 h g np t cl ∧ nu + 1 ≤ 14 ∧ q_f vA 2001 np = q_a wA 2498 t ∧ q_f vA 2002 np = q_a wA 2499 t ∧ q_a wA 2492 t = nI g
/-- a LIST of a mend -/
def ru_SM5 (Fin : q_V → q_V → Prop) (a : ru_P) (T : co_T) (XL : Int32 → Int32 → Int32 → Prop) (f0 nu pt qt p p' q q' : Nat) : Prop :=
  p ≤ p' ∧ q ≤ q' ∧ ∀ c f f1 h g np t cl vA wA v w, ru_AC f0 nu h g np t cl f1 vA wA → f ≤ f1 → ru_D T XL cl (t + 1) (np + 1) v w → ru_W v w → ru_K (np + 1) (t + 1) h g cl vA wA v w →
    (∀ f' v' w', ru_D T XL cl (t + 1) (np + 1) v' w' → ru_W v' w' → f' ≤ f → ru_K (np + 1) (t + 1) h g cl vA wA v' w' → ru_G Fin a (40000 * f' + c) (mC v' pt h f' (np + 1) cl) (mR (ru_mm w' t cl) qt g f' (t + 1) cl)) →
    (∀ f' v' w', ru_D T XL cl (t + 1) (np + 1) v' w' → ru_W v' w' → f' ≤ f → ru_K (np + 1) (t + 1) h g cl vA wA v' w' → ru_G Fin a (40000 * f' + c) (mC v' p' h f' (np + 1) cl) (mR w' q' g f' (t + 1) cl)) →
    (∀ f' p'' h'' q'' g'' v' w', ru_D T XL cl (t + 1) (np + 1) v' w' → ru_wt v' w' → f' ≤ f → ru_K (np + 1) (t + 1) h g cl vA wA v' w' → ru_L Fin a (40000 * f' + c) (mC v' p'' h'' f' (np + 1) cl) (mR w' q'' g'' f' (t + 1) cl)) →
    ru_G Fin a (40000 * f + c + 4 * (p' - p)) (mC v p h f (np + 1) cl) (mR w q g f (t + 1) cl)
set_option maxHeartbeats 200000 in
theorem ru_M51 {hb p p1 q q1 pt qt : Nat} (s1 : ru_SA Fin a T XL f0 1 hb p p1 q q1) (hhb : hb + 2 * nu ≤ 142) (h1b : 1 ≤ hb) (c0 : co_c T p1 29) (c1 : co_c T (p1 + 1) (nI pt)) (r0 : co_r T 0 q1 51) (r1 : co_r T 1 q1 (nI qt)) : ru_SM5 Fin a T XL f0 nu pt qt p (p1 + 2) q (q1 + 1) := by
  have o1 := s1.1
  have o2 := s1.2.1
  refine ⟨by omega, by omega, ?_⟩
  intro c f f1 h g np t cl vA wA v w AC hf D W K hit miss tr
  obtain ⟨bd, hn, AC⟩ := AC
  obtain ⟨b1, b2, b3, b4, b5, b6, b7, b8, b9, b10⟩ := id bd
  refine ru_mono (s1.2.2 (c + 1) f h g (np + 1) (t + 1) cl v w D W (by omega) b2 (by omega) b6 (by omega) (by omega) b9 b10 ?_ ?_) (by omega)
  · intro f3 v3 w3 D3 W3 hf3 K3 E
    have E0 : q_a v3 802 h = q_a w3 2515 g := E 0 (by omega)
    have K4 : ru_K (np + 1) (t + 1) h g cl vA wA v3 w3 := ru_K_tr K K3 (Nat.le_refl _) (Nat.le_refl _) (Nat.le_refl _) (Nat.le_refl _) (Nat.le_refl _)
    have ek : q_f v3 2001 np = q_a w3 2498 t := by rw [K4.1 2001 np (by omega) (by omega), AC.1, (K4.2.2.1 2498 t (by omega) (by omega) (by omega)).1]
    have eg : q_a w3 2492 t = nI g := ((K4.2.2.1 2492 t (by omega) (by omega) (by omega)).1).trans AC.2.2
    rw [show 40000 * f3 + (c + 1) = 40000 * f3 + c + 1 from by omega]
    by_cases z : q_a v3 802 h = q_f v3 2001 np
    · refine ru_bb (w := 1) (vc1 := mC v3 pt h f3 (np + 1) cl) (vr1 := mR (ru_mm w3 t cl) qt g f3 (t + 1) cl) (by omega) ?_ ?_ D3.2.2.2.2.1.2.2.1 W3.1 D3.2.2.2.2.1.2.2.2.1 D3.2.2.2.2.1.2.2.2.2 ⟨Nat.le_add_right _ _, Nat.le_refl _⟩ (hit f3 v3 w3 D3 W3 hf3 K4)
      · rw [cs_step D3.1 c0, cd_29, q_bv_id, cs_S D3.1 c1, q_bd_s, cs_pop (by omega), q_bd_s, cs_top (by omega), q_bd_s, mC_f, if_pos z]
        unfold fX4_flow_b217 fX4_jumpIf fX4_jumpIf_b9 fX4_flow_b272
        rw [if_neg (by decide), q_lt_s, mC_s810, q_bv_s]
      · rw [rs_step D3.1 r0, rd_51, q_bv_id, r1.2, rs_pop (by omega), q_bd_s, mR_2487, ni_pred, if_neg (by rw [ni_in (show t < 240 by omega) (by omega)]; exact id), ni_clamp (by omega), mR_a, ← ek, ← E0, if_pos z]
        unfold fX12_stepOfStatement_b549 fX12_stepOfStatement_b600
        rw [rs_mends (by omega) (by omega) eg (ru_n70 D3.2.2.1), q_bv_s]
    · refine ru_bb (w := 1) (vc1 := mC v3 (p1 + 2) h f3 (np + 1) cl) (vr1 := mR w3 (q1 + 1) g f3 (t + 1) cl) (by omega) ?_ ?_ D3.2.2.2.2.1.2.2.1 W3.1 D3.2.2.2.2.1.2.2.2.1 D3.2.2.2.2.1.2.2.2.2 ⟨Nat.le_add_right _ _, Nat.le_refl _⟩ (miss f3 v3 w3 D3 W3 hf3 K4)
      · rw [cs_step D3.1 c0, cd_29, q_bv_id, cs_S D3.1 c1, q_bd_s, cs_pop (by omega), q_bd_s, cs_top (by omega), q_bd_s, mC_f, if_neg z]
        unfold fX4_flow_b217 fX4_jumpIf fX4_jumpIf_b9 fX4_flow_b272
        rw [if_pos rfl, q_bv_s]
      · rw [rs_step D3.1 r0, rd_51, q_bv_id, r1.2, rs_pop (by omega), q_bd_s, mR_2487, ni_pred, if_neg (by rw [ni_in (show t < 240 by omega) (by omega)]; exact id), ni_clamp (by omega), mR_a, ← ek, ← E0, if_neg z]
        unfold fX12_stepOfStatement_b549 fX12_stepOfStatement_b600 fX12_mends
        rw [if_pos rfl, q_bv_s]
  · intro f3 p2 h2 q2 g2 v3 w3 D3 wt hf3 K3
    exact ru_monoL (tr f3 p2 h2 q2 g2 v3 w3 D3 wt hf3 (ru_K_tr K K3 (Nat.le_refl _) (Nat.le_refl _) (Nat.le_refl _) (Nat.le_refl _) (Nat.le_refl _))) (by omega)
set_option maxHeartbeats 200000 in
theorem ru_M5A {p p1 p' q q1 q' pt qt : Nat} (s1 : ru_SM5 Fin a T XL f0 nu pt qt p p1 q q1) (s2 : ru_SM5 Fin a T XL f0 nu pt qt p1 p' q1 q') : ru_SM5 Fin a T XL f0 nu pt qt p p' q q' := by
  have o1 := s1.1
  have o2 := s1.2.1
  have o3 := s2.1
  have o4 := s2.2.1
  refine ⟨by omega, by omega, ?_⟩
  intro c f f1 h g np t cl vA wA v w AC hf D W K hit miss tr
  refine ru_mono (s1.2.2 (c + 4 * (p' - p1)) f f1 h g np t cl vA wA v w AC hf D W K ?_ ?_ ?_) (by omega)
  · intro f3 v3 w3 D3 W3 hf3 K3
    exact ru_mono (hit f3 v3 w3 D3 W3 hf3 K3) (by omega)
  · intro f3 v3 w3 D3 W3 hf3 K3
    refine ru_mono (s2.2.2 c f3 f1 h g np t cl vA wA v3 w3 AC (by omega) D3 W3 K3 ?_ ?_ ?_) (by omega)
    · intro f4 v4 w4 D4 W4 hf4 K4
      exact hit f4 v4 w4 D4 W4 (by omega) K4
    · intro f4 v4 w4 D4 W4 hf4 K4
      exact miss f4 v4 w4 D4 W4 (by omega) K4
    · intro f4 p2 h2 q2 g2 v4 w4 D4 W4 hf4 K4
      exact tr f4 p2 h2 q2 g2 v4 w4 D4 W4 (by omega) K4
  · intro f3 p2 h2 q2 g2 v3 w3 D3 wt hf3 K3
    exact ru_monoL (tr f3 p2 h2 q2 g2 v3 w3 D3 wt hf3 K3) (by omega)
def ru_MD (h g np t cl : Nat) (vA wA v w : q_V) : Prop :=
  (∀ k, 1200 ≤ k → k < 2000 → k ≠ 1201 → q_f v k np = q_f vA k np) ∧ q_f v 1201 np = 2 ∧ q_a w 2488 t = q_a wA 2488 t ∧ q_a w 2489 t = 5 ∧ q_a w 2490 t = q_a wA 2490 t ∧ q_a w 2492 t = q_a wA 2492 t ∧ ru_K np t h g cl vA wA v w
set_option maxHeartbeats 200000 in
theorem mc_f {v : q_V} {np i k n : Nat} (h : (k ≠ 603 ∧ k ≠ 604) ∨ n ≠ i) (h2 : k ≠ 1201 ∨ n ≠ np) : q_f (ru_mc v np i) k n = q_f v k n := by
  unfold ru_mc
  rw [q_f_sf, if_neg (by omega), q_f_sf, if_neg (by omega), q_f_sf, if_neg (by omega), wr_f, ct_f]
set_option maxHeartbeats 200000 in
theorem mm_a {w : q_V} {t cl j : Nat} (h : 2469 < j) (h1 : j ≠ 2489) (h2 : j ≠ 2504) (h3 : j ≠ 2505) : q_a (ru_mm w t cl) j = q_a w j := by
  unfold ru_mm
  rw [q_a_si, s_a h1, q_a_sa, if_neg h3, q_a_sa, if_neg h2, nt_a h, q_a_si]
set_option maxHeartbeats 200000 in
theorem mm_st {w : q_V} {t cl : Nat} : q_a (ru_mm w t cl) 2489 t = 5 := by
  unfold ru_mm
  rw [q_a_si, s_at]
set_option maxHeartbeats 200000 in
theorem mm_b {w : q_V} {t cl : Nat} : q_b (ru_mm w t cl) = q_b w := by
  unfold ru_mm
  rw [q_b_si, s_b, q_b_sa, q_b_sa, nt_b, q_b_si]
set_option maxHeartbeats 200000 in
theorem ru_D_fr {cl t np : Nat} {v w : q_V} {x y : Int32} (d : ru_D T XL (cl + 1) t np v w) : ru_D T XL (cl + 1) t np (q_sf (q_sf v 603 cl x) 604 cl y) (q_sa (q_sa w 2504 (upd (q_a w 2504) (cl + 1) x)) 2505 (upd (q_a w 2505) (cl + 1) y)) := by
  obtain ⟨d1, d2, d3, d4, d5, d6⟩ := d
  have e : ∀ j, j ≠ 2504 → j ≠ 2505 → q_a (q_sa (q_sa w 2504 (upd (q_a w 2504) (cl + 1) x)) 2505 (upd (q_a w 2505) (cl + 1) y)) j = q_a w j := fun j h1 h2 => by rw [q_a_sa, if_neg h2, q_a_sa, if_neg h1]
  refine ⟨d1, d2, ?_, ?_, ⟨trivial, d5.2.1.trans (ru_z_e (e 2491 (by omega) (by omega))).symm, d5.2.2⟩, d6⟩
  · exact d3
  · intro i hi
    obtain ⟨h1, h2, h3, m, h4, h5, h6, h7⟩ := d4 i hi
    rw [e 2506 (by omega) (by omega), e 2507 (by omega) (by omega), e 2508 (by omega) (by omega), e 2509 (by omega) (by omega)]
    refine ⟨h1, ?_, ?_, m, h4, ?_, h6, h7⟩
    · have ea : q_a (q_sa (q_sa w 2504 (upd (q_a w 2504) (cl + 1) x)) 2505 (upd (q_a w 2505) (cl + 1) y)) 2504 = upd (q_a w 2504) (cl + 1) x := by rw [q_a_sa, if_neg (by omega), q_a_sa, if_pos rfl]
      rw [ea, q_f_sf, if_neg (by omega), q_f_sf]
      by_cases c : i = cl
      · rw [if_pos ⟨rfl, c⟩, c, upd_at]
      · rw [if_neg (fun z => c z.2), upd_ne (by omega)]; exact h2
    · have ea : q_a (q_sa (q_sa w 2504 (upd (q_a w 2504) (cl + 1) x)) 2505 (upd (q_a w 2505) (cl + 1) y)) 2505 = upd (q_a w 2505) (cl + 1) y := by rw [q_a_sa, if_pos rfl]
      rw [ea, q_f_sf]
      by_cases c : i = cl
      · rw [if_pos ⟨rfl, c⟩, c, upd_at]
      · rw [if_neg (fun z => c z.2), upd_ne (by omega), q_f_sf, if_neg (by omega)]; exact h3
    · rw [q_f_sf, if_neg (by omega), q_f_sf, if_neg (by omega)]; exact h5
set_option maxHeartbeats 200000 in
theorem ru_D_mm {cl t t' np np' : Nat} {v w : q_V} (d : ru_D T XL (cl + 1) t np v w) (e1 : q_f v 2001 np' = q_a w 2498 t') (e2 : q_f v 2002 np' = q_a w 2499 t') (hl : ru_l v ≤ 2000000000) : ru_D T XL (cl + 1) t np (ru_mc v np' cl) (ru_mm w t' (cl + 1)) := by
  have h1 := ru_D_fr (x := q_f v 2001 np') (y := q_f v 2002 np') (ru_D_w (s := 8) (n := q_f v 2001 np') (ru_D_c13 d) hl)
  unfold ru_mc ru_mm
  rw [← e1, ← e2]
  rw [show q_a w 2504 = q_a (ru_nt (q_si w 2478 (q_i w 2478 + 1)) 8 (q_f v 2001 np')) 2504 from by rw [nt_a (by omega), q_a_si], show q_a w 2505 = q_a (ru_nt (q_si w 2478 (q_i w 2478 + 1)) 8 (q_f v 2001 np')) 2505 from by rw [nt_a (by omega), q_a_si]]
  exact ru_D_f (ru_D_j (ru_D_s9 h1) (by omega) (by omega)) (by omega)
end
