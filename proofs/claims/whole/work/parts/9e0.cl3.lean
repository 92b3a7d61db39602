def ru_at (a : ru_P) (S : Nat) : ru_P := (a.1, a.2.1, a.2.2.1, a.2.2.2.1, S)
section
variable {Fin : q_V → q_V → Prop} {a : ru_P} {T : co_T} {XL : Int32 → Int32 → Int32 → Prop} {f0 nu : Nat} {L : List (Nat × Nat)}
set_option maxHeartbeats 200000 in
theorem ru_G_0 {B : Nat} {vc vr : q_V} (h : 1 ≤ B) : ru_G Fin (ru_at a 0) B vc vr := fun s h1 h2 => absurd (show s ≤ 0 from h2) (by omega)
set_option maxHeartbeats 200000 in
theorem ru_L_0 {B : Nat} {vc vr : q_V} (h : 1 ≤ B) : ru_L Fin (ru_at a 0) B vc vr := fun s h1 h2 => absurd (show s ≤ 0 from h2) (by omega)
set_option maxHeartbeats 200000 in
theorem ru_D_tk {cl t np m : Nat} {v w : q_V} (d : ru_D T XL (cl + 1) t np v w) (ew : q_f v 602 cl = nI (m + 1)) (hm : m < 40) : ru_D T XL (cl + 1) t np (q_sf v 602 cl (nI m)) (q_sa w 2506 (upd (q_a w 2506) (cl + 1) (nI m))) := by
  obtain ⟨d1, d2, d3, d4, d5, d6⟩ := d
  refine ⟨d1, d2, d3, ?_, ⟨trivial, d5.2.1.trans (ru_z_e (by rw [q_a_sa, if_neg (by omega)])).symm, d5.2.2⟩, d6⟩
  intro i hi
  obtain ⟨h1, h2, h3, k, h4, h5, h6, h7⟩ := d4 i hi
  have e : ∀ j, j ≠ 2506 → q_a (q_sa w 2506 (upd (q_a w 2506) (cl + 1) (nI m))) j = q_a w j := fun j hj => by rw [q_a_sa, if_neg hj]
  have e6 : q_a (q_sa w 2506 (upd (q_a w 2506) (cl + 1) (nI m))) 2506 = upd (q_a w 2506) (cl + 1) (nI m) := by rw [q_a_sa, if_pos rfl]
  rw [e 2504 (by omega), e 2505 (by omega), e 2507 (by omega), e 2508 (by omega), e 2509 (by omega), e6, q_c_sf, q_f_sf, if_neg (by omega), q_f_sf, if_neg (by omega)]
  by_cases c : i = cl
  · subst c
    refine ⟨h1, h2, h3, m, by omega, by rw [q_f_sf, if_pos ⟨rfl, rfl⟩], upd_at, fun j hj => h7 j ?_⟩
    have : nI k = nI (m + 1) := h5.symm.trans ew
    rw [ni_eq (by omega) (by omega)] at this
    omega
  · exact ⟨h1, h2, h3, k, h4, by rw [q_f_sf, if_neg (by omega)]; exact h5, (upd_ne (by omega)).trans h6, h7⟩
set_option maxHeartbeats 200000 in
theorem ru_D_lb {cl t np n m : Nat} {v w : q_V} {pl : Int32} (d : ru_D T XL (cl + 1) t np v w) (we : ru_we L v w) (ew : q_f v 602 cl = nI (m + 1)) (hm : m < 40) (hl : ru_l v ≤ 2000000000) : ru_D T XL (cl + 1) (t + 1) np (ru_lc v n cl m pl) (ru_lb w t (cl + 1) m pl) := by
  have we2 : ru_we L (q_sf v 602 cl (nI m)) (q_sa w 2506 (upd (q_a w 2506) (cl + 1) (nI m))) := ru_we_i we (fun k _ _ => by rw [q_f_sf, if_neg (by omega)]) (fun k _ _ => by rw [q_i_sa])
  have h := ru_D_w (s := 10) (n := pl) (ru_D_c11 (ru_D_kp (n := n) (ph := 3) (st := 7) (ru_D_tk d ew hm) we2)) (by rw [ru_l_ct (by omega), ru_l_kc, show ru_l (q_sf v 602 cl (nI m)) = ru_l v from by unfold ru_l; rw [q_a_sf]]; exact hl)
  unfold ru_lc ru_lb
  rw [kc_wr, kc_ct, show q_i w 2476 = q_i (q_si (ru_kr (q_sa w 2506 (upd (q_a w 2506) (cl + 1) (nI m))) t 7) 2481 0) 2476 from by rw [q_i_si, if_neg (by omega), kr_i, q_i_sa]]
  exact h
set_option maxHeartbeats 200000 in
theorem lc_f {v : q_V} {np i m k n : Nat} {pl : Int32} (h : n ≠ np) (h2 : n ≠ 168) (h3 : k ≠ 602 ∨ n ≠ i) : q_f (ru_lc v np i m pl) k n = q_f v k n := by
  unfold ru_lc; rw [kc_f h h2, wr_f, ct_f, q_f_sf, if_neg (by omega)]
set_option maxHeartbeats 200000 in
theorem lc_602 {v : q_V} {np i m n : Nat} {pl : Int32} : q_f (ru_lc v np i m pl) 602 n = if n = i then nI m else q_f v 602 n := by
  unfold ru_lc; rw [kc_602 (by omega), wr_f, ct_f, q_f_sf]
  by_cases c : n = i
  · rw [if_pos ⟨rfl, c⟩, if_pos c]
  · rw [if_neg (fun z => c z.2), if_neg c]
set_option maxHeartbeats 200000 in
theorem lc_n {v : q_V} {np i m k : Nat} {pl : Int32} (hn : np ≠ 168) (h : 1200 ≤ k) (h2 : k < 2000) (h3 : k ≠ 1201) : q_f (ru_lc v np i m pl) k np = q_f v k np := by
  unfold ru_lc; rw [kc_n hn h2 h3, wr_f, ct_f, q_f_sf, if_neg (by omega)]
set_option maxHeartbeats 200000 in
theorem lb_a {w : q_V} {t d m j : Nat} {pl : Int32} (h : 2469 < j) : q_a (ru_lb w t d m pl) j = q_a (ru_kr (q_sa w 2506 (upd (q_a w 2506) d (nI m))) t 7) j := by
  unfold ru_lb; rw [nt_a h, q_a_si, q_a_si]
set_option maxHeartbeats 200000 in
theorem ru_K_lb {np t h g cl n m t' : Nat} {vc vr v w : q_V} {pl : Int32} (K : ru_K np t h g (cl + 1) vc vr v w) (hn : np ≤ n) (hn2 : np ≤ 168) (ht : t ≤ t') : ru_K np t h g (cl + 1) vc vr (ru_lc v n cl m pl) (ru_lb w t' (cl + 1) m pl) := by
  refine ⟨fun k i x y => ?_, fun i x => ?_, fun j i x y z => ⟨?_, ?_⟩, fun i x => ?_, fun i x => ?_, ?_, fun i x => ?_⟩
  · rw [lc_f (by omega) (by omega) (by omega)]; exact K.1 k i x y
  · unfold ru_lc; rw [kc_a, wr_a (by omega), ct_a (by omega), q_a_sf]; exact K.2.1 i x
  · rw [lb_a (by omega), kr_n (by omega), q_a_sa, if_neg (by omega)]; exact (K.2.2.1 j i x y z).1
  · unfold ru_lb; rw [nt_b, q_b_si, q_b_si, kr_b, q_b_sa]; exact (K.2.2.1 j i x y z).2
  · rw [lb_a (by omega), kr_lo (by omega), q_a_sa, if_neg (by omega)]; exact K.2.2.2.1 i x
  · rw [lb_a (by omega), kr_lo (by omega), q_a_sa, if_neg (by omega), lb_a (by omega), kr_lo (by omega), q_a_sa, if_neg (by omega)]; exact K.2.2.2.2.1 i x
  · unfold ru_lc; rw [kc_a, wr_a (by omega), ct_a (by omega), q_a_sf]; exact K.2.2.2.2.2.1
  · rw [lc_602, if_neg (by omega)]; exact K.2.2.2.2.2.2 i x
/-- a call that is being left: its part and region -/
def ru_IV (T : co_T) (XL : Int32 → Int32 → Int32 → Prop) (h g np t cl : Nat) (vB wB v w : q_V) : Prop :=
  ru_D T XL (cl + 1) (t + 1) (np + 1) v w ∧ ru_we [] v w ∧ ru_K np t h g (cl + 1) vB wB v w ∧ (∀ k, 1200 ≤ k → k < 2000 → k ≠ 1201 → q_f v k np = q_f vB k np) ∧ q_a w 2488 t = 1 ∧ q_a w 2492 t = nI g ∧
  ((q_f v 1201 np = 0 ∧ q_a w 2489 t = 6 ∧ q_a w 2491 t = 0) ∨ (q_f v 1201 np = 3 ∧ q_a w 2489 t = 7 ∧ ru_kk [] np t v w))
/-- the end of a call for which no later waits -/
def ru_EH (Fin : q_V → q_V → Prop) (a : ru_P) (T : co_T) (XL : Int32 → Int32 → Int32 → Prop) (cE f1 h g np t cl : Nat) (vB wB : q_V) : Prop :=
  ∀ f p0 h0 q0 g0 p1 h1 q1 g1 v0 w0 v w, f ≤ f1 → fX4_leaveTop (mC v0 p0 h0 f (np + 1) (cl + 1)) = fX4_endCall np (mC v p1 h1 f (np + 1) (cl + 1)) → rs_it (mR w0 q0 g0 f (t + 1) (cl + 1)) = fX12_leavesCall_b31 (nI t) (mR w q1 g1 f (t + 1) (cl + 1)) → q_i v0 814 = -1 → q_f v0 2000 168 ≠ 0 →
    ru_D T XL (cl + 1) t np v w → ru_we [] v w → ru_K np t h g (cl + 1) vB wB v w → q_f v 602 cl = nI 0 → q_a w 2506 (cl + 1) = nI 0 → (∀ k, 1200 ≤ k → k < 2000 → k ≠ 1201 → q_f v k np = q_f vB k np) → q_a w 2492 t = nI g → ru_l v ≤ ru_l v0 + 1 → (∀ i, q_f v 602 i = q_f v0 602 i) →
    ru_L Fin a (40000 * f + cE) (mC v0 p0 h0 f (np + 1) (cl + 1)) (mR w0 q0 g0 f (t + 1) (cl + 1))
set_option maxHeartbeats 200000 in
theorem ru_proc {h g np t cl p0 h0 q0 g0 f : Nat} {vB wB v w : q_V} (ht : t < 240) (hnp : np < 168) (a0 : q_f vB 1200 np = 53) (zz : q_f vB 1207 np = ru_z wB t) (H : ru_H np vB) (iv : ru_IV T XL h g np t cl vB wB v w) (hl : ru_l v ≤ 2000000000) :
    ∃ v1 w1, fX4_leaveTop (mC v p0 h0 f (np + 1) (cl + 1)) = fX4_leaveCall_b13 np (mC v1 p0 h0 f (np + 1) (cl + 1)) ∧ rs_it (mR w q0 g0 f (t + 1) (cl + 1)) = fX12_leavesCall_b31 (nI t) (mR w1 q0 g0 f (t + 1) (cl + 1)) ∧ ru_D T XL (cl + 1) t np v1 w1 ∧ ru_we [] v1 w1 ∧ ru_K np t h g (cl + 1) vB wB v1 w1 ∧
      (∀ k, 1200 ≤ k → k < 2000 → k ≠ 1201 → q_f v1 k np = q_f vB k np) ∧ q_a w1 2488 t = 1 ∧ q_a w1 2492 t = nI g ∧ ru_l v1 ≤ ru_l v + 1 ∧ (∀ i, q_f v1 602 i = q_f v 602 i) := by
  obtain ⟨D, we, K, kf, g8, eg, ph⟩ := iv
  have e12 : q_f v 1200 np = 53 := (kf 1200 (by omega) (by omega) (by omega)).trans a0
  rcases ph with ⟨p1, p2, p3⟩ | ⟨p1, p2, kk⟩
  · exact ⟨v, w, cs_lc0 hnp e12 (by rw [p1]; decide), rs_lc0 ht g8 (by rw [p2]; decide), ru_D_H (ru_D_t0 D p3) (ru_H_e H K.2.2.2.2.2.1), we, K, kf, g8, eg, by omega, fun _ => rfl⟩
  · have z2 : q_f v 1207 np = ru_z w t := by rw [kf 1207 (by omega) (by omega) (by omega), zz, ru_z_K K]
    refine ⟨ru_tb v np, ru_el w t, cs_lc3 hnp e12 p1, rs_lc7 ht g8 p2 (ru_n70 D.2.2.1), ru_D_tb D we kk z2 (ru_H_e H K.2.2.2.2.2.1) hl, ru_we_tb we kk, ru_K_el (ru_K_tb K (by omega)), fun k x y z => (tb_f (by omega)).trans (kf k x y z), by rw [el_a (by omega)]; exact g8, by rw [el_a (by omega)]; exact eg, ru_tb_l D.2.2.1 hl, fun i => tb_f (by omega)⟩
def ru_HL (Fin : q_V → q_V → Prop) (a : ru_P) (T : co_T) (XL : Int32 → Int32 → Int32 → Prop) (f0 : Nat) : Prop :=
  ∀ x y z, XL x y z → ∃ p q p2 q2 nu, x = nI p ∧ y = nI q ∧ co_c T (p + 1) z ∧ 1 ≤ nu ∧ nu ≤ 14 ∧ p2 < 6016 ∧ ru_SS Fin a T XL f0 nu [] (p + 5) p2 q q2 ∧ co_c T p2 54 ∧ co_r T 0 q2 48
set_option maxHeartbeats 200000 in
/-- a call is left: its laters, the latest first -/
theorem ru_EXIT {cE f1 h g np t cl : Nat} {vB wB : q_V} (hc : 1 ≤ cE) (bd : ru_bd 1 f1 f0 h g (np + 1) (t + 1) (cl + 1)) (a0 : q_f vB 1200 np = 53) (a3 : q_f vB 1203 np = nI h) (zz : q_f vB 1207 np = ru_z wB t) (H : ru_H np vB) :
    ∀ S, (∀ S', S' < S → ru_HL Fin (ru_at a S') T XL f0) → (∀ S', S' ≤ S → ru_EH Fin (ru_at a S') T XL cE f1 h g np t cl vB wB) → ∀ f p'' h'' q'' g'' v w, f ≤ f1 → ru_IV T XL h g np t cl vB wB v w → ru_L Fin (ru_at a S) (40000 * f + cE) (mC v p'' h'' f (np + 1) (cl + 1)) (mR w q'' g'' f (t + 1) (cl + 1)) := by
  obtain ⟨b1, b2, b3, b4, b5, b6, b7, b8, b9, b10⟩ := id bd
  intro S
  induction S with
  | zero => intro _ _ f p'' h'' q'' g'' v w hf iv; exact ru_L_0 (by omega)
  | succ S ih =>
    intro HLs EHs f p'' h'' q'' g'' v w hf iv
    obtain ⟨cE, rfl⟩ : ∃ k, cE = k + 1 := ⟨cE - 1, by omega⟩
    refine ru_L_l2 (B := 40000 * f + cE) (fun hl2 => ?_)
    rw [ru_l_mC] at hl2
    obtain ⟨v1, w1, e1, e2, D1, we1, K1, kf, g8, eg, l1, w602⟩ := ru_proc (p0 := p'') (h0 := h'') (q0 := q'') (g0 := g'') (f := f) (show t < 240 by omega) (show np < 168 by omega) a0 zz H iv (by omega)
    obtain ⟨h1, h2, h3, m, h4, h5, h6, h7⟩ := D1.2.2.2.1 cl (by omega)
    cases m with
    | zero =>
      rw [cs_b13z (by omega) h5] at e1
      exact EHs (S + 1) (Nat.le_refl _) f p'' h'' q'' g'' p'' h'' q'' g'' v w v1 w1 hf e1 e2 iv.1.2.2.2.2.1.2.2.1 (ru_we_c iv.2.1) D1 we1 K1 h5 h6 kf eg l1 w602
    | succ m =>
      obtain ⟨pq, qq, p2, q2, nu, x1, x2, x3, x4, x5, x6, x7, x8, x9⟩ := HLs S (by omega) _ _ _ (h7 m (by omega))
      have ep : q_f v1 1203 np = nI h := (kf 1203 (by omega) (by omega) (by omega)).trans a3
      rw [cs_b13a D1.1 (by omega) (by omega) (by omega) h5 x1 x3 ep] at e1
      rw [rs_b31a (by omega) (by omega) (by omega) h6 x2 rfl eg (ru_n70 D1.2.2.1)] at e2
      have o1 := x7.1
      have lv : ru_w (mC v p'' h'' f (np + 1) (cl + 1)) = 25000 * (m + 1) := ru_w_at (by omega) ((w602 cl).symm.trans h5) (by omega)
      have lv1 : ru_w (mC (ru_lc v1 np cl m (q_a w1 2508 (40 * (cl + 1) + m))) (pq + 5) h f (np + 1) (cl + 1)) = 25000 * m := ru_w_at (by omega) (by rw [lc_602, if_pos rfl]) (by omega)
      have ll : ru_l (ru_lc v1 np cl m (q_a w1 2508 (40 * (cl + 1) + m))) ≤ ru_l v + 2 := by
        unfold ru_lc
        rw [ru_l_kc, ru_l_wr (vc := ru_ct (q_sf v1 602 cl (nI m)) 11) (by rw [show q_a (ru_ct (q_sf v1 602 cl (nI m)) 11) 1400 16 = q_a v1 1400 16 from by unfold ru_ct; rw [q_a_sa, if_pos rfl, upd_ne (by omega), q_a_sf]]; exact ru_n16 D1.2.2.1) (by rw [ru_l_ct (by omega), show ru_l (q_sf v1 602 cl (nI m)) = ru_l v1 from by unfold ru_l; rw [q_a_sf]]; omega), ru_l_ct (by omega), show ru_l (q_sf v1 602 cl (nI m)) = ru_l v1 from by unfold ru_l; rw [q_a_sf]]; omega
      have Db : ru_D T XL (cl + 1) (t + 1) (np + 1) (ru_lc v1 np cl m (q_a w1 2508 (40 * (cl + 1) + m))) (ru_lb w1 t (cl + 1) m (q_a w1 2508 (40 * (cl + 1) + m))) := ru_D_n1 (ru_D_lb D1 we1 h5 (by omega) (by omega)) (by omega)
      have Vb : ru_V (ru_lc v1 np cl m (q_a w1 2508 (40 * (cl + 1) + m))) (ru_lb w1 t (cl + 1) m (q_a w1 2508 (40 * (cl + 1) + m))) := ⟨by unfold ru_lc; exact kc_w, by unfold ru_lb; rw [nt_i (by omega), q_i_si, if_neg (by omega), q_i_si, if_pos rfl]⟩
      have bd2 : ru_bd nu f f0 h g (np + 1) (t + 1) (cl + 1) := ⟨by omega, b2, x4, x5, by omega, b6, by omega, by omega, b9, b10⟩
      refine ru_cgL (a := ru_at a (S + 1)) (B1 := 40000 * f + (cE + 1) + 4 * (p2 + 1 - (pq + 5))) ⟨iv.1.2.2.2.2.1.2.2.1, Or.inr ⟨ru_we_c iv.2.1, e1⟩⟩ (by rw [ru_l_mC, ru_l_mC]; exact ll) (by rw [lv, lv1]; omega) ?_
      refine ru_lz e2 rfl (by omega) ?_
      refine ru_BODY x7 x8 x9 Db Vb bd2 ?_
      intro f2 p4 h4' q4 g4 v2 w2 d2 we2 pe hf2 K2
      refine ih (fun S' hS => HLs S' (by omega)) (fun S' hS => EHs S' (by omega)) f2 p4 h4' q4 g4 v2 w2 (by omega) ?_
      refine ⟨d2, we2, ru_K_tr (ru_K_lb K1 (Nat.le_refl _) (by omega) (Nat.le_refl _)) K2 (by omega) (by omega) (Nat.le_refl _) (Nat.le_refl _) (Nat.le_refl _), fun k y1 y2 y3 => ?_, ?_, ?_, Or.inr ⟨?_, ?_, ?_⟩⟩
      · rw [K2.1 k np y1 (by omega), lc_n (by omega) y1 y2 y3]; exact kf k y1 y2 y3
      · rw [(K2.2.2.1 2488 t (by omega) (by omega) (by omega)).1, lb_a (by omega), kr_lo (by omega), q_a_sa, if_neg (by omega)]; exact g8
      · rw [(K2.2.2.1 2492 t (by omega) (by omega) (by omega)).1, lb_a (by omega), kr_lo (by omega), q_a_sa, if_neg (by omega)]; exact eg
      · rw [K2.1 1201 np (by omega) (by omega)]; unfold ru_lc; exact kc_ph
      · rw [(K2.2.2.1 2489 t (by omega) (by omega) (by omega)).1, lb_a (by omega), kr_st]
      · have we3 : ru_we [] (ru_wr (ru_ct (q_sf v1 602 cl (nI m)) 11) 10 (q_a w1 2508 (40 * (cl + 1) + m))) (q_sa w1 2506 (upd (q_a w1 2506) (cl + 1) (nI m))) := ru_we_i we1 (fun k _ _ => by rw [wr_f, ct_f, q_f_sf, if_neg (by omega)]) (fun k _ _ => by rw [q_i_sa])
        refine ru_kk_c (ru_kk_k (n := np) (t := t) (ph := 3) (st := 7) we3 (by omega)) (fun k hk => ?_) (fun j j1 j2 => ?_)
        · rw [K2.1 k np hk (by omega)]; rfl
        · rw [(K2.2.2.1 j t j1 j2 (by omega)).1, lb_a (by omega)]
end
