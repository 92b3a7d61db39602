section
variable {Fin : q_V → q_V → Prop} {a : ru_P} {T : co_T} {XL : Int32 → Int32 → Int32 → Prop} {f0 nu : Nat} {L : List (Nat × Nat)}
set_option maxHeartbeats 200000 in
theorem ru_S_e {v v' w w' : q_V} (s : ru_S T v w) (e1 : q_a v' = q_a v) (e2 : q_i v' 1 = q_i v 1) (e3 : q_i v' 3 = q_i v 3) (e4 : q_n v' = q_n v) (e5 : q_a w' = q_a w) : ru_S T v' w' := by
  unfold ru_S ru_B at s ⊢; rw [e1, e2, e3, e4, e5]; exact s
set_option maxHeartbeats 200000 in
theorem ru_A_e {v v' w w' : q_V} (s : ru_A v w) (e1 : q_a v' = q_a v) (e5 : q_a w' = q_a w) : ru_A v' w' := by
  unfold ru_A at s ⊢; rw [e1, e5]; exact s
set_option maxHeartbeats 200000 in
theorem ru_Q_e {v v' w w' : q_V} (s : ru_Q v w) (e1 : q_a v' = q_a v) (e5 : q_a w' = q_a w) (e6 : ∀ k, (2470 ≤ k ∧ k ≤ 2480) ∨ k = 2524 → q_i w' k = q_i w k) : ru_Q v' w' := by
  unfold ru_Q at s ⊢
  rw [e1, e5, e6 2470 (by omega), e6 2471 (by omega), e6 2472 (by omega), e6 2473 (by omega), e6 2474 (by omega), e6 2475 (by omega), e6 2476 (by omega), e6 2477 (by omega), e6 2478 (by omega), e6 2479 (by omega), e6 2480 (by omega), e6 2524 (by omega)]
  exact s
set_option maxHeartbeats 200000 in
/-- what is known of part and region behind a way that was kept -/
theorem ru_kfacts {np t h g cl : Nat} {v w v1 w1 v2 w2 : q_V} {ph st : Int32} (hnp : np ≠ 168) (we : ru_we L v w) (h1 : q_f v1 = q_f (ru_kc v np ph)) (h2 : ∀ j, 2488 ≤ j → j ≤ 2500 → q_a w1 j = q_a (ru_kr w t st) j) (h3 : q_b w1 = q_b w) (K : ru_K (np + 1) (t + 1) h g cl v1 w1 v2 w2) :
    (∀ k, 1200 ≤ k → k < 2000 → k ≠ 1201 → q_f v2 k np = q_f v k np) ∧ q_f v2 1201 np = ph ∧ q_a w2 2488 t = q_a w 2488 t ∧ q_a w2 2489 t = st ∧ q_a w2 2490 t = q_a w 2490 t ∧ q_a w2 2492 t = q_a w 2492 t ∧ ru_kk L np t v2 w2 := by
  have kf : ∀ k, 1200 ≤ k → q_f v2 k np = q_f (ru_kc v np ph) k np := fun k hk => (K.1 k np hk (by omega)).trans (by rw [h1])
  have ka : ∀ j, 2488 ≤ j → j ≤ 2500 → q_a w2 j t = q_a (ru_kr w t st) j t := fun j x y => (K.2.2.1 j t x y (by omega)).1.trans (by rw [h2 j x y])
  refine ⟨fun k h1 h2 h3 => ?_, ?_, ?_, ?_, ?_, ?_, ru_kk_c (ru_kk_k we hnp) kf ka⟩
  · rw [kf k h1, kc_n hnp h2 h3]
  · rw [kf 1201 (by omega), kc_ph]
  · rw [ka 2488 (by omega) (by omega), kr_lo (by omega)]
  · rw [ka 2489 (by omega) (by omega), kr_st]
  · rw [ka 2490 (by omega) (by omega), kr_lo (by omega)]
  · rw [ka 2492 (by omega) (by omega), kr_lo (by omega)]
set_option maxHeartbeats 200000 in
theorem ru_l_si {v : q_V} {k : Nat} {x : Int32} : ru_l (q_si v k x) = ru_l v := by unfold ru_l; rw [q_a_si]
set_option maxHeartbeats 200000 in
theorem ru_l_kc {v : q_V} {n : Nat} {ph : Int32} : ru_l (ru_kc v n ph) = ru_l v := by unfold ru_l; rw [kc_a]
set_option maxHeartbeats 200000 in
/-- what is known of part and region of an ensure behind its block -/
theorem ru_ofacts {np t h g cl p d : Nat} {vc vr v w : q_V} {o s st : Int32} (K : ru_K (np + 1) (t + 1) h g cl (ru_bg vc np h o (nI p)) (ru_op vr t g s st (nI d)) v w) :
    (q_f v 1200 np = o ∧ q_f v 1201 np = 0 ∧ q_f v 1202 np = nI p ∧ q_f v 1203 np = nI h ∧ q_f v 1207 np = q_i vc 812) ∧ (q_a w 2488 t = s ∧ q_a w 2489 t = st ∧ q_a w 2490 t = nI d ∧ q_a w 2491 t = 0 ∧ q_a w 2492 t = nI g) := by
  have kf : ∀ k, 1200 ≤ k → q_f v k np = q_f (ru_bg vc np h o (nI p)) k np := fun k hk => K.1 k np hk (by omega)
  have ka : ∀ j, 2488 ≤ j → j ≤ 2500 → q_a w j t = q_a (ru_op vr t g s st (nI d)) j t := fun j x y => (K.2.2.1 j t x y (by omega)).1
  rw [kf 1200 (by omega), kf 1201 (by omega), kf 1202 (by omega), kf 1203 (by omega), kf 1207 (by omega), ka 2488 (by omega) (by omega), ka 2489 (by omega) (by omega), ka 2490 (by omega) (by omega), ka 2491 (by omega) (by omega), ka 2492 (by omega) (by omega)]
  exact ⟨ru_bg_w, ru_op_w⟩
set_option maxHeartbeats 200000 in
theorem rs_ENS {vc vr : q_V} {q g f t cl d : Nat} (s : ru_S T vc vr) (ht : t < 240) (r0 : co_r T 0 q 60) (r1 : co_r T 1 q (nI d)) : fX12_step (mR vr q g f t cl) = some (mR (ru_op vr t g 5 8 (nI d)) (q + 1) g f (t + 1) cl) := by
  rw [rs_step s r0, rd_60, q_bv_id, r1.2, rs_opens ht, q_bv_s]; rfl
set_option maxHeartbeats 200000 in
theorem rs_JUMP {vc vr : q_V} {q g f t cl q' : Nat} (s : ru_S T vc vr) (r0 : co_r T 0 q 41) (r1 : co_r T 1 q (nI q')) : fX12_step (mR vr q g f t cl) = some (mR vr q' g f t cl) := by
  rw [rs_step s r0, rd_41, q_bv_id, r1.2, q_lt_s, mR_s2510]; rfl
set_option maxHeartbeats 200000 in
theorem ru_D_ke {cl t np n : Nat} {v w : q_V} {pl : Int32} (d : ru_D T XL cl t np v w) (we : ru_we L v w) : ru_D T XL cl (t + 1) np (q_si (ru_kc v n 1) 811 pl) (ru_ke w t pl) := ru_D_i1 (ru_D_kp d we)
set_option maxHeartbeats 200000 in
/-- an ensure's E, behind its block -/
theorem ru_ENS2 {hb p p1 px q q1 qx d c f f1 h g np t cl : Nat} {pl : Int32} {vc vr v w : q_V} (s1 : ru_SA Fin a T XL f0 1 hb (p + 5) p1 (q + 2) q1) (hhb : hb + 2 * nu ≤ 142) (h1b : 1 ≤ hb) (hn : nu + 1 ≤ 14) (hd : d < 640) (bd : ru_bd nu f1 f0 h g np t cl) (c3 : co_c T (p + 3) (nI px)) (c4 : co_c T p1 51) (r4 : co_r T 0 q1 61) (r6 : co_d T 5 d (nI qx))
    (n : ru_n Fin a T XL c f1 h g np t cl px qx vc vr) (x : ru_x Fin a T XL L c f1 h g np t cl vc vr) (hf : f ≤ f1) (D0 : ru_H np vc) (D : ru_D T XL cl t (np + 1) v w) (we : ru_we L v w) (K : ru_K np t h g cl vc vr v w)
    (a0 : q_f v 1200 np = 50) (a2 : q_f v 1202 np = nI p) (a3 : q_f v 1203 np = nI h) (zz : q_f v 1207 np = ru_z w t) (g8 : q_a w 2488 t = 5) (g9 : q_a w 2490 t = nI d) (eg : q_a w 2492 t = nI g) :
    ru_G Fin a (40000 * f + (c + 2) + 4 * (p1 - (p + 5))) (mC (q_si (ru_kc v np 1) 811 pl) (p + 5) h f (np + 1) cl) (mR (ru_ke w t pl) (q + 2) g f (t + 1) cl) := by
  obtain ⟨b1, b2, b3, b4, b5, b6, b7, b8, b9, b10⟩ := id bd
  have DE : ru_D T XL cl (t + 1) (np + 1) (q_si (ru_kc v np 1) 811 pl) (ru_ke w t pl) := ru_D_ke D we
  have KE : ru_K np t h g cl vc vr (q_si (ru_kc v np 1) 811 pl) (ru_ke w t pl) := ru_K_i (ru_K_j (ru_K_kr (ru_K_kc K (Nat.le_refl _) (by omega)) (Nat.le_refl _)))
  have WE : ru_W (q_si (ru_kc v np 1) 811 pl) (ru_ke w t pl) := ⟨by rw [q_f_si]; exact kc_w, by unfold ru_ke; rw [q_i_si, if_neg (by omega), q_i_si, if_pos rfl], by unfold ru_ke; rw [q_i_si, if_pos rfl, q_i_si, if_pos rfl]⟩
  have fin : ∀ f' p4 h4 q4 g4 v2 w2 v3 w1, f' ≤ f → ru_D T XL cl (t + 1) (np + 1) v3 w2 → ru_we L v3 w2 → ru_K (np + 1) (t + 1) h g cl (q_si (ru_kc v np 1) 811 pl) (ru_ke w t pl) v2 w2 → (∀ k m, m ≠ 168 → q_f v3 k m = q_f v2 k m) → q_a v3 = q_a v2 → ((q_i w2 2481 = 0 ∧ w1 = ru_s (ru_tw w2 t) t 10) ∨ (q_i w2 2481 ≠ 0 ∧ w1 = w2)) → ru_L Fin a (40000 * f' + c + 1) (mC v3 p4 h4 f' (np + 1) cl) (mR w1 q4 g4 f' (t + 1) cl) := by
    intro f' p4 h4 q4 g4 v2 w2 v3 w1 hf' D3 we3 K3 hq ha hw
    obtain ⟨k1, k2, k3, k4, k5, k6, kk⟩ := ru_kfacts (by omega) we (show q_f (q_si (ru_kc v np 1) 811 pl) = q_f (ru_kc v np 1) from q_f_si) (fun j _ _ => by unfold ru_ke; rw [q_a_si, q_a_si]) (by unfold ru_ke; rw [q_b_si, q_b_si, kr_b]) K3
    have Kv : ru_K np t h g cl vc vr v2 w2 := ru_K_tr KE K3 (by omega) (by omega) (Nat.le_refl _) (Nat.le_refl _) (Nat.le_refl _)
    have Kv3 : ru_K np t h g cl vc vr v3 w2 := ⟨fun k m y z => by rw [hq k m (by omega)]; exact Kv.1 k m y z, fun i y => by rw [ha]; exact Kv.2.1 i y, Kv.2.2.1, Kv.2.2.2.1, Kv.2.2.2.2.1, by rw [ha]; exact Kv.2.2.2.2.2.1, fun i y => by rw [hq 602 i (by omega)]; exact Kv.2.2.2.2.2.2 i y⟩
    have e3 : ∀ k, q_f v3 k np = q_f v2 k np := fun k => hq k np (by omega)
    refine ru_ENS3 hd (by omega) (by omega) c3 r6 n x (Nat.le_trans hf' hf) D0 D3 we3 (ru_kk_c kk (fun k _ => e3 k) (fun j _ _ => rfl)) Kv3 ((e3 1200).trans ((k1 1200 (by omega) (by omega) (by omega)).trans a0)) ((e3 1201).trans k2) ((e3 1202).trans ((k1 1202 (by omega) (by omega) (by omega)).trans a2)) ((e3 1203).trans ((k1 1203 (by omega) (by omega) (by omega)).trans a3)) ?_ (k3.trans g8) k4 (k5.trans g9) (k6.trans eg) hw
    rw [e3 1207, k1 1207 (by omega) (by omega) (by omega), zz, ru_z_K Kv, ru_z_K K]
  refine s1.2.2 (c + 2) f h g (np + 1) (t + 1) cl _ _ DE WE (by omega) b2 (by omega) b6 (by omega) (by omega) b9 b10 ?_ ?_
  · intro f3 v3 w3 D3 W3 hf3 K3 E
    have E0 : q_a v3 802 h = q_a w3 2515 g := E 0 (by omega)
    rw [show 40000 * f3 + (c + 2) = 40000 * f3 + (c + 1) + 1 from by omega]
    by_cases z : q_a v3 802 h = 0
    · refine ru_tt (x := 10) (h := h) (g := g) (p1 := p1 + 1) (h1 := h) (q1 := q1 + 1) (g1 := g) D3 W3 (by omega) (by decide) (by omega) ?_ ?_ ?_
      · intro f4 p4 h4 q4 g4 v4 w4 D4 wt hf4 K4
        exact fin f4 p4 h4 q4 g4 v4 w4 v4 w4 (by omega) D4 (Or.inr (ru_wl_t wt)) (ru_K_tr K3 K4 (Nat.le_refl _) (Nat.le_refl _) (Nat.le_refl _) (Nat.le_refl _) (Nat.le_refl _)) (fun _ _ _ => rfl) rfl (Or.inr ⟨(ru_wl_c (L := L) (ru_wl_t wt)).2.2, rfl⟩)
      · rw [cs_step D3.1 c4, cd_51, q_bv_id, mC_810, q_lt_s, cs_pop (by omega), q_bd_s]
        unfold fX4_ensured fX4_ensured_b22 fX4_beginOrEnd_b185
        rw [if_pos z, cs_trouble, q_bv_s, q_bv_s, mC_tc]
      · rw [rs_step D3.1 r4, rd_61, q_bv_id, rs_pop (by omega), q_bd_s, if_pos (by rw [← E0]; exact z)]
        unfold fX12_stepOfStatement_b430 fX12_stepOfStatement_b600 fX12_ensures
        rw [if_pos rfl, q_bv_id, q_bv_id, rs_trouble (by omega) (ru_n70 D3.2.2.1)]
    · refine ru_cs (v1 := mC (ru_be v3 1 0) (p1 + 1) h f3 (np + 1) cl) ?_ D3.2.2.2.2.1.2.2.1 W3.1 ⟨Nat.le_add_right _ _, Nat.le_of_eq (ru_w_e (fun i => ?_))⟩ (ru_rl (v1 := mR (ru_s (ru_tw w3 t) t 10) (q1 + 1) g f3 (t + 1) cl) ?_ D3.2.2.2.2.1.2.2.2.1 D3.2.2.2.2.1.2.2.2.2 (fin f3 (p1 + 1) h (q1 + 1) g v3 w3 (ru_be v3 1 0) _ hf3 (ru_D_be D3) (Or.inl ⟨rfl, W3.2.1⟩) K3 ?_ rfl (Or.inl ⟨W3.2.1, rfl⟩)))
      · rw [cs_step D3.1 c4, cd_51, q_bv_id, mC_810, q_lt_s, cs_pop (by omega), q_bd_s]
        unfold fX4_ensured fX4_ensured_b22 fX4_beginOrEnd_b185
        rw [if_neg z]; rfl
      · unfold ru_be; rw [q_f_sf, if_neg (by omega), q_f_sf, if_neg (by omega)]
      · rw [rs_step D3.1 r4, rd_61, q_bv_id, rs_pop (by omega), q_bd_s, if_neg (by rw [← E0]; exact z)]
        unfold fX12_stepOfStatement_b430 fX12_stepOfStatement_b600 fX12_ensures
        rw [if_neg (by decide), q_bv_id, mR_2487, ni_pred, rs_take (by omega), q_bv_s, mR_tw, mR_2487, ni_pred, if_neg (by rw [ni_in (show t < 240 by omega) (by omega)]; exact id), q_lt_s, q_bv_id, ni_clamp (by omega), mR_a, mR_sa]; rfl
      · intro k m hm
        unfold ru_be; rw [q_f_sf, if_neg (by omega), q_f_sf, if_neg (by omega)]
  · intro f4 p4 h4 q4 g4 v4 w4 D4 wt hf4 K4
    exact ru_monoL (fin f4 p4 h4 q4 g4 v4 w4 v4 w4 hf4 D4 (Or.inr (ru_wl_t wt)) K4 (fun _ _ _ => rfl) rfl (Or.inr ⟨(ru_wl_c (L := L) (ru_wl_t wt)).2.2, rfl⟩)) (by omega)
set_option maxHeartbeats 200000 in
theorem ru_ENSURE {hb p p1 p2 q q1 q2 d : Nat} {pl : Int32} (HO : ru_O Fin a T) (s1 : ru_SA Fin a T XL f0 1 hb (p + 5) p1 (q + 2) q1) (hhb : hb + 2 * nu ≤ 142) (h1b : 1 ≤ hb) (hn : nu + 1 ≤ 14) (hd : d < 640) (hp : p1 ≤ 6016)
    (c0 : co_c T p 50) (c1 : co_c T (p + 1) pl) (c2 : co_c T (p + 2) (nI (p1 + 1))) (c3 : co_c T (p + 3) (nI (p2 + 1))) (c4 : co_c T p1 51) (r0 : co_r T 0 q 60) (r1 : co_r T 1 q (nI d)) (r2 : co_r T 0 (q + 1) 41) (r3 : co_r T 1 (q + 1) (nI (q1 + 1))) (r4 : co_r T 0 q1 61) (r5 : co_d T 3 d (nI (q + 2))) (r6 : co_d T 5 d (nI (q2 + 1))) (r7 : co_d T 6 d pl)
    (s2 : ru_SS Fin a T XL f0 (nu + 1) L (p1 + 1) p2 (q1 + 1) q2) (c5 : co_c T p2 54) (r8 : co_r T 0 q2 48) : ru_SS Fin a T XL f0 nu L p (p2 + 1) q (q2 + 1) := by
  have o1 := s1.1
  have o2 := s1.2.1
  have o3 := s2.1
  have o4 := s2.2.1
  refine ⟨by omega, by omega, ?_⟩
  intro c f h g np t cl vc vr d0 V0 bd n x
  obtain ⟨b1, b2, b3, b4, b5, b6, b7, b8, b9, b10⟩ := id bd
  have D1 : ru_D T XL cl (t + 1) (np + 1) (ru_bg vc np h 50 (nI p)) (ru_op vr t g 5 8 (nI d)) := ru_D_t1 (ru_D_n1 (ru_D_bg (ru_D_op d0)) (by omega)) ru_op_w.2.2.2.1
  have K1 : ru_K np t h g cl vc vr (ru_bg vc np h 50 (nI p)) (ru_op vr t g 5 8 (nI d)) := ru_K_bg (ru_K_op ru_K_id (Nat.le_refl _)) (Nat.le_refl _)
  refine ru_mono (B := 40000 * f + (c + 1) + 4 * (p2 + 1 - (p1 + 1)) + 1) (ru_cs (cs_ENS d0.1 (by omega) c0 c2) d0.2.2.2.2.1.2.2.1 V0.1 ⟨Nat.le_add_right _ _, Nat.le_of_eq (ru_w_e (fun i => by rw [bg_f (by omega)]))⟩ (ru_rs (rs_ENS d0.1 (by omega) r0 r1) d0.2.2.2.2.1.2.2.2.1 d0.2.2.2.2.1.2.2.2.2 (ru_rs (rs_JUMP (ru_D_op (t := t) (g := g) (s := 5) (st := 8) (e := nI d) d0).1 r2 r3) d0.2.2.2.2.1.2.2.2.1 d0.2.2.2.2.1.2.2.2.2 (ru_BODY s2 c5 r8 D1 ⟨by rw [bg_f (by omega)]; exact V0.1, V0.2⟩ (ru_bd_up bd hn (Nat.le_refl _) (by omega) b6) ?_)))) (by omega)
  intro f' p'' h'' q'' g'' v w d' we pe hf' K'
  obtain ⟨⟨a0, a1, a2, a3, a4⟩, g8, g1, g9, z91, eg⟩ := ru_ofacts K'
  have Kv : ru_K np t h g cl vc vr v w := ru_K_tr K1 K' (by omega) (by omega) (Nat.le_refl _) (Nat.le_refl _) (Nat.le_refl _)
  have Dl := ru_D_t0 d' z91
  have it := rs_le1 (q := q'') (g := g'') (f := f') (cl := cl) d'.1 hd (show t < 240 by omega) g8 g1 g9 eg r5 r7
  rw [show 40000 * f' + (c + 1) = 40000 * f' + c + 1 from by omega]
  cases f' with
  | zero =>
    rw [rs_burn0, q_bd_s] at it
    have DE : ru_D T XL cl (t + 1) (np + 1) (q_si (ru_kc v np 1) 811 pl) (ru_ke w t pl) := ru_D_ke Dl we
    refine ru_clL (cs_le0 (by omega) a0 (by rw [a1]; decide)) d'.2.2.2.2.1.2.2.1 (ru_we_c we) ⟨Nat.le_add_right _ _, Nat.le_refl _⟩ (ru_lz it rfl (by omega) (ru_over (o := 2) HO (Or.inr rfl) ?_ ?_ ?_ (by omega) rfl rfl))
    · exact ru_S_e DE.1 (by rw [q_a_si, q_a_si, kc_a]) (by rw [q_i_si, if_neg (by omega), q_i_si, if_neg (by omega), kc_i (by omega)]) (by rw [q_i_si, if_neg (by omega), q_i_si, if_neg (by omega), kc_i (by omega)]) (by rw [q_n_si, q_n_si]; rfl) (by rw [q_a_si])
    · exact ru_A_e DE.2.1 (by rw [q_a_si, q_a_si, kc_a]) (by rw [q_a_si])
    · exact ru_Q_e DE.2.2.1 (by rw [q_a_si, q_a_si, kc_a]) (by rw [q_a_si]) (fun k hk => by rw [q_i_si, if_neg (by omega)])
  | succ f2 =>
    rw [rs_burn (by omega), q_bd_s] at it
    refine ru_monoL (B := 40000 * f2 + (c + 2) + 4 * (p1 - (p + 5)) + 1) (ru_clL (cs_le1 d'.1 (by omega) (by omega) a0 (by rw [a1]; decide) a2 a3 c1) d'.2.2.2.2.1.2.2.1 (ru_we_c we) ⟨?_, Nat.le_of_eq (ru_w_e (fun i => by rw [q_f_si, kc_602 (by omega)]))⟩ (ru_lz it rfl (by omega) (ru_ENS2 s1 hhb h1b hn hd bd c3 c4 r4 r6 n x (by omega) d0.2.2.2.2.2 Dl we Kv a0 a2 a3 ?_ g8 g9 eg))) (by omega)
    · rw [ru_l_mC, ru_l_mC, ru_l_si, ru_l_kc]; omega
    · rw [a4, ru_z_K Kv]; exact d0.2.2.2.2.1.2.1
end
