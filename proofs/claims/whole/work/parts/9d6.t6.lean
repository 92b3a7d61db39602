section
variable {Fin : q_V → q_V → Prop} {a : ru_P} {T : co_T} {XL : Int32 → Int32 → Int32 → Prop} {f0 nu : Nat} {L : List (Nat × Nat)}
def ru_TFP (Fin : q_V → q_V → Prop) (a : ru_P) (T : co_T) (XL : Int32 → Int32 → Int32 → Prop) (f0 nu : Nat) (L : List (Nat × Nat)) (kF p px qx d : Nat) : Prop :=
  1 ≤ kF ∧ ∀ c f h g np t cl vc vr, ru_bd nu f f0 h g np t cl → nu + 1 ≤ 14 → ru_H np vc → ru_n Fin a T XL c f h g np t cl px qx vc vr → ru_x Fin a T XL L c f h g np t cl vc vr → ru_TF Fin a T XL L (c + kF) f h g np t cl p d vc vr
set_option maxHeartbeats 200000 in
theorem ru_TFPn {p px qx d : Nat} (hd : d < 640) (c3 : co_c T (p + 3) (nI px)) (c4 : co_c T (p + 4) 0) (r4 : co_d T 4 d (-1)) (r5 : co_d T 5 d (nI qx)) : ru_TFP Fin a T XL f0 nu L 1 p px qx d :=
  ⟨Nat.le_refl _, fun c f h g np t cl vc vr bd hn D0 n x => by
    obtain ⟨b1, b2, b3, b4, b5, b6, b7, b8, b9, b10⟩ := bd
    exact ru_TFn hd (by omega) (by omega) c3 c4 r4 r5 n x⟩
set_option maxHeartbeats 200000 in
theorem ru_TFPa {p px qx d p2 p3 q2 q3 : Nat} {y pl : Int32} (hd : d < 640) (hp2 : p3 < 6016) (hq2 : q3 < 4000) (c1 : co_c T (p + 1) pl) (c2 : co_c T (p + 2) y) (c3 : co_c T (p + 3) (nI px)) (c4 : co_c T (p + 4) (nI (p2 + 1))) (r4 : co_d T 4 d (nI (q2 + 1))) (r5 : co_d T 5 d (nI qx)) (r6 : co_d T 6 d pl)
    (s3 : ru_SS Fin a T XL f0 (nu + 1) L (p2 + 1) p3 (q2 + 1) q3) (c5 : co_c T p3 54) (r8 : co_r T 0 q3 48) : ru_TFP Fin a T XL f0 nu L (1 + 4 * (p3 + 1 - (p2 + 1)) + 1) p px qx d :=
  ⟨by omega, fun c f h g np t cl vc vr bd hn D0 n x => by
    have h1 := ru_TFa hd hp2 hq2 hn bd c1 c2 c3 c4 r4 r5 r6 s3 c5 r8 n x D0
    rw [show c + (1 + 4 * (p3 + 1 - (p2 + 1)) + 1) = c + 1 + 4 * (p3 + 1 - (p2 + 1)) + 1 from by omega]
    exact h1⟩
set_option maxHeartbeats 200000 in
/-- the block of a try is left otherwise than to be mended -/
theorem ru_TRYo {p d cF f f1 h g np t cl p'' h'' q'' g'' : Nat} {y yr : Int32} {vc vr v w : q_V} (hd : d < 640) (ht : t < 240) (hnp : np < 168) (c2 : co_c T (p + 2) y) (r8 : co_d T 8 d yr) (TF : ru_TF Fin a T XL L cF f1 h g np t cl p d vc vr) (hc : 1 ≤ cF) (hf : f ≤ f1) (D0 : ru_H np vc) (d' : ru_D T XL cl (t + 1) (np + 1) v w) (we : ru_we L v w) (K : ru_K np t h g cl vc vr v w)
    (a0 : q_f v 1200 np = 47) (a1 : q_f v 1201 np = 0) (a2 : q_f v 1202 np = nI p) (a3 : q_f v 1203 np = nI h) (zz : q_f v 1207 np = ru_z w t) (g8 : q_a w 2488 t = 4) (g1 : q_a w 2489 t = 3) (g9 : q_a w 2490 t = nI d) (z91 : q_a w 2491 t = 0) (eg : q_a w 2492 t = nI g) (hy : (y = 0 ∧ yr = -1) ∨ (q_f v 2000 168 ≠ 4 ∧ q_i w 2481 ≠ 4)) :
    ru_L Fin a (40000 * f + cF) (mC v p'' h'' f (np + 1) cl) (mR w q'' g'' f (t + 1) cl) := by
  obtain ⟨cF, rfl⟩ : ∃ k, cF = k + 1 := ⟨cF - 1, by omega⟩
  refine ru_L_l (B := 40000 * f + cF) (fun hl2 => ?_)
  rw [ru_l_mC] at hl2
  have H : ru_H np v := ru_H_e D0 K.2.2.2.2.2.1
  exact TF f p'' h'' q'' g'' p'' h'' q'' g'' v w v w hf (cs_lt0 d'.1 hnp a0 a1 a2 c2 (hy.elim (fun x => Or.inl x.1) (fun x => Or.inr x.1))) (rs_lt0 d'.1 hd ht g8 g1 g9 r8 (hy.elim (fun x => Or.inl x.2) (fun x => Or.inr x.2))) d'.2.2.2.2.1.2.2.1 (ru_we_c we) (ru_D_H (ru_D_t0 d' z91) H) we K a0 (by rw [a1]; decide) a2 a3 zz g8 g9 eg (by omega) hl2 (fun _ => rfl) rfl
set_option maxHeartbeats 200000 in
theorem ru_TRY0 {p p2 px q q2 qx d kF : Nat} {z zr : Int32} {al : Bool} (hn : nu + 1 ≤ 14) (hd : d < 640) (c0 : co_c T p 47) (c2 : co_c T (p + 2) 0) (c4 : co_c T (p + 4) z) (hz : decide (z ≠ 0) = al) (r0 : co_r T 0 q 50) (r1 : co_r T 1 q (nI d)) (r4 : co_d T 4 d zr) (hzr : decide (zr ≠ -1) = al) (r8 : co_d T 8 d (-1))
    (s : ru_SS Fin a T XL f0 (nu + 1) L (p + 5) p2 (q + 1) q2) (c5 : co_c T p2 54) (r2 : co_r T 0 q2 48) (tf : ru_TFP Fin a T XL f0 nu L kF p px qx d) (hk : kF ≤ 4 * (px - (p2 + 1)) + 2) (op : p2 < px) (oq : q2 < qx) : ru_SS Fin a T XL f0 nu L p px q qx := by
  have o1 := s.1
  have o2 := s.2.1
  have o3 := tf.1
  refine ⟨by omega, by omega, ?_⟩
  intro c f h g np t cl vc vr d0 V0 bd n x
  obtain ⟨b1, b2, b3, b4, b5, b6, b7, b8, b9, b10⟩ := id bd
  have st : fX4_step (mC vc p h f np cl) = some (mC (ru_rc vc np h p 47 al) (p + 5) h f (np + 1) cl) := by
    have := cs_RT (tr := true) (h := h) (f := f) (cl := cl) d0.1 (show np < 168 by omega) c0 c4
    rw [hz] at this; exact this
  have sr := rs_TRY (g := g) (f := f) (cl := cl) d0.1 hd (show t < 240 by omega) r0 r1 r4
  rw [hzr] at sr
  have D1 : ru_D T XL cl (t + 1) (np + 1) (ru_rc vc np h p 47 al) (ru_al (ru_op vr t g 4 3 (nI d)) al) := ru_D_t1 (ru_D_n1 (ru_D_rc (ru_D_op d0)) (by omega)) (by rw [al_a]; exact ru_op_w.2.2.2.1)
  have V1 : ru_V (ru_rc vc np h p 47 al) (ru_al (ru_op vr t g 4 3 (nI d)) al) := ⟨by rw [rc_f, bg_f (by omega)]; exact V0.1, by rw [al_i (by omega), op_i]; exact V0.2⟩
  have K1 : ru_K np t h g cl vc vr (ru_rc vc np h p 47 al) (ru_al (ru_op vr t g 4 3 (nI d)) al) := ru_K_rc (ru_K_op ru_K_id (Nat.le_refl _))
  refine ru_mono (B := 40000 * f + (c + kF) + 4 * (p2 + 1 - (p + 5)) + 1) (ru_cs st d0.2.2.2.2.1.2.2.1 V0.1 ⟨by rw [ru_l_mC, ru_l_mC, ru_l_rc]; omega, Nat.le_of_eq (ru_w_e (fun i => by rw [rc_f, bg_f (by omega)]))⟩ (ru_rs sr d0.2.2.2.2.1.2.2.2.1 d0.2.2.2.2.1.2.2.2.2 (ru_BODY s c5 r2 D1 V1 (ru_bd_up bd hn (Nat.le_refl _) (by omega) b6) ?_))) (by omega)
  intro f' p'' h'' q'' g'' v w d' we pe hf' K'
  obtain ⟨⟨a0, a1, a2, a3, a4⟩, g8, g1, g9, z91, eg⟩ := ru_afacts K'
  have Kv : ru_K np t h g cl vc vr v w := ru_K_tr K1 K' (by omega) (by omega) (Nat.le_refl _) (Nat.le_refl _) (Nat.le_refl _)
  exact ru_TRYo hd (by omega) (by omega) c2 r8 (tf.2 c f h g np t cl vc vr bd hn d0.2.2.2.2.2 n x) (by omega) hf' d0.2.2.2.2.2 d' we Kv a0 a1 a2 a3 (by rw [a4, ru_z_K Kv]; exact d0.2.2.2.2.1.2.1) g8 g1 g9 z91 eg (Or.inl ⟨rfl, rfl⟩)
set_option maxHeartbeats 200000 in
/-- a trouble's mends are asked -/
theorem ru_TRYm {p d pm pu qm qu cF f f1 h g np t cl : Nat} {y pl : Int32} {vc vr v w : q_V} (hn : nu + 1 ≤ 14) (bd : ru_bd nu f1 f0 h g np t cl) (c2 : co_c T (p + 2) y) (s6 : ru_SM6 Fin a T XL f0 nu L pm pu qm qu) (c6 : co_c T pu 49) (r6 : co_r T 0 qu 53) (TF : ru_TF Fin a T XL L cF f1 h g np t cl p d vc vr) (hc : 1 ≤ cF) (hf : f ≤ f1) (D0 : ru_H np vc)
    (Dl : ru_D T XL cl t (np + 1) v w) (we : ru_we L v w) (w4 : q_f v 2000 168 = 4 ∧ q_i w 2481 = 4 ∧ q_f v 2001 168 = q_i w 2484 ∧ 0 < q_i w 2484) (ec : q_f v 2002 168 = q_i w 2485) (K : ru_K np t h g cl vc vr v w)
    (a0 : q_f v 1200 np = 47) (a2 : q_f v 1202 np = nI p) (a3 : q_f v 1203 np = nI h) (zz : q_f v 1207 np = ru_z w t) (g8 : q_a w 2488 t = 4) (g9 : q_a w 2490 t = nI d) (eg : q_a w 2492 t = nI g) :
    ru_G Fin a (40000 * f + (cF + 1) + 4 * (pu - pm)) (mC (q_si (ru_kc v np 1) 811 pl) pm h f (np + 1) cl) (mR (ru_kt w t pl) qm g f (t + 1) cl) := by
  obtain ⟨b1, b2, b3, b4, b5, b6, b7, b8, b9, b10⟩ := id bd
  have DA : ru_D T XL cl (t + 1) (np + 1) (q_si (ru_kc v np 1) 811 pl) (ru_kt w t pl) := ru_D_i1 (ru_D_kp Dl we)
  have KA : ru_K np t h g cl vc vr (q_si (ru_kc v np 1) 811 pl) (ru_kt w t pl) := ru_K_i (ru_K_j (ru_K_kr (ru_K_kc K (Nat.le_refl _) (by omega)) (Nat.le_refl _)))
  have WA : ru_W (q_si (ru_kc v np 1) 811 pl) (ru_kt w t pl) := ⟨by rw [q_f_si]; exact kc_w, by unfold ru_kt; rw [q_i_si, if_neg (by omega), q_i_si, if_pos rfl], by unfold ru_kt; rw [q_i_si, if_pos rfl, q_i_si, if_pos rfl]⟩
  have qa : ∀ j, q_a (ru_kt w t pl) j = q_a (ru_kr w t 4) j := fun j => by unfold ru_kt; rw [q_a_si, q_a_si]
  have AC : ru_AC f0 nu h g np t cl f1 (q_si (ru_kc v np 1) 811 pl) (ru_kt w t pl) := by
    refine ⟨bd, hn, ?_, ?_, ?_⟩
    · rw [q_f_si, kc_k (by omega) (by omega) (by omega), qa, kr_a (by omega), kw_at.2.2.2.1]; exact w4.2.2.1
    · rw [q_f_si, kc_k (by omega) (by omega) (by omega), qa, kr_a (by omega), kw_at.2.2.2.2.1]; exact ec
    · rw [qa, kr_lo (by omega)]; exact eg
  have ask : ∀ f' p4 h4 q4 g4 v2 w2 v3 w1, f' ≤ f → ru_D T XL cl (t + 1) (np + 1) v3 w2 → ru_we L v3 w2 → ru_K (np + 1) (t + 1) h g cl (q_si (ru_kc v np 1) 811 pl) (ru_kt w t pl) v2 w2 → (∀ k m, m ≠ 168 → q_f v3 k m = q_f v2 k m) → q_a v3 = q_a v2 → ((q_i w2 2481 = 0 ∧ w1 = ru_s (ru_tw w2 t) t 5) ∨ (q_i w2 2481 ≠ 0 ∧ w1 = w2)) → ru_L Fin a (40000 * f' + cF) (mC v3 p4 h4 f' (np + 1) cl) (mR w1 q4 g4 f' (t + 1) cl) := by
    intro f' p4 h4 q4 g4 v2 w2 v3 w1 hf' D3 we3 K3 hq ha hw
    obtain ⟨k1, k2, k3, k4, k5, k6, kk⟩ := ru_kfacts (by omega) we (show q_f (q_si (ru_kc v np 1) 811 pl) = q_f (ru_kc v np 1) from q_f_si) (fun j _ _ => qa j) (by unfold ru_kt; rw [q_b_si, q_b_si, kr_b]) K3
    have Kv : ru_K np t h g cl vc vr v2 w2 := ru_K_tr KA K3 (by omega) (by omega) (Nat.le_refl _) (Nat.le_refl _) (Nat.le_refl _)
    have Kv3 : ru_K np t h g cl vc vr v3 w2 := ⟨fun k m y z => by rw [hq k m (by omega)]; exact Kv.1 k m y z, fun i y => by rw [ha]; exact Kv.2.1 i y, Kv.2.2.1, Kv.2.2.2.1, Kv.2.2.2.2.1, by rw [ha]; exact Kv.2.2.2.2.2.1, fun i y => by rw [hq 602 i (by omega)]; exact Kv.2.2.2.2.2.2 i y⟩
    have e3 : ∀ k, q_f v3 k np = q_f v2 k np := fun k => hq k np (by omega)
    refine ru_ASK (by omega) (by omega) c2 TF (Nat.le_trans hf' hf) D0 D3 we3 (ru_kk_c kk (fun k _ => e3 k) (fun j _ _ => rfl)) Kv3 ((e3 1200).trans ((k1 1200 (by omega) (by omega) (by omega)).trans a0)) ((e3 1201).trans k2) ((e3 1202).trans ((k1 1202 (by omega) (by omega) (by omega)).trans a2)) ((e3 1203).trans ((k1 1203 (by omega) (by omega) (by omega)).trans a3)) ?_ (k3.trans g8) k4 (k5.trans g9) (k6.trans eg) hc hw
    rw [e3 1207, k1 1207 (by omega) (by omega) (by omega), zz, ru_z_K Kv, ru_z_K K]
  refine s6.2.2 (cF + 1) f f1 h g np t cl _ _ _ _ AC hf DA WA ru_K_id ?_ ?_ ?_
  · intro f3 v3 w3 D3 W3 hf3 K3
    rw [show 40000 * f3 + (cF + 1) = 40000 * f3 + cF + 1 from by omega]
    refine ru_cs (v1 := mC (ru_be v3 1 0) (pu + 1) h f3 (np + 1) cl) ?_ D3.2.2.2.2.1.2.2.1 W3.1 ⟨Nat.le_add_right _ _, Nat.le_of_eq (ru_w_e (fun i => ?_))⟩ (ru_rl (v1 := mR (ru_s (ru_tw w3 t) t 5) (qu + 1) g f3 (t + 1) cl) ?_ D3.2.2.2.2.1.2.2.2.1 D3.2.2.2.2.1.2.2.2.2 (ask f3 (pu + 1) h (qu + 1) g v3 w3 (ru_be v3 1 0) _ hf3 (ru_D_be D3) (Or.inl ⟨rfl, W3.2.1⟩) K3 ?_ rfl (Or.inl ⟨W3.2.1, rfl⟩)))
    · rw [cs_step D3.1 c6, cd_49, q_bv_id]; rfl
    · unfold ru_be; rw [q_f_sf, if_neg (by omega), q_f_sf, if_neg (by omega)]
    · rw [rs_step D3.1 r6, rd_53, q_bv_id, mR_2487, ni_pred, rs_take (by omega), q_bv_s, mR_tw, mR_2487, ni_pred, if_neg (by rw [ni_in (show t < 240 by omega) (by omega)]; exact id), q_lt_s]
      unfold fX12_stepOfStatement_b600
      rw [q_bv_id, ni_clamp (by omega), mR_a, mR_sa]; rfl
    · intro k m hm
      unfold ru_be; rw [q_f_sf, if_neg (by omega), q_f_sf, if_neg (by omega)]
  · intro f3 p4 h4 q4 g4 v4 w4 D4 wt hf4 K4
    exact ru_monoL (ask f3 p4 h4 q4 g4 v4 w4 v4 w4 hf4 D4 (Or.inr (ru_wl_t wt)) K4 (fun _ _ _ => rfl) rfl (Or.inr ⟨(ru_wl_c (L := L) (ru_wl_t wt)).2.2, rfl⟩)) (by omega)
  · intro f3 p4 h4 q4 g4 v4 w4 D4 we4 hf4 M
    obtain ⟨m1, m2, m3, m4, m5, m6, m7⟩ := M
    have Kv : ru_K np t h g cl vc vr v4 w4 := ru_K_tr KA m7 (Nat.le_refl _) (Nat.le_refl _) (Nat.le_refl _) (Nat.le_refl _) (Nat.le_refl _)
    have mk : ∀ k, 1200 ≤ k → k < 2000 → k ≠ 1201 → q_f v4 k np = q_f v k np := fun k h1 h2 h3 => by rw [m1 k h1 h2 h3, q_f_si, kc_n (by omega) h2 h3]
    have z4 : q_f v4 1207 np = ru_z w4 t := by rw [mk 1207 (by omega) (by omega) (by omega), zz, ru_z_K Kv, ru_z_K K]
    have H : ru_H np v4 := ru_H_e D0 Kv.2.2.2.2.2.1
    have D5 : ru_D T XL cl t np (q_si v4 812 (q_f v4 1207 np)) w4 := ⟨D4.1, D4.2.1, D4.2.2.1, D4.2.2.2.1, ⟨trivial, z4, D4.2.2.2.2.1.2.2⟩, H⟩
    refine ru_monoL (B := 40000 * f3 + cF) ?_ (by omega)
    obtain ⟨cG, rfl⟩ : ∃ k, cF = k + 1 := ⟨cF - 1, by omega⟩
    refine ru_L_l (B := 40000 * f3 + cG) (fun hl2 => ?_)
    rw [ru_l_mC] at hl2
    exact TF f3 p4 h4 q4 g4 p4 h4 q4 g4 v4 w4 (q_si v4 812 (q_f v4 1207 np)) w4 (by omega) (cs_lt2 D4.1 (by omega) ((mk 1200 (by omega) (by omega) (by omega)).trans a0) m2 ((mk 1202 (by omega) (by omega) (by omega)).trans a2) c2) (rs_lt5 (by omega) (by rw [m3, qa, kr_lo (by omega)]; exact g8) m4 (by rw [m5, qa, kr_lo (by omega)]; exact g9)) D4.2.2.2.2.1.2.2.1 (ru_we_c we4) D5 (ru_we_i we4 (fun k _ _ => by rw [q_f_si]) (fun k _ _ => rfl)) Kv (by rw [q_f_si]; exact (mk 1200 (by omega) (by omega) (by omega)).trans a0) (by rw [q_f_si, m2]; decide) (by rw [q_f_si]; exact (mk 1202 (by omega) (by omega) (by omega)).trans a2) (by rw [q_f_si]; exact (mk 1203 (by omega) (by omega) (by omega)).trans a3) (by rw [q_f_si]; exact z4) (by rw [m3, qa, kr_lo (by omega)]; exact g8) (by rw [m5, qa, kr_lo (by omega)]; exact g9) (by rw [m6, qa, kr_lo (by omega)]; exact eg) (by rw [ru_l_si]; omega) (by rw [ru_l_si]; exact hl2) (fun i => by rw [q_f_si]) (by rw [q_i_si, if_neg (by omega)])
set_option maxHeartbeats 200000 in
theorem ru_TRY1 {p pu px q q2 qu qx d kF p2 : Nat} {z zr pl : Int32} {al : Bool} (hn : nu + 1 ≤ 14) (hd : d < 640) (hp2 : p2 < 6016) (hq2 : q2 < 4000) (c0 : co_c T p 47) (c1 : co_c T (p + 1) pl) (c2 : co_c T (p + 2) (nI (p2 + 1))) (c4 : co_c T (p + 4) z) (hz : decide (z ≠ 0) = al) (r0 : co_r T 0 q 50) (r1 : co_r T 1 q (nI d)) (r4 : co_d T 4 d zr) (hzr : decide (zr ≠ -1) = al) (r6 : co_d T 6 d pl) (r8 : co_d T 8 d (nI (q2 + 1)))
    (s : ru_SS Fin a T XL f0 (nu + 1) L (p + 5) p2 (q + 1) q2) (c5 : co_c T p2 54) (r2 : co_r T 0 q2 48) (s6 : ru_SM6 Fin a T XL f0 nu L (p2 + 1) pu (q2 + 1) qu) (c6 : co_c T pu 49) (r9 : co_r T 0 qu 53) (tf : ru_TFP Fin a T XL f0 nu L kF p px qx d) (hk : kF ≤ 4 * (px - (pu + 1)) + 2) (op : pu < px) (oq : qu < qx) : ru_SS Fin a T XL f0 nu L p px q qx := by
  have o1 := s.1
  have o2 := s.2.1
  have o3 := tf.1
  have o4 := s6.1
  have o5 := s6.2.1
  refine ⟨by omega, by omega, ?_⟩
  intro c f h g np t cl vc vr d0 V0 bd n x
  obtain ⟨b1, b2, b3, b4, b5, b6, b7, b8, b9, b10⟩ := id bd
  have st : fX4_step (mC vc p h f np cl) = some (mC (ru_rc vc np h p 47 al) (p + 5) h f (np + 1) cl) := by
    have := cs_RT (tr := true) (h := h) (f := f) (cl := cl) d0.1 (show np < 168 by omega) c0 c4
    rw [hz] at this; exact this
  have sr := rs_TRY (g := g) (f := f) (cl := cl) d0.1 hd (show t < 240 by omega) r0 r1 r4
  rw [hzr] at sr
  have D1 : ru_D T XL cl (t + 1) (np + 1) (ru_rc vc np h p 47 al) (ru_al (ru_op vr t g 4 3 (nI d)) al) := ru_D_t1 (ru_D_n1 (ru_D_rc (ru_D_op d0)) (by omega)) (by rw [al_a]; exact ru_op_w.2.2.2.1)
  have V1 : ru_V (ru_rc vc np h p 47 al) (ru_al (ru_op vr t g 4 3 (nI d)) al) := ⟨by rw [rc_f, bg_f (by omega)]; exact V0.1, by rw [al_i (by omega), op_i]; exact V0.2⟩
  have K1 : ru_K np t h g cl vc vr (ru_rc vc np h p 47 al) (ru_al (ru_op vr t g 4 3 (nI d)) al) := ru_K_rc (ru_K_op ru_K_id (Nat.le_refl _))
  refine ru_mono (B := 40000 * f + (c + kF + 1 + 4 * (pu - (p2 + 1)) + 1) + 4 * (p2 + 1 - (p + 5)) + 1) (ru_cs st d0.2.2.2.2.1.2.2.1 V0.1 ⟨by rw [ru_l_mC, ru_l_mC, ru_l_rc]; omega, Nat.le_of_eq (ru_w_e (fun i => by rw [rc_f, bg_f (by omega)]))⟩ (ru_rs sr d0.2.2.2.2.1.2.2.2.1 d0.2.2.2.2.1.2.2.2.2 (ru_BODY s c5 r2 D1 V1 (ru_bd_up bd hn (Nat.le_refl _) (by omega) b6) ?_))) (by omega)
  intro f' p'' h'' q'' g'' v w d' we pe hf' K'
  obtain ⟨⟨a0, a1, a2, a3, a4⟩, g8, g1, g9, z91, eg⟩ := ru_afacts K'
  have Kv : ru_K np t h g cl vc vr v w := ru_K_tr K1 K' (by omega) (by omega) (Nat.le_refl _) (Nat.le_refl _) (Nat.le_refl _)
  have zz : q_f v 1207 np = ru_z w t := by rw [a4, ru_z_K Kv]; exact d0.2.2.2.2.1.2.1
  have TF := tf.2 c f h g np t cl vc vr bd hn d0.2.2.2.2.2 n x
  rcases ru_we_4 we with w4 | w4
  · have ec : q_f v 2002 168 = q_i w 2485 := by
      rcases we with ⟨h1, -⟩ | ⟨h1, h2, h3, h4, h5, h6⟩ | ⟨h1, -⟩ | ⟨e, -, ⟨h1, -⟩ | ⟨h1, -⟩, -⟩
      · rw [h1] at w4; exact absurd w4.1 (by decide)
      · exact h4
      · rw [h1] at w4; exact absurd w4.1 (by decide)
      · rw [h1] at w4; exact absurd w4.1 (by decide)
      · rw [h1] at w4; exact absurd w4.1 (by decide)
    have s1 := cs_lt0m (p := p'') (h := h'') (f := f') (cl := cl) d'.1 (show np < 168 by omega) a0 a1 a2 a3 c1 c2 (ni_n0 (by omega) (by omega)) w4.1
    have s2 := rs_lt0m (q := q'') (g := g'') (f := f') (cl := cl) d'.1 hd (show t < 240 by omega) g8 g1 g9 eg r6 r8 (ni_n1 (by omega)) w4.2.1
    refine ru_monoL (B := 40000 * f' + (c + kF + 1) + 4 * (pu - (p2 + 1)) + 1) (ru_clL s1 d'.2.2.2.2.1.2.2.1 (ru_we_c we) ⟨by rw [ru_l_mC, ru_l_mC, ru_l_si, ru_l_kc]; omega, Nat.le_of_eq (ru_w_e (fun i => by rw [q_f_si, kc_602 (by omega)]))⟩ (ru_lz s2 rfl (by omega) (ru_TRYm hn bd c2 s6 c6 r9 TF (by omega) hf' d0.2.2.2.2.2 (ru_D_t0 d' z91) we w4 ec Kv a0 a2 a3 zz g8 g9 eg))) (by omega)
  · exact ru_monoL (ru_TRYo hd (by omega) (by omega) c2 r8 TF (by omega) hf' d0.2.2.2.2.2 d' we Kv a0 a1 a2 a3 zz g8 g1 g9 z91 eg (Or.inr w4)) (by omega)
end
