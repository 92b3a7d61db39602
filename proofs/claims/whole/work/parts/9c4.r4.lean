section
variable {Fin : q_V → q_V → Prop} {a : ru_P} {T : co_T} {XL : Int32 → Int32 → Int32 → Prop} {f0 nu : Nat} {L : List (Nat × Nat)}
set_option maxHeartbeats 200000 in
theorem ni_n1 {x : Nat} (h : x < 2147483648) : nI x ≠ -1 := by
  intro e
  have e2 := congrArg Int32.toInt e
  rw [ni_toInt h] at e2
  have e3 : (-1 : Int32).toInt = -1 := rfl
  omega
set_option maxHeartbeats 200000 in
theorem ni_n0 {x : Nat} (h : x < 2147483648) (h0 : 0 < x) : nI x ≠ 0 := by
  rw [show (0 : Int32) = nI 0 from rfl]; exact ni_ne h (by decide) (by omega)
set_option maxHeartbeats 200000 in
theorem ru_l_ct {v : q_V} {k : Nat} (h : 16 ≠ k) : ru_l (ru_ct v k) = ru_l v := by
  unfold ru_l ru_ct; rw [q_a_sa, if_pos rfl, upd_ne h]
set_option maxHeartbeats 200000 in
theorem ru_l_rc {v : q_V} {np h p : Nat} {o : Int32} {al : Bool} : ru_l (ru_rc v np h p o al) = ru_l v := by
  unfold ru_rc
  cases al
  · rw [if_neg (by decide)]; unfold ru_l; rw [bg_a]
  · rw [if_pos rfl, ru_l_ct (by omega)]; unfold ru_l; rw [bg_a]
set_option maxHeartbeats 200000 in
theorem cs_lr1 {v v' : q_V} {p h f np cl at_ pa h' : Nat} {pl : Int32} (s : ru_S T v v') (hnp : np < 168) (a0 : q_f v 1200 np = 46) (a1 : q_f v 1201 np ≠ 3) (ea : q_f v 1202 np = nI at_) (c4 : co_c T (at_ + 4) (nI pa)) (hp : nI pa ≠ 0) (c1 : co_c T (at_ + 1) pl) (eh : q_f v 1203 np = nI h') : fX4_leaveTop (mC v p h f (np + 1) cl) = some (mC (ru_kc (ru_wr (ru_ct v 9) 11 pl) np 3) pa h' f (np + 1) cl) := by
  rw [cs_lt46 hnp a0]
  unfold fX4_leaveRound
  rw [cs_ba1 s (by omega) ea c4 hp a1 c1 eh, q_bd_s, if_neg (by decide)]
set_option maxHeartbeats 200000 in
theorem rs_lr1 {w v' : q_V} {q g f t cl d qa g' : Nat} {pl : Int32} (s : ru_S T v' w) (hd : d < 640) (ht : t < 240) (g8 : q_a w 2488 t = 3) (g1 : q_a w 2489 t = 1) (g9 : q_a w 2490 t = nI d) (r4 : co_d T 4 d (nI qa)) (hq : nI qa ≠ -1) (r6 : co_d T 6 d pl) (eg : q_a w 2492 t = nI g') (h70 : ¬ q_i w 2470 < 0) : rs_it (mR w q g f (t + 1) cl) = some (0, mR (ru_ba w t pl) qa g' f (t + 1) cl) := by
  rw [rs_it3 ht g8]
  unfold fX12_leavesLoop
  rw [if_neg (by rw [ni_in ht (by omega)]; exact id), ni_clamp (by omega), mR_a, g9, q_lt_s, if_neg (by rw [ni_neg (by omega), false_or]; omega), g1, if_neg (by decide), if_neg (by rw [ni_neg (by omega), false_or]; omega), if_pos rfl, if_neg (by rw [ni_in hd (by omega)]; exact id), ni_clamp (by omega), rs_4 s r4, if_neg hq, rs_ba s hd ht g9 r4 r6 eg h70, q_bv_s]
set_option maxHeartbeats 200000 in
theorem cs_lr2 {v v' : q_V} {p h f np cl at_ : Nat} {z : Int32} (s : ru_S T v v') (hnp : np < 168) (a0 : q_f v 1200 np = 46) (a1 : q_f v 1201 np = 3) (ea : q_f v 1202 np = nI at_) (c4 : co_c T (at_ + 4) z) : fX4_leaveTop (mC v p h f (np + 1) cl) = fX4_leaveRound_b22 np (mC (ru_tb v np) p h f (np + 1) cl) := by
  rw [cs_lt46 hnp a0]
  unfold fX4_leaveRound
  rw [cs_ba3 s ea c4 a1, q_bd_s, if_pos rfl, mC_f, if_pos a1, cs_tb, q_bv_s]
set_option maxHeartbeats 200000 in
theorem rs_lr2 {w : q_V} {q g f t cl d : Nat} (ht : t < 240) (g8 : q_a w 2488 t = 3) (g1 : q_a w 2489 t = 2) (g9 : q_a w 2490 t = nI d) (h70 : ¬ q_i w 2470 < 0) : rs_it (mR w q g f (t + 1) cl) = fX12_leavesLoop_b70 (nI t) (nI d) (mR (ru_w0 (ru_el w t) t) q g f (t + 1) cl) := by
  rw [rs_it3 ht g8]
  unfold fX12_leavesLoop fX12_leavesLoop_b55
  rw [if_neg (by rw [ni_in ht (by omega)]; exact id), ni_clamp (by omega), mR_a, g9, q_lt_s, if_neg (by rw [ni_neg (by omega), false_or]; omega), g1, if_neg (by decide), if_neg (by rw [ni_neg (by omega), false_or]; omega), if_neg (by decide), if_neg (by rw [ni_neg (by omega), false_or]; omega), if_pos rfl, rs_ea ht h70, q_bv_s]
set_option maxHeartbeats 200000 in
/-- what is known of an always part's part and region when it is left -/
theorem ru_bafacts {np t h g cl : Nat} {v w v2 w2 : q_V} {pl : Int32} (hnp : np ≠ 168) (we : ru_we L v w) (K : ru_K (np + 1) (t + 1) h g cl (ru_kc (ru_wr (ru_ct v 9) 11 pl) np 3) (ru_ba w t pl) v2 w2) :
    (∀ k, 1200 ≤ k → k < 2000 → k ≠ 1201 → q_f v2 k np = q_f v k np) ∧ q_f v2 1201 np = 3 ∧ q_a w2 2488 t = q_a w 2488 t ∧ q_a w2 2489 t = 2 ∧ q_a w2 2490 t = q_a w 2490 t ∧ q_a w2 2492 t = q_a w 2492 t ∧ q_b w2 2493 t = q_b w 2493 t ∧ q_b w2 2494 t = q_b w 2494 t ∧ ru_kk L np t v2 w2 := by
  have kf : ∀ k, 1200 ≤ k → q_f v2 k np = q_f (ru_kc (ru_wr (ru_ct v 9) 11 pl) np 3) k np := fun k hk => K.1 k np hk (by omega)
  have ka : ∀ j, 2488 ≤ j → j ≤ 2500 → q_a w2 j t = q_a (ru_ba w t pl) j t := fun j x y => (K.2.2.1 j t x y (by omega)).1
  have kb : ∀ j, 2488 ≤ j → j ≤ 2500 → q_b w2 j t = q_b (ru_ba w t pl) j t := fun j x y => (K.2.2.1 j t x y (by omega)).2
  refine ⟨fun k h1 h2 h3 => ?_, ?_, ?_, ?_, ?_, ?_, ?_, ?_, ru_kk_c (ru_kk_ba we hnp) kf ka⟩
  · rw [kf k h1, kc_n hnp h2 h3, wr_f, ct_f]
  · rw [kf 1201 (by omega), kc_ph]
  · rw [ka 2488 (by omega) (by omega), ba_a (by omega), kr_lo (by omega)]
  · rw [ka 2489 (by omega) (by omega), ba_a (by omega), kr_st]
  · rw [ka 2490 (by omega) (by omega), ba_a (by omega), kr_lo (by omega)]
  · rw [ka 2492 (by omega) (by omega), ba_a (by omega), kr_lo (by omega)]
  · rw [kb 2493 (by omega) (by omega), ba_b]
  · rw [kb 2494 (by omega) (by omega), ba_b]
set_option maxHeartbeats 200000 in
theorem ru_V_ba {v w : q_V} {n t : Nat} {pl : Int32} : ru_V (ru_kc (ru_wr (ru_ct v 9) 11 pl) n 3) (ru_ba w t pl) := ⟨kc_w, ba_w⟩
set_option maxHeartbeats 200000 in
theorem ru_z_K {np t h g cl : Nat} {vc w v w1 : q_V} (K : ru_K np t h g cl vc w v w1) : ru_z w1 t = ru_z w t := ru_z_c (fun n hn => (K.2.2.1 2491 n (by omega) (by omega) hn).1)
set_option maxHeartbeats 200000 in
/-- leaving a round's always part -/
theorem ru_RA {p d pn px qa qx c f f1 h g np t cl p4 h4 q4 g4 : Nat} {z : Int32} {vc w v2 w2 : q_V} (hL : ∀ e ∈ L, e.1 < p ∧ e.2 < d) (hat : p < 2147483648) (hd : d < 640) (ht : t < 240) (hnp : np < 168) (c2 : co_c T (p + 2) (nI pn)) (c3 : co_c T (p + 3) (nI px)) (c4 : co_c T (p + 4) z) (r3 : co_d T 3 d (nI qa)) (r5 : co_d T 5 d (nI qx))
    (nx : ru_nx Fin a T XL c f1 h g np t cl d pn qa vc w) (n : ru_n Fin a T XL c f1 h g np t cl px qx vc w) (x : ru_x Fin a T XL L c f1 h g np t cl vc w) (hf : f ≤ f1) (D0 : ru_H np vc) (d2 : ru_D T XL cl (t + 1) (np + 1) v2 w2) (we2 : ru_we ((p, d) :: L) v2 w2) (kk : ru_kk ((p, d) :: L) np t v2 w2) (Kv2 : ru_K np t h g cl vc w v2 w2)
    (a0 : q_f v2 1200 np = 46) (a1 : q_f v2 1201 np = 3) (a2 : q_f v2 1202 np = nI p) (a3 : q_f v2 1203 np = nI h) (zz : q_f v2 1207 np = ru_z w2 t) (g8 : q_a w2 2488 t = 3) (g1 : q_a w2 2489 t = 2) (g9 : q_a w2 2490 t = nI d) (eg : q_a w2 2492 t = nI g) (gb : q_b w2 2493 t = q_b w 2493 t ∧ q_b w2 2494 t = q_b w 2494 t) :
    ru_L Fin a (40000 * f + c + 1) (mC v2 p4 h4 f (np + 1) cl) (mR w2 q4 g4 f (t + 1) cl) := by
  refine ru_L_l (fun hl2 => ?_)
  have hl3 : ru_l v2 ≤ 2000000000 := hl2
  have D3 : ru_D T XL cl t np (ru_tb v2 np) (ru_w0 (ru_el w2 t) t) := ru_D_w0 (ru_D_tb d2 we2 kk zz (ru_H_e D0 Kv2.2.2.2.2.2.1) hl3)
  have W3 : ru_we ((p, d) :: L) (ru_tb v2 np) (ru_w0 (ru_el w2 t) t) := ru_we_i (ru_we_tb we2 kk) (fun k _ _ => rfl) (fun k _ _ => by rw [w0_i])
  have K3 : ru_K np t h g cl vc w (ru_tb v2 np) (ru_w0 (ru_el w2 t) t) := ru_K_w0 (ru_K_el (ru_K_tb Kv2 (by omega))) (Nat.le_refl _)
  have l3 : ru_l (ru_tb v2 np) ≤ ru_l v2 + 2 := ru_lw_tb d2.2.2.1 hl3
  have f3 : ∀ k, k < 2000 → ∀ m, q_f (ru_tb v2 np) k m = q_f v2 k m := fun k hk m => tb_f (Or.inr hk)
  have x3 : ∀ j, 2491 < j → q_a (ru_w0 (ru_el w2 t) t) j t = q_a w2 j t := fun j hj => by rw [w0_a (by omega), el_a (by omega)]
  have x8 : q_a (ru_w0 (ru_el w2 t) t) 2488 t = 3 := by rw [w0_a (by omega), el_a (by omega)]; exact g8
  have x9 : q_a (ru_w0 (ru_el w2 t) t) 2490 t = nI d := by rw [w0_a (by omega), el_a (by omega)]; exact g9
  have xb : q_b (ru_w0 (ru_el w2 t) t) 2493 t = q_b w 2493 t ∧ q_b (ru_w0 (ru_el w2 t) t) 2494 t = q_b w 2494 t := by rw [w0_b, el_b]; exact gb
  have e1 : fX4_leaveTop (mC v2 p4 h4 f (np + 1) cl) = fX4_leaveRound_b22 np (mC (ru_tb v2 np) p4 h4 f (np + 1) cl) := cs_lr2 d2.1 hnp a0 a1 a2 c4
  have e2 : rs_it (mR w2 q4 g4 f (t + 1) cl) = fX12_leavesLoop_b70 (nI t) (nI d) (mR (ru_w0 (ru_el w2 t) t) q4 g4 f (t + 1) cl) := rs_lr2 ht g8 g1 g9 (ru_n70 d2.2.2.1)
  exact ru_FH nx n x hf hL hat hd ht (by omega) c2 c3 r3 r5 e1 e2 d2.2.2.2.2.1.2.2.1 (ru_we_c we2) D3 w0_at W3 K3 ((f3 1202 (by omega) np).trans a2) ((f3 1203 (by omega) np).trans a3) x8 x9 ((x3 2492 (by omega)).trans eg) xb l3 (fun i => f3 602 (by omega) i)
set_option maxHeartbeats 200000 in
theorem ru_ROUND1 {p p2 p3 q q2 q3 d pn px qa qx : Nat} {pl : Int32} (hL : ∀ e ∈ L, e.1 < p ∧ e.2 < d) (hp2 : p3 < 6016) (hq2 : q3 < 4000) (hd : d < 640) (c0 : co_c T p 46) (c1 : co_c T (p + 1) pl) (c2 : co_c T (p + 2) (nI pn)) (c3 : co_c T (p + 3) (nI px)) (c4 : co_c T (p + 4) (nI (p2 + 1))) (r3 : co_d T 3 d (nI qa)) (r4 : co_d T 4 d (nI (q2 + 1))) (r5 : co_d T 5 d (nI qx)) (r6 : co_d T 6 d pl)
    (s : ru_SS Fin a T XL f0 (nu + 1) ((p, d) :: L) (p + 5) p2 q q2) (c5 : co_c T p2 54) (r7 : co_r T 0 q2 48) (s3 : ru_SS Fin a T XL f0 (nu + 1) ((p, d) :: L) (p2 + 1) p3 (q2 + 1) q3) (c6 : co_c T p3 54) (r8 : co_r T 0 q3 48) {c f h g np t cl : Nat} {vc w : q_V} (D : ru_D T XL cl (t + 1) np vc w) (V : ru_V vc w) (bd : ru_bd (nu + 1) f f0 h g (np + 1) (t + 1) cl) (rg : ru_rgn t d g w)
    (nx : ru_nx Fin a T XL c f h g np t cl d pn qa vc w) (n : ru_n Fin a T XL c f h g np t cl px qx vc w) (x : ru_x Fin a T XL L c f h g np t cl vc w) : ru_G Fin a (40000 * f + c + 4 * (p3 + 1 - p)) (mC vc p h f np cl) (mR (ru_rd w t true) q g f (t + 1) cl) := by
  have o1 := s.1
  have o2 := s3.1
  have o3 := s3.2.1
  obtain ⟨b1, b2, b3, b4, b5, b6, b7, b8, b9, b10⟩ := id bd
  have hz : nI (p2 + 1) ≠ 0 := ni_n0 (by omega) (by omega)
  have st : fX4_step (mC vc p h f np cl) = some (mC (ru_rc vc np h p 46 true) (p + 5) h f (np + 1) cl) := by
    have := cs_RT (tr := false) (h := h) (f := f) (cl := cl) D.1 (show np < 168 by omega) c0 c4
    rw [decide_eq_true hz] at this; exact this
  have V1 : ru_V (ru_rc vc np h p 46 true) (ru_rd w t true) := ⟨by rw [rc_f, bg_f (by omega)]; exact V.1, by rw [rd_i (by omega)]; exact V.2⟩
  have D1 : ru_D T XL cl (t + 1) (np + 1) (ru_rc vc np h p 46 true) (ru_rd w t true) := ru_D_n1 (ru_D_rc (ru_D_s9 D)) (by omega)
  refine ru_mono (B := 40000 * f + (c + 1 + 4 * (p3 + 1 - (p2 + 1)) + 1) + 4 * (p2 + 1 - (p + 5)) + 1) (ru_cs st D.2.2.2.2.1.2.2.1 V.1 ⟨by rw [ru_l_mC, ru_l_mC, ru_l_rc]; exact Nat.le_add_right _ _, Nat.le_of_eq (ru_w_e (fun i => by rw [rc_f, bg_f (by omega)]))⟩ (ru_BODY s c5 r7 D1 V1 bd ?_)) (by omega)
  intro f' p'' h'' q'' g'' v w1 d' we pe hf' K'
  obtain ⟨⟨a0, a1, a2, a3, a4⟩, g8, g1, g9, z91, eg, gb⟩ := ru_rfacts rg K'
  have H : ru_H np v := ru_H_e D.2.2.2.2.2 (K'.2.2.2.2.2.1.trans (rc_a (by omega)))
  have Kv : ru_K np t h g cl vc w v w1 := ru_K_tr (ru_K_rc (ru_K_s9 ru_K_id (Nat.le_refl _))) K' (by omega) (by omega) (Nat.le_refl _) (Nat.le_refl _) (Nat.le_refl _)
  have Dl := ru_D_t0 d' z91
  rw [show 40000 * f' + (c + 1 + 4 * (p3 + 1 - (p2 + 1)) + 1) = 40000 * f' + (c + 1) + 4 * (p3 + 1 - (p2 + 1)) + 1 from by omega]
  refine ru_L_l (fun hl => ?_)
  have hl' : ru_l v ≤ 2000000000 := by rw [ru_l_mC] at hl; exact hl
  have s1 : fX4_leaveTop (mC v p'' h'' f' (np + 1) cl) = some (mC (ru_kc (ru_wr (ru_ct v 9) 11 pl) np 3) (p2 + 1) h f' (np + 1) cl) := cs_lr1 d'.1 (by omega) a0 (by rw [a1]; decide) a2 c4 hz c1 a3
  have s2 : rs_it (mR w1 q'' g'' f' (t + 1) cl) = some (0, mR (ru_ba w1 t pl) (q2 + 1) g f' (t + 1) cl) := rs_lr1 d'.1 hd (by omega) g8 g1 g9 r4 (ni_n1 (by omega)) r6 eg (ru_n70 d'.2.2.1)
  have l1 : ru_l (ru_kc (ru_wr (ru_ct v 9) 11 pl) np 3) ≤ ru_l v + 2 := ru_lw_ba d'.2.2.1 hl'
  have Db : ru_D T XL cl (t + 1) (np + 1) (ru_kc (ru_wr (ru_ct v 9) 11 pl) np 3) (ru_ba w1 t pl) := ru_D_ba Dl we hl'
  have bd2 : ru_bd (nu + 1) f' f0 h g (np + 1) (t + 1) cl := ⟨by omega, b2, b3, b4, b5, b6, b7, b8, b9, b10⟩
  have l2 : ∀ i, q_f (ru_kc (ru_wr (ru_ct v 9) 11 pl) np 3) 602 i = q_f v 602 i := fun i => by rw [kc_602 (by omega), wr_f, ct_f]
  refine ru_clL s1 d'.2.2.2.2.1.2.2.1 (ru_we_c we) ⟨by rw [ru_l_mC, ru_l_mC]; exact l1, Nat.le_of_eq (ru_w_e l2)⟩ (ru_lz s2 rfl (by omega) (ru_BODY s3 c6 r8 Db ru_V_ba bd2 ?_))
  intro f2 p4 h4 q4 g4 v2 w2 d2 we2 pe2 hf2 K2
  obtain ⟨k1, k2, k3, k4, k5, k6, k7, k8, kk⟩ := ru_bafacts (by omega) we K2
  have Kv2 : ru_K np t h g cl vc w v2 w2 := ru_K_tr (ru_K_ba Kv (Nat.le_refl _) (Nat.le_refl _) (by omega)) K2 (by omega) (by omega) (Nat.le_refl _) (Nat.le_refl _) (Nat.le_refl _)
  have zz : q_f v2 1207 np = ru_z w2 t := by
    rw [k1 1207 (by omega) (by omega) (by omega), a4, ru_z_K Kv2, D.2.2.2.2.1.2.1, ru_z_s, rg.2.2.2.1, if_pos (by decide)]
  rw [show 40000 * f2 + (c + 1) = 40000 * f2 + c + 1 from by omega]
  exact ru_RA hL (by omega) hd (by omega) (by omega) c2 c3 c4 r3 r5 nx n x (Nat.le_trans hf2 hf') D.2.2.2.2.2 d2 we2 kk Kv2 ((k1 1200 (by omega) (by omega) (by omega)).trans a0) k2 ((k1 1202 (by omega) (by omega) (by omega)).trans a2) ((k1 1203 (by omega) (by omega) (by omega)).trans a3) zz (k3.trans g8) k4 (k5.trans g9) (k6.trans eg) ⟨k7.trans gb.1, k8.trans gb.2⟩
end
