def ru_kt (w : q_V) (t : Nat) (pl : Int32) : q_V := q_si (q_si (ru_kr w t 4) 2481 0) 2511 pl
section
variable {Fin : q_V → q_V → Prop} {a : ru_P} {T : co_T} {XL : Int32 → Int32 → Int32 → Prop} {f0 nu : Nat} {L : List (Nat × Nat)}
set_option maxHeartbeats 200000 in
theorem cs_b92n {v v' : q_V} {p h f np cl at_ px : Nat} {z : Int32} (s : ru_S T v v') (ea : q_f v 1202 np = nI at_) (c4 : co_c T (at_ + 4) z) (hz : z = 0 ∨ q_f v 1201 np = 3) (c3 : co_c T (at_ + 3) (nI px)) : fX4_leaveTry_b92 np (mC v p h f (np + 1) cl) = fX4_leave np (nI px) (mC v p h f (np + 1) cl) := by
  have e : fX4_beginAlways np (mC v p h f (np + 1) cl) = some (0, mC v p h f (np + 1) cl) := by
    rcases hz with hz | hz
    · subst hz; exact cs_ba0 s ea c4
    · exact cs_ba3 s ea c4 hz
  unfold fX4_leaveTry_b92 fX4_leaveTry_b118
  rw [e, q_bd_s, if_pos rfl, mC_f, ea, ni_a3, cs_gt s c3, q_bd_s, q_bv_id]
set_option maxHeartbeats 200000 in
theorem cs_b92a {v v' : q_V} {p h f np cl at_ pa h' : Nat} {pl : Int32} (s : ru_S T v v') (hn : np ≠ 168) (ea : q_f v 1202 np = nI at_) (c4 : co_c T (at_ + 4) (nI pa)) (hp : nI pa ≠ 0) (ph : q_f v 1201 np ≠ 3) (c1 : co_c T (at_ + 1) pl) (eh : q_f v 1203 np = nI h') : fX4_leaveTry_b92 np (mC v p h f (np + 1) cl) = some (mC (ru_kc (ru_wr (ru_ct v 9) 11 pl) np 3) pa h' f (np + 1) cl) := by
  unfold fX4_leaveTry_b92 fX4_leaveTry_b118
  rw [cs_ba1 s hn ea c4 hp ph c1 eh, q_bd_s, if_neg (by decide)]
set_option maxHeartbeats 200000 in
theorem rs_b122n {w v' : q_V} {q g f t cl d qx : Nat} (s : ru_S T v' w) (hd : d < 640) (ht : t < 240) (r4 : co_d T 4 d (-1)) (r5 : co_d T 5 d (nI qx)) : fX12_leavesTrial_b122 (nI t) (nI d) (mR w q g f (t + 1) cl) = q_bd (fX12_closes (nI t) (nI qx) (mR (ru_w0 w t) q g f (t + 1) cl)) rs_01 := by
  have e4 : q_a (ru_w0 w t) 2452 d = -1 := by rw [w0_a (by omega)]; exact rs_4 s r4
  have e5 : q_a (ru_w0 w t) 2453 d = nI qx := by rw [w0_a (by omega)]; exact rs_5 s r5
  unfold fX12_leavesTrial_b122
  rw [if_neg (by rw [ni_in ht (by omega)]; exact id), q_lt_s, ni_clamp (a := t) (by omega), mR_a, mR_sa, show q_sa w 2491 (upd (q_a w 2491) t 0) = ru_w0 w t from rfl, if_neg (by rw [ni_in hd (by omega)]; exact id), ni_clamp (by omega), mR_a, e4, if_pos rfl, if_neg (by rw [ni_neg (by omega), false_or]; omega), e5]; rfl
set_option maxHeartbeats 200000 in
theorem rs_b122a {w v' v'' : q_V} {q g f t cl d qa g' : Nat} {pl : Int32} (s : ru_S T v' w) (s2 : ru_S T v'' (ru_w0 w t)) (hd : d < 640) (ht : t < 240) (g9 : q_a w 2490 t = nI d) (r4 : co_d T 4 d (nI qa)) (hq : nI qa ≠ -1) (r6 : co_d T 6 d pl) (eg : q_a w 2492 t = nI g') (h70 : ¬ q_i w 2470 < 0) : fX12_leavesTrial_b122 (nI t) (nI d) (mR w q g f (t + 1) cl) = some (0, mR (ru_ba (ru_w0 w t) t pl) qa g' f (t + 1) cl) := by
  have e4 : q_a (ru_w0 w t) 2452 d = nI qa := by rw [w0_a (by omega)]; exact rs_4 s r4
  unfold fX12_leavesTrial_b122
  rw [if_neg (by rw [ni_in ht (by omega)]; exact id), q_lt_s, ni_clamp (a := t) (by omega), mR_a, mR_sa, show q_sa w 2491 (upd (q_a w 2491) t 0) = ru_w0 w t from rfl, if_neg (by rw [ni_in hd (by omega)]; exact id), ni_clamp (by omega), mR_a, e4, if_neg hq, rs_ba s2 hd ht (by rw [w0_a (by omega)]; exact g9) r4 r6 (by rw [w0_a (by omega)]; exact eg) (by rw [w0_i]; exact h70), q_bv_s]
set_option maxHeartbeats 200000 in
/-- a try's last part, without an always part -/
theorem ru_T92n {p px qx d c f f1 h g np t cl p0 h0 q0 g0 p1 h1 q1 g1 : Nat} {vc vr v0 w0 v w : q_V} (hd : d < 640) (ht : t < 240) (hnp : np < 168) (c3 : co_c T (p + 3) (nI px)) (c4 : co_c T (p + 4) 0) (r4 : co_d T 4 d (-1)) (r5 : co_d T 5 d (nI qx))
    (n : ru_n Fin a T XL c f1 h g np t cl px qx vc vr) (x : ru_x Fin a T XL L c f1 h g np t cl vc vr) (hf : f ≤ f1)
    (e1 : fX4_leaveTop (mC v0 p0 h0 f (np + 1) cl) = fX4_leaveTry_b92 np (mC v p1 h1 f (np + 1) cl)) (e2 : rs_it (mR w0 q0 g0 f (t + 1) cl) = fX12_leavesTrial_b122 (nI t) (nI d) (mR w q1 g1 f (t + 1) cl)) (a0 : q_i v0 814 = -1) (b0 : q_f v0 2000 168 ≠ 0)
    (D : ru_D T XL cl t np v w) (we : ru_we L v w) (K : ru_K np t h g cl vc vr v w) (a2 : q_f v 1202 np = nI p) (a3 : q_f v 1203 np = nI h) (eg : q_a w 2492 t = nI g) (hl : ru_l v ≤ ru_l v0 + 2) (hv : ∀ i, q_f v 602 i = q_f v0 602 i) (h805 : q_i v 805 = q_i v0 805) :
    ru_L Fin a (40000 * f + c + 1) (mC v0 p0 h0 f (np + 1) cl) (mR w0 q0 g0 f (t + 1) cl) := by
  rw [cs_b92n D.1 a2 c4 (Or.inl rfl) c3] at e1
  rw [rs_b122n D.1 hd ht r4 r5] at e2
  exact ru_OUT n x hf e1 e2 a0 b0 ht (by omega) (ru_D_w0 D) (ru_we_i we (fun k _ _ => rfl) (fun k _ _ => by rw [w0_i])) (ru_K_w0 K (Nat.le_refl _)) a3 (by rw [w0_a (by omega)]; exact eg) ⟨hl, Nat.le_of_eq (by unfold ru_w; rw [h805, hv])⟩ (ru_w_e hv)
set_option maxHeartbeats 200000 in
theorem cs_lt3 {v v' v'' : q_V} {p h f np cl at_ px : Nat} {y z : Int32} (s : ru_S T v v') (s2 : ru_S T (ru_tb v np) v'') (hnp : np < 168) (a0 : q_f v 1200 np = 47) (a1 : q_f v 1201 np = 3) (a2 : q_f v 1202 np = nI at_) (c2 : co_c T (at_ + 2) y) (c3 : co_c T (at_ + 3) (nI px)) (c4 : co_c T (at_ + 4) z) : fX4_leaveTop (mC v p h f (np + 1) cl) = fX4_leave np (nI px) (mC (ru_tb v np) p h f (np + 1) cl) := by
  rw [cs_lt47 hnp a0]
  unfold fX4_leaveTry fX4_leaveTry_b61
  rw [mC_f, a2, ni_a2, cs_gt s c2, q_bd_s, mC_f, a1, if_neg (by decide), if_neg (by decide), if_neg (by decide), cs_tb, q_bv_s]
  exact cs_b92n s2 (by rw [tb_f (by omega)]; exact a2) c4 (Or.inr (by rw [tb_f (by omega)]; exact a1)) c3
set_option maxHeartbeats 200000 in
theorem rs_lt3 {w v' v'' : q_V} {q g f t cl d qx : Nat} (s : ru_S T v' w) (s2 : ru_S T v'' (ru_w0 (ru_el w t) t)) (hd : d < 640) (ht : t < 240) (g8 : q_a w 2488 t = 4) (g1 : q_a w 2489 t = 2) (g9 : q_a w 2490 t = nI d) (r5 : co_d T 5 d (nI qx)) (h70 : ¬ q_i w 2470 < 0) : rs_it (mR w q g f (t + 1) cl) = q_bd (fX12_closes (nI t) (nI qx) (mR (ru_w0 (ru_el w t) t) q g f (t + 1) cl)) rs_01 := by
  have e5 := rs_5 s2 r5
  rw [rs_it4 ht g8]
  unfold fX12_leavesTrial fX12_leavesTrial_b80
  rw [if_neg (by rw [ni_in ht (by omega)]; exact id), ni_clamp (by omega), mR_a, g9, q_lt_s, if_neg (by rw [ni_neg (by omega), false_or]; omega), g1, if_neg (by decide), if_neg (by rw [ni_neg (by omega), false_or]; omega), if_pos rfl, rs_ea ht h70, q_bv_s, if_neg (by rw [ni_in hd (by omega)]; exact id), ni_clamp (by omega), mR_a, e5]; rfl
set_option maxHeartbeats 200000 in
/-- a try's always part is left -/
theorem ru_T3 {p px qx d c f f1 h g np t cl p4 h4 q4 g4 : Nat} {y z : Int32} {vc vr v w : q_V} (hd : d < 640) (ht : t < 240) (hnp : np < 168) (c2 : co_c T (p + 2) y) (c3 : co_c T (p + 3) (nI px)) (c4 : co_c T (p + 4) z) (r5 : co_d T 5 d (nI qx))
    (n : ru_n Fin a T XL c f1 h g np t cl px qx vc vr) (x : ru_x Fin a T XL L c f1 h g np t cl vc vr) (hf : f ≤ f1) (D0 : ru_H np vc) (D : ru_D T XL cl (t + 1) (np + 1) v w) (we : ru_we L v w) (kk : ru_kk L np t v w) (K : ru_K np t h g cl vc vr v w)
    (a0 : q_f v 1200 np = 47) (a1 : q_f v 1201 np = 3) (a2 : q_f v 1202 np = nI p) (a3 : q_f v 1203 np = nI h) (zz : q_f v 1207 np = ru_z w t) (g8 : q_a w 2488 t = 4) (g1 : q_a w 2489 t = 2) (g9 : q_a w 2490 t = nI d) (eg : q_a w 2492 t = nI g) :
    ru_L Fin a (40000 * f + c + 1) (mC v p4 h4 f (np + 1) cl) (mR w q4 g4 f (t + 1) cl) := by
  refine ru_L_l (fun hl2 => ?_)
  have hl3 : ru_l v ≤ 2000000000 := by rw [ru_l_mC] at hl2; exact hl2
  have D3 : ru_D T XL cl t np (ru_tb v np) (ru_w0 (ru_el w t) t) := ru_D_w0 (ru_D_tb D we kk zz (ru_H_e D0 K.2.2.2.2.2.1) hl3)
  have W3 : ru_we L (ru_tb v np) (ru_w0 (ru_el w t) t) := ru_we_i (ru_we_tb we kk) (fun k _ _ => rfl) (fun k _ _ => by rw [w0_i])
  have K3 : ru_K np t h g cl vc vr (ru_tb v np) (ru_w0 (ru_el w t) t) := ru_K_w0 (ru_K_el (ru_K_tb K (by omega))) (Nat.le_refl _)
  have l3 : ru_l (ru_tb v np) ≤ ru_l v + 2 := ru_lw_tb D.2.2.1 hl3
  exact ru_OUT n x hf (cs_lt3 D.1 D3.1 hnp a0 a1 a2 c2 c3 c4) (rs_lt3 D.1 D3.1 hd ht g8 g1 g9 r5 (ru_n70 D.2.2.1)) D.2.2.2.2.1.2.2.1 (ru_we_c we) ht (by omega) D3 W3 K3 (by rw [tb_f (by omega)]; exact a3) (by rw [w0_a (by omega), el_a (by omega)]; exact eg) ⟨l3, Nat.le_of_eq (by unfold ru_w; rw [tb_f (by omega), tb_i (by omega)])⟩ (ru_w_e (fun i => tb_f (by omega)))
set_option maxHeartbeats 200000 in
/-- a try's last part, with an always part -/
theorem ru_T92a {p px qx d p2 p3 q2 q3 c f f1 h g np t cl p0 h0 q0 g0 p1 h1 q1 g1 : Nat} {y pl : Int32} {vc vr v0 w0 v w : q_V} (hd : d < 640) (hp2 : p3 < 6016) (hq2 : q3 < 4000) (hn : nu + 1 ≤ 14) (bd : ru_bd nu f1 f0 h g np t cl) (c1 : co_c T (p + 1) pl) (c2 : co_c T (p + 2) y) (c3 : co_c T (p + 3) (nI px)) (c4 : co_c T (p + 4) (nI (p2 + 1))) (r4 : co_d T 4 d (nI (q2 + 1))) (r5 : co_d T 5 d (nI qx)) (r6 : co_d T 6 d pl)
    (s3 : ru_SS Fin a T XL f0 (nu + 1) L (p2 + 1) p3 (q2 + 1) q3) (c5 : co_c T p3 54) (r8 : co_r T 0 q3 48)
    (n : ru_n Fin a T XL c f1 h g np t cl px qx vc vr) (x : ru_x Fin a T XL L c f1 h g np t cl vc vr) (hf : f ≤ f1) (D0 : ru_H np vc)
    (e1 : fX4_leaveTop (mC v0 p0 h0 f (np + 1) cl) = fX4_leaveTry_b92 np (mC v p1 h1 f (np + 1) cl)) (e2 : rs_it (mR w0 q0 g0 f (t + 1) cl) = fX12_leavesTrial_b122 (nI t) (nI d) (mR w q1 g1 f (t + 1) cl)) (a0 : q_i v0 814 = -1) (b0 : q_f v0 2000 168 ≠ 0)
    (D : ru_D T XL cl t (np + 1) v w) (we : ru_we L v w) (K : ru_K np t h g cl vc vr v w) (k0 : q_f v 1200 np = 47) (k1 : q_f v 1201 np ≠ 3) (a2 : q_f v 1202 np = nI p) (a3 : q_f v 1203 np = nI h) (zz : q_f v 1207 np = ru_z w t) (g8 : q_a w 2488 t = 4) (g9 : q_a w 2490 t = nI d) (eg : q_a w 2492 t = nI g) (hl : ru_l v ≤ ru_l v0 + 1) (hl0 : ru_l v ≤ 2000000000) (hv : ∀ i, q_f v 602 i = q_f v0 602 i) (h805 : q_i v 805 = q_i v0 805) :
    ru_L Fin a (40000 * f + (c + 1) + 4 * (p3 + 1 - (p2 + 1)) + 1) (mC v0 p0 h0 f (np + 1) cl) (mR w0 q0 g0 f (t + 1) cl) := by
  obtain ⟨b1, b2, b3, b4, b5, b6, b7, b8, b9, b10⟩ := id bd
  have o2 := s3.1
  have o3 := s3.2.1
  have Dw : ru_D T XL cl t (np + 1) v (ru_w0 w t) := ru_D_w0 D
  have Ww : ru_we L v (ru_w0 w t) := ru_we_i we (fun k _ _ => rfl) (fun k _ _ => by rw [w0_i])
  have Kw : ru_K np t h g cl vc vr v (ru_w0 w t) := ru_K_w0 K (Nat.le_refl _)
  rw [cs_b92a D.1 (by omega) a2 c4 (ni_n0 (by omega) (by omega)) k1 c1 a3] at e1
  rw [rs_b122a D.1 Dw.1 hd (by omega) g9 r4 (ni_n1 (by omega)) r6 eg (ru_n70 D.2.2.1)] at e2
  have l1 : ru_l (ru_kc (ru_wr (ru_ct v 9) 11 pl) np 3) ≤ ru_l v0 + 2 := by
    have e : ru_l (ru_kc (ru_wr (ru_ct v 9) 11 pl) np 3) = ru_l v + 1 := by
      rw [ru_l_kc, ru_l_wr (vc := ru_ct v 9) (by rw [show q_a (ru_ct v 9) 1400 16 = q_a v 1400 16 from by unfold ru_ct; rw [q_a_sa, if_pos rfl, upd_ne (by omega)]]; exact ru_n16 D.2.2.1) (by rw [ru_l_ct (by omega)]; exact hl0), ru_l_ct (by omega)]
    omega
  have l2 : ∀ i, q_f (ru_kc (ru_wr (ru_ct v 9) 11 pl) np 3) 602 i = q_f v0 602 i := fun i => by rw [kc_602 (by omega), wr_f, ct_f]; exact hv i
  refine ru_clL e1 a0 b0 ⟨by rw [ru_l_mC, ru_l_mC]; exact l1, Nat.le_of_eq (ru_w_e l2)⟩ (ru_lz e2 rfl (by omega) (ru_BODY s3 c5 r8 (ru_D_ba Dw Ww hl0) ru_V_ba (ru_bd_up bd hn hf (by omega) b6) ?_))
  intro f2 p4 h4 q4 g4 v2 w2 d2 we2 pe2 hf2 K2
  obtain ⟨j1, j2, j3, j4, j5, j6, j7, j8, kk⟩ := ru_bafacts (by omega) Ww K2
  have Kv2 : ru_K np t h g cl vc vr v2 w2 := ru_K_tr (ru_K_ba Kw (Nat.le_refl _) (Nat.le_refl _) (by omega)) K2 (by omega) (by omega) (Nat.le_refl _) (Nat.le_refl _) (Nat.le_refl _)
  rw [show 40000 * f2 + (c + 1) = 40000 * f2 + c + 1 from by omega]
  refine ru_T3 hd (by omega) (by omega) c2 c3 c4 r5 n x (Nat.le_trans hf2 hf) D0 d2 we2 kk Kv2 ((j1 1200 (by omega) (by omega) (by omega)).trans k0) j2 ((j1 1202 (by omega) (by omega) (by omega)).trans a2) ((j1 1203 (by omega) (by omega) (by omega)).trans a3) ?_ (j3.trans (by rw [w0_a (by omega)]; exact g8)) j4 (j5.trans (by rw [w0_a (by omega)]; exact g9)) (j6.trans (by rw [w0_a (by omega)]; exact eg))
  rw [j1 1207 (by omega) (by omega) (by omega), zz, ru_z_K Kv2, ru_z_K K]
end
