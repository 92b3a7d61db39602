section
variable {Fin : q_V → q_V → Prop} {a : ru_P} {T : co_T} {XL : Int32 → Int32 → Int32 → Prop} {f0 nu : Nat} {L : List (Nat × Nat)}
/-- a hold begins -/
def ru_hb (vc : q_V) (m : Nat) : Bool := decide (q_a vc 203 m + 1 = 1)
def ru_h1 (vc : q_V) (m np h p1 : Nat) : q_V := q_sf (ru_bg (ru_ow (ru_hb vc m) (ru_ct (ru_hc vc m 1) 6) 1 (nI m)) np h 45 (nI p1)) 1204 np (nI m)
def ru_h0r (vc vr : q_V) (m t g : Nat) : q_V := ru_op (ru_on (ru_hb vc m) (q_si (ru_hr vr m 1) 2471 (q_i (ru_hr vr m 1) 2471 + 1)) 1 (nI m)) t g 2 0 (nI m)
def ru_h1r (vc vr : q_V) (m t g q' : Nat) : q_V := q_sb (ru_h0r vc vr m t g) 2493 (vp_updL (q_b (ru_h0r vc vr m t g) 2493) t (nI q').toInt64)
set_option maxHeartbeats 200000 in
theorem cs_HOLD {vc vr : q_V} {m p1 h f np cl w : Nat} (d1 : ru_S T vc vr) (hm : m < 6) (hh : h < 1680) (hnp : np < 168) (c0 : co_c T p1 45) (e : q_a vc 802 h = nI m) (ew : q_a vc 203 m = nI w) (hw : w ≤ 168) : fX4_step (mC vc p1 (h + 1) f np cl) = some (mC (ru_h1 vc m np h p1) (p1 + 1) h f (np + 1) cl) := by
  have n1 : ¬ q_a vc 203 m + 1 = -1 := by
    rw [ew, ni_add1]; intro x1
    have x2 := congrArg Int32.toInt x1
    rw [ni_toInt (by omega)] at x2
    have x3 : (-1 : Int32).toInt = -1 := rfl
    omega
  rw [cs_step d1 c0, cd_45, q_bv_id, mC_810, ni_pred, q_lt_s, cs_pop hh, q_bd_s, e]
  unfold fX4_hold
  rw [cs_addHold hm, q_bd_s, mC_a, if_neg n1, cs_ct6, q_bv_s, cs_ow (k := fun T => fX4_hold_b44 (nI m) (nI p1) T), mC_hc, mC_ct, mC_ow]
  unfold fX4_hold_b44 fX4_beginOrEnd_b185
  rw [cs_begin hnp, q_bd_s, q_lt_s, mC_sf, q_bv_id]; rfl
set_option maxHeartbeats 200000 in
theorem rs_HOLD {vc vr : q_V} {m q1 g f t cl q' : Nat} (d1 : ru_S T vc vr) (hm : m < 6) (hg : g < 4000) (ht : t < 240) (r0 : co_r T 0 q1 49) (r1 : co_r T 1 q1 (nI q')) (e : q_a vr 2515 g = nI m) (ew' : q_a vr 2465 m = q_a vc 203 m) (h70 : ¬ q_i vr 2470 < 0) : fX12_step (mR vr q1 (g + 1) f t cl) = some (mR (ru_h1r vc vr m t g q') (q1 + 1) g f (t + 1) cl) := by
  have z2 : ¬ (nI m < 0 ∨ 5 < nI m) := by
    rw [ni_neg (by omega), show (5 : Int32) = nI 5 from rfl, ni_lt (by omega) (by omega)]; simp; omega
  have e1 : ∀ v : q_V, q_sa v 2465 (upd (q_a v 2465) m (q_a v 2465 m + 1)) = ru_hr v m 1 := fun _ => rfl
  rw [rs_step d1 r0, rd_49, q_bv_id, rs_pop hg, q_bd_s, e, r1.2]
  unfold fX12_takes fX12_stepOfStatement_b600
  rw [rs_in, q_bd_s, if_neg z2, if_neg (by decide), if_neg (by rw [ni_in hm (by omega)]; exact id), if_neg (by rw [ni_in hm (by omega)]; exact id), q_lt_s, q_lt_s, if_neg (by rw [ni_in hm (by omega)]; exact id), ni_clamp (by omega), e1, mR_hr, mR_s2471]
  rw [rs_on (k := fun T => fX12_takes_b51 (nI m) (nI q') T) (by exact h70), mR_on, mR_a, q_a_si, hr_at, ew']
  unfold fX12_takes_b51
  rw [rs_opens ht, q_bv_s, mR_2487, ni_pred, if_neg (by rw [ni_in ht (by omega)]; exact id), q_lt_s, ni_clamp (by omega), q_bv_s, mR_sb, mR_b]; rfl
set_option maxHeartbeats 200000 in
theorem ru_D_h1 {cl t np m h g p1 q' w : Nat} {vc vr : q_V} (d : ru_D T XL cl t np vc vr) (hm : m < 6) (ew : q_a vc 203 m = nI w) (hw : w ≤ np) (hl : ru_l vc ≤ 2000000000) : ru_D T XL cl (t + 1) (np + 1) (ru_h1 vc m np h p1) (ru_h1r vc vr m t g q') := by
  have H1 : ru_H (np + 1) (ru_hc vc m 1) := by
    intro k hk
    by_cases c9 : k = m
    · subst c9
      exact ⟨w + 1, by omega, by rw [hc_at, ew, ni_add1]⟩
    · obtain ⟨w', h1, h2⟩ := d.2.2.2.2.2 k hk
      refine ⟨w', by omega, ?_⟩
      unfold ru_hc
      rw [q_a_sa, if_pos rfl, upd_ne c9, h2]
  have D1 : ru_D T XL cl t (np + 1) (ru_h1 vc m np h p1) (ru_h1r vc vr m t g q') := by
    unfold ru_h1 ru_h1r
    refine ru_D_b (ru_D_f (ru_D_bg ?_) (by omega))
    unfold ru_h0r
    exact ru_D_op (ru_D_ow (ru_D_c6 (ru_D_h d H1)) hl)
  refine ru_D_t1 D1 ?_
  unfold ru_h1r ru_h0r
  rw [q_a_sb]; exact ru_op_w.2.2.2.1
set_option maxHeartbeats 200000 in
theorem ru_K_h1 {np t h g cl m p1 q' : Nat} {vc vr : q_V} : ru_K np t h g cl (ru_hc vc m 1) (ru_hr vr m 1) (ru_h1 vc m np h p1) (ru_h1r vc vr m t g q') := by
  unfold ru_h1 ru_h1r
  refine ru_K_b (ru_K_f (ru_K_bg ?_ (Nat.le_refl _)) (Nat.le_refl _) (by omega)) (Nat.le_refl _)
  unfold ru_h0r
  refine ru_K_op (ru_K_ow (ru_K_j (ru_K_ct ru_K_id))) (Nat.le_refl _)
set_option maxHeartbeats 200000 in
theorem ru_h1_f {vc : q_V} {m np h p1 : Nat} : q_f (ru_h1 vc m np h p1) 1200 np = 45 ∧ q_f (ru_h1 vc m np h p1) 1203 np = nI h ∧ q_f (ru_h1 vc m np h p1) 1204 np = nI m ∧ q_f (ru_h1 vc m np h p1) 2000 168 = q_f vc 2000 168 ∧ ∀ i, q_f (ru_h1 vc m np h p1) 602 i = q_f vc 602 i := by
  unfold ru_h1
  refine ⟨?_, ?_, ?_, ?_, fun i => ?_⟩
  · rw [q_f_sf, if_neg (by omega)]; exact ru_bg_w.1
  · rw [q_f_sf, if_neg (by omega)]; exact ru_bg_w.2.2.2.1
  · rw [q_f_sf, if_pos ⟨rfl, rfl⟩]
  · rw [q_f_sf, if_neg (by omega), bg_f (by omega), ow_f]; rfl
  · rw [q_f_sf, if_neg (by omega), bg_f (by omega), ow_f]; rfl
set_option maxHeartbeats 200000 in
theorem ru_h1_r {vc vr : q_V} {m t g q' : Nat} : q_a (ru_h1r vc vr m t g q') 2488 t = 2 ∧ q_a (ru_h1r vc vr m t g q') 2490 t = nI m ∧ q_a (ru_h1r vc vr m t g q') 2491 t = 0 ∧ q_a (ru_h1r vc vr m t g q') 2492 t = nI g ∧ q_b (ru_h1r vc vr m t g q') 2493 t = (nI q').toInt64 ∧ q_i (ru_h1r vc vr m t g q') 2481 = q_i vr 2481 := by
  unfold ru_h1r ru_h0r
  rw [q_a_sb, q_i_sb, q_b_sb, if_pos rfl, op_i, on_i (by omega), q_i_si, if_neg (by omega)]
  refine ⟨ru_op_w.1, ru_op_w.2.2.1, ru_op_w.2.2.2.1, ru_op_w.2.2.2.2, ?_, rfl⟩
  unfold vp_updL; rw [if_pos rfl]
/-- a hold ends -/
def ru_h2 (v : q_V) (m : Nat) : q_V := ru_ow (decide (q_a v 203 m + -1 = 0)) (ru_hc (ru_ct v 7) m (-1)) 2 (nI m)
def ru_h2r (v w : q_V) (m : Nat) : q_V := ru_on (decide (q_a v 203 m + -1 = 0)) (ru_hr (q_si w 2472 (q_i w 2472 + 1)) m (-1)) 2 (nI m)
set_option maxHeartbeats 200000 in
theorem cs_HOLD2 {v : q_V} {m p h f np cl : Nat} (hm : m < 6) (hnp : np < 168) (a1 : q_f v 1200 np = 45) (a3 : q_f v 1204 np = nI m) : fX4_leaveTop (mC v p h f (np + 1) cl) = fX4_leave np (nI p) (mC (ru_h2 v m) p h f (np + 1) cl) := by
  rw [cs_lt45 hnp a1]
  unfold fX4_leaveHold
  rw [cs_ct7, q_bv_s, mC_ct, mC_f, ct_f, a3, cs_addHold hm, q_bd_s, mC_hc, mC_f, hc_f, ct_f, a3, mC_a, ct_a (by omega), cs_ow (k := fun T => fX4_leaveHold_b36 np T), mC_ow]
  unfold fX4_leaveHold_b36
  rw [q_bv_id, mC_810]; rfl
set_option maxHeartbeats 200000 in
theorem rs_HOLD2 {v w : q_V} {m q g f t cl q' : Nat} (hm : m < 6) (ht : t < 240) (g1 : q_a w 2488 t = 2) (g2 : q_a w 2490 t = nI m) (g5 : q_b w 2493 t = (nI q').toInt64) (e465 : q_a w 2465 m = q_a v 203 m) (h70 : ¬ q_i w 2470 < 0) : rs_it (mR w q g f (t + 1) cl) = q_bd (fX12_closes (nI t) (nI q') (mR (ru_h2r v w m) q g f (t + 1) cl)) rs_01 := by
  have e1 : ∀ v : q_V, q_sa v 2465 (upd (q_a v 2465) m (q_a v 2465 m - 1)) = ru_hr v m (-1) := fun v => by rw [Int32.sub_eq_add_neg]; rfl
  have e2 : q_si (ru_hr w m (-1)) 2472 (q_i (ru_hr w m (-1)) 2472 + 1) = ru_hr (q_si w 2472 (q_i w 2472 + 1)) m (-1) := rfl
  rw [rs_it2 ht g1]
  unfold fX12_leavesHold
  rw [if_neg (by rw [ni_in ht (by omega)]; exact id), ni_clamp (by omega), mR_a, g2, q_lt_s, if_neg (by rw [ni_in hm (by omega)]; exact id), if_neg (by rw [ni_in hm (by omega)]; exact id), q_lt_s, q_lt_s, if_neg (by rw [ni_in hm (by omega)]; exact id), ni_clamp (by omega), show q_a w 2465 = q_a (mR w q g f (t + 1) cl) 2465 from rfl, e1, mR_hr, mR_s2472, show q_i (mR (ru_hr w m (-1)) q g f (t + 1) cl) 2472 = q_i (ru_hr w m (-1)) 2472 from rfl, e2]
  rw [rs_on (k := fun T => fX12_leavesHold_b42 (nI t) T) (by exact h70), mR_on, mR_a, hr_at, q_a_si, e465]
  unfold fX12_leavesHold_b42
  rw [if_neg (by rw [ni_in ht (by omega)]; exact id), ni_clamp (by omega), mR_b, on_b, hr_b, q_b_si, g5, i64_back]; rfl
set_option maxHeartbeats 200000 in
theorem ru_HOLD3 {c f f1 h g np t cl m p q p1 p'' h'' q'' g'' : Nat} {vc vr v w : q_V} (n : ru_n Fin a T XL c f1 h g np t cl p q vc vr) (x : ru_x Fin a T XL L c f1 h g np t cl vc vr) (hf : f ≤ f1) (hm : m < 6) (ht : t < 240) (hnp : np < 168) (d0 : ru_D T XL cl t np vc vr)
    (d : ru_D T XL cl (t + 1) (np + 1) v w) (we : ru_we L v w) (pe : q_f v 2000 168 = 1 → p'' = p) (K : ru_K (np + 1) (t + 1) h g cl (ru_h1 vc m np h p1) (ru_h1r vc vr m t g q) v w) :
    ru_L Fin a (40000 * f + c + 1) (mC v p'' h'' f (np + 1) cl) (mR w q'' g'' f (t + 1) cl) := by
  have kf : ∀ k, 1200 ≤ k → q_f v k np = q_f (ru_h1 vc m np h p1) k np := fun k hk => K.1 k np hk (by omega)
  have ka : ∀ j, 2488 ≤ j → j ≤ 2500 → q_a w j t = q_a (ru_h1r vc vr m t g q) j t := fun j x y => (K.2.2.1 j t x y (by omega)).1
  have a1 := (kf 1200 (by omega)).trans ru_h1_f.1
  have a2 := (kf 1203 (by omega)).trans ru_h1_f.2.1
  have a3 := (kf 1204 (by omega)).trans ru_h1_f.2.2.1
  have g1 := (ka 2488 (by omega) (by omega)).trans ru_h1_r.1
  have g2 := (ka 2490 (by omega) (by omega)).trans ru_h1_r.2.1
  have g3 := (ka 2491 (by omega) (by omega)).trans ru_h1_r.2.2.1
  have g4 := (ka 2492 (by omega) (by omega)).trans ru_h1_r.2.2.2.1
  have g5 := ((K.2.2.1 2493 t (by omega) (by omega) (by omega)).2).trans ru_h1_r.2.2.2.2.1
  have Kt : ru_K np t h g cl (ru_hc vc m 1) (ru_hr vr m 1) (ru_ct v 7) (q_si w 2472 (q_i w 2472 + 1)) := ru_K_j (ru_K_ct (ru_K_tr ru_K_h1 K (by omega) (by omega) (Nat.le_refl _) (Nat.le_refl _) (Nat.le_refl _)))
  have Kh := ru_K_hh Kt
  have e203 : q_a (ru_hc (ru_ct v 7) m (-1)) 203 = q_a vc 203 := Kh.2.2.2.2.2.1
  have e465 : q_a w 2465 m = q_a v 203 m := by rw [d.2.1.2.2.2.1]
  refine ru_L_l (fun hl' => ?_)
  have f2 : q_f (ru_h2 v m) = q_f v := ow_f
  have w3 : ∀ j, 2488 ≤ j → q_a (ru_h2r v w m) j = q_a w j := fun j hj => by
    unfold ru_h2r
    rw [on_a (by omega), hr_a (by omega), q_a_si]
  refine ru_OUT (v1 := ru_h2 v m) (w1 := ru_h2r v w m) (p1 := p'') (h1 := h'') (q1 := q'') (g1 := g'') n x hf ((cs_HOLD2 hm hnp a1 a3).trans (cs_leave_x (by rw [f2]; exact pe))) (rs_HOLD2 hm ht g1 g2 g5 e465 (ru_n70 d.2.2.1)) d.2.2.2.2.1.2.2.1 (ru_we_c we) ht (by omega) ?_ ?_ ?_ (by rw [f2]; exact a2) (by rw [w3 2492 (by omega)]; exact g4) (ru_lw_ow rfl (Nat.le_refl _) (show ¬ q_a v 1400 16 < 0 from ru_n16 d.2.2.1) hl') (ru_w_e (fun i => by rw [f2]))
  · refine ru_D_t0 (ru_D_ow (ru_D_h (ru_D_c7 d) (fun k hk => by rw [e203]; exact d0.2.2.2.2.2 k hk)) hl') ?_
    exact (congrFun (w3 2491 (by omega)) t).trans g3
  · refine ru_we_i we (fun k _ _ => by rw [f2]) (fun k h1 h2 => ?_)
    unfold ru_h2r
    rw [on_i (by omega), hr_i, q_i_si, if_neg (by omega)]
  · unfold ru_h2 ru_h2r
    exact ru_K_ow Kh
set_option maxHeartbeats 200000 in
theorem ru_HOLD {hb p p1 p2 q q1 q2 : Nat} (s1 : ru_SA Fin a T XL f0 1 hb p p1 q q1) (hhb : hb + 2 * nu ≤ 142) (h0 : 1 ≤ hb) (hn : nu + 1 ≤ 14) (c0 : co_c T p1 45) (r0 : co_r T 0 q1 49) (r1 : co_r T 1 q1 (nI (q2 + 1)))
    (s2 : ru_SS Fin a T XL f0 (nu + 1) L (p1 + 1) p2 (q1 + 1) q2) (c2 : co_c T p2 54) (r2 : co_r T 0 q2 48) : ru_ST Fin a T XL f0 nu L p (p2 + 1) q (q2 + 1) := by
  have o1 := s2.1
  have o2 := s2.2.1
  refine ru_BES s1 hhb (by omega) (by omega) ?_
  intro c f h g np t cl vc vr d W bd E n x
  have E0 : q_a vc 802 h = q_a vr 2515 g := E 0 (by omega)
  have bd' := bd
  obtain ⟨b1, b2, b3, b4, b5, b6, b7, b8, b9, b10⟩ := bd'
  rcases ru_hold_in (q_a vc 802 h) with ⟨z1, z2⟩ | ⟨m, hm, e, z1, z2⟩
  · refine ru_ttS (x := 3) (p1 := p1 + 1) (h1 := h) (q1 := q1 + 1) (g1 := g) d W (by omega) (by decide) (by omega) x ?_ ?_
    · rw [cs_step d.1 c0, cd_45, q_bv_id, mC_810, ni_pred, q_lt_s, cs_pop (by omega), q_bd_s]
      unfold fX4_hold fX1_addHold
      rw [cs_isLock, q_bd_s, if_pos z1, if_pos rfl, q_bd_s, if_pos rfl, cs_trouble, mC_tc]; rfl
    · rw [rs_step d.1 r0, rd_49, q_bv_id, rs_pop (by omega), q_bd_s, ← E0]
      unfold fX12_takes fX12_stepOfStatement_b600
      rw [rs_in, q_bd_s, if_pos z2, if_pos rfl, q_bv_id, q_bv_id, rs_trouble (by omega) (ru_n70 d.2.2.1)]
  obtain ⟨w, hw, ew⟩ := d.2.2.2.2.2 m hm
  refine ru_mono (B := 40000 * f + (c + 1) + 4 * (p2 + 1 - (p1 + 1)) + 1) (ru_G_l (fun hl => ?_)) (by omega)
  refine ru_cs (cs_HOLD d.1 hm (by omega) (by omega) c0 e ew (by omega)) d.2.2.2.2.1.2.2.1 W.1 ⟨?_, ?_⟩ (ru_rs (rs_HOLD (vc := vc) d.1 hm (by omega) (by omega) r0 r1 (E0.symm.trans e) (by rw [d.2.1.2.2.2.1]) (ru_n70 d.2.2.1)) d.2.2.2.2.1.2.2.2.1 d.2.2.2.2.1.2.2.2.2 ?_)
  · exact (ru_lw_ow (b := ru_hb vc m) (s := 1) (n := nI m) (v := vc) (v1 := ru_ct (ru_hc vc m 1) 6) rfl (Nat.le_refl _) (show ¬ q_a vc 1400 16 < 0 from ru_n16 d.2.2.1) hl).1
  · exact Nat.le_of_eq (ru_w_e ru_h1_f.2.2.2.2)
  · refine ru_BODY s2 c2 r2 (ru_D_h1 d hm ew hw hl) ⟨ru_h1_f.2.2.2.1.trans W.1, ru_h1_r.2.2.2.2.2.trans W.2.1⟩ (ru_bd_up bd hn (Nat.le_refl _) (by omega) b6) ?_
    intro f' p'' h'' q'' g'' vc' vr' d' we pe hf' K'
    exact ru_HOLD3 n x hf' hm (by omega) (by omega) d d' we pe K'
end
