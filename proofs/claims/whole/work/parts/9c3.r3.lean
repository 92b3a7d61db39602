set_option maxHeartbeats 200000 in
theorem q_si_sw {v : q_V} {k j : Nat} {x y : Int32} (h : k ≠ j) : q_si (q_si v k x) j y = q_si (q_si v j y) k x := by
  refine q_ext (fun i => ?_) rfl rfl rfl rfl rfl rfl
  rw [q_i_si, q_i_si, q_i_si, q_i_si]
  by_cases h1 : i = j
  · rw [if_pos h1, if_neg (by omega), if_pos h1]
  · rw [if_neg h1, if_neg h1]
set_option maxHeartbeats 200000 in
theorem nt_si {v : q_V} {k : Nat} {x s n : Int32} (h : k ≠ 2470) : ru_nt (q_si v k x) s n = q_si (ru_nt v s n) k x := by
  unfold ru_nt
  rw [show q_i (q_si v k x) 2470 = q_i v 2470 from by rw [q_i_si, if_neg (by omega)], q_a_si]
  exact q_si_sw (v := q_sa (q_sa v 2468 _) 2469 _) h
set_option maxHeartbeats 200000 in
theorem nt_al {v : q_V} {s n : Int32} {j : Nat} (h : j < 2468) : q_a (ru_nt v s n) j = q_a v j := by
  unfold ru_nt; rw [q_a_si, q_a_sa, if_neg (by omega), q_a_sa, if_neg (by omega)]
set_option maxHeartbeats 200000 in
theorem kc_sa {v : q_V} {k n : Nat} {x : Nat → Int32} {ph : Int32} : ru_kc (q_sa v k x) n ph = q_sa (ru_kc v n ph) k x := rfl
set_option maxHeartbeats 200000 in
theorem kc_wr {v : q_V} {n : Nat} {ph s m : Int32} : ru_kc (ru_wr v s m) n ph = ru_wr (ru_kc v n ph) s m := by
  unfold ru_wr
  rw [kc_sa, kc_sa, kc_sa, kc_a]
set_option maxHeartbeats 200000 in
theorem kc_ct {v : q_V} {n k : Nat} {ph : Int32} : ru_kc (ru_ct v k) n ph = ru_ct (ru_kc v n ph) k := by
  unfold ru_ct
  rw [kc_sa, kc_a]
def ru_ba (w : q_V) (t : Nat) (pl : Int32) : q_V := ru_nt (q_si (q_si (ru_kr w t 2) 2481 0) 2474 (q_i w 2474 + 1)) 11 pl
section
variable {Fin : q_V → q_V → Prop} {a : ru_P} {T : co_T} {XL : Int32 → Int32 → Int32 → Prop} {f0 nu : Nat} {L : List (Nat × Nat)}
set_option maxHeartbeats 200000 in
theorem cs_ba0 {v v' : q_V} {p h f np n cl at_ : Nat} (s : ru_S T v v') (ea : q_f v 1202 n = nI at_) (c4 : co_c T (at_ + 4) 0) : fX4_beginAlways n (mC v p h f np cl) = some (0, mC v p h f np cl) := by
  unfold fX4_beginAlways fX4_beginAlways_b26
  rw [mC_f, ea, ni_a4, cs_gt s c4, q_bd_s, if_pos rfl]
set_option maxHeartbeats 200000 in
theorem cs_ba3 {v v' : q_V} {p h f np n cl at_ : Nat} {z : Int32} (s : ru_S T v v') (ea : q_f v 1202 n = nI at_) (c4 : co_c T (at_ + 4) z) (ph : q_f v 1201 n = 3) : fX4_beginAlways n (mC v p h f np cl) = some (0, mC v p h f np cl) := by
  unfold fX4_beginAlways fX4_beginAlways_b26
  rw [mC_f, ea, ni_a4, cs_gt s c4, q_bd_s, mC_f, ph, if_pos rfl]
  split <;> rfl
set_option maxHeartbeats 200000 in
theorem cs_ba1 {v v' : q_V} {p h f np n cl at_ pa h' : Nat} {pl : Int32} (s : ru_S T v v') (hn : n ≠ 168) (ea : q_f v 1202 n = nI at_) (c4 : co_c T (at_ + 4) (nI pa)) (hp : nI pa ≠ 0) (ph : q_f v 1201 n ≠ 3) (c1 : co_c T (at_ + 1) pl) (eh : q_f v 1203 n = nI h') : fX4_beginAlways n (mC v p h f np cl) = some (1, mC (ru_kc (ru_wr (ru_ct v 9) 11 pl) n 3) pa h' f np cl) := by
  unfold fX4_beginAlways
  rw [mC_f, ea, ni_a4, cs_gt s c4, q_bd_s, if_neg hp, mC_f, if_neg ph, cs_ct9, q_bv_s, mC_ct, mC_f, ct_f, ea, ni_a1, cs_gt (vc := ru_ct v 9) s c1, q_bd_s, cs_wr, q_bv_s, mC_wr, cs_keep (v := ru_wr (ru_ct v 9) 11 pl) hn (by rw [wr_f, ct_f]; exact eh), q_bv_s]
set_option maxHeartbeats 200000 in
theorem rs_ba {w v' : q_V} {q g f t cl d qa g' : Nat} {pl : Int32} (s : ru_S T v' w) (hd : d < 640) (ht : t < 240) (ed : q_a w 2490 t = nI d) (r4 : co_d T 4 d (nI qa)) (r6 : co_d T 6 d pl) (eg : q_a w 2492 t = nI g') (h70 : ¬ q_i w 2470 < 0) : fX12_beginsAlways (nI t) (mR w q g f (t + 1) cl) = some (mR (ru_ba w t pl) qa g' f (t + 1) cl) := by
  have e6 := rs_6 s r6
  have e4 := rs_4 s r4
  have key : ∀ xx : Int32, xx = (if q_i w 2481 = 4 then q_i w 2484 else 0) → fX12_beginsAlways_b40 (nI t) (nI d) xx (nI t) (mR (ru_s (ru_kw w t) t 2) q g f (t + 1) cl) = some (mR (ru_ba w t pl) qa g' f (t + 1) cl) := by
    intro xx hx
    have e0 : q_sa (ru_s (ru_kw w t) t 2) 2491 (upd (q_a (ru_s (ru_kw w t) t 2) 2491) t xx) = ru_kr w t 2 := by
      rw [hx]; unfold ru_kr ru_s; rw [q_a_sa, if_neg (by omega)]
    have e1 : q_a (q_si (ru_kr w t 2) 2474 (q_i w 2474 + 1)) 2454 d = pl := by rw [q_a_si, kr_lo (by omega)]; exact e6
    have e2 : q_a (ru_nt (q_si (ru_kr w t 2) 2474 (q_i w 2474 + 1)) 11 pl) 2452 d = nI qa := by rw [nt_al (by omega), q_a_si, kr_lo (by omega)]; exact e4
    have e3 : q_a (ru_nt (q_si (ru_kr w t 2) 2474 (q_i w 2474 + 1)) 11 pl) 2492 t = nI g' := by rw [nt_a (by omega), q_a_si, kr_lo (by omega)]; exact eg
    unfold fX12_beginsAlways_b40
    rw [if_neg (by rw [ni_in ht (by omega)]; exact id), q_lt_s, ni_clamp (by omega), mR_a, mR_sa, e0, q_lt_s, mR_s2474, show q_i (mR (ru_kr w t 2) q g f (t + 1) cl) 2474 = q_i w 2474 from rfl, if_neg (by rw [ni_in hd (by omega)]; exact id), ni_clamp (by omega), mR_a, e1, rs_note (by exact h70), q_bv_s, mR_nt, if_neg (by rw [ni_neg (by omega), false_or]; omega), mR_a, e2, rs_goes ht e3, q_bv_s]
    unfold ru_ba
    rw [q_si_sw (v := ru_kr w t 2) (k := 2481) (by omega), nt_si (v := q_si (ru_kr w t 2) 2474 (q_i w 2474 + 1)) (by omega)]
  unfold fX12_beginsAlways
  rw [if_neg (by rw [ni_in ht (by omega)]; exact id), ni_clamp (by omega), mR_a, ed, q_lt_s, rs_keep ht, q_bv_s, mR_kw, if_neg (by rw [ni_neg (by omega), false_or]; omega), q_lt_s, mR_a, mR_sa]
  rw [show q_sa (ru_kw w t) 2489 (upd (q_a (ru_kw w t) 2489) t 2) = ru_s (ru_kw w t) t 2 from rfl, show q_i (mR (ru_s (ru_kw w t) t 2) q g f (t + 1) cl) 2481 = q_i w 2481 from rfl, show q_i (mR (ru_s (ru_kw w t) t 2) q g f (t + 1) cl) 2484 = q_i w 2484 from rfl]
  by_cases c : q_i w 2481 = 4
  · rw [if_pos c, key _ (by rw [if_pos c])]
  · rw [if_neg c, key _ (by rw [if_neg c])]
set_option maxHeartbeats 200000 in
theorem ba_i {w : q_V} {t k : Nat} {pl : Int32} (h : k ≠ 2470) (h2 : k ≠ 2474) (h3 : k ≠ 2481) : q_i (ru_ba w t pl) k = q_i w k := by
  unfold ru_ba
  rw [nt_i h, q_i_si, if_neg h2, q_i_si, if_neg h3, kr_i]
set_option maxHeartbeats 200000 in
theorem ba_w {w : q_V} {t : Nat} {pl : Int32} : q_i (ru_ba w t pl) 2481 = 0 := by
  unfold ru_ba
  rw [nt_i (by omega), q_i_si, if_neg (by omega), q_i_si, if_pos rfl]
set_option maxHeartbeats 200000 in
theorem ba_a {w : q_V} {t j : Nat} {pl : Int32} (h : 2469 < j) : q_a (ru_ba w t pl) j = q_a (ru_kr w t 2) j := by
  unfold ru_ba
  rw [nt_a h, q_a_si, q_a_si]
set_option maxHeartbeats 200000 in
theorem ba_b {w : q_V} {t : Nat} {pl : Int32} : q_b (ru_ba w t pl) = q_b w := by
  unfold ru_ba
  rw [nt_b, q_b_si, q_b_si, kr_b]
set_option maxHeartbeats 200000 in
theorem ru_D_ba {cl t np n : Nat} {v w : q_V} {pl : Int32} (d : ru_D T XL cl t np v w) (we : ru_we L v w) (hl : ru_l v ≤ 2000000000) : ru_D T XL cl (t + 1) np (ru_kc (ru_wr (ru_ct v 9) 11 pl) n 3) (ru_ba w t pl) := by
  have h := ru_D_w (s := 11) (n := pl) (ru_D_c9 (ru_D_kp (n := n) (ph := 3) (st := 2) d we)) hl
  rw [kc_wr, kc_ct]
  unfold ru_ba
  rw [show q_i w 2474 = q_i (q_si (ru_kr w t 2) 2481 0) 2474 from rfl]
  exact h
set_option maxHeartbeats 200000 in
theorem ru_K_ba {np t h g cl t' n : Nat} {vc vr v w : q_V} {pl : Int32} (K : ru_K np t h g cl vc vr v w) (ht : t ≤ t') (hn : np ≤ n) (hn2 : np ≤ 168) : ru_K np t h g cl vc vr (ru_kc (ru_wr (ru_ct v 9) 11 pl) n 3) (ru_ba w t' pl) := by
  rw [kc_wr, kc_ct]
  unfold ru_ba
  exact ru_K_w (ru_K_j (ru_K_j (ru_K_ct (ru_K_kr (ru_K_kc K hn hn2) ht))))
set_option maxHeartbeats 200000 in
theorem ru_kk_ba {v w : q_V} {n t : Nat} {pl : Int32} (h : ru_we L v w) (hn : n ≠ 168) : ru_kk L n t (ru_kc (ru_wr (ru_ct v 9) 11 pl) n 3) (ru_ba w t pl) := by
  refine ru_kk_c (ru_kk_k (n := n) (t := t) (ph := 3) (st := 2) h hn) (fun k hk => ?_) (fun j h1 h2 => by rw [ba_a (by omega)])
  rw [kc_wr, kc_ct, wr_f, ct_f]
set_option maxHeartbeats 200000 in
theorem ru_lw_ba {v w : q_V} {n : Nat} {pl : Int32} (h0 : ru_Q v w) (hl : ru_l v ≤ 2000000000) : ru_l (ru_kc (ru_wr (ru_ct v 9) 11 pl) n 3) ≤ ru_l v + 2 := by
  show ru_l (ru_wr (ru_ct v 9) 11 pl) ≤ ru_l v + 2
  rw [ru_l_wr (vc := ru_ct v 9) (show ¬ q_a v 1400 16 < 0 from ru_n16 h0) hl]
  show ru_l v + 1 ≤ _
  omega
set_option maxHeartbeats 200000 in
theorem ru_D_H {cl t np np1 : Nat} {v w : q_V} (d : ru_D T XL cl t np1 v w) (H : ru_H np v) : ru_D T XL cl t np v w := ⟨d.1, d.2.1, d.2.2.1, d.2.2.2.1, d.2.2.2.2.1, H⟩
set_option maxHeartbeats 200000 in
theorem rd_a {w : q_V} {t j : Nat} {al : Bool} (h : j ≠ 2489) : q_a (ru_rd w t al) j = q_a w j := by unfold ru_rd; rw [al_a, s_a h]
set_option maxHeartbeats 200000 in
theorem rd_st {w : q_V} {t : Nat} {al : Bool} : q_a (ru_rd w t al) 2489 t = 1 := by unfold ru_rd; rw [al_a, s_at]
set_option maxHeartbeats 200000 in
theorem rd_b {w : q_V} {t : Nat} {al : Bool} : q_b (ru_rd w t al) = q_b w := by unfold ru_rd; rw [al_b]; rfl
set_option maxHeartbeats 200000 in
theorem rd_i {w : q_V} {t k : Nat} {al : Bool} (h : k ≠ 2473) : q_i (ru_rd w t al) k = q_i w k := by unfold ru_rd; rw [al_i h]; rfl
set_option maxHeartbeats 200000 in
/-- what is known of a round's part and region when its block, or its always part, is left -/
theorem ru_rfacts {np t h g cl p d : Nat} {vc w v w1 : q_V} {al : Bool} (rg : ru_rgn t d g w) (K : ru_K (np + 1) (t + 1) h g cl (ru_rc vc np h p 46 al) (ru_rd w t al) v w1) :
    (q_f v 1200 np = 46 ∧ q_f v 1201 np = 0 ∧ q_f v 1202 np = nI p ∧ q_f v 1203 np = nI h ∧ q_f v 1207 np = q_i vc 812) ∧ (q_a w1 2488 t = 3 ∧ q_a w1 2489 t = 1 ∧ q_a w1 2490 t = nI d ∧ q_a w1 2491 t = 0 ∧ q_a w1 2492 t = nI g ∧ q_b w1 2493 t = q_b w 2493 t ∧ q_b w1 2494 t = q_b w 2494 t) := by
  have kf : ∀ k, 1200 ≤ k → q_f v k np = q_f (ru_bg vc np h 46 (nI p)) k np := fun k hk => (K.1 k np hk (by omega)).trans rc_f
  have ka : ∀ j, 2488 ≤ j → j ≤ 2500 → q_a w1 j t = q_a (ru_rd w t al) j t := fun j x y => (K.2.2.1 j t x y (by omega)).1
  have kb : ∀ j, 2488 ≤ j → j ≤ 2500 → q_b w1 j t = q_b (ru_rd w t al) j t := fun j x y => (K.2.2.1 j t x y (by omega)).2
  obtain ⟨g1, g2, g3, g4, g5⟩ := rg
  rw [kf 1200 (by omega), kf 1201 (by omega), kf 1202 (by omega), kf 1203 (by omega), kf 1207 (by omega), ka 2488 (by omega) (by omega), ka 2489 (by omega) (by omega), ka 2490 (by omega) (by omega), ka 2491 (by omega) (by omega), ka 2492 (by omega) (by omega), kb 2493 (by omega) (by omega), kb 2494 (by omega) (by omega), rd_a (by omega), rd_st, rd_a (by omega), rd_a (by omega), rd_a (by omega), rd_b]
  exact ⟨ru_bg_w, g1, rfl, g3, g4, g5, rfl, rfl⟩
set_option maxHeartbeats 200000 in
theorem ru_H_e {np : Nat} {v vc : q_V} (H : ru_H np vc) (e : q_a v 203 = q_a vc 203) : ru_H np v := by
  unfold ru_H; rw [e]; exact H
set_option maxHeartbeats 200000 in
theorem rc_a {v : q_V} {np h at_ j : Nat} {o : Int32} {al : Bool} (hj : j ≠ 1400) : q_a (ru_rc v np h at_ o al) j = q_a v j := by
  unfold ru_rc; split
  · rw [ct_a hj, bg_a]
  · rw [bg_a]
set_option maxHeartbeats 200000 in
/-- leaving a round's block without an always part -/
theorem cs_lr0 {v v' : q_V} {p h f np cl at_ : Nat} (s : ru_S T v v') (hnp : np < 168) (a0 : q_f v 1200 np = 46) (a1 : q_f v 1201 np ≠ 3) (ea : q_f v 1202 np = nI at_) (c4 : co_c T (at_ + 4) 0) : fX4_leaveTop (mC v p h f (np + 1) cl) = fX4_leaveRound_b22 np (mC v p h f (np + 1) cl) := by
  rw [cs_lt46 hnp a0]
  unfold fX4_leaveRound
  rw [cs_ba0 s ea c4, q_bd_s, if_pos rfl, mC_f, if_neg a1]
set_option maxHeartbeats 200000 in
theorem rs_lr0 {w v' : q_V} {q g f t cl d : Nat} (s : ru_S T v' w) (hd : d < 640) (ht : t < 240) (g8 : q_a w 2488 t = 3) (g1 : q_a w 2489 t = 1) (g9 : q_a w 2490 t = nI d) (r4 : co_d T 4 d (-1)) : rs_it (mR w q g f (t + 1) cl) = fX12_leavesLoop_b70 (nI t) (nI d) (mR w q g f (t + 1) cl) := by
  rw [rs_it3 ht g8]
  unfold fX12_leavesLoop fX12_leavesLoop_b55
  rw [if_neg (by rw [ni_in ht (by omega)]; exact id), ni_clamp (by omega), mR_a, g9, q_lt_s, if_neg (by rw [ni_neg (by omega), false_or]; omega), g1, if_neg (by decide), if_neg (by rw [ni_neg (by omega), false_or]; omega), if_pos rfl, if_neg (by rw [ni_in hd (by omega)]; exact id), ni_clamp (by omega), rs_4 s r4, if_pos rfl, if_neg (by rw [ni_neg (by omega), false_or]; omega), if_neg (by decide)]
set_option maxHeartbeats 200000 in
theorem ru_ROUND0 {p p2 q q2 d pn px qa qx : Nat} (hL : ∀ e ∈ L, e.1 < p ∧ e.2 < d) (hat : p < 2147483648) (hd : d < 640) (c0 : co_c T p 46) (c2 : co_c T (p + 2) (nI pn)) (c3 : co_c T (p + 3) (nI px)) (c4 : co_c T (p + 4) 0) (r3 : co_d T 3 d (nI qa)) (r4 : co_d T 4 d (-1)) (r5 : co_d T 5 d (nI qx))
    (s : ru_SS Fin a T XL f0 (nu + 1) ((p, d) :: L) (p + 5) p2 q q2) (c5 : co_c T p2 54) (r6 : co_r T 0 q2 48) {c f h g np t cl : Nat} {vc w : q_V} (D : ru_D T XL cl (t + 1) np vc w) (V : ru_V vc w) (bd : ru_bd (nu + 1) f f0 h g (np + 1) (t + 1) cl) (rg : ru_rgn t d g w)
    (nx : ru_nx Fin a T XL c f h g np t cl d pn qa vc w) (n : ru_n Fin a T XL c f h g np t cl px qx vc w) (x : ru_x Fin a T XL L c f h g np t cl vc w) : ru_G Fin a (40000 * f + c + 4 * (p2 + 1 - p)) (mC vc p h f np cl) (mR (ru_rd w t false) q g f (t + 1) cl) := by
  have o1 := s.1
  obtain ⟨b1, b2, b3, b4, b5, b6, b7, b8, b9, b10⟩ := id bd
  have st : fX4_step (mC vc p h f np cl) = some (mC (ru_rc vc np h p 46 false) (p + 5) h f (np + 1) cl) := cs_RT (tr := false) (z := 0) D.1 (by omega) c0 c4
  have V1 : ru_V (ru_rc vc np h p 46 false) (ru_rd w t false) := ⟨by rw [rc_f, bg_f (by omega)]; exact V.1, by rw [rd_i (by omega)]; exact V.2⟩
  have D1 : ru_D T XL cl (t + 1) (np + 1) (ru_rc vc np h p 46 false) (ru_rd w t false) := ru_D_n1 (ru_D_rc (ru_D_s9 D)) (by omega)
  refine ru_mono (B := 40000 * f + (c + 1) + 4 * (p2 + 1 - (p + 5)) + 1) (ru_cs st D.2.2.2.2.1.2.2.1 V.1 ⟨Nat.le_add_right _ _, Nat.le_of_eq (ru_w_e (fun i => by rw [rc_f, bg_f (by omega)]))⟩ (ru_BODY s c5 r6 D1 V1 bd ?_)) (by omega)
  intro f' p'' h'' q'' g'' v w1 d' we pe hf' K'
  obtain ⟨⟨a0, a1, a2, a3, a4⟩, g8, g1, g9, z91, eg, gb⟩ := ru_rfacts rg K'
  have H : ru_H np v := ru_H_e D.2.2.2.2.2 (K'.2.2.2.2.2.1.trans (rc_a (by omega)))
  rw [show 40000 * f' + (c + 1) = 40000 * f' + c + 1 from by omega]
  refine ru_FH (v := v) (w1 := w1) (p1 := p'') (h1 := h'') (q1 := q'') (g1 := g'') nx n x hf' hL hat hd (by omega) (by omega) c2 c3 r3 r5 (cs_lr0 d'.1 (by omega) a0 (by rw [a1]; decide) a2 c4) (rs_lr0 d'.1 hd (by omega) g8 g1 g9 r4) d'.2.2.2.2.1.2.2.1 (ru_we_c we) (ru_D_H (ru_D_t0 d' z91) H) z91 we ?_ a2 a3 g8 g9 eg gb (Nat.le_add_right _ _) (fun _ => rfl)
  exact ru_K_tr (ru_K_rc (ru_K_s9 ru_K_id (Nat.le_refl _))) K' (by omega) (by omega) (Nat.le_refl _) (Nat.le_refl _) (Nat.le_refl _)
end
