set_option maxHeartbeats 200000 in
theorem q_sf_si {v : q_V} {k j n : Nat} {x y : Int32} : q_sf (q_si v k x) j n y = q_si (q_sf v j n y) k x := rfl
set_option maxHeartbeats 200000 in
theorem cp_si {v : q_V} {k a b : Nat} {x : Int32} : ru_cp (q_si v k x) a b = q_si (ru_cp v a b) k x := by
  unfold ru_cp
  rw [q_f_si, q_sf_si, q_sf_si, q_sf_si, q_sf_si]
set_option maxHeartbeats 200000 in
theorem kc_si {v : q_V} {k n : Nat} {x ph : Int32} (h : k ≠ 812) : ru_kc (q_si v k x) n ph = q_si (ru_kc v n ph) k x := by
  unfold ru_kc
  rw [show q_i (q_si v k x) 812 = q_i v 812 from by rw [q_i_si, if_neg (by omega)], q_f_si, cp_si, q_sf_si (v := ru_cp v n 168) (k := k) (j := 1201), q_si_sw h, q_sf_si (k := k) (j := 2000)]
section
variable {Fin : q_V → q_V → Prop} {a : ru_P} {T : co_T} {XL : Int32 → Int32 → Int32 → Prop} {f0 nu : Nat} {L : List (Nat × Nat)}
set_option maxHeartbeats 200000 in
theorem cs_ENS {vc vr : q_V} {p h f np cl pb : Nat} (s : ru_S T vc vr) (hnp : np < 168) (c0 : co_c T p 50) (c2 : co_c T (p + 2) (nI pb)) : fX4_step (mC vc p h f np cl) = some (mC (ru_bg vc np h 50 (nI p)) pb h f (np + 1) cl) := by
  rw [cs_step s c0, cd_50, q_bv_id, mC_810, ni_pred, q_lt_s, cs_begin hnp, q_bd_s, ni_a2, cs_gt (vc := ru_bg vc np h 50 (nI p)) s c2, q_bd_s, q_lt_s, mC_s810]; rfl
set_option maxHeartbeats 200000 in
theorem cs_le0 {v : q_V} {p h np cl : Nat} (hnp : np < 168) (a0 : q_f v 1200 np = 50) (a1 : q_f v 1201 np ≠ 1) : fX4_leaveTop (mC v p h 0 (np + 1) cl) = some (mC (q_si v 814 2) p h 0 (np + 1) cl) := by
  rw [cs_lt50 hnp a0]
  unfold fX4_leaveEnsure fX4_leaveEnsure_b70
  rw [mC_f, if_neg a1, cs_spend0, q_bd_s, if_pos rfl]
set_option maxHeartbeats 200000 in
theorem cs_le1 {v v' : q_V} {p h f np cl at_ h' : Nat} {pl : Int32} (s : ru_S T v v') (hnp : np < 168) (hf : f < 20000) (a0 : q_f v 1200 np = 50) (a1 : q_f v 1201 np ≠ 1) (a2 : q_f v 1202 np = nI at_) (a3 : q_f v 1203 np = nI h') (c1 : co_c T (at_ + 1) pl) : fX4_leaveTop (mC v p h (f + 1) (np + 1) cl) = some (mC (q_si (ru_kc v np 1) 811 pl) (at_ + 5) h' f (np + 1) cl) := by
  rw [cs_lt50 hnp a0]
  unfold fX4_leaveEnsure fX4_leaveEnsure_b70
  rw [mC_f, if_neg a1, cs_spend hf, q_bd_s, if_neg (by decide), mC_f, a2, ni_a1, cs_gt s c1, q_bd_s, q_lt_s, mC_s811, mC_f, q_f_si, a2, ni_a5, cs_keep (v := q_si v 811 pl) (by omega) a3, q_bv_s, kc_si (by omega)]
set_option maxHeartbeats 200000 in
theorem cs_le2 {v v' v'' : q_V} {p h f np cl at_ px : Nat} (s : ru_S T v v') (hnp : np < 168) (a0 : q_f v 1200 np = 50) (a1 : q_f v 1201 np = 1) (a2 : q_f v 1202 np = nI at_) (c3 : co_c T (at_ + 3) (nI px)) (s2 : ru_S T (ru_tb v np) v'') : fX4_leaveTop (mC v p h f (np + 1) cl) = fX4_leave np (nI px) (mC (ru_tb v np) p h f (np + 1) cl) := by
  rw [cs_lt50 hnp a0]
  unfold fX4_leaveEnsure fX4_leaveEnsure_b70
  rw [mC_f, if_pos a1, cs_tb, q_bv_s, mC_f, tb_f (by omega), a2, ni_a3, cs_gt s2 c3, q_bd_s, q_bv_id]
def ru_ke (w : q_V) (t : Nat) (pl : Int32) : q_V := q_si (q_si (ru_kr w t 9) 2481 0) 2511 pl
set_option maxHeartbeats 200000 in
theorem rs_le1 {w v' : q_V} {q g f t cl d qa g' : Nat} {pl : Int32} (s : ru_S T v' w) (hd : d < 640) (ht : t < 240) (g8 : q_a w 2488 t = 5) (g1 : q_a w 2489 t = 8) (g9 : q_a w 2490 t = nI d) (eg : q_a w 2492 t = nI g') (r3 : co_d T 3 d (nI qa)) (r6 : co_d T 6 d pl) :
    rs_it (mR w q g f (t + 1) cl) = q_bd (fX12_burns (mR (ru_ke w t pl) qa g' f (t + 1) cl)) (fun y T => some (0, T)) := by
  have e3 := rs_3 s r3
  have e6 := rs_6 s r6
  have key : ∀ xx : Int32, xx = (if q_i w 2481 = 4 then q_i w 2484 else 0) → fX12_leavesEnsure_b52 (nI t) (nI d) xx (nI t) (mR (ru_s (ru_kw w t) t 9) q g f (t + 1) cl) = q_bd (fX12_burns (mR (ru_ke w t pl) qa g' f (t + 1) cl)) (fun y T => some (0, T)) := by
    intro xx hx
    have e0 : q_sa (ru_s (ru_kw w t) t 9) 2491 (upd (q_a (ru_s (ru_kw w t) t 9) 2491) t xx) = ru_kr w t 9 := by
      rw [hx]; unfold ru_kr ru_s; rw [q_a_sa, if_neg (by omega)]
    have e1 : q_a (ru_kr w t 9) 2454 d = pl := by rw [kr_lo (by omega)]; exact e6
    have e2 : q_a (q_si (ru_kr w t 9) 2511 pl) 2451 d = nI qa := by rw [q_a_si, kr_lo (by omega)]; exact e3
    have e4 : q_a (q_si (ru_kr w t 9) 2511 pl) 2492 t = nI g' := by rw [q_a_si, kr_lo (by omega)]; exact eg
    unfold fX12_leavesEnsure_b52
    rw [if_neg (by rw [ni_in ht (by omega)]; exact id), q_lt_s, ni_clamp (a := t) (by omega), mR_a, mR_sa, e0, if_neg (by rw [ni_in hd (by omega)]; exact id), q_lt_s, ni_clamp (by omega), mR_a, e1, mR_s2511, if_neg (by rw [ni_neg (by omega), false_or]; omega), mR_a, e2, rs_goes ht e4, q_bv_s, q_si_sw (k := 2511) (by omega)]; rfl
  rw [rs_it5 ht g8]
  unfold fX12_leavesEnsure
  rw [if_neg (by rw [ni_in ht (by omega)]; exact id), ni_clamp (by omega), mR_a, g9, q_lt_s, if_neg (by rw [ni_neg (by omega), false_or]; omega), g1, if_pos rfl, rs_keep ht, q_bv_s, mR_kw, if_neg (by rw [ni_neg (by omega), false_or]; omega), q_lt_s, mR_a, mR_sa]
  rw [show q_sa (ru_kw w t) 2489 (upd (q_a (ru_kw w t) 2489) t 9) = ru_s (ru_kw w t) t 9 from rfl, show q_i (mR (ru_s (ru_kw w t) t 9) q g f (t + 1) cl) 2481 = q_i w 2481 from rfl, show q_i (mR (ru_s (ru_kw w t) t 9) q g f (t + 1) cl) 2484 = q_i w 2484 from rfl]
  by_cases c : q_i w 2481 = 4
  · rw [if_pos c, key _ (by rw [if_pos c])]
  · rw [if_neg c, key _ (by rw [if_neg c])]
set_option maxHeartbeats 200000 in
theorem rs_le9 {w v' v'' : q_V} {q g f t cl d qx : Nat} (s : ru_S T v' w) (hd : d < 640) (ht : t < 240) (g8 : q_a w 2488 t = 5) (g1 : q_a w 2489 t = 9) (g9 : q_a w 2490 t = nI d) (r5 : co_d T 5 d (nI qx)) (h70 : ¬ q_i w 2470 < 0) (s2 : ru_S T v'' (ru_lo w t)) :
    rs_it (mR w q g f (t + 1) cl) = q_bd (fX12_closes (nI t) (nI qx) (mR (ru_lo w t) q g f (t + 1) cl)) rs_01 := by
  rw [rs_it5 ht g8]
  unfold fX12_leavesEnsure fX12_leavesEnsure_b97
  rw [if_neg (by rw [ni_in ht (by omega)]; exact id), ni_clamp (by omega), mR_a, g9, q_lt_s, if_neg (by rw [ni_neg (by omega), false_or]; omega), g1, if_neg (by decide), if_neg (by rw [ni_neg (by omega), false_or]; omega), if_pos rfl, rs_loses ht h70, q_bv_s, if_neg (by rw [ni_in hd (by omega)]; exact id), ni_clamp (by omega), mR_a, rs_5 s2 r5]; rfl
set_option maxHeartbeats 200000 in
theorem rs_le10 {w v' : q_V} {q g f t cl d qx : Nat} (s : ru_S T v' w) (hd : d < 640) (ht : t < 240) (g8 : q_a w 2488 t = 5) (g1 : q_a w 2489 t = 10) (g9 : q_a w 2490 t = nI d) (r5 : co_d T 5 d (nI qx)) :
    rs_it (mR w q g f (t + 1) cl) = q_bd (fX12_closes (nI t) (nI qx) (mR w q g f (t + 1) cl)) rs_01 := by
  rw [rs_it5 ht g8]
  unfold fX12_leavesEnsure fX12_leavesEnsure_b97
  rw [if_neg (by rw [ni_in ht (by omega)]; exact id), ni_clamp (by omega), mR_a, g9, q_lt_s, if_neg (by rw [ni_neg (by omega), false_or]; omega), g1, if_neg (by decide), if_neg (by rw [ni_neg (by omega), false_or]; omega), if_neg (by decide), if_neg (by rw [ni_in hd (by omega)]; exact id), ni_clamp (by omega), rs_5 s r5]; rfl
set_option maxHeartbeats 200000 in
/-- the last of an ensure: its E was worked -/
theorem ru_ENS3 {p px qx d c f f1 h g np t cl p4 h4 q4 g4 : Nat} {vc vr v w w1 : q_V} (hd : d < 640) (ht : t < 240) (hnp : np < 168) (c3 : co_c T (p + 3) (nI px)) (r5 : co_d T 5 d (nI qx))
    (n : ru_n Fin a T XL c f1 h g np t cl px qx vc vr) (x : ru_x Fin a T XL L c f1 h g np t cl vc vr) (hf : f ≤ f1) (D0 : ru_H np vc) (D : ru_D T XL cl (t + 1) (np + 1) v w) (we : ru_we L v w) (kk : ru_kk L np t v w) (K : ru_K np t h g cl vc vr v w)
    (a0 : q_f v 1200 np = 50) (a1 : q_f v 1201 np = 1) (a2 : q_f v 1202 np = nI p) (a3 : q_f v 1203 np = nI h) (zz : q_f v 1207 np = ru_z w t) (g8 : q_a w 2488 t = 5) (g1 : q_a w 2489 t = 9) (g9 : q_a w 2490 t = nI d) (eg : q_a w 2492 t = nI g)
    (hw : (q_i w 2481 = 0 ∧ w1 = ru_s (ru_tw w t) t 10) ∨ (q_i w 2481 ≠ 0 ∧ w1 = w)) :
    ru_L Fin a (40000 * f + c + 1) (mC v p4 h4 f (np + 1) cl) (mR w1 q4 g4 f (t + 1) cl) := by
  refine ru_L_l (fun hl2 => ?_)
  have hl3 : ru_l v ≤ 2000000000 := by rw [ru_l_mC] at hl2; exact hl2
  have D3 : ru_D T XL cl t np (ru_tb v np) (ru_el w t) := ru_D_tb D we kk zz (ru_H_e D0 K.2.2.2.2.2.1) hl3
  have W3 : ru_we L (ru_tb v np) (ru_el w t) := ru_we_tb we kk
  have K3 : ru_K np t h g cl vc vr (ru_tb v np) (ru_el w t) := ru_K_el (ru_K_tb K (by omega))
  have l3 : ru_l (ru_tb v np) ≤ ru_l v + 2 := ru_lw_tb D.2.2.1 hl3
  have e1 : fX4_leaveTop (mC v p4 h4 f (np + 1) cl) = fX4_leave np (nI px) (mC (ru_tb v np) p4 h4 f (np + 1) cl) := cs_le2 D.1 hnp a0 a1 a2 c3 D3.1
  have eh : q_f (ru_tb v np) 1203 np = nI h := by rw [tb_f (by omega)]; exact a3
  rcases hw with ⟨z1, z2⟩ | ⟨z1, z2⟩
  · have ee : ru_el w t = ru_tw w t := by unfold ru_el; rw [if_pos z1]
    rw [ee] at D3 W3 K3
    subst z2
    have e2 : rs_it (mR (ru_s (ru_tw w t) t 10) q4 g4 f (t + 1) cl) = q_bd (fX12_closes (nI t) (nI qx) (mR (ru_s (ru_tw w t) t 10) q4 g4 f (t + 1) cl)) rs_01 := rs_le10 (ru_D_s9 (t' := t) (st := 10) D3).1 hd ht (by rw [s_a (by omega), tw_a]; exact g8) s_at (by rw [s_a (by omega), tw_a]; exact g9) r5
    exact ru_OUT n x hf e1 e2 D.2.2.2.2.1.2.2.1 (ru_we_c we) ht (by omega) (ru_D_s9 D3) (ru_we_i W3 (fun k _ _ => rfl) (fun k _ _ => by rw [s_i])) (ru_K_s9 K3 (Nat.le_refl _)) eh (by rw [s_a (by omega), tw_a]; exact eg) ⟨l3, Nat.le_of_eq (by unfold ru_w; rw [tb_f (by omega), tb_i (by omega)])⟩ (ru_w_e (fun i => tb_f (by omega)))
  · have ee : ru_el w t = ru_lo w t := by unfold ru_el; rw [if_neg z1]
    rw [ee] at D3 W3 K3
    subst z2
    have e2 := rs_le9 (q := q4) (g := g4) (f := f) (cl := cl) D.1 hd ht g8 g1 g9 r5 (ru_n70 D.2.2.1) D3.1
    exact ru_OUT n x hf e1 e2 D.2.2.2.2.1.2.2.1 (ru_we_c we) ht (by omega) D3 W3 K3 eh (by rw [lo_a (by omega)]; exact eg) ⟨l3, Nat.le_of_eq (by unfold ru_w; rw [tb_f (by omega), tb_i (by omega)])⟩ (ru_w_e (fun i => tb_f (by omega)))
end
