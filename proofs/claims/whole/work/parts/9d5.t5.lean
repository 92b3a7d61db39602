section
variable {Fin : q_V → q_V → Prop} {a : ru_P} {T : co_T} {XL : Int32 → Int32 → Int32 → Prop} {f0 nu : Nat} {L : List (Nat × Nat)}
set_option maxHeartbeats 200000 in
theorem mR_oi {v : q_V} {q g f t cl k : Nat} (h : k < 2487 ∨ 2516 < k) : q_i (mR v q g f t cl) k = q_i v k := by
  rw [mR_i, if_neg (by omega), if_neg (by omega), if_neg (by omega), if_neg (by omega), if_neg (by omega)]
set_option maxHeartbeats 200000 in
theorem rs_518 {v : q_V} {q g f t cl : Nat} {x1 x2 x3 : Int32} {al : Bool} : fX12_stepOfStatement_b518 x1 x2 x3 (if al then 1 else 0) (q_i (mR v q g f t cl) 2473) (mR v q g f t cl) = some (mR (ru_al v al) q g f t cl) := by
  unfold fX12_stepOfStatement_b518 fX12_stepOfStatement_b600 ru_al
  rw [mR_oi (by omega), q_lt_s, mR_s2473]
  cases al
  · rw [if_neg (by decide), if_neg (by decide), Int32.add_zero, q_si_id]
  · rw [if_pos rfl, if_pos rfl]
set_option maxHeartbeats 200000 in
/-- a try: its beginning -/
theorem rs_TRY {vc vr : q_V} {q g f t cl d : Nat} {z : Int32} (s : ru_S T vc vr) (hd : d < 640) (ht : t < 240) (r0 : co_r T 0 q 50) (r1 : co_r T 1 q (nI d)) (r4 : co_d T 4 d z) : fX12_step (mR vr q g f t cl) = some (mR (ru_al (ru_op vr t g 4 3 (nI d)) (decide (z ≠ -1))) (q + 1) g f (t + 1) cl) := by
  have e4 : q_a (ru_op vr t g 4 3 (nI d)) 2452 d = z := by rw [op_a (by omega)]; exact rs_4 s r4
  rw [rs_step s r0, rd_50, q_bv_id, r1.2, rs_opens ht, q_bv_s, if_neg (by rw [ni_in hd (by omega)]; exact id), ni_clamp (by omega), mR_a, e4]
  by_cases c : z = -1
  · have h := rs_518 (v := ru_op vr t g 4 3 (nI d)) (q := q + 1) (g := g) (f := f) (t := t + 1) (cl := cl) (x1 := 50) (x2 := nI d) (x3 := T.2.2.1 2 q) (al := false)
    rw [if_neg (by decide)] at h
    rw [if_pos c, h, decide_eq_false (fun x => x c)]
  · have h := rs_518 (v := ru_op vr t g 4 3 (nI d)) (q := q + 1) (g := g) (f := f) (t := t + 1) (cl := cl) (x1 := 50) (x2 := nI d) (x3 := T.2.2.1 2 q) (al := true)
    rw [if_pos rfl] at h
    rw [if_neg c, h, decide_eq_true c]
set_option maxHeartbeats 200000 in
theorem ru_afacts {np t h g cl p d : Nat} {vc vr v w : q_V} {al : Bool} (K : ru_K (np + 1) (t + 1) h g cl (ru_rc vc np h p 47 al) (ru_al (ru_op vr t g 4 3 (nI d)) al) v w) :
    (q_f v 1200 np = 47 ∧ q_f v 1201 np = 0 ∧ q_f v 1202 np = nI p ∧ q_f v 1203 np = nI h ∧ q_f v 1207 np = q_i vc 812) ∧ (q_a w 2488 t = 4 ∧ q_a w 2489 t = 3 ∧ q_a w 2490 t = nI d ∧ q_a w 2491 t = 0 ∧ q_a w 2492 t = nI g) := by
  have kf : ∀ k, 1200 ≤ k → q_f v k np = q_f (ru_bg vc np h 47 (nI p)) k np := fun k hk => (K.1 k np hk (by omega)).trans rc_f
  have ka : ∀ j, 2488 ≤ j → j ≤ 2500 → q_a w j t = q_a (ru_op vr t g 4 3 (nI d)) j t := fun j x y => (K.2.2.1 j t x y (by omega)).1.trans (by rw [al_a])
  rw [kf 1200 (by omega), kf 1201 (by omega), kf 1202 (by omega), kf 1203 (by omega), kf 1207 (by omega), ka 2488 (by omega) (by omega), ka 2489 (by omega) (by omega), ka 2490 (by omega) (by omega), ka 2491 (by omega) (by omega), ka 2492 (by omega) (by omega)]
  exact ⟨ru_bg_w, ru_op_w⟩
set_option maxHeartbeats 200000 in
theorem ru_tb_l {v w : q_V} {n : Nat} (h0 : ru_Q v w) (hl : ru_l v ≤ 2000000000) : ru_l (ru_tb v n) ≤ ru_l v + 1 := by
  unfold ru_tb
  split
  · rw [show ru_l (ru_cp (q_si v 812 (q_f v 1207 n)) 168 n) = ru_l v from by unfold ru_l; rw [cp_a, q_a_si]]; omega
  · split
    · rw [ru_l_wr (vc := ru_ct (q_si v 812 (q_f v 1207 n)) 14) (by rw [show q_a (ru_ct (q_si v 812 (q_f v 1207 n)) 14) 1400 16 = q_a v 1400 16 from by unfold ru_ct; rw [q_a_sa, if_pos rfl, upd_ne (by omega), q_a_si]]; exact ru_n16 h0) (by rw [ru_l_ct (by omega), ru_l_si]; exact hl), ru_l_ct (by omega), ru_l_si]; omega
    · rw [ru_l_si]; omega
set_option maxHeartbeats 200000 in
/-- the leaving of a try's asking: by a trouble, or with nothing mended -/
theorem ru_ASK {p d cF f f1 h g np t cl p4 h4 q4 g4 : Nat} {y : Int32} {vc vr v w w1 : q_V} (ht : t < 240) (hnp : np < 168) (c2 : co_c T (p + 2) y) (TF : ru_TF Fin a T XL L cF f1 h g np t cl p d vc vr) (hf : f ≤ f1) (D0 : ru_H np vc) (D : ru_D T XL cl (t + 1) (np + 1) v w) (we : ru_we L v w) (kk : ru_kk L np t v w) (K : ru_K np t h g cl vc vr v w)
    (a0 : q_f v 1200 np = 47) (a1 : q_f v 1201 np = 1) (a2 : q_f v 1202 np = nI p) (a3 : q_f v 1203 np = nI h) (zz : q_f v 1207 np = ru_z w t) (g8 : q_a w 2488 t = 4) (g1 : q_a w 2489 t = 4) (g9 : q_a w 2490 t = nI d) (eg : q_a w 2492 t = nI g) (hc : 1 ≤ cF)
    (hw : (q_i w 2481 = 0 ∧ w1 = ru_s (ru_tw w t) t 5) ∨ (q_i w 2481 ≠ 0 ∧ w1 = w)) :
    ru_L Fin a (40000 * f + cF) (mC v p4 h4 f (np + 1) cl) (mR w1 q4 g4 f (t + 1) cl) := by
  obtain ⟨cF, rfl⟩ : ∃ k, cF = k + 1 := ⟨cF - 1, by omega⟩
  rw [show 40000 * f + (cF + 1) = 40000 * f + cF + 1 from by omega]
  refine ru_L_l2 (fun hl2 => ?_)
  have hl3 : ru_l v ≤ 2000000000 := by rw [ru_l_mC] at hl2; omega
  rw [ru_l_mC] at hl2
  rw [show 40000 * f + cF + 1 = 40000 * f + (cF + 1) from by omega]
  have D3 : ru_D T XL cl t np (ru_tb v np) (ru_el w t) := ru_D_tb D we kk zz (ru_H_e D0 K.2.2.2.2.2.1) hl3
  have W3 : ru_we L (ru_tb v np) (ru_el w t) := ru_we_tb we kk
  have K3 : ru_K np t h g cl vc vr (ru_tb v np) (ru_el w t) := ru_K_el (ru_K_tb K (by omega))
  have tf : ∀ k, k < 2000 → q_f (ru_tb v np) k np = q_f v k np := fun k hk => tb_f (Or.inr hk)
  have l3 := ru_tb_l (n := np) D.2.2.1 hl3
  have l4 : ru_l (ru_tb v np) ≤ 2000000000 := by omega
  have e1 := cs_lt1 (p := p4) (h := h4) (f := f) (cl := cl) D.1 hnp a0 a1 a2 c2
  have ez : ru_z (ru_el w t) t = ru_z w t := ru_z_e (el_a (by omega))
  · rcases hw with ⟨z1, z2⟩ | ⟨z1, z2⟩
    · have ee : ru_el w t = ru_tw w t := by unfold ru_el; rw [if_pos z1]
      rw [ee] at D3 W3 K3 ez
      subst z2
      refine TF f p4 h4 q4 g4 p4 h4 q4 g4 v (ru_s (ru_tw w t) t 5) (ru_tb v np) (ru_s (ru_tw w t) t 5) hf e1 (rs_lt5 ht (by rw [s_a (by omega), tw_a]; exact g8) s_at (by rw [s_a (by omega), tw_a]; exact g9)) D.2.2.2.2.1.2.2.1 (ru_we_c we) (ru_D_s9 D3) (ru_we_i W3 (fun k _ _ => rfl) (fun k _ _ => by rw [s_i])) (ru_K_s9 K3 (Nat.le_refl _)) ((tf 1200 (by omega)).trans a0) (by rw [tf 1201 (by omega), a1]; decide) ((tf 1202 (by omega)).trans a2) ((tf 1203 (by omega)).trans a3) ?_ (by rw [s_a (by omega), tw_a]; exact g8) (by rw [s_a (by omega), tw_a]; exact g9) (by rw [s_a (by omega), tw_a]; exact eg) l3 l4 (fun i => tb_f (by omega)) (tb_i (by omega))
      rw [tf 1207 (by omega), zz, ← ez]; exact (ru_z_e (s_a (by omega))).symm
    · have ee : ru_el w t = ru_lo w t := by unfold ru_el; rw [if_neg z1]
      rw [ee] at D3 W3 K3 ez
      rw [z2]
      refine TF f p4 h4 q4 g4 p4 h4 q4 g4 v w (ru_tb v np) (ru_lo w t) hf e1 (rs_lt4 ht g8 g1 g9 (ru_n70 D.2.2.1)) D.2.2.2.2.1.2.2.1 (ru_we_c we) D3 W3 K3 ((tf 1200 (by omega)).trans a0) (by rw [tf 1201 (by omega), a1]; decide) ((tf 1202 (by omega)).trans a2) ((tf 1203 (by omega)).trans a3) ?_ (by rw [lo_a (by omega)]; exact g8) (by rw [lo_a (by omega)]; exact g9) (by rw [lo_a (by omega)]; exact eg) l3 l4 (fun i => tb_f (by omega)) (tb_i (by omega))
      rw [tf 1207 (by omega), zz, ← ez]
end
