set_option maxHeartbeats 200000 in
theorem c1_aa {v : q_V} {i h k np p : Nat} : q_a (ru_c1 v i h k np p) = q_a (ru_ct v 15) := by
  unfold ru_c1; rw [q_a_sf, q_a_sf, bg_a, q_a_sc, cf_a]
set_option maxHeartbeats 200000 in
theorem c1_f {v : q_V} {i h k np p m n : Nat} (h1 : n ≠ np ∨ m < 1200 ∨ 1207 < m) : q_f (ru_c1 v i h k np p) m n = if n = i ∧ 602 ≤ m ∧ m ≤ 604 then 0 else q_f v m n := by
  unfold ru_c1
  rw [q_f_sf, if_neg (by omega), q_f_sf, if_neg (by omega), bg_f h1, q_f_sc]
  unfold ru_cf
  by_cases c : n = i ∧ 602 ≤ m ∧ m ≤ 604
  · rw [if_pos c]
    by_cases c4 : m = 604
    · rw [q_f_sf, if_pos ⟨c4, c.1⟩]
    · rw [q_f_sf, if_neg (by omega)]
      by_cases c3 : m = 603
      · rw [q_f_sf, if_pos ⟨c3, c.1⟩]
      · rw [q_f_sf, if_neg (by omega), q_f_sf, if_pos ⟨by omega, c.1⟩]
  · rw [if_neg c, q_f_sf, if_neg (by omega), q_f_sf, if_neg (by omega), q_f_sf, if_neg (by omega), q_f_sc, ct_f]
set_option maxHeartbeats 200000 in
theorem c1_w {v : q_V} {i h k np p : Nat} : q_f (ru_c1 v i h k np p) 1200 np = 53 ∧ q_f (ru_c1 v i h k np p) 1201 np = 0 ∧ q_f (ru_c1 v i h k np p) 1203 np = nI h ∧ q_f (ru_c1 v i h k np p) 1205 np = nI p ∧ q_f (ru_c1 v i h k np p) 1206 np = q_i v 811 ∧ q_f (ru_c1 v i h k np p) 1207 np = q_i v 812 := by
  unfold ru_c1
  obtain ⟨b1, b2, b3, b4, b5⟩ := ru_bg_w (vc := q_sc (ru_cf (ru_ct v 15) i) 600 i (ru_sl v i h k 0)) (np := np) (h := h) (x := 53) (y := nI 0)
  refine ⟨?_, ?_, ?_, ?_, ?_, ?_⟩
  · rw [q_f_sf, if_neg (by omega), q_f_sf, if_neg (by omega)]; exact b1
  · rw [q_f_sf, if_neg (by omega), q_f_sf, if_neg (by omega)]; exact b2
  · rw [q_f_sf, if_neg (by omega), q_f_sf, if_neg (by omega)]; exact b4
  · rw [q_f_sf, if_neg (by omega), q_f_sf, if_pos ⟨rfl, rfl⟩]
  · rw [q_f_sf, if_pos ⟨rfl, rfl⟩]
  · rw [q_f_sf, if_neg (by omega), q_f_sf, if_neg (by omega), b5, q_i_sc, cf_i, ct_i]
set_option maxHeartbeats 200000 in
theorem c1_c {v : q_V} {i h k np p n : Nat} : q_c (ru_c1 v i h k np p) 600 n = (if n = i then ru_sl v i h k 0 else q_c v 600 n) ∧ q_c (ru_c1 v i h k np p) 601 n = q_c v 601 n := by
  have e : ∀ j m, q_c (ru_c1 v i h k np p) j m = q_c (q_sc (ru_cf (ru_ct v 15) i) 600 i (ru_sl v i h k 0)) j m := fun j m => by
    unfold ru_c1 ru_bg; rw [q_c_sf, q_c_sf, q_c_sf, q_c_sf, q_c_sf, q_c_sf, q_c_sf]
  have e2 : ∀ j m, q_c (ru_cf (ru_ct v 15) i) j m = if j = 600 ∧ m = i then (fun x => if x < 24 then 0 else q_c v 600 i x) else q_c v j m := fun j m => by
    unfold ru_cf; rw [q_c_sf, q_c_sf, q_c_sf, q_c_sc]; rfl
  rw [e, e, q_c_sc, q_c_sc]
  constructor
  · by_cases c : n = i
    · rw [if_pos ⟨rfl, c⟩, if_pos c]
    · rw [if_neg (fun z => c z.2), if_neg c, e2, if_neg (fun z => c z.2)]
  · rw [if_neg (by omega), e2, if_neg (by omega)]
section
variable {Fin : q_V → q_V → Prop} {a : ru_P} {T : co_T} {XL : Int32 → Int32 → Int32 → Prop} {f0 nu : Nat} {L : List (Nat × Nat)}
set_option maxHeartbeats 200000 in
theorem ru_A_e2 {v v' w w' : q_V} (s : ru_A v w) (e1 : ∀ j, 200 ≤ j → j ≤ 204 → q_a v' j = q_a v j) (e5 : ∀ j, 2463 ≤ j → j ≤ 2467 → q_a w' j = q_a w j) : ru_A v' w' := by
  unfold ru_A at s ⊢
  rw [e1 200 (by omega) (by omega), e1 201 (by omega) (by omega), e1 202 (by omega) (by omega), e1 203 (by omega) (by omega), e1 204 (by omega) (by omega), e5 2463 (by omega) (by omega), e5 2464 (by omega) (by omega), e5 2465 (by omega) (by omega), e5 2466 (by omega) (by omega), e5 2467 (by omega) (by omega)]
  exact s
set_option maxHeartbeats 200000 in
theorem ru_D_call {cl t np h g k p q d : Nat} {vc vr : q_V} (dd : ru_D T XL cl t np vc vr) (hk : k ≤ 8) (E : ∀ i, i < k → q_a vc 802 (h + i) = q_a vr 2515 (g + i)) : ru_D T XL (cl + 1) (t + 1) (np + 1) (ru_c1 vc cl h k np p) (ru_c3 (q_si vr 2480 (q_i vr 2480 + 1)) (cl + 1) g k t q (nI d)) := by
  have dc := ru_D_c15 dd
  obtain ⟨d1, d2, d3, d4, d5, d6⟩ := dd
  have z0 : q_a (ru_c3 (q_si vr 2480 (q_i vr 2480 + 1)) (cl + 1) g k t q (nI d)) 2491 t = 0 := by rw [c3_o (by omega) (by omega)]; exact ru_op_w.2.2.2.1
  have zt : ru_z (ru_c3 (q_si vr 2480 (q_i vr 2480 + 1)) (cl + 1) g k t q (nI d)) t = ru_z vr t := ru_z_c (fun n hn => by
    rw [c3_o (by omega) (by omega)]; unfold ru_op
    rw [q_a_sa, if_neg (by omega), q_a_sa, if_pos rfl, upd_ne (by omega)]
    repeat rw [q_a_sa, if_neg (by omega)]
    rw [q_a_si])
  refine ⟨ru_S_e2 d1 (c1_a (by omega)) (c1_a (by omega)) (by rw [c1_i]) (by rw [c1_i]) c1_n (fun j h1 h2 => by rw [c3_a (by omega) (by omega) (by omega), q_a_si]), ru_A_e2 d2 (fun j h1 h2 => c1_a (by omega)) (fun j h1 h2 => by rw [c3_a (by omega) (by omega) (by omega), q_a_si]), ru_Q_e2 dc.2.2.1 (fun j _ _ => by rw [c1_aa]) (fun j h1 h2 => by rw [c3_a (by omega) (by omega) (by omega)]) (fun k hk => by rw [c3_i]), ?_, ⟨trivial, ?_, ?_, ?_, ?_⟩, ?_⟩
  · intro i hi
    rw [c3_4, c3_5, c3_6, c3_9, c3_a (by omega) (by omega) (by omega), c3_a (by omega) (by omega) (by omega), q_a_si, c1_f (by omega), c1_f (by omega), c1_f (by omega), c1_c.1, c1_c.2]
    by_cases c : i = cl
    · subst c
      rw [if_pos rfl, if_pos ⟨rfl, by omega, by omega⟩, if_pos ⟨rfl, by omega, by omega⟩, if_pos ⟨rfl, by omega, by omega⟩, upd_at, upd_at]
      refine ⟨fun x hx => ?_, rfl, rfl, 0, by omega, rfl, upd_at, fun j hj => absurd hj (by omega)⟩
      unfold ru_sl ru_vl
      rw [if_pos (show 24 * (i + 1) ≤ 24 * (i + 1) + x ∧ 24 * (i + 1) + x < 24 * (i + 1) + 24 by omega), show 24 * (i + 1) + x - 24 * (i + 1) = x from by omega]
      by_cases c2 : x < k
      · rw [if_pos (show 0 ≤ x ∧ x < k by omega), if_pos c2, q_a_si]; exact E x c2
      · rw [if_neg (show ¬ (0 ≤ x ∧ x < k) by omega), if_pos hx, if_neg c2]
    · obtain ⟨h1, h2, h3, m, h4, h5, h6, h7⟩ := d4 i (by omega)
      rw [if_neg c, if_neg (fun z => c z.1), if_neg (fun z => c z.1), if_neg (fun z => c z.1), upd_ne (by omega), upd_ne (by omega), upd_ne (by omega)]
      refine ⟨fun x hx => ?_, h2, h3, m, h4, h5, h6, h7⟩
      unfold ru_vl
      rw [if_neg (by omega), q_a_si]; exact h1 x hx
  · rw [c1_i, ru_z_s, z0, if_pos (by decide), zt]; exact d5.2.1
  · rw [c1_i]; exact d5.2.2.1
  · rw [c3_i, q_i_si, if_neg (by omega)]; exact d5.2.2.2.1
  · rw [c3_i, q_i_si, if_neg (by omega)]; exact d5.2.2.2.2
  · intro j hj
    obtain ⟨m, h1, h2⟩ := d6 j hj
    exact ⟨m, by omega, by rw [c1_a (by omega)]; exact h2⟩
set_option maxHeartbeats 200000 in
theorem ru_K_call {cl t np h g k p q d : Nat} {vc vr : q_V} : ru_K np t h g cl vc vr (ru_c1 vc cl h k np p) (ru_c3 (q_si vr 2480 (q_i vr 2480 + 1)) (cl + 1) g k t q (nI d)) := by
  refine ⟨fun m n x y => ?_, fun i x => ?_, fun j n x y z => ⟨?_, ?_⟩, fun i x => ?_, fun i x => ?_, ?_, fun i x => ?_⟩
  · rw [c1_f (by omega), if_neg (by omega)]
  · rw [c1_a (by omega)]
  · by_cases c : j ≤ 2492
    · rw [c3_o x c]
      have h0 := (ru_K_op (np := np) (t := t) (h := h) (g := g) (cl := cl) (t' := t) (g' := g) (s := 1) (st := 6) (e := nI d) (ru_K_id (vc := vc) (vr := q_sa (q_si vr 2480 (q_i vr 2480 + 1)) 2509 (ru_vl (q_si vr 2480 (q_i vr 2480 + 1)) (cl + 1) g k 24))) (Nat.le_refl _)).2.2.1 j n x y z
      rw [h0.1, q_a_sa, if_neg (by omega), q_a_si]
    · rw [c3_a (by omega) (by omega) (by omega), q_a_si]
  · rw [c3_b, q_b_si]
  · rw [c3_a (by omega) (by omega) (by omega), q_a_si]
  · rw [c3_2, c3_3, upd_ne (by omega), upd_ne (by omega), q_a_si]; exact ⟨rfl, rfl⟩
  · rw [c1_a (by omega)]
  · rw [c1_f (by omega), if_neg (by omega)]
set_option maxHeartbeats 200000 in
theorem ru_G_at {S S' B : Nat} {vc vr : q_V} (h : ru_G Fin (ru_at a S) B vc vr) (hS : S' ≤ S) : ru_G Fin (ru_at a S') B vc vr := fun s h1 h2 h3 h4 => h s h1 (Nat.le_trans h2 hS) h3 h4
set_option maxHeartbeats 200000 in
theorem ru_L_at {S S' B : Nat} {vc vr : q_V} (h : ru_L Fin (ru_at a S) B vc vr) (hS : S' ≤ S) : ru_L Fin (ru_at a S') B vc vr := fun s h1 h2 h3 h4 => h s h1 (Nat.le_trans h2 hS) h3 h4
/-- what the blocks of duties and of laters come to, in fewer steps -/
def ru_HC (Fin : q_V → q_V → Prop) (a : ru_P) (T : co_T) (XL : Int32 → Int32 → Int32 → Prop) (f0 : Nat) : Prop :=
  (∀ d k pe qe, T.2.2.2 d = some (k, pe, qe) → ∃ pe' qe', pe' < 6016 ∧ ru_SS Fin a T XL f0 1 [] pe pe' qe qe' ∧ co_c T pe' 54 ∧ co_r T 0 qe' 48) ∧ ru_HL Fin a T XL f0
set_option maxHeartbeats 200000 in
theorem ru_CALL {hb p p1 q q1 k d pe qe S : Nat} (HO : ∀ S', S' ≤ S → ru_O Fin (ru_at a S') T) (hf0 : f0 ≤ 20000) (s1 : ru_SA Fin (ru_at a S) T XL f0 k hb p p1 q q1) (h0 : 1 ≤ hb) (hkb : k ≤ hb) (hT : T.2.2.2 d = some (k, pe, qe)) (c0 : co_c T p1 53) (c1 : co_c T (p1 + 1) (nI d)) (r0 : co_r T 0 q1 19) (r1 : co_r T 1 q1 (nI d)) (r2 : co_r T 2 q1 (nI k)) (HC : ∀ S', S' < S → ru_HC Fin (ru_at a S') T XL f0) : ru_SA Fin (ru_at a S) T XL f0 1 hb p (p1 + 2) q (q1 + 1) := by
  refine ru_BEH s1 (by omega) (by omega) ?_
  intro c f h g np t cl vc vr d0 W hf hf0' hh hg hn ht hc hc' E k1 k2
  cases S with
  | zero => exact ru_G_0 (by omega)
  | succ S =>
  cases f with
  | zero =>
    rw [show 40000 * 0 + c + 4 * (p1 + 2 - p1) = c + 7 + 1 from by omega]
    exact ru_cs (cs_CALL0 d0.1 c0 c1) d0.2.2.2.2.1.2.2.1 W.1 ⟨Nat.le_add_right _ _, Nat.le_refl _⟩ (ru_rs (rs_CALL0 d0.1 r0) d0.2.2.2.2.1.2.2.2.1 d0.2.2.2.2.1.2.2.2.2 (ru_over (o := 2) (HO (S + 1) (Nat.le_refl _)) (Or.inr rfl) d0.1 d0.2.1 (ru_Q_i (by omega) (by omega) d0.2.2.1) (by omega) rfl rfl))
  | succ f =>
  by_cases c12 : cl = 12
  · subst c12
    refine ru_mono (B := 40000 * f + c + 1) ?_ (by omega)
    refine ru_G_l (fun hl => ?_)
    obtain ⟨d1, d2⟩ := ru_D_t (k := 2) d0 W.2.2 (by rw [ru_l_mC] at hl; exact hl) (by decide)
    have lt : ru_l (ru_tc vc 2) ≤ ru_l vc + 2 := by
      have e : ru_l (ru_tc vc 2) = ru_l (ru_wr (ru_ct vc 12) 7 2) := by unfold ru_tc ru_be ru_l; rw [q_a_sf, q_a_sf, q_a_sf, q_a_sf]
      rw [ru_l_mC] at hl
      rw [e, ru_l_wr (vc := ru_ct vc 12) (by rw [show q_a (ru_ct vc 12) 1400 16 = q_a vc 1400 16 from by unfold ru_ct; rw [q_a_sa, if_pos rfl, upd_ne (by omega)]]; exact ru_n16 d0.2.2.1) (by rw [ru_l_ct (by omega)]; exact hl), ru_l_ct (by omega)]; omega
    refine ru_cs (cs_CALLd d0.1 (by omega) c0 c1) d0.2.2.2.2.1.2.2.1 W.1 ⟨by rw [ru_l_mC, ru_l_mC]; exact lt, Nat.le_of_eq (ru_w_e (fun i => ?_))⟩ (ru_rl (rs_CALLd d0.1 (by omega) (by omega) (ru_n70 d0.2.2.1) r0) d0.2.2.2.2.1.2.2.2.1 d0.2.2.2.2.1.2.2.2.2 (k2 f _ _ _ _ _ _ d1 d2 (by omega) (ru_K_t ru_K_id (by omega))))
    unfold ru_tc ru_be; rw [q_f_sf, if_neg (by omega), q_f_sf, if_neg (by omega), q_f_sf, if_neg (by omega), q_f_sf, if_neg (by omega), wr_f, ct_f]
  · obtain ⟨⟨pe', qe', x1, x2, x3, x4⟩, hl⟩ : (∃ pe' qe', pe' < 6016 ∧ ru_SS Fin (ru_at a S) T XL f0 1 [] pe pe' qe qe' ∧ co_c T pe' 54 ∧ co_r T 0 qe' 48) ∧ ru_HL Fin (ru_at a S) T XL f0 := ⟨(HC S (by omega)).1 d k pe qe hT, (HC S (by omega)).2⟩
    have hk := (d0.1.2.2.2.2.choose_spec.2.2 d k pe qe hT).2.1
    obtain ⟨w, hw, ew⟩ : ∃ w, w ≤ 40 ∧ q_f vc 602 (cl - 1) = nI w := by
      obtain ⟨-, -, -, w, hw, ew, -⟩ := d0.2.2.2.1 (cl - 1) (by omega)
      exact ⟨w, hw, ew⟩
    have cw : (q_f vc 602 (cl - 1)).toNatClampNeg = w := by rw [ew, ni_clamp (by omega)]
    have Db := ru_D_call (p := p1 + 2) (q := q1 + 1) (d := d) d0 hk E
    have Kb := ru_K_call (cl := cl) (t := t) (np := np) (h := h) (g := g) (k := k) (p := p1 + 2) (q := q1 + 1) (d := d) (vc := vc) (vr := vr)
    have w0 : ru_w (mC vc p1 (h + k) (f + 1) np cl) = 25000 * w := by
      unfold ru_w; rw [mC_805, mC_f, ni_clamp (by omega), cw]
    have w1 : ru_w (mC (ru_c1 vc cl h k np (p1 + 2)) pe h f (np + 1) (cl + 1)) = 25000 * 0 := ru_w_at (by omega) (by rw [c1_f (by omega), if_pos ⟨rfl, by omega, by omega⟩]; rfl) (by omega)
    have l1 : ru_l (ru_c1 vc cl h k np (p1 + 2)) = ru_l vc := by
      have : ru_l (ru_c1 vc cl h k np (p1 + 2)) = ru_l (ru_ct vc 15) := by unfold ru_l; rw [c1_aa]
      rw [this, ru_l_ct (by omega)]
    have o1 := x2.1
    have bd : ru_bd 1 f f0 h g (np + 1) (t + 1) (cl + 1) := ⟨by omega, hf0, by omega, by omega, by omega, hg, by omega, by omega, by omega, by omega⟩
    refine ru_cg (a := ru_at a (S + 1)) (B1 := 40000 * f + (c + 25000 * (q_f vc 602 (cl - 1)).toNatClampNeg + 1) + 4 * (pe' + 1 - pe)) ⟨d0.2.2.2.2.1.2.2.1, Or.inl ⟨W.1, cs_CALL d0.1 hT (by omega) (by omega) (by omega) (by omega) c0 c1⟩⟩ (by rw [ru_l_mC, ru_l_mC, l1]; omega) (by rw [w0, w1, cw]; omega) ?_
    refine ru_rs (rs_CALL d0.1 hT (by omega) (by omega) (by omega) (by omega) r0 r1 r2) d0.2.2.2.2.1.2.2.2.1 d0.2.2.2.2.1.2.2.2.2 ?_
    refine ru_BODY (a := ru_at a S) x2 x3 x4 Db ⟨by rw [c1_f (by omega), if_neg (by omega)]; exact W.1, by rw [c3_i, q_i_si, if_neg (by omega)]; exact W.2.1⟩ bd ?_
    intro f' p'' h'' q'' g'' v w' d' we pex hf' K'
    have a7 : q_f (ru_c1 vc cl h k np (p1 + 2)) 1207 np = ru_z (ru_c3 (q_si vr 2480 (q_i vr 2480 + 1)) (cl + 1) g k t (q1 + 1) (nI d)) t := by
      rw [c1_w.2.2.2.2.2, ru_z_K Kb]; exact d0.2.2.2.2.1.2.1
    refine ru_EXIT (a := a) (by omega) bd c1_w.1 c1_w.2.2.1 a7 (ru_H_e d0.2.2.2.2.2 (c1_a (by omega))) S (fun S' hS => (HC S' (by omega)).2) (fun S' hS => ?_) f' p'' h'' q'' g'' v w' hf' ?_
    · refine ru_EHc (a := ru_at a S') (c := c) (vc := vc) (vr := vr) (rt := p1 + 2) (rq := q1 + 1) (rp := q_i vc 811) hn.1 (by omega) (by omega) hc (by omega) (by omega) (by omega) c1_w.2.2.1 c1_w.2.2.2.1 c1_w.2.2.2.2.1 (by rw [c3_2, upd_at]) (by rw [c3_3, upd_at, q_i_si, if_neg (by omega)]; exact W.2.2.symm) Kb (by rw [c1_f (by omega), if_neg (by omega)]) ?_ ?_
      · intro f3 v3 w3 D3 W3 hf3 K3 E3
        exact ru_G_at (k1 f3 v3 w3 D3 W3 (by omega) K3 E3) (by omega)
      · intro f3 p3 h3 q3 g3 v3 w3 D3 W3 hf3 K3
        exact ru_L_at (k2 f3 p3 h3 q3 g3 v3 w3 D3 W3 (by omega) K3) (by omega)
    · have ko : ∀ j, 2488 ≤ j → j ≤ 2492 → q_a w' j t = q_a (ru_op (q_sa (q_si vr 2480 (q_i vr 2480 + 1)) 2509 (ru_vl (q_si vr 2480 (q_i vr 2480 + 1)) (cl + 1) g k 24)) t g 1 6 (nI d)) j t := fun j h1 h2 => (K'.2.2.1 j t (by omega) (by omega) (by omega)).1.trans (by rw [c3_o h1 h2])
      refine ⟨d', we, ⟨fun m n x y => K'.1 m n x (by omega), K'.2.1, fun j n x y z => K'.2.2.1 j n x y (by omega), K'.2.2.2.1, K'.2.2.2.2.1, K'.2.2.2.2.2.1, K'.2.2.2.2.2.2⟩, fun m y1 y2 y3 => K'.1 m np y1 (by omega), ?_, ?_, Or.inl ⟨?_, ?_, ?_⟩⟩
      · rw [ko 2488 (by omega) (by omega)]; exact ru_op_w.1
      · rw [ko 2492 (by omega) (by omega)]; exact ru_op_w.2.2.2.2
      · rw [K'.1 1201 np (by omega) (by omega)]; exact c1_w.2.1
      · rw [ko 2489 (by omega) (by omega)]; exact ru_op_w.2.1
      · rw [ko 2491 (by omega) (by omega)]; exact ru_op_w.2.2.2.1
end
