set_option maxHeartbeats 200000 in
theorem ru_z_0 {v : q_V} : ru_z v 0 = 0 := rfl
section
variable {T : co_T} {XL : Int32 → Int32 → Int32 → Prop}
set_option maxHeartbeats 200000 in
/-- both, cleared for a run, with the arguments pushed -/
theorem ru_D_0 {vc vr : q_V} {u u' : Nat → Int32} (S : ru_S T vc vr) (A : ru_A vc vr) (h0 : ∀ k, k < 6 → q_a vc 203 k = 0) (t17 : q_a vc 1400 17 = q_i vr 2524) (l1 : q_a vc 1401 = q_a vr 2468) (l2 : q_a vc 1402 = q_a vr 2469) : ru_D T XL 0 0 0 (q_sa (ru_v0 (q_sa vc 1400 (upd (ru_c7 vc 19) 4 (-1)))) 802 u) (q_sa (ru_cl0 vr) 2515 u') := by
  have ea : ∀ j, j ≠ 802 → j ≠ 1400 → q_a (q_sa (ru_v0 (q_sa vc 1400 (upd (ru_c7 vc 19) 4 (-1)))) 802 u) j = q_a vc j := fun j z1 z2 => by rw [q_a_sa, if_neg z1, v0_a, q_a_sa, if_neg z2]
  have e4 : q_a (q_sa (ru_v0 (q_sa vc 1400 (upd (ru_c7 vc 19) 4 (-1)))) 802 u) 1400 = upd (ru_c7 vc 19) 4 (-1) := by rw [q_a_sa, if_neg (by omega), v0_a, q_a_sa, if_pos rfl]
  have eb : ∀ j, j ≠ 2515 → q_a (q_sa (ru_cl0 vr) 2515 u') j = q_a vr j := fun j z => by rw [q_a_sa, if_neg z, cl0_a]
  have c0 : ∀ k, k < 19 → k ≠ 17 → k ≠ 4 → upd (ru_c7 vc 19) 4 (-1) k = 0 := fun k z1 z2 z3 => by rw [upd_ne z3]; unfold ru_c7; rw [if_pos ⟨z1, z2⟩]
  refine ⟨ru_S_e2 S (ea 0 (by omega) (by omega)) (ea 2 (by omega) (by omega)) (by rw [q_i_sa, v0_i (by omega), q_i_sa]) (by rw [q_i_sa, v0_i (by omega), q_i_sa]) (by rw [q_n_sa, v0_n, q_n_sa]) (fun j _ _ => eb j (by omega)), ru_A_e2 A (fun j _ _ => ea j (by omega) (by omega)) (fun j _ _ => eb j (by omega)), ?_, fun i hi => absurd hi (by omega), ⟨trivial, ?_, ?_, ?_, ?_⟩, fun k hk => ⟨0, Nat.le_refl _, ?_⟩⟩
  · unfold ru_Q
    rw [e4, ea 1401 (by omega) (by omega), ea 1402 (by omega) (by omega), eb 2468 (by omega), eb 2469 (by omega), q_i_sa, cl0_2470, cl0_2471, cl0_2472, cl0_2473, cl0_2474, cl0_2475, cl0_2476, cl0_2477, cl0_2478, cl0_2479, cl0_2480, cl0_2524]
    refine ⟨c0 6 (by omega) (by omega) (by omega), c0 7 (by omega) (by omega) (by omega), c0 8 (by omega) (by omega) (by omega), c0 9 (by omega) (by omega) (by omega), c0 10 (by omega) (by omega) (by omega), c0 11 (by omega) (by omega) (by omega), c0 12 (by omega) (by omega) (by omega), c0 13 (by omega) (by omega) (by omega), c0 14 (by omega) (by omega) (by omega), c0 15 (by omega) (by omega) (by omega), c0 16 (by omega) (by omega) (by omega), ?_, l1, l2, by decide, c0 1 (by omega) (by omega) (by omega), c0 2 (by omega) (by omega) (by omega), c0 3 (by omega) (by omega) (by omega), upd_at, c0 18 (by omega) (by omega) (by omega)⟩
    rw [upd_ne (by omega)]; unfold ru_c7; rw [if_neg (by omega)]; exact t17
  · rw [q_i_sa, v0_12]; rfl
  · rw [q_i_sa, v0_14]
  · rw [q_i_sa, cl0_2513]
  · rw [q_i_sa, cl0_2514]
  · rw [ea 203 (by omega) (by omega)]; exact h0 k hk
set_option maxHeartbeats 200000 in
theorem ru_RUN {d k pe qe f : Nat} {x y : Int32} {vc vr : q_V} (hd : dv_D T XL) (hx : dv_L T XL) (S : ru_S T vc vr) (A : ru_A vc vr) (h0 : ∀ k, k < 6 → q_a vc 203 k = 0) (t17 : q_a vc 1400 17 = q_i vr 2524) (l1 : q_a vc 1401 = q_a vr 2468) (l2 : q_a vc 1402 = q_a vr 2469) (hT : T.2.2.2 d = some (k, pe, qe)) (hf : f ≤ 20000) (h58 : q_a vr 2458 d = nI k) :
    ∃ N o vc' vr', fX4_performR (nI d) x y (nI f) vc = some (o, vc') ∧ ru_runT N (nI d) x y (nI f) vr = some (o, vr') ∧ ru_fin T vc' vr' := by
  obtain ⟨D, s5, s6, s7⟩ := id S.2.2.2.2
  obtain ⟨t1, t2, t3, t4, t5⟩ := s7 d k pe qe hT
  obtain ⟨p, hp⟩ := cs_pt (x2 := nI d) (x3 := x) (x4 := y) (f := f) (v := q_sa vc 1400 (upd (ru_c7 vc 19) 4 (-1)))
  obtain ⟨f', hc⟩ := rs_clear0 (v := vr)
  have D0 := ru_D_0 (XL := XL) (u := ru_as x y (q_a (ru_v0 (q_sa vc 1400 (upd (ru_c7 vc 19) 4 (-1)))) 802) k) (u' := ru_as x y (q_a (ru_cl0 vr) 2515) k) S A h0 t17 l1 l2
  have Sv : ru_S T (ru_v0 (q_sa vc 1400 (upd (ru_c7 vc 19) 4 (-1)))) (q_sa (ru_cl0 vr) 2515 (ru_as x y (q_a (ru_cl0 vr) 2515) k)) := ru_S_e2 D0.1 (by rw [q_a_sa, if_neg (by omega)]) (by rw [q_a_sa, if_neg (by omega)]) (by rw [q_i_sa]) (by rw [q_i_sa]) (by rw [q_n_sa]) (fun _ _ _ => rfl)
  have cc := cs_L60 (p := p) (f := f) (x := x) (y := y) (z := nI f) Sv hT k 0 q_N (by omega) (by unfold q_N; omega)
  rw [ru_as_0, q_sa_id] at cc
  have c1 : fX4_performR (nI d) x y (nI f) vc = q_bv (fX4_call (nI d) (mC (q_sa (ru_v0 (q_sa vc 1400 (upd (ru_c7 vc 19) 4 (-1)))) 802 (ru_as x y (q_a (ru_v0 (q_sa vc 1400 (upd (ru_c7 vc 19) 4 (-1)))) 802) k)) p k f 0 0)) (fun T => fX4_perform_L112 (nI d) x y (nI f) q_N 0 T) := by
    rw [cs_performR, cs_c7, q_bv_s, hp]; exact cc
  have r1 : ∀ N, ru_runT N (nI d) x y (nI f) vr = q_bv (fX12_calls (nI d) (nI k) (mR (q_sa (ru_cl0 vr) 2515 (ru_as x y (q_a (ru_cl0 vr) 2515) k)) 0 k f 0 0)) (fun T => fX12_run_L126 (nI d) x y (nI f) N T) := by
    intro N
    have rr := rs_L82 (w := ru_cl0 vr) (N := N) (f := f) (x1 := nI d) (x := x) (y := y) (z := nI f) t2 k 0 q_N (by omega) (by unfold q_N; omega)
    rw [ru_as_0, q_sa_id] at rr
    unfold ru_runT
    rw [hc, q_bv_s, mR_s2512, q_lt_s, if_neg (by rw [ni_in (show d < 30 by omega) (by omega)]; exact id), q_lt_s, ni_clamp (by omega), mR_a, cl0_a, h58]
    exact rr
  have HO : ru_O (ru_fin T) (nI d, x, y, nI f, 1000000000) T := ru_O_fin
  have HE : ru_E0 (ru_fin T) (nI d, x, y, nI f, 1000000000) T := ru_E0_fin
  have HC := dv_main (f0 := 20000) HO (Nat.le_refl _) hd hx
  have fin : ∀ (B : Nat) (v w : q_V), fX4_call (nI d) (mC (q_sa (ru_v0 (q_sa vc 1400 (upd (ru_c7 vc 19) 4 (-1)))) 802 (ru_as x y (q_a (ru_v0 (q_sa vc 1400 (upd (ru_c7 vc 19) 4 (-1)))) 802) k)) p k f 0 0) = some v → fX12_calls (nI d) (nI k) (mR (q_sa (ru_cl0 vr) 2515 (ru_as x y (q_a (ru_cl0 vr) 2515) k)) 0 k f 0 0) = some w → ru_G (ru_fin T) (nI d, x, y, nI f, 1000000000) B v w → B + ru_w v ≤ 1000000000 → ru_l v = 0 → ∃ N o vc' vr', fX4_performR (nI d) x y (nI f) vc = some (o, vc') ∧ ru_runT N (nI d) x y (nI f) vr = some (o, vr') ∧ ru_fin T vc' vr' := by
    intro B v w e1 e2 G hB hl
    obtain ⟨o, vc', vr', N, g1, g2, g3⟩ := G 1000000000 hB (Nat.le_refl _) (Nat.le_refl _) (by omega)
    refine ⟨N, o, vc', vr', ?_, ?_, g3⟩
    · rw [c1, e1, q_bv_s]
      exact cs_pm g1 (by unfold q_N; omega)
    · rw [r1, e2, q_bv_s]; exact g2
  have lz : ru_l (q_sa (ru_v0 (q_sa vc 1400 (upd (ru_c7 vc 19) 4 (-1)))) 802 (ru_as x y (q_a (ru_v0 (q_sa vc 1400 (upd (ru_c7 vc 19) 4 (-1)))) 802) k)) = 0 := by
    unfold ru_l
    rw [D0.2.2.1.2.2.2.2.2.2.2.2.2.2.1, q_i_sa, cl0_2470]; rfl
  generalize hV : (q_sa (ru_v0 (q_sa vc 1400 (upd (ru_c7 vc 19) 4 (-1)))) 802 (ru_as x y (q_a (ru_v0 (q_sa vc 1400 (upd (ru_c7 vc 19) 4 (-1)))) 802) k)) = V at *
  generalize hW : (q_sa (ru_cl0 vr) 2515 (ru_as x y (q_a (ru_cl0 vr) 2515) k)) = W at *
  have E : ∀ i, i < k → q_a V 802 (0 + i) = q_a W 2515 (0 + i) := by
    intro i hi
    rw [← hV, ← hW, q_a_sa, if_pos rfl, q_a_sa, if_pos rfl]
    unfold ru_as
    rw [if_pos (by omega), if_pos (by omega)]
  have vw : q_f V 2000 168 = 0 := by rw [← hV, q_f_sa, v0_w]
  have z12 : q_i V 812 = 0 := by rw [D0.2.2.2.2.1.2.1, ru_z_0]
  have ww : q_i W 2481 = 0 := by rw [← hW, q_i_sa, cl0_2481]
  cases f with
  | zero =>
    obtain ⟨o, vc', vr', g1, g2, g3⟩ := HO 2 p k 0 0 0 0 k 0 (q_si V 814 2) (q_si W 2513 2) (Or.inr rfl) (ru_S_e2 D0.1 (by rw [q_a_si]) (by rw [q_a_si]) (by rw [q_i_ne (by omega)]) (by rw [q_i_ne (by omega)]) rfl (fun j _ _ => by rw [q_a_si])) (ru_A_e2 D0.2.1 (fun j _ _ => by rw [q_a_si]) (fun j _ _ => by rw [q_a_si])) (ru_Q_e2 D0.2.2.1 (fun j _ _ => by rw [q_a_si]) (fun j _ _ => by rw [q_a_si]) (fun k hk => by rw [q_i_ne (by omega)])) (by omega) q_i_at q_i_at
    have x1 : ru_C (nI d, x, y, nI 0, 1000000000) 1 0 (mC (q_si V 814 2) p k 0 0 0) = some (o, vc') := by
      unfold ru_C
      rw [fX4_perform_L112, if_neg (by decide), if_neg (by rw [ru_i814, q_i_at]; decide)]
      exact g1
    refine ⟨1, o, vc', vr', ?_, ?_, g3⟩
    · rw [c1, cs_callT0, q_bv_s]
      exact cs_pm x1 (by unfold q_N; omega)
    · rw [r1, rs_callT0, q_bv_s, fX12_run_L126, if_neg (by rw [ru_i2513, q_i_at]; decide)]
      exact g2
  | succ f =>
    have e1 := cs_callT (p := p) (h := 0) (f := f) (np := 0) (cl := 0) D0.1 hT (by omega) (by omega) (by omega) (by omega)
    have e2 := rs_callT (q := 0) (g := 0) (f := f) (t := 0) (cl := 0) D0.1 hT (by omega) (by omega) (by omega) (by omega)
    rw [Nat.zero_add] at e1 e2
    have Db := ru_D_call (p := p) (q := 0) (d := d) D0 t2 E
    obtain ⟨pe', x1, G⟩ := ru_TOP (S := 1000000000) (f := f) (f0 := 20000) (rq := 0) (rp := q_i (q_si W 2480 (q_i W 2480 + 1)) 2511) HE (by omega) (Nat.le_refl _) (fun S' _ => HC S') hT Db ⟨by rw [c1_f (by omega), if_neg (by omega)]; exact vw, by rw [c3_i, q_i_ne (by omega)]; exact ww⟩ c1_w.1 c1_w.2.1 c1_w.2.2.1 (by rw [c1_w.2.2.2.2.2, ru_z_0]; exact z12) (ru_H_e D0.2.2.2.2.2 (c1_a (by omega))) (by rw [c3_o (by omega) (by omega)]; exact ru_op_w.1) (by rw [c3_o (by omega) (by omega)]; exact ru_op_w.2.1) (by rw [c3_o (by omega) (by omega)]; exact ru_op_w.2.2.2.1) (by rw [c3_o (by omega) (by omega)]; exact ru_op_w.2.2.2.2) (by rw [c3_2, upd_at]) (by rw [c3_3, upd_at])
    refine fin _ _ _ e1 e2 G ?_ ?_
    · rw [ru_w_at (m := 0) (by omega) (by rw [c1_f (by omega), if_pos ⟨rfl, by omega, by omega⟩]; rfl) (by omega)]; omega
    · rw [ru_l_mC]
      have e : ru_l (ru_c1 V 0 0 k 0 p) = ru_l (ru_ct V 15) := by unfold ru_l; rw [c1_aa]
      rw [e, ru_l_ct (by omega)]; exact lz
end
