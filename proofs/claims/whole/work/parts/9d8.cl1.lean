def ru_pg (v : q_V) (i w : Nat) (x : Int32) : q_V := ru_ct (q_sf (q_sc v 601 i (upd (q_c v 601 i) w x)) 602 i (nI (w + 1))) 10
def ru_pgr (v : q_V) (d w : Nat) (y z : Int32) : q_V := q_si (q_sa (q_sa (q_sa v 2507 (upd (q_a v 2507) (40 * d + w) y)) 2508 (upd (q_a v 2508) (40 * d + w) z)) 2506 (upd (q_a v 2506) d (nI (w + 1)))) 2475 (q_i v 2475 + 1)
set_option maxHeartbeats 200000 in
theorem ni_40 {a b : Nat} : 40 * nI a + nI b = nI (40 * a + b) := by
  rw [show (40 : Int32) = nI 40 from rfl, ← ni_add]; congr 1; exact (Int32.ofNat_mul 40 a).symm
section
variable {Fin : q_V → q_V → Prop} {a : ru_P} {T : co_T} {XL : Int32 → Int32 → Int32 → Prop} {f0 nu : Nat} {L : List (Nat × Nat)}
set_option maxHeartbeats 200000 in
theorem cs_PG {vc vr : q_V} {p h f np cl w px : Nat} (s : ru_S T vc vr) (hcl : cl < 12) (hw : w < 40) (ew : q_f vc 602 cl = nI w) (c0 : co_c T p 52) (c3 : co_c T (p + 3) (nI px)) : fX4_step (mC vc p h f np (cl + 1)) = some (mC (ru_pg vc cl w (nI p)) px h f np (cl + 1)) := by
  have s2 : ru_S T (ru_pg vc cl w (nI p)) vr := ⟨s.1, s.2.1, s.2.2⟩
  rw [cs_step s c0, cd_52, q_bv_id, mC_810, ni_pred, q_lt_s]
  unfold fX4_pledge fX3_pledge fX4_beginOrEnd_b185
  rw [cs_frame hcl, q_bd_s, mC_f, ew, if_neg (by rw [ni_neg (by omega)]; exact id), if_pos (by rw [show (40 : Int32) = nI 40 from rfl, ni_lt (by omega) (by omega)]; omega), if_neg (by rw [ni_in hw (by omega)]; exact id), q_lt_s, ni_clamp (by omega), mC_c, mC_sc, mC_f, q_f_sc, ew, ni_add1, mC_sf, q_lt_s, q_bd_s, if_neg (by decide), cs_ct10, q_bv_s, mC_ct, ni_a3]
  rw [show ru_ct (q_sf (q_sc vc 601 cl (upd (q_c vc 601 cl) w (nI p))) 602 cl (nI (w + 1))) 10 = ru_pg vc cl w (nI p) from rfl, cs_gt s2 c3, q_bd_s, q_lt_s, mC_s810, q_bv_s]
set_option maxHeartbeats 200000 in
theorem cs_PG40 {vc vr : q_V} {p h f np cl : Nat} (s : ru_S T vc vr) (hcl : cl < 12) (ew : q_f vc 602 cl = nI 40) (c0 : co_c T p 52) : fX4_step (mC vc p h f np (cl + 1)) = some (mC (ru_tc vc 2) (p + 1) h f np (cl + 1)) := by
  rw [cs_step s c0, cd_52, q_bv_id, mC_810, ni_pred, q_lt_s]
  unfold fX4_pledge fX3_pledge fX3_pledge_b19 fX4_beginOrEnd_b185
  rw [cs_frame hcl, q_bd_s, mC_f, ew, if_neg (by decide), if_neg (by decide), q_bd_s, if_pos rfl, cs_trouble, mC_tc, q_bv_s, q_bv_s]
set_option maxHeartbeats 200000 in
theorem rs_PG {vc vr : q_V} {q g f t cl w : Nat} {y z : Int32} (s : ru_S T vc vr) (hcl : cl < 13) (hw : w < 40) (ew : q_a vr 2506 cl = nI w) (r0 : co_r T 0 q 54) (r1 : co_r T 1 q y) (r2 : co_r T 2 q z) : fX12_step (mR vr q g f t cl) = some (mR (ru_pgr vr cl w y z) (q + 1) g f t cl) := by
  have e6 : ∀ u u', q_a (q_sa (q_sa vr 2507 u) 2508 u') 2506 = q_a vr 2506 := fun u u' => by rw [q_a_sa, if_neg (by omega), q_a_sa, if_neg (by omega)]
  have e8 : ∀ u, q_a (q_sa vr 2507 u) 2508 = q_a vr 2508 := fun u => by rw [q_a_sa, if_neg (by omega)]
  rw [rs_step s r0, rd_54, q_bv_id, r1.2, r2.2]
  unfold fX12_stepOfStatement_b594 fX12_stepOfStatement_b600 fX12_pledges ru_pgr
  rw [mR_2501, if_neg (by rw [ni_in hcl (by omega)]; exact id), ni_clamp (by omega), mR_a, ew, if_neg (by rw [show (40 : Int32) = nI 40 from rfl]; exact ni_ne (by omega) (by omega) (by omega)), if_neg (by rw [ni_neg (by omega), false_or]; omega), q_lt_s, ni_40, if_neg (by rw [ni_in (show 40 * cl + w < 520 by omega) (by omega)]; exact id), q_lt_s, ni_clamp (by omega), if_neg (by rw [ni_neg (by omega), false_or]; omega), q_lt_s, mR_sa, mR_a, e8, mR_sa, mR_2501, if_neg (by rw [ni_in hcl (by omega)]; exact id), if_neg (by rw [ni_in hcl (by omega)]; exact id), q_lt_s, ni_clamp (by omega), mR_a, e6, ew, ni_add1, mR_sa, q_lt_s, mR_s2475, q_bv_s, mR_oi (by omega)]; rfl
set_option maxHeartbeats 200000 in
theorem rs_PG40 {vc vr : q_V} {q g f t cl : Nat} {y z : Int32} (s : ru_S T vc vr) (hcl : cl < 13) (ht : t < 240) (h70 : ¬ q_i vr 2470 < 0) (ew : q_a vr 2506 cl = nI 40) (r0 : co_r T 0 q 54) (r1 : co_r T 1 q y) (r2 : co_r T 2 q z) : fX12_step (mR vr q g f t cl) = fX12_leaves (mR (ru_tr vr t 2) (q + 1) g f t cl) := by
  rw [rs_step s r0, rd_54, q_bv_id, r1.2, r2.2]
  unfold fX12_stepOfStatement_b594 fX12_stepOfStatement_b600 fX12_pledges
  rw [mR_2501, if_neg (by rw [ni_in hcl (by omega)]; exact id), ni_clamp (by omega), mR_a, ew, if_pos (by decide), q_bv_id, q_bv_id, rs_trouble ht h70]
set_option maxHeartbeats 200000 in
theorem pg_f {v : q_V} {i w k n : Nat} {x : Int32} (h : k ≠ 602 ∨ n ≠ i) : q_f (ru_pg v i w x) k n = q_f v k n := by
  unfold ru_pg; rw [ct_f, q_f_sf, if_neg (by omega), q_f_sc]
set_option maxHeartbeats 200000 in
theorem pg_at {v : q_V} {i w : Nat} {x : Int32} : q_f (ru_pg v i w x) 602 i = nI (w + 1) := by
  unfold ru_pg; rw [ct_f, q_f_sf, if_pos ⟨rfl, rfl⟩]
set_option maxHeartbeats 200000 in
theorem pg_a {v : q_V} {i w j : Nat} {x : Int32} (h : j ≠ 1400) : q_a (ru_pg v i w x) j = q_a v j := by
  unfold ru_pg; rw [ct_a h, q_a_sf, q_a_sc]
set_option maxHeartbeats 200000 in
theorem pgr_a {v : q_V} {d w j : Nat} {y z : Int32} (h : j < 2506 ∨ 2508 < j) : q_a (ru_pgr v d w y z) j = q_a v j := by
  unfold ru_pgr; rw [q_a_si, q_a_sa, if_neg (by omega), q_a_sa, if_neg (by omega), q_a_sa, if_neg (by omega)]
set_option maxHeartbeats 200000 in
theorem pgr_i {v : q_V} {d w k : Nat} {y z : Int32} (h : k ≠ 2475) : q_i (ru_pgr v d w y z) k = q_i v k := by
  unfold ru_pgr; rw [q_i_si, if_neg h]; rfl
set_option maxHeartbeats 200000 in
theorem ru_Q_e2 {v v' w w' : q_V} (s : ru_Q v w) (e1 : ∀ j, 1400 ≤ j → j ≤ 1402 → q_a v' j = q_a v j) (e5 : ∀ j, 2468 ≤ j → j ≤ 2469 → q_a w' j = q_a w j) (e6 : ∀ k, (2470 ≤ k ∧ k ≤ 2480) ∨ k = 2524 → q_i w' k = q_i w k) : ru_Q v' w' := by
  unfold ru_Q at s ⊢
  rw [e1 1400 (by omega) (by omega), e1 1401 (by omega) (by omega), e1 1402 (by omega) (by omega), e5 2468 (by omega) (by omega), e5 2469 (by omega) (by omega), e6 2470 (by omega), e6 2471 (by omega), e6 2472 (by omega), e6 2473 (by omega), e6 2474 (by omega), e6 2475 (by omega), e6 2476 (by omega), e6 2477 (by omega), e6 2478 (by omega), e6 2479 (by omega), e6 2480 (by omega), e6 2524 (by omega)]
  exact s
set_option maxHeartbeats 200000 in
theorem ru_D_pg {cl t np w : Nat} {vc vr : q_V} {x y z : Int32} (d : ru_D T XL (cl + 1) t np vc vr) (hw : w < 40) (ew : q_f vc 602 cl = nI w) (ew' : q_a vr 2506 (cl + 1) = nI w) (hx : XL x y z) : ru_D T XL (cl + 1) t np (ru_pg vc cl w x) (ru_pgr vr (cl + 1) w y z) := by
  have dc : ru_D T XL (cl + 1) t np (ru_ct vc 10) (q_si vr 2475 (q_i vr 2475 + 1)) := ru_D_c10 d
  obtain ⟨d1, d2, d3, d4, d5, d6⟩ := d
  refine ⟨?_, ?_, ?_, ?_, ⟨trivial, ?_, d5.2.2.1, ?_, ?_⟩, ?_⟩
  · unfold ru_S at d1 ⊢
    rw [pg_a (by omega), pgr_a (by omega), pgr_a (by omega), pgr_a (by omega), pgr_a (by omega), pgr_a (by omega), pgr_a (by omega), pgr_a (by omega), pgr_a (by omega), pgr_a (by omega), pgr_a (by omega), pg_a (by omega)]
    exact d1
  · unfold ru_A at d2 ⊢
    rw [pg_a (by omega), pg_a (by omega), pg_a (by omega), pg_a (by omega), pg_a (by omega), pgr_a (by omega), pgr_a (by omega), pgr_a (by omega), pgr_a (by omega), pgr_a (by omega)]
    exact d2
  · refine ru_Q_e2 dc.2.2.1 (fun j h1 h2 => ?_) (fun j h1 h2 => ?_) ?_
    · unfold ru_pg ru_ct; rw [q_a_sf, q_a_sc]
      rw [q_a_sa, q_a_sa, q_a_sf, q_a_sc]
    · rw [pgr_a (by omega), q_a_si]
    · intro k hk
      by_cases c : k = 2475
      · subst c; unfold ru_pgr; rw [q_i_si, if_pos rfl, q_i_si, if_pos rfl]
      · rw [pgr_i c, q_i_si, if_neg c]
  · intro i hi
    obtain ⟨h1, h2, h3, m, h4, h5, h6, h7⟩ := d4 i hi
    have c600 : q_c (ru_pg vc cl w x) 600 i = q_c vc 600 i := by
      unfold ru_pg ru_ct
      rw [q_c_sa, q_c_sf, q_c_sc, if_neg (by omega)]
    have c601 : ∀ j, q_c (ru_pg vc cl w x) 601 i j = if i = cl ∧ j = w then x else q_c vc 601 i j := fun j => by
      unfold ru_pg ru_ct
      rw [q_c_sa, q_c_sf, q_c_sc]
      by_cases c : i = cl
      · rw [if_pos ⟨rfl, c⟩]; subst c
        unfold upd
        by_cases c2 : j = w
        · rw [if_pos c2, if_pos ⟨rfl, c2⟩]
        · rw [if_neg c2, if_neg (fun z => c2 z.2)]
      · rw [if_neg (fun z => c z.2), if_neg (fun z => c z.1)]
    have e6 : q_a (ru_pgr vr (cl + 1) w y z) 2506 = upd (q_a vr 2506) (cl + 1) (nI (w + 1)) := by unfold ru_pgr; rw [q_a_si, q_a_sa, if_pos rfl]
    have e7 : q_a (ru_pgr vr (cl + 1) w y z) 2507 = upd (q_a vr 2507) (40 * (cl + 1) + w) y := by unfold ru_pgr; rw [q_a_si, q_a_sa, if_neg (by omega), q_a_sa, if_neg (by omega), q_a_sa, if_pos rfl]
    have e8 : q_a (ru_pgr vr (cl + 1) w y z) 2508 = upd (q_a vr 2508) (40 * (cl + 1) + w) z := by unfold ru_pgr; rw [q_a_si, q_a_sa, if_neg (by omega), q_a_sa, if_pos rfl]
    rw [c600, pgr_a (by omega), pgr_a (by omega), pgr_a (by omega), pg_f (by omega), pg_f (by omega), e6, e7, e8]
    by_cases c : i = cl
    · subst c
      refine ⟨h1, h2, h3, w + 1, by omega, pg_at, upd_at, ?_⟩
      intro j hj
      rw [c601]
      by_cases c2 : j = w
      · rw [if_pos ⟨rfl, c2⟩, c2, upd_at, upd_at]; exact hx
      · rw [if_neg (fun z => c2 z.2), upd_ne (by omega), upd_ne (by omega)]
        have : nI m = nI w := h5.symm.trans ew
        rw [ni_eq (by omega) (by omega)] at this
        exact h7 j (by omega)
    · refine ⟨h1, h2, h3, m, h4, (pg_f (by omega)).trans h5, (upd_ne (by omega)).trans h6, ?_⟩
      intro j hj
      rw [c601, if_neg (fun z => c z.1), upd_ne (by omega), upd_ne (by omega)]
      exact h7 j hj
  · exact d5.2.1.trans (ru_z_e (pgr_a (by omega))).symm
  · rw [pgr_i (by omega)]; exact d5.2.2.2.1
  · rw [pgr_i (by omega)]; exact d5.2.2.2.2
  · unfold ru_H; rw [pg_a (by omega)]; exact d6
set_option maxHeartbeats 200000 in
theorem ru_w_at {v : q_V} {p h f np cl m : Nat} (hc : cl + 1 < 2147483648) (e : q_f v 602 cl = nI m) (hm : m < 2147483648) : ru_w (mC v p h f np (cl + 1)) = 25000 * m := by
  unfold ru_w
  rw [mC_805, mC_f, ni_clamp hc, show cl + 1 - 1 = cl from by omega, e, ni_clamp hm]
set_option maxHeartbeats 200000 in
theorem ru_LATER {p px q qx : Nat} {pl : Int32} (HO : ru_O Fin a T) (hX : XL (nI (p + 2)) (nI (q + 3)) pl) (c0 : co_c T p 30) (c1 : co_c T (p + 1) pl) (r0 : co_r T 0 q 30) (r1 : co_r T 1 q pl) (c2 : co_c T (p + 2) 52) (c3 : co_c T (p + 2 + 3) (nI px)) (r2 : co_r T 0 (q + 1) 54) (r3 : co_r T 1 (q + 1) (nI (q + 3))) (r4 : co_r T 2 (q + 1) pl) (r5 : co_r T 0 (q + 2) 41) (r6 : co_r T 1 (q + 2) (nI qx)) (op : p + 2 < px) (oq : q + 2 < qx) : ru_SS Fin a T XL f0 nu L p px q qx := by
  refine ⟨by omega, by omega, ?_⟩
  intro c f h g np t cl vc vr d V bd n x
  obtain ⟨b1, b2, b3, b4, b5, b6, b7, b8, b9, b10⟩ := id bd
  obtain ⟨cl, rfl⟩ : ∃ k, cl = k + 1 := ⟨cl - 1, by omega⟩
  refine ru_mono (ru_SP (B := 40000 * f + c + 4 * (px - p) - 1) HO d V (by omega) c0 c1 r0 r1 ?_) (by omega)
  intro f1 e1 d1
  subst e1
  have W1 : ru_W (q_si vc 811 pl) (q_si vr 2511 pl) := ⟨V.1, V.2, by rw [q_i_si, if_pos rfl, q_i_si, if_pos rfl]⟩
  have K1 : ru_K np t h g (cl + 1) vc vr (q_si vc 811 pl) (q_si vr 2511 pl) := ru_K_i ru_K_id
  obtain ⟨h1, h2, h3, w, h4, h5, h6, h7⟩ := d1.2.2.2.1 cl (by omega)
  by_cases c9 : w = 40
  · subst c9
    refine ru_mono (ru_ttS (x := 2) (p1 := p + 2 + 1) (h1 := h) (q1 := q + 1 + 1) (g1 := g) (w := 1) d1 W1 (by omega) (by decide) (by omega) (ru_x_tr x (by omega) K1) (cs_PG40 d1.1 (by omega) h5 c2) (rs_PG40 d1.1 (by omega) (by omega) (ru_n70 d1.2.2.1) h6 r2 r3 r4)) (by omega)
  · have hw : w < 40 := by omega
    have D2 := ru_D_pg d1 hw h5 h6 hX
    have K2 : ru_K np t h g (cl + 1) vc vr (ru_pg (q_si vc 811 pl) cl w (nI (p + 2))) (ru_pgr (q_si vr 2511 pl) (cl + 1) w (nI (q + 3)) pl) := by
      refine ⟨fun k m y z => ?_, fun i y => ?_, fun j m y z z2 => ⟨?_, ?_⟩, fun i y => ?_, fun i y => ?_, ?_, fun i y => ?_⟩
      · rw [pg_f (by omega), q_f_si]
      · rw [pg_a (by omega), q_a_si]
      · rw [pgr_a (by omega), q_a_si]
      · unfold ru_pgr; rw [q_b_si, q_b_sa, q_b_sa, q_b_sa, q_b_si]
      · rw [pgr_a (by omega), q_a_si]
      · rw [pgr_a (by omega), pgr_a (by omega), q_a_si]; exact ⟨rfl, rfl⟩
      · rw [pg_a (by omega), q_a_si]
      · rw [pg_f (by omega), q_f_si]
    have w1 : ru_w (mC (q_si vc 811 pl) (p + 2) h f1 np (cl + 1)) = 25000 * w := ru_w_at (by omega) h5 (by omega)
    have w2 : ru_w (mC (ru_pg (q_si vc 811 pl) cl w (nI (p + 2))) px h f1 np (cl + 1)) = 25000 * (w + 1) := ru_w_at (by omega) pg_at (by omega)
    refine ru_cg (B1 := 40000 * f1 + c) ⟨d1.2.2.2.2.1.2.2.1, Or.inl ⟨W1.1, cs_PG d1.1 (by omega) hw h5 c2 c3⟩⟩ ?_ (by rw [w1, w2]; omega) (ru_dG ?_)
    · rw [ru_l_mC, ru_l_mC]
      have : ru_l (ru_pg (q_si vc 811 pl) cl w (nI (p + 2))) = ru_l (q_si vc 811 pl) := by
        unfold ru_pg; rw [ru_l_ct (by omega)]; unfold ru_l; rw [q_a_sf, q_a_sc]
      omega
    · refine ru_rs (rs_PG d1.1 (by omega) hw h6 r2 r3 r4) d1.2.2.2.2.1.2.2.2.1 d1.2.2.2.2.1.2.2.2.2 ?_
      refine ru_rs (rs_JUMP D2.1 r5 r6) D2.2.2.2.2.1.2.2.2.1 D2.2.2.2.2.1.2.2.2.2 ?_
      exact n f1 _ _ D2 ⟨by rw [pg_f (by omega)]; exact W1.1, by rw [pgr_i (by omega)]; exact W1.2.1⟩ (by omega) K2
end
