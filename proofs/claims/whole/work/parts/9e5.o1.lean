set_option maxHeartbeats 200000 in
theorem cs_isGate {k s : Int32} {v : q_V} : fX1_isGate k s v = some (if k < 0 ∨ 6 ≤ k ∨ ¬ (s = 0 ∨ s = 1) then 0 else 1, v) := by
  unfold fX1_isGate fX1_isGate_b23 fX1_isGate_b24 fX1_isGate_b19
  unfold fX1_isGate_b24
  by_cases h1 : k < 0
  · simp (decide := true) only [h1, true_or, q_bd_s, q_bv_s, q_lt_s, q_i_si, q_i_sj, q_i_sa, q_i_sb, q_i_sf, q_i_sc, q_j_si, q_j_sj, q_j_sa, q_j_sb, q_j_sf, q_j_sc, q_a_si, q_a_sj, q_a_sa, q_a_sb, q_a_sf, q_a_sc, q_b_si, q_b_sj, q_b_sa, q_b_sb, q_b_sf, q_b_sc, q_f_si, q_f_sj, q_f_sa, q_f_sb, q_f_sf, q_f_sc, q_c_si, q_c_sj, q_c_sa, q_c_sb, q_c_sf, q_c_sc, q_n_si, q_n_sj, q_n_sa, q_n_sb, q_n_sf, q_n_sc, Nat.reduceEqDiff, Nat.reduceAdd, ↓reduceIte, Int32.reduceLT, Int32.reduceLE, Nat.reduceLeDiff, ni_neg, ni_clamp, ni_lef, or_self, or_false, false_or, ni_add1, ni_pred]
  · by_cases h2 : 6 ≤ k
    · simp (decide := true) only [h1, h2, true_or, or_true, q_bd_s, q_bv_s, q_lt_s, q_i_si, q_i_sj, q_i_sa, q_i_sb, q_i_sf, q_i_sc, q_j_si, q_j_sj, q_j_sa, q_j_sb, q_j_sf, q_j_sc, q_a_si, q_a_sj, q_a_sa, q_a_sb, q_a_sf, q_a_sc, q_b_si, q_b_sj, q_b_sa, q_b_sb, q_b_sf, q_b_sc, q_f_si, q_f_sj, q_f_sa, q_f_sb, q_f_sf, q_f_sc, q_c_si, q_c_sj, q_c_sa, q_c_sb, q_c_sf, q_c_sc, q_n_si, q_n_sj, q_n_sa, q_n_sb, q_n_sf, q_n_sc, Nat.reduceEqDiff, Nat.reduceAdd, ↓reduceIte, Int32.reduceLT, Int32.reduceLE, Nat.reduceLeDiff, ni_neg, ni_clamp, ni_lef, or_self, or_false, false_or, ni_add1, ni_pred]
    · by_cases h4 : s = 0
      · subst h4
        simp (decide := true) only [h1, h2, or_self, q_bd_s, q_bv_s, q_lt_s, q_i_si, q_i_sj, q_i_sa, q_i_sb, q_i_sf, q_i_sc, q_j_si, q_j_sj, q_j_sa, q_j_sb, q_j_sf, q_j_sc, q_a_si, q_a_sj, q_a_sa, q_a_sb, q_a_sf, q_a_sc, q_b_si, q_b_sj, q_b_sa, q_b_sb, q_b_sf, q_b_sc, q_f_si, q_f_sj, q_f_sa, q_f_sb, q_f_sf, q_f_sc, q_c_si, q_c_sj, q_c_sa, q_c_sb, q_c_sf, q_c_sc, q_n_si, q_n_sj, q_n_sa, q_n_sb, q_n_sf, q_n_sc, Nat.reduceEqDiff, Nat.reduceAdd, ↓reduceIte, Int32.reduceLT, Int32.reduceLE, Nat.reduceLeDiff, ni_neg, ni_clamp, ni_lef, or_self, or_false, false_or, ni_add1, ni_pred]
      · by_cases h5 : s = 1
        · subst h5
          simp (decide := true) only [h1, h2, or_self, q_bd_s, q_bv_s, q_lt_s, q_i_si, q_i_sj, q_i_sa, q_i_sb, q_i_sf, q_i_sc, q_j_si, q_j_sj, q_j_sa, q_j_sb, q_j_sf, q_j_sc, q_a_si, q_a_sj, q_a_sa, q_a_sb, q_a_sf, q_a_sc, q_b_si, q_b_sj, q_b_sa, q_b_sb, q_b_sf, q_b_sc, q_f_si, q_f_sj, q_f_sa, q_f_sb, q_f_sf, q_f_sc, q_c_si, q_c_sj, q_c_sa, q_c_sb, q_c_sf, q_c_sc, q_n_si, q_n_sj, q_n_sa, q_n_sb, q_n_sf, q_n_sc, Nat.reduceEqDiff, Nat.reduceAdd, ↓reduceIte, Int32.reduceLT, Int32.reduceLE, Nat.reduceLeDiff, ni_neg, ni_clamp, ni_lef, or_self, or_false, false_or, ni_add1, ni_pred]
        · simp (decide := true) only [h1, h2, h4, h5, or_self, not_false_eq_true, or_true, q_bd_s, q_bv_s, q_lt_s, q_i_si, q_i_sj, q_i_sa, q_i_sb, q_i_sf, q_i_sc, q_j_si, q_j_sj, q_j_sa, q_j_sb, q_j_sf, q_j_sc, q_a_si, q_a_sj, q_a_sa, q_a_sb, q_a_sf, q_a_sc, q_b_si, q_b_sj, q_b_sa, q_b_sb, q_b_sf, q_b_sc, q_f_si, q_f_sj, q_f_sa, q_f_sb, q_f_sf, q_f_sc, q_c_si, q_c_sj, q_c_sa, q_c_sb, q_c_sf, q_c_sc, q_n_si, q_n_sj, q_n_sa, q_n_sb, q_n_sf, q_n_sc, Nat.reduceEqDiff, Nat.reduceAdd, ↓reduceIte, Int32.reduceLT, Int32.reduceLE, Nat.reduceLeDiff, ni_neg, ni_clamp, ni_lef, or_self, or_false, false_or, ni_add1, ni_pred]
set_option maxHeartbeats 200000 in
theorem cs_isReach {x : Int32} {v : q_V} : fX1_isReach x v = some (if x < 0 ∨ 7 ≤ x then 0 else 1, v) := by
  unfold fX1_isReach fX1_isReach_b14 fX1_isReach_b15
  by_cases h1 : x < 0
  · simp (decide := true) only [h1, true_or, q_bd_s, q_bv_s, q_lt_s, q_i_si, q_i_sj, q_i_sa, q_i_sb, q_i_sf, q_i_sc, q_j_si, q_j_sj, q_j_sa, q_j_sb, q_j_sf, q_j_sc, q_a_si, q_a_sj, q_a_sa, q_a_sb, q_a_sf, q_a_sc, q_b_si, q_b_sj, q_b_sa, q_b_sb, q_b_sf, q_b_sc, q_f_si, q_f_sj, q_f_sa, q_f_sb, q_f_sf, q_f_sc, q_c_si, q_c_sj, q_c_sa, q_c_sb, q_c_sf, q_c_sc, q_n_si, q_n_sj, q_n_sa, q_n_sb, q_n_sf, q_n_sc, Nat.reduceEqDiff, Nat.reduceAdd, ↓reduceIte, Int32.reduceLT, Int32.reduceLE, Nat.reduceLeDiff, ni_neg, ni_clamp, ni_lef, or_self, or_false, false_or, ni_add1, ni_pred]
  · by_cases h2 : 7 ≤ x
    · simp (decide := true) only [h1, h2, or_true, q_bd_s, q_bv_s, q_lt_s, q_i_si, q_i_sj, q_i_sa, q_i_sb, q_i_sf, q_i_sc, q_j_si, q_j_sj, q_j_sa, q_j_sb, q_j_sf, q_j_sc, q_a_si, q_a_sj, q_a_sa, q_a_sb, q_a_sf, q_a_sc, q_b_si, q_b_sj, q_b_sa, q_b_sb, q_b_sf, q_b_sc, q_f_si, q_f_sj, q_f_sa, q_f_sb, q_f_sf, q_f_sc, q_c_si, q_c_sj, q_c_sa, q_c_sb, q_c_sf, q_c_sc, q_n_si, q_n_sj, q_n_sa, q_n_sb, q_n_sf, q_n_sc, Nat.reduceEqDiff, Nat.reduceAdd, ↓reduceIte, Int32.reduceLT, Int32.reduceLE, Nat.reduceLeDiff, ni_neg, ni_clamp, ni_lef, or_self, or_false, false_or, ni_add1, ni_pred]
    · simp (decide := true) only [h1, h2, or_self, q_bd_s, q_bv_s, q_lt_s, q_i_si, q_i_sj, q_i_sa, q_i_sb, q_i_sf, q_i_sc, q_j_si, q_j_sj, q_j_sa, q_j_sb, q_j_sf, q_j_sc, q_a_si, q_a_sj, q_a_sa, q_a_sb, q_a_sf, q_a_sc, q_b_si, q_b_sj, q_b_sa, q_b_sb, q_b_sf, q_b_sc, q_f_si, q_f_sj, q_f_sa, q_f_sb, q_f_sf, q_f_sc, q_c_si, q_c_sj, q_c_sa, q_c_sb, q_c_sf, q_c_sc, q_n_si, q_n_sj, q_n_sa, q_n_sb, q_n_sf, q_n_sc, Nat.reduceEqDiff, Nat.reduceAdd, ↓reduceIte, Int32.reduceLT, Int32.reduceLE, Nat.reduceLeDiff, ni_neg, ni_clamp, ni_lef, or_self, or_false, false_or, ni_add1, ni_pred]
set_option maxHeartbeats 200000 in
theorem ni_nb {m n : Nat} (h : m < n) (hn : n < 2147483648) : ¬ (nI m < 0 ∨ nI n ≤ nI m) := by
  rw [ni_neg (by omega), ni_le (by omega) (by omega), false_or]; omega
set_option maxHeartbeats 200000 in
theorem ni_nb6 {m : Nat} (h : m < 6) : ¬ (nI m < 0 ∨ 6 ≤ nI m) := ni_nb (n := 6) h (by decide)
set_option maxHeartbeats 200000 in
theorem ni_nb7 {m : Nat} (h : m < 7) : ¬ (nI m < 0 ∨ 7 ≤ nI m) := ni_nb (n := 7) h (by decide)
set_option maxHeartbeats 200000 in
theorem ni_g {m j : Nat} (hm : m < 6) (hj : j < 2) : ¬ (nI m < 0 ∨ 6 ≤ nI m ∨ ¬ (nI j = 0 ∨ nI j = 1)) := by
  have a1 : ¬ 6 ≤ nI m := by rw [show (6 : Int32) = nI 6 from rfl, ni_le (by omega) (by omega)]; omega
  have a2 : ¬ nI m < 0 := by rw [ni_neg (by omega)]; exact id
  have a3 : nI j = 0 ∨ nI j = 1 := by
    rcases (show j = 0 ∨ j = 1 by omega) with rfl | rfl
    · exact Or.inl rfl
    · exact Or.inr rfl
  intro x
  rcases x with x | x | x
  · exact a2 x
  · exact a1 x
  · exact x a3
set_option maxHeartbeats 200000 in
theorem ni_1s {j : Nat} (hj : j < 2) : 1 - nI j = nI (1 - j) := by
  rw [show (1 : Int32) = nI 1 from rfl, ni_sub (by omega)]
set_option maxHeartbeats 200000 in
theorem ni_2s {m j : Nat} (hj : j < 2) : 2 * nI m + 1 - nI j = nI (2 * m + (1 - j)) := by
  rw [show (1 : Int32) = nI 1 from rfl, ni_2, ni_sub (by omega)]; congr 1; omega
set_option maxHeartbeats 200000 in
theorem cs_shutB {k s : Int32} {v : q_V} (z : k < 0 ∨ 6 ≤ k ∨ ¬ (s = 0 ∨ s = 1)) : fX1_troubleToShut k s v = some (3, v) := by
  unfold fX1_troubleToShut
  rw [cs_isGate, q_bd_s, if_pos z, if_pos rfl]
set_option maxHeartbeats 200000 in
theorem cs_shutG {m j : Nat} {v : q_V} (hm : m < 6) (hj : j < 2) : fX1_troubleToShut (nI m) (nI j) v = some (if q_a v 203 m = 0 then 4 else 0, v) := by
  unfold fX1_troubleToShut fX1_troubleToShut_b24
  rw [cs_isGate, q_bd_s, if_neg (ni_g hm hj), if_neg (by decide), if_neg (show ¬ (nI m < 0 ∨ 6 ≤ (nI m).toNatClampNeg) by rw [ni_in hm (by omega)]; exact id), ni_clamp (by omega)]
  split <;> rfl
set_option maxHeartbeats 200000 in
theorem cs_gateG {m j : Nat} {v : q_V} (hm : m < 6) (hj : j < 2) : fX1_gateOf (nI m) (1 - nI j) v = some (q_a v 202 (2 * m + (1 - j)), v) := by
  rw [ni_1s hj, cs_gateOf, if_neg (ni_g hm (by omega)), ni_2, ni_clamp (by omega)]
set_option maxHeartbeats 200000 in
theorem cs_headG {m j : Nat} {v : q_V} (hm : m < 6) (hj : j < 2) : fX1_headOf (nI m) (nI j) v = some (q_a v 200 m - q_a v 201 (m + j) / 10, v) := by
  unfold fX1_headOf fX1_headOf_b38
  rw [cs_isLock, if_neg (ni_nb6 hm), q_bd_s, if_neg (by decide), ni_add, cs_isReach, if_neg (ni_nb7 (show m + j < 7 by omega)), q_bd_s, if_neg (by decide), if_neg (by rw [ni_in hm (by omega)]; exact id), if_neg (by rw [ni_in (show m + j < 7 by omega) (by omega)]; exact id), ni_clamp (by omega), ni_clamp (by omega)]
set_option maxHeartbeats 200000 in
theorem rs_wsB {k s : Int32} {v : q_V} (z : k < 0 ∨ 5 < k ∨ s < 0 ∨ 1 < s) : fX12_wrongSide k s v = some (3, v) := by
  unfold fX12_wrongSide fX12_wrongSide_b18
  rw [rs_in, q_bd_s]
  by_cases y1 : k < 0 ∨ 5 < k
  · rw [if_pos y1, if_pos rfl]
  · have y2 : s < 0 ∨ 1 < s := by
      rcases z with x | x | x | x
      · exact absurd (Or.inl x) y1
      · exact absurd (Or.inr x) y1
      · exact Or.inl x
      · exact Or.inr x
    rw [if_neg y1, if_neg (by decide), rs_in, q_bd_s, if_pos y2, if_pos rfl]
set_option maxHeartbeats 200000 in
theorem rs_wsG {m j : Nat} {v : q_V} (hm : m < 6) (hj : j < 2) : fX12_wrongSide (nI m) (nI j) v = some (if q_a v 2465 m = 0 then 4 else 0, v) := by
  have y1 : ¬ (nI m < 0 ∨ 5 < nI m) := by rw [ni_neg (by omega), show (5 : Int32) = nI 5 from rfl, ni_lt (by omega) (by omega), false_or]; omega
  have y2 : ¬ (nI j < 0 ∨ 1 < nI j) := by rw [ni_neg (by omega), show (1 : Int32) = nI 1 from rfl, ni_lt (by omega) (by omega), false_or]; omega
  unfold fX12_wrongSide fX12_wrongSide_b34
  rw [rs_in, q_bd_s, if_neg y1, if_neg (by decide), rs_in, q_bd_s, if_neg y2, if_neg (by decide), if_neg (by rw [ni_in hm (by omega)]; exact id), ni_clamp (by omega)]
  split <;> rfl
set_option maxHeartbeats 200000 in
theorem rs_lbG {m j : Nat} {v : q_V} (hm : m < 6) (hj : j < 2) : fX12_levelBeside (nI m) (nI j) v = some (q_a v 2466 (m + j) / 10, v) := by
  unfold fX12_levelBeside
  rw [ni_add, if_neg (by rw [ni_in (show m + j < 7 by omega) (by omega)]; exact id), ni_clamp (by omega)]
section
variable {Fin : q_V → q_V → Prop} {a : ru_P} {T : co_T} {XL : Int32 → Int32 → Int32 → Prop} {f0 nu : Nat} {L : List (Nat × Nat)}
set_option maxHeartbeats 200000 in
theorem ru_D_gate {cl t np i : Nat} {vc vr : q_V} {x : Int32} (d : ru_D T XL cl t np vc vr) (hx : x = 0 ∨ x = 1) : ru_D T XL cl t np (q_sa vc 202 (upd (q_a vc 202) i x)) (q_sa vr 2464 (upd (q_a vr 2464) i x)) := by
  obtain ⟨d1, d2, d3, d4, d5, d6⟩ := d
  obtain ⟨e1, e2, e3, e4, e5, e6, e7⟩ := d2
  refine ⟨d1, ⟨e1, e2, ?_, e4, e5, ?_, e7⟩, d3, d4, ⟨trivial, d5.2.1.trans (ru_z_e (by rw [q_a_sa, if_neg (by omega)])).symm, d5.2.2⟩, d6⟩
  · rw [q_a_sa, if_pos rfl, q_a_sa, if_pos rfl, e3]
  · intro k hk
    rw [q_a_sa, if_pos rfl]
    by_cases c : k = i
    · rw [c, upd_at]; exact hx
    · rw [upd_ne c]; exact e6 k hk
set_option maxHeartbeats 200000 in
theorem ru_K_gate {np t h g cl : Nat} {vc vr v w : q_V} {u u' : Nat → Int32} (K : ru_K np t h g cl vc vr v w) : ru_K np t h g cl vc vr (q_sa v 202 u) (q_sa w 2464 u') := by
  refine ⟨K.1, fun i z => by rw [q_a_sa, if_neg (by omega)]; exact K.2.1 i z, fun j n z1 z2 z3 => ⟨by rw [q_a_sa, if_neg (by omega)]; exact (K.2.2.1 j n z1 z2 z3).1, (K.2.2.1 j n z1 z2 z3).2⟩, fun i z => by rw [q_a_sa, if_neg (by omega)]; exact K.2.2.2.1 i z, fun i z => by rw [q_a_sa, if_neg (by omega), q_a_sa, if_neg (by omega)]; exact K.2.2.2.2.1 i z, by rw [q_a_sa, if_neg (by omega)]; exact K.2.2.2.2.2.1, K.2.2.2.2.2.2⟩
set_option maxHeartbeats 200000 in
theorem ru_OPEN {hb p p1 q q1 : Nat} (s1 : ru_SA Fin a T XL f0 2 hb p p1 q q1) (hhb : hb + 2 * nu ≤ 142) (h0 : 2 ≤ hb) (c0 : co_c T p1 36) (r0 : co_r T 0 q1 32) : ru_ST Fin a T XL f0 nu L p (p1 + 1) q (q1 + 1) := by
  refine ru_BES s1 hhb (by omega) (by omega) ?_
  intro c f h g np t cl vc vr d W bd E n x
  have E0 : q_a vc 802 h = q_a vr 2515 g := E 0 (by omega)
  have E1 : q_a vc 802 (h + 1) = q_a vr 2515 (g + 1) := E 1 (by omega)
  obtain ⟨b1, b2, b3, b4, b5, b6, b7, b8, b9, b10⟩ := id bd
  have h70 : ¬ q_i vr 2470 < 0 := ru_n70 d.2.2.1
  have sc : fX4_step (mC vc p1 (h + 2) f np cl) = fX4_moveGate_b21 36 (q_a vc 802 (h + 1)) (q_a vc 802 h) 1 (mC vc (p1 + 1) h f np cl) := by
    rw [cs_step d.1 c0, cd_36, q_bv_id]
    unfold fX4_order_b67 fX4_order_b152 fX4_moveGate
    rw [q_bv_id, cs_pop (by omega), q_bd_s, cs_pop (by omega), q_bd_s, if_pos rfl]
  have sr : fX12_step (mR vr q1 (g + 2) f t cl) = q_bd (fX12_wrongSide (q_a vc 802 h) (q_a vc 802 (h + 1)) (mR vr (q1 + 1) g f t cl)) (fun y6 T5 =>
      if y6 = 0 then (if (1 : Int32) = 0 then fX12_moveGate_b46 1 (q_a vc 802 (h + 1)) (q_a vc 802 h) y6 T5 else
        if (((2 * q_a vc 802 h) + 1) - q_a vc 802 (h + 1)) < 0 ∨ 12 ≤ (((2 * q_a vc 802 h) + 1) - q_a vc 802 (h + 1)).toNatClampNeg then none else
        if (q_a T5 2464 (((2 * q_a vc 802 h) + 1) - q_a vc 802 (h + 1)).toNatClampNeg) = 0 then fX12_moveGate_b46 1 (q_a vc 802 (h + 1)) (q_a vc 802 h) y6 T5 else fX12_moveGate_b46 1 (q_a vc 802 (h + 1)) (q_a vc 802 h) 6 T5)
      else fX12_moveGate_b46 1 (q_a vc 802 (h + 1)) (q_a vc 802 h) y6 T5) := by
    rw [rs_step d.1 r0, rd_32, q_bv_id]
    unfold fX12_stepOfStatement_b600
    rw [q_bv_id]
    unfold fX12_moveGate
    rw [show g + 2 = g + 1 + 1 from rfl, rs_pop (by omega), q_bd_s, rs_pop (by omega), q_bd_s, ← E0, ← E1]
  have tr : ∀ y : Int32, 0 < y → fX4_moveGate_b21 36 (q_a vc 802 (h + 1)) (q_a vc 802 h) 1 (mC vc (p1 + 1) h f np cl) = some (mC (ru_tc vc y) (p1 + 1) h f np cl) → fX12_step (mR vr q1 (g + 2) f t cl) = fX12_leaves (mR (ru_tr vr t y) (q1 + 1) g f t cl) → ru_G Fin a (40000 * f + c + 4 * (p1 + 1 - p1)) (mC vc p1 (h + 2) f np cl) (mR vr q1 (g + 2) f t cl) := by
    intro y hy e1 e2
    exact ru_ttS (x := y) (p1 := p1 + 1) (h1 := h) (q1 := q1 + 1) (g1 := g) d W (by omega) hy (by omega) x (sc.trans e1) e2
  have t49 : ∀ y : Int32, y ≠ 0 → fX4_moveGate_b49 36 (q_a vc 802 (h + 1)) (q_a vc 802 h) 1 y (mC vc (p1 + 1) h f np cl) = some (mC (ru_tc vc y) (p1 + 1) h f np cl) := by
    intro y hy
    unfold fX4_moveGate_b49
    rw [if_neg hy, cs_trouble, mC_tc, q_bv_s]
  have t46 : ∀ y : Int32, y ≠ 0 → ¬ y ≤ 0 → fX12_moveGate_b46 1 (q_a vc 802 (h + 1)) (q_a vc 802 h) y (mR vr (q1 + 1) g f t cl) = fX12_leaves (mR (ru_tr vr t y) (q1 + 1) g f t cl) := by
    intro y hy hy2
    unfold fX12_moveGate_b46 fX12_moveGate_b89
    rw [if_neg hy, if_neg hy2, q_bv_id, rs_trouble (by omega) h70]
  have op : ∀ (k s : Int32), fX4_moveGate_b21 36 s k 1 (mC vc (p1 + 1) h f np cl) = q_bd (fX1_troubleToOpen k s (mC vc (p1 + 1) h f np cl)) (fun y T => fX4_moveGate_b49 36 s k 1 y T) := by
    intro k s
    unfold fX4_moveGate_b21
    rw [if_neg (by decide)]
  have toB : ∀ (k s y : Int32), y ≠ 0 → fX1_troubleToShut k s (mC vc (p1 + 1) h f np cl) = some (y, mC vc (p1 + 1) h f np cl) → fX1_troubleToOpen k s (mC vc (p1 + 1) h f np cl) = some (y, mC vc (p1 + 1) h f np cl) := by
    intro k s y hy e
    unfold fX1_troubleToOpen
    rw [e, q_bd_s, if_neg hy]
  rcases ru_gate (q_a vc 802 h) (q_a vc 802 (h + 1)) with ⟨z1, z2⟩ | ⟨m, j, hm, hj, e1, e2, -, -, -⟩
  · refine tr 3 (by decide) ?_ ?_
    · rw [op, toB _ _ 3 (by decide) (cs_shutB z1), q_bd_s]; exact t49 3 (by decide)
    · rw [sr, rs_wsB z2, q_bd_s, if_neg (by decide)]; exact t46 3 (by decide) (by decide)
  · rw [e1, e2] at sc sr tr t49 t46
    have eh : q_a vr 2465 m = q_a vc 203 m := by rw [d.2.1.2.2.2.1]
    rw [rs_wsG hm hj, q_bd_s, mR_a, eh] at sr
    by_cases z4 : q_a vc 203 m = 0
    · refine tr 4 (by decide) ?_ ?_
      · rw [op, toB _ _ 4 (by decide) (by rw [cs_shutG hm hj, mC_a, if_pos z4]), q_bd_s]; exact t49 4 (by decide)
      · rw [sr, if_pos z4, if_neg (by decide)]; exact t46 4 (by decide) (by decide)
    · rw [if_neg z4, if_pos rfl] at sr
      have st : fX1_troubleToShut (nI m) (nI j) (mC vc (p1 + 1) h f np cl) = some (0, mC vc (p1 + 1) h f np cl) := by rw [cs_shutG hm hj, mC_a, if_neg z4]
      have ok : fX1_troubleToOpen (nI m) (nI j) (mC vc (p1 + 1) h f np cl) = some (0, mC vc (p1 + 1) h f np cl) → fX12_step (mR vr q1 (g + 2) f t cl) = fX12_moveGate_b89 1 (nI j) (nI m) 0 (mR vr (q1 + 1) g f t cl) → ru_G Fin a (40000 * f + c + 4 * (p1 + 1 - p1)) (mC vc p1 (h + 2) f np cl) (mR vr q1 (g + 2) f t cl) := by
        intro k1 k2
        have c1 : fX4_step (mC vc p1 (h + 2) f np cl) = some (mC (ru_wr (q_sa vc 202 (upd (q_a vc 202) (2 * m + j) 1)) 3 (2 * nI m + nI j)) (p1 + 1) h f np cl) := by
          rw [sc, op, k1, q_bd_s]
          unfold fX4_moveGate_b49 fX4_moveGate_b79 fX4_moveGate_b96 fX1_setGate fX1_setGate_b19
          rw [if_pos rfl, if_neg (show ¬ (1 : Int32) = 0 by decide), cs_isGate, if_neg (ni_g hm hj), q_bd_s, if_neg (show ¬ (1 : Int32) = 0 by decide), ni_2, if_neg (by rw [ni_in (show 2 * m + j < 12 by omega) (by omega)]; exact id), q_lt_s, ni_clamp (by omega), q_bv_s, if_neg (show ¬ (1 : Int32) = 0 by decide), mC_a, mC_sa, cs_wr, q_bv_s, mC_wr]
        have c2 : fX12_step (mR vr q1 (g + 2) f t cl) = some (mR (ru_nt (q_sa vr 2464 (upd (q_a vr 2464) (2 * m + j) 1)) 3 (2 * nI m + nI j)) (q1 + 1) g f t cl) := by
          rw [k2]
          unfold fX12_moveGate_b89 fX12_moveGate_b122
          rw [if_pos (by decide), ni_2, if_neg (by rw [ni_in (show 2 * m + j < 12 by omega) (by omega)]; exact id), q_lt_s, ni_clamp (by omega), if_neg (show ¬ (1 : Int32) = 0 by decide), mR_a, mR_sa, rs_note (by exact h70), q_bv_s, mR_nt]; rfl
        refine ru_mono (B := 40000 * f + c + 1) (ru_G_l (fun hl => ?_)) (by omega)
        rw [ru_l_mC] at hl
        have dg := ru_D_gate (i := 2 * m + j) (x := 1) d (by exact Or.inr rfl)
        have lg : ru_l (q_sa vc 202 (upd (q_a vc 202) (2 * m + j) 1)) = ru_l vc := by unfold ru_l; rw [q_a_sa, if_neg (by omega)]
        refine ru_cs c1 d.2.2.2.2.1.2.2.1 W.1 ⟨?_, Nat.le_of_eq (ru_w_e (fun i => by rw [wr_f]; rfl))⟩ (ru_rs c2 d.2.2.2.2.1.2.2.2.1 d.2.2.2.2.1.2.2.2.2 (n f _ _ (ru_D_w dg (by rw [lg]; exact hl)) ⟨by rw [wr_f]; exact W.1, by rw [nt_i (by omega)]; exact W.2.1⟩ (Nat.le_refl _) (ru_K_w (ru_K_gate ru_K_id))))
        rw [ru_l_mC, ru_l_mC, ru_l_wr (ru_n16 dg.2.2.1) (by rw [lg]; exact hl), lg]; omega
      rw [if_neg (by decide), ni_2s hj, if_neg (by rw [ni_in (show 2 * m + (1 - j) < 12 by omega) (by omega)]; exact id), ni_clamp (by omega), ← d.2.1.2.2.1] at sr
      have hg := d.2.1.2.2.2.2.2.1 (2 * m + (1 - j)) (by omega)
      by_cases z6 : q_a vc 202 (2 * m + (1 - j)) = 1
      · refine tr 6 (by decide) ?_ ?_
        · rw [op]
          unfold fX1_troubleToOpen
          rw [st, q_bd_s, if_pos rfl, cs_gateG hm hj, q_bd_s, mC_a, if_pos z6, q_bd_s]; exact t49 6 (by decide)
        · rw [sr, if_neg (by rw [z6]; decide)]; exact t46 6 (by decide) (by decide)
      · have z60 : q_a vc 202 (2 * m + (1 - j)) = 0 := hg.resolve_right z6
        rw [if_pos z60] at sr
        have to : fX1_troubleToOpen (nI m) (nI j) (mC vc (p1 + 1) h f np cl) = some (if 1 < q_a vc 200 m - q_a vc 201 (m + j) / 10 then 5 else if -1 ≤ q_a vc 200 m - q_a vc 201 (m + j) / 10 then 0 else 5, mC vc (p1 + 1) h f np cl) := by
          unfold fX1_troubleToOpen fX1_troubleToOpen_b48 fX1_troubleToOpen_b53
          rw [st, q_bd_s, if_pos rfl, cs_gateG hm hj, q_bd_s, mC_a, if_neg z6, cs_headG hm hj, q_bd_s, mC_a]
          split
          · rfl
          · split <;> rfl
        have br : fX12_moveGate_b46 1 (nI j) (nI m) 0 (mR vr (q1 + 1) g f t cl) = if 1 < q_a vc 200 m - q_a vc 201 (m + j) / 10 then fX12_moveGate_b89 1 (nI j) (nI m) 5 (mR vr (q1 + 1) g f t cl) else if -1 ≤ q_a vc 200 m - q_a vc 201 (m + j) / 10 then fX12_moveGate_b89 1 (nI j) (nI m) 0 (mR vr (q1 + 1) g f t cl) else fX12_moveGate_b89 1 (nI j) (nI m) 5 (mR vr (q1 + 1) g f t cl) := by
          unfold fX12_moveGate_b46 fX12_moveGate_b82 fX12_moveGate_b87
          rw [if_pos rfl, if_neg (show ¬ (1 : Int32) = 0 by decide), if_neg (by rw [ni_in hm (by omega)]; exact id), rs_lbG hm hj, q_bd_s, q_lt_s, ni_clamp (by omega), mR_a, ← d.2.1.1, ← d.2.1.2.1]
        have t5 : fX12_moveGate_b89 1 (nI j) (nI m) 5 (mR vr (q1 + 1) g f t cl) = fX12_leaves (mR (ru_tr vr t 5) (q1 + 1) g f t cl) := by
          unfold fX12_moveGate_b89
          rw [if_neg (by decide), q_bv_id, rs_trouble (by omega) h70]
        rw [br] at sr
        by_cases y1 : 1 < q_a vc 200 m - q_a vc 201 (m + j) / 10
        · rw [if_pos y1] at sr to
          exact tr 5 (by decide) (by rw [op, to, q_bd_s]; exact t49 5 (by decide)) (by rw [sr, t5])
        · rw [if_neg y1] at sr to
          by_cases y2 : -1 ≤ q_a vc 200 m - q_a vc 201 (m + j) / 10
          · rw [if_pos y2] at sr to
            exact ok to sr
          · rw [if_neg y2] at sr to
            exact tr 5 (by decide) (by rw [op, to, q_bd_s]; exact t49 5 (by decide)) (by rw [sr, t5])
set_option maxHeartbeats 200000 in
theorem ru_SHUT {hb p p1 q q1 : Nat} (s1 : ru_SA Fin a T XL f0 2 hb p p1 q q1) (hhb : hb + 2 * nu ≤ 142) (h0 : 2 ≤ hb) (c0 : co_c T p1 37) (r0 : co_r T 0 q1 33) : ru_ST Fin a T XL f0 nu L p (p1 + 1) q (q1 + 1) := by
  refine ru_BES s1 hhb (by omega) (by omega) ?_
  intro c f h g np t cl vc vr d W bd E n x
  have E0 : q_a vc 802 h = q_a vr 2515 g := E 0 (by omega)
  have E1 : q_a vc 802 (h + 1) = q_a vr 2515 (g + 1) := E 1 (by omega)
  obtain ⟨b1, b2, b3, b4, b5, b6, b7, b8, b9, b10⟩ := id bd
  have h70 : ¬ q_i vr 2470 < 0 := ru_n70 d.2.2.1
  have sc : fX4_step (mC vc p1 (h + 2) f np cl) = fX4_moveGate_b21 37 (q_a vc 802 (h + 1)) (q_a vc 802 h) 0 (mC vc (p1 + 1) h f np cl) := by
    rw [cs_step d.1 c0, cd_37, q_bv_id]
    unfold fX4_order_b67 fX4_order_b152 fX4_moveGate
    rw [q_bv_id, cs_pop (by omega), q_bd_s, cs_pop (by omega), q_bd_s, if_neg (by decide)]
  have sr : fX12_step (mR vr q1 (g + 2) f t cl) = q_bd (fX12_wrongSide (q_a vc 802 h) (q_a vc 802 (h + 1)) (mR vr (q1 + 1) g f t cl)) (fun y6 T5 =>
      if y6 = 0 then (if (0 : Int32) = 0 then fX12_moveGate_b46 0 (q_a vc 802 (h + 1)) (q_a vc 802 h) y6 T5 else
        if (((2 * q_a vc 802 h) + 1) - q_a vc 802 (h + 1)) < 0 ∨ 12 ≤ (((2 * q_a vc 802 h) + 1) - q_a vc 802 (h + 1)).toNatClampNeg then none else
        if (q_a T5 2464 (((2 * q_a vc 802 h) + 1) - q_a vc 802 (h + 1)).toNatClampNeg) = 0 then fX12_moveGate_b46 0 (q_a vc 802 (h + 1)) (q_a vc 802 h) y6 T5 else fX12_moveGate_b46 0 (q_a vc 802 (h + 1)) (q_a vc 802 h) 6 T5)
      else fX12_moveGate_b46 0 (q_a vc 802 (h + 1)) (q_a vc 802 h) y6 T5) := by
    rw [rs_step d.1 r0, rd_33, q_bv_id]
    unfold fX12_stepOfStatement_b600
    rw [q_bv_id]
    unfold fX12_moveGate
    rw [show g + 2 = g + 1 + 1 from rfl, rs_pop (by omega), q_bd_s, rs_pop (by omega), q_bd_s, ← E0, ← E1]
  have tr : ∀ y : Int32, 0 < y → fX4_moveGate_b21 37 (q_a vc 802 (h + 1)) (q_a vc 802 h) 0 (mC vc (p1 + 1) h f np cl) = some (mC (ru_tc vc y) (p1 + 1) h f np cl) → fX12_step (mR vr q1 (g + 2) f t cl) = fX12_leaves (mR (ru_tr vr t y) (q1 + 1) g f t cl) → ru_G Fin a (40000 * f + c + 4 * (p1 + 1 - p1)) (mC vc p1 (h + 2) f np cl) (mR vr q1 (g + 2) f t cl) := by
    intro y hy e1 e2
    exact ru_ttS (x := y) (p1 := p1 + 1) (h1 := h) (q1 := q1 + 1) (g1 := g) d W (by omega) hy (by omega) x (sc.trans e1) e2
  have t49 : ∀ y : Int32, y ≠ 0 → fX4_moveGate_b49 37 (q_a vc 802 (h + 1)) (q_a vc 802 h) 0 y (mC vc (p1 + 1) h f np cl) = some (mC (ru_tc vc y) (p1 + 1) h f np cl) := by
    intro y hy
    unfold fX4_moveGate_b49
    rw [if_neg hy, cs_trouble, mC_tc, q_bv_s]
  have t46 : ∀ y : Int32, y ≠ 0 → ¬ y ≤ 0 → fX12_moveGate_b46 0 (q_a vc 802 (h + 1)) (q_a vc 802 h) y (mR vr (q1 + 1) g f t cl) = fX12_leaves (mR (ru_tr vr t y) (q1 + 1) g f t cl) := by
    intro y hy hy2
    unfold fX12_moveGate_b46 fX12_moveGate_b89
    rw [if_neg hy, if_neg hy2, q_bv_id, rs_trouble (by omega) h70]
  have op : ∀ (k s : Int32), fX4_moveGate_b21 37 s k 0 (mC vc (p1 + 1) h f np cl) = q_bd (fX1_troubleToShut k s (mC vc (p1 + 1) h f np cl)) (fun y T => fX4_moveGate_b49 37 s k 0 y T) := by
    intro k s
    unfold fX4_moveGate_b21
    rw [if_pos rfl]
  have toB : ∀ (k s y : Int32), y ≠ 0 → fX1_troubleToShut k s (mC vc (p1 + 1) h f np cl) = some (y, mC vc (p1 + 1) h f np cl) → fX1_troubleToShut k s (mC vc (p1 + 1) h f np cl) = some (y, mC vc (p1 + 1) h f np cl) := by
    intro k s y hy e
    exact e
  rcases ru_gate (q_a vc 802 h) (q_a vc 802 (h + 1)) with ⟨z1, z2⟩ | ⟨m, j, hm, hj, e1, e2, -, -, -⟩
  · refine tr 3 (by decide) ?_ ?_
    · rw [op, toB _ _ 3 (by decide) (cs_shutB z1), q_bd_s]; exact t49 3 (by decide)
    · rw [sr, rs_wsB z2, q_bd_s, if_neg (by decide)]; exact t46 3 (by decide) (by decide)
  · rw [e1, e2] at sc sr tr t49 t46
    have eh : q_a vr 2465 m = q_a vc 203 m := by rw [d.2.1.2.2.2.1]
    rw [rs_wsG hm hj, q_bd_s, mR_a, eh] at sr
    by_cases z4 : q_a vc 203 m = 0
    · refine tr 4 (by decide) ?_ ?_
      · rw [op, toB _ _ 4 (by decide) (by rw [cs_shutG hm hj, mC_a, if_pos z4]), q_bd_s]; exact t49 4 (by decide)
      · rw [sr, if_pos z4, if_neg (by decide)]; exact t46 4 (by decide) (by decide)
    · rw [if_neg z4, if_pos rfl] at sr
      have st : fX1_troubleToShut (nI m) (nI j) (mC vc (p1 + 1) h f np cl) = some (0, mC vc (p1 + 1) h f np cl) := by rw [cs_shutG hm hj, mC_a, if_neg z4]
      have ok : fX1_troubleToShut (nI m) (nI j) (mC vc (p1 + 1) h f np cl) = some (0, mC vc (p1 + 1) h f np cl) → fX12_step (mR vr q1 (g + 2) f t cl) = fX12_moveGate_b89 0 (nI j) (nI m) 0 (mR vr (q1 + 1) g f t cl) → ru_G Fin a (40000 * f + c + 4 * (p1 + 1 - p1)) (mC vc p1 (h + 2) f np cl) (mR vr q1 (g + 2) f t cl) := by
        intro k1 k2
        have c1 : fX4_step (mC vc p1 (h + 2) f np cl) = some (mC (ru_wr (q_sa vc 202 (upd (q_a vc 202) (2 * m + j) 0)) 4 (2 * nI m + nI j)) (p1 + 1) h f np cl) := by
          rw [sc, op, k1, q_bd_s]
          unfold fX4_moveGate_b49 fX4_moveGate_b79 fX4_moveGate_b96 fX1_setGate fX1_setGate_b19
          rw [if_pos rfl, if_pos rfl, cs_isGate, if_neg (ni_g hm hj), q_bd_s, if_neg (show ¬ (1 : Int32) = 0 by decide), ni_2, if_neg (by rw [ni_in (show 2 * m + j < 12 by omega) (by omega)]; exact id), q_lt_s, ni_clamp (by omega), q_bv_s, if_pos rfl, mC_a, mC_sa, cs_wr, q_bv_s, mC_wr]
        have c2 : fX12_step (mR vr q1 (g + 2) f t cl) = some (mR (ru_nt (q_sa vr 2464 (upd (q_a vr 2464) (2 * m + j) 0)) 4 (2 * nI m + nI j)) (q1 + 1) g f t cl) := by
          rw [k2]
          unfold fX12_moveGate_b89 fX12_moveGate_b122
          rw [if_pos (by decide), ni_2, if_neg (by rw [ni_in (show 2 * m + j < 12 by omega) (by omega)]; exact id), q_lt_s, ni_clamp (by omega), if_pos rfl, mR_a, mR_sa, rs_note (by exact h70), q_bv_s, mR_nt]; rfl
        refine ru_mono (B := 40000 * f + c + 1) (ru_G_l (fun hl => ?_)) (by omega)
        rw [ru_l_mC] at hl
        have dg := ru_D_gate (i := 2 * m + j) (x := 0) d (by exact Or.inl rfl)
        have lg : ru_l (q_sa vc 202 (upd (q_a vc 202) (2 * m + j) 0)) = ru_l vc := by unfold ru_l; rw [q_a_sa, if_neg (by omega)]
        refine ru_cs c1 d.2.2.2.2.1.2.2.1 W.1 ⟨?_, Nat.le_of_eq (ru_w_e (fun i => by rw [wr_f]; rfl))⟩ (ru_rs c2 d.2.2.2.2.1.2.2.2.1 d.2.2.2.2.1.2.2.2.2 (n f _ _ (ru_D_w dg (by rw [lg]; exact hl)) ⟨by rw [wr_f]; exact W.1, by rw [nt_i (by omega)]; exact W.2.1⟩ (Nat.le_refl _) (ru_K_w (ru_K_gate ru_K_id))))
        rw [ru_l_mC, ru_l_mC, ru_l_wr (ru_n16 dg.2.2.1) (by rw [lg]; exact hl), lg]; omega
      refine ok st ?_
      rw [sr, if_pos rfl]
      unfold fX12_moveGate_b46
      rw [if_pos rfl, if_pos rfl]
end
