section
variable {Fin : q_V → q_V → Prop} {a : ru_P} {T : co_T} {XL : Int32 → Int32 → Int32 → Prop} {f0 : Nat}
theorem ru_ADD {hb p p1 q q1 : Nat} (s1 : ru_SA Fin a T XL f0 2 hb p p1 q q1) (h0 : 2 ≤ hb) (c0 : co_c T p1 8) (r0 : co_r T 0 q1 7) : ru_SA Fin a T XL f0 1 hb p (p1 + 1) q (q1 + 1) := by
  refine ru_BEH s1 (by omega) (by omega) ?_
  intro c f h g np t cl vc vr d W hf hf0 hh hg hn ht hc hc' E k1 k2
  have E0 : q_a vc 802 h = q_a vr 2515 g := E 0 (by omega)
  have E1 : q_a vc 802 (h + 1) = q_a vr 2515 (g + 1) := E 1 (by omega)
  refine ru_pq (m := 2) (x := q_a vc 802 h + q_a vc 802 (h + 1)) d W (by omega) k1 ?_ ?_
  · rw [cs_step d.1 c0, cd_8, q_bv_id, cs_pop (by omega), q_bd_s, cs_pop (by omega), q_bd_s, cs_push (by omega)]; rfl
  · rw [rs_step d.1 r0, rd_7]
    unfold fX12_step_b431
    rw [rk_7, rs_pop (by omega), q_bd_s, rs_pop (by omega), q_bd_s, rs_push (by omega), E0, E1]; rfl
theorem ru_SUB {hb p p1 q q1 : Nat} (s1 : ru_SA Fin a T XL f0 2 hb p p1 q q1) (h0 : 2 ≤ hb) (c0 : co_c T p1 9) (r0 : co_r T 0 q1 8) : ru_SA Fin a T XL f0 1 hb p (p1 + 1) q (q1 + 1) := by
  refine ru_BEH s1 (by omega) (by omega) ?_
  intro c f h g np t cl vc vr d W hf hf0 hh hg hn ht hc hc' E k1 k2
  have E0 : q_a vc 802 h = q_a vr 2515 g := E 0 (by omega)
  have E1 : q_a vc 802 (h + 1) = q_a vr 2515 (g + 1) := E 1 (by omega)
  refine ru_pq (m := 2) (x := q_a vc 802 h - q_a vc 802 (h + 1)) d W (by omega) k1 ?_ ?_
  · rw [cs_step d.1 c0, cd_9, q_bv_id, cs_pop (by omega), q_bd_s, cs_pop (by omega), q_bd_s, cs_push (by omega)]; rfl
  · rw [rs_step d.1 r0, rd_8]
    unfold fX12_step_b431
    rw [rk_8, rs_pop (by omega), q_bd_s, rs_pop (by omega), q_bd_s, rs_push (by omega), E0, E1]; rfl
theorem ru_MUL {hb p p1 q q1 : Nat} (s1 : ru_SA Fin a T XL f0 2 hb p p1 q q1) (h0 : 2 ≤ hb) (c0 : co_c T p1 10) (r0 : co_r T 0 q1 9) : ru_SA Fin a T XL f0 1 hb p (p1 + 1) q (q1 + 1) := by
  refine ru_BEH s1 (by omega) (by omega) ?_
  intro c f h g np t cl vc vr d W hf hf0 hh hg hn ht hc hc' E k1 k2
  have E0 : q_a vc 802 h = q_a vr 2515 g := E 0 (by omega)
  have E1 : q_a vc 802 (h + 1) = q_a vr 2515 (g + 1) := E 1 (by omega)
  refine ru_pq (m := 2) (x := q_a vc 802 h * q_a vc 802 (h + 1)) d W (by omega) k1 ?_ ?_
  · rw [cs_step d.1 c0, cd_10, q_bv_id, cs_pop (by omega), q_bd_s, cs_pop (by omega), q_bd_s, cs_push (by omega)]; rfl
  · rw [rs_step d.1 r0, rd_9]
    unfold fX12_step_b431
    rw [rk_9, rs_pop (by omega), q_bd_s, rs_pop (by omega), q_bd_s, rs_push (by omega), E0, E1]; rfl
theorem ru_SAME {hb p p1 q q1 : Nat} (s1 : ru_SA Fin a T XL f0 2 hb p p1 q q1) (h0 : 2 ≤ hb) (c0 : co_c T p1 13) (r0 : co_r T 0 q1 12) : ru_SA Fin a T XL f0 1 hb p (p1 + 1) q (q1 + 1) := by
  refine ru_BEH s1 (by omega) (by omega) ?_
  intro c f h g np t cl vc vr d W hf hf0 hh hg hn ht hc hc' E k1 k2
  have E0 : q_a vc 802 h = q_a vr 2515 g := E 0 (by omega)
  have E1 : q_a vc 802 (h + 1) = q_a vr 2515 (g + 1) := E 1 (by omega)
  refine ru_pq (m := 2) (x := if q_a vc 802 h = q_a vc 802 (h + 1) then 1 else 0) d W (by omega) k1 ?_ ?_
  · rw [cs_step d.1 c0, cd_13, q_bv_id, cs_pop (by omega), q_bd_s, cs_pop (by omega), q_bd_s]
    unfold fX4_workPair_b101
    split <;> rw [cs_push (by omega)] <;> rfl
  · rw [rs_step d.1 r0, rd_12]
    unfold fX12_step_b431
    rw [rk_12, rs_pop (by omega), q_bd_s, rs_pop (by omega), q_bd_s, E0, E1]
    unfold fX12_reckon_b101
    split <;> rw [rs_push (by omega)] <;> rfl
theorem ru_DIFF {hb p p1 q q1 : Nat} (s1 : ru_SA Fin a T XL f0 2 hb p p1 q q1) (h0 : 2 ≤ hb) (c0 : co_c T p1 14) (r0 : co_r T 0 q1 13) : ru_SA Fin a T XL f0 1 hb p (p1 + 1) q (q1 + 1) := by
  refine ru_BEH s1 (by omega) (by omega) ?_
  intro c f h g np t cl vc vr d W hf hf0 hh hg hn ht hc hc' E k1 k2
  have E0 : q_a vc 802 h = q_a vr 2515 g := E 0 (by omega)
  have E1 : q_a vc 802 (h + 1) = q_a vr 2515 (g + 1) := E 1 (by omega)
  refine ru_pq (m := 2) (x := if q_a vc 802 h = q_a vc 802 (h + 1) then 0 else 1) d W (by omega) k1 ?_ ?_
  · rw [cs_step d.1 c0, cd_14, q_bv_id, cs_pop (by omega), q_bd_s, cs_pop (by omega), q_bd_s]
    unfold fX4_workPair_b118
    split <;> rw [cs_push (by omega)] <;> rfl
  · rw [rs_step d.1 r0, rd_13]
    unfold fX12_step_b431
    rw [rk_13, rs_pop (by omega), q_bd_s, rs_pop (by omega), q_bd_s, E0, E1]
    unfold fX12_reckon_b118
    split <;> rw [rs_push (by omega)] <;> rfl
theorem ru_LESS {hb p p1 q q1 : Nat} (s1 : ru_SA Fin a T XL f0 2 hb p p1 q q1) (h0 : 2 ≤ hb) (c0 : co_c T p1 15) (r0 : co_r T 0 q1 14) : ru_SA Fin a T XL f0 1 hb p (p1 + 1) q (q1 + 1) := by
  refine ru_BEH s1 (by omega) (by omega) ?_
  intro c f h g np t cl vc vr d W hf hf0 hh hg hn ht hc hc' E k1 k2
  have E0 : q_a vc 802 h = q_a vr 2515 g := E 0 (by omega)
  have E1 : q_a vc 802 (h + 1) = q_a vr 2515 (g + 1) := E 1 (by omega)
  refine ru_pq (m := 2) (x := if q_a vc 802 (h + 1) ≤ q_a vc 802 h then 0 else 1) d W (by omega) k1 ?_ ?_
  · rw [cs_step d.1 c0, cd_15, q_bv_id, cs_pop (by omega), q_bd_s, cs_pop (by omega), q_bd_s]
    unfold fX4_workPair_b135
    split <;> rw [cs_push (by omega)] <;> rfl
  · rw [rs_step d.1 r0, rd_14]
    unfold fX12_step_b431
    rw [rk_14, rs_pop (by omega), q_bd_s, rs_pop (by omega), q_bd_s, E0, E1]
    unfold fX12_reckon_b135
    split <;> rw [rs_push (by omega)] <;> rfl
theorem ru_ATM {hb p p1 q q1 : Nat} (s1 : ru_SA Fin a T XL f0 2 hb p p1 q q1) (h0 : 2 ≤ hb) (c0 : co_c T p1 16) (r0 : co_r T 0 q1 15) : ru_SA Fin a T XL f0 1 hb p (p1 + 1) q (q1 + 1) := by
  refine ru_BEH s1 (by omega) (by omega) ?_
  intro c f h g np t cl vc vr d W hf hf0 hh hg hn ht hc hc' E k1 k2
  have E0 : q_a vc 802 h = q_a vr 2515 g := E 0 (by omega)
  have E1 : q_a vc 802 (h + 1) = q_a vr 2515 (g + 1) := E 1 (by omega)
  refine ru_pq (m := 2) (x := if q_a vc 802 (h + 1) < q_a vc 802 h then 0 else 1) d W (by omega) k1 ?_ ?_
  · rw [cs_step d.1 c0, cd_16, q_bv_id, cs_pop (by omega), q_bd_s, cs_pop (by omega), q_bd_s]
    unfold fX4_workPair_b152
    split <;> rw [cs_push (by omega)] <;> rfl
  · rw [rs_step d.1 r0, rd_15]
    unfold fX12_step_b431
    rw [rk_15, rs_pop (by omega), q_bd_s, rs_pop (by omega), q_bd_s, E0, E1]
    unfold fX12_reckon_b152
    split <;> rw [rs_push (by omega)] <;> rfl
theorem ru_DIV {hb p p1 q q1 : Nat} (s1 : ru_SA Fin a T XL f0 2 hb p p1 q q1) (h0 : 2 ≤ hb) (c0 : co_c T p1 11) (r0 : co_r T 0 q1 10) : ru_SA Fin a T XL f0 1 hb p (p1 + 1) q (q1 + 1) := by
  refine ru_BEH s1 (by omega) (by omega) ?_
  intro c f h g np t cl vc vr d W hf hf0 hh hg hn ht hc hc' E k1 k2
  have E0 : q_a vc 802 h = q_a vr 2515 g := E 0 (by omega)
  have E1 : q_a vc 802 (h + 1) = q_a vr 2515 (g + 1) := E 1 (by omega)
  by_cases z : q_a vc 802 (h + 1) = 0
  · have z' : q_a vr 2515 (g + 1) = 0 := by rw [← E1]; exact z
    refine ru_tt (x := 1) (p1 := p1 + 1) (h1 := h) (q1 := q1 + 1) (g1 := g) d W (by omega) (by decide) (by omega) k2 ?_ ?_
    · rw [cs_step d.1 c0, cd_11, q_bv_id, cs_pop (by omega), q_bd_s, cs_pop (by omega), q_bd_s]
      unfold fX4_workPair_b158 fX4_divide
      rw [if_pos z, cs_trouble, mC_tc]; rfl
    · rw [rs_step d.1 r0, rd_10]
      unfold fX12_step_b431
      rw [rk_10, rs_pop (by omega), q_bd_s, rs_pop (by omega), q_bd_s]
      unfold fX12_reckon_b158 fX12_reckon_b213 fX12_step_b436
      rw [if_pos z', q_bv_id, q_bv_id, rs_trouble (by omega) (ru_n70 d.2.2.1)]
  · have z' : ¬ q_a vr 2515 (g + 1) = 0 := by rw [← E1]; exact z
    refine ru_pq (m := 2) (x := q_a vc 802 h / q_a vc 802 (h + 1)) d W (by omega) k1 ?_ ?_
    · rw [cs_step d.1 c0, cd_11, q_bv_id, cs_pop (by omega), q_bd_s, cs_pop (by omega), q_bd_s]
      unfold fX4_workPair_b158 fX4_divide fX4_divide_b28
      rw [if_neg z, if_pos (by decide), if_neg z, cs_push (by omega)]; rfl
    · rw [rs_step d.1 r0, rd_10]
      unfold fX12_step_b431
      rw [rk_10, rs_pop (by omega), q_bd_s, rs_pop (by omega), q_bd_s]
      unfold fX12_reckon_b158 fX12_reckon_b188 fX12_reckon_b210
      rw [if_neg z', E0, E1]
      by_cases y : q_a vr 2515 (g + 1) = -1
      · rw [if_pos y, if_pos (by decide), rs_push (by omega), y, ni_dm1]; rfl
      · rw [if_neg y, if_pos (by decide), if_neg z', rs_push (by omega)]; rfl
theorem ru_REST {hb p p1 q q1 : Nat} (s1 : ru_SA Fin a T XL f0 2 hb p p1 q q1) (h0 : 2 ≤ hb) (c0 : co_c T p1 12) (r0 : co_r T 0 q1 11) : ru_SA Fin a T XL f0 1 hb p (p1 + 1) q (q1 + 1) := by
  refine ru_BEH s1 (by omega) (by omega) ?_
  intro c f h g np t cl vc vr d W hf hf0 hh hg hn ht hc hc' E k1 k2
  have E0 : q_a vc 802 h = q_a vr 2515 g := E 0 (by omega)
  have E1 : q_a vc 802 (h + 1) = q_a vr 2515 (g + 1) := E 1 (by omega)
  by_cases z : q_a vc 802 (h + 1) = 0
  · have z' : q_a vr 2515 (g + 1) = 0 := by rw [← E1]; exact z
    refine ru_tt (x := 1) (p1 := p1 + 1) (h1 := h) (q1 := q1 + 1) (g1 := g) d W (by omega) (by decide) (by omega) k2 ?_ ?_
    · rw [cs_step d.1 c0, cd_12, q_bv_id, cs_pop (by omega), q_bd_s, cs_pop (by omega), q_bd_s]
      unfold fX4_workPair_b158 fX4_divide
      rw [if_pos z, cs_trouble, mC_tc]; rfl
    · rw [rs_step d.1 r0, rd_11]
      unfold fX12_step_b431
      rw [rk_11, rs_pop (by omega), q_bd_s, rs_pop (by omega), q_bd_s]
      unfold fX12_reckon_b158 fX12_reckon_b213 fX12_step_b436
      rw [if_pos z', q_bv_id, q_bv_id, rs_trouble (by omega) (ru_n70 d.2.2.1)]
  · have z' : ¬ q_a vr 2515 (g + 1) = 0 := by rw [← E1]; exact z
    refine ru_pq (m := 2) (x := q_a vc 802 h - q_a vc 802 h / q_a vc 802 (h + 1) * q_a vc 802 (h + 1)) d W (by omega) k1 ?_ ?_
    · rw [cs_step d.1 c0, cd_12, q_bv_id, cs_pop (by omega), q_bd_s, cs_pop (by omega), q_bd_s]
      unfold fX4_workPair_b158 fX4_divide fX4_divide_b28
      rw [if_neg z, if_neg (by decide), if_neg z, cs_push (by omega)]; rfl
    · rw [rs_step d.1 r0, rd_11]
      unfold fX12_step_b431
      rw [rk_11, rs_pop (by omega), q_bd_s, rs_pop (by omega), q_bd_s]
      unfold fX12_reckon_b158 fX12_reckon_b188 fX12_reckon_b210
      rw [if_neg z', E0, E1]
      by_cases y : q_a vr 2515 (g + 1) = -1
      · rw [if_pos y, if_neg (by decide), rs_push (by omega), y, ni_rm1]; rfl
      · rw [if_neg y, if_neg (by decide), if_neg z', rs_push (by omega)]; rfl
theorem cs_levelOf {v : q_V} {x : Int32} : fX1_levelOf x v = some (if x < 0 ∨ 6 ≤ x then -1 else q_a v 200 x.toNatClampNeg, v) := by
  unfold fX1_levelOf fX1_isLock fX1_isLock_b14 fX1_isLock_b15 fX1_levelOf_b17
  by_cases h1 : x < 0
  · simp (decide := true) only [h1, true_or, q_bd_s, q_bv_s, q_lt_s, q_i_si, q_i_sj, q_i_sa, q_i_sb, q_i_sf, q_i_sc, q_j_si, q_j_sj, q_j_sa, q_j_sb, q_j_sf, q_j_sc, q_a_si, q_a_sj, q_a_sa, q_a_sb, q_a_sf, q_a_sc, q_b_si, q_b_sj, q_b_sa, q_b_sb, q_b_sf, q_b_sc, q_f_si, q_f_sj, q_f_sa, q_f_sb, q_f_sf, q_f_sc, q_c_si, q_c_sj, q_c_sa, q_c_sb, q_c_sf, q_c_sc, q_n_si, q_n_sj, q_n_sa, q_n_sb, q_n_sf, q_n_sc, Nat.reduceEqDiff, Nat.reduceAdd, ↓reduceIte, Int32.reduceLT, Int32.reduceLE, Nat.reduceLeDiff, ni_neg, ni_clamp, ni_lef, or_self, or_false, false_or, ni_add1, ni_pred]
  · by_cases h2 : 6 ≤ x
    · simp (decide := true) only [h1, h2, or_true, q_bd_s, q_bv_s, q_lt_s, q_i_si, q_i_sj, q_i_sa, q_i_sb, q_i_sf, q_i_sc, q_j_si, q_j_sj, q_j_sa, q_j_sb, q_j_sf, q_j_sc, q_a_si, q_a_sj, q_a_sa, q_a_sb, q_a_sf, q_a_sc, q_b_si, q_b_sj, q_b_sa, q_b_sb, q_b_sf, q_b_sc, q_f_si, q_f_sj, q_f_sa, q_f_sb, q_f_sf, q_f_sc, q_c_si, q_c_sj, q_c_sa, q_c_sb, q_c_sf, q_c_sc, q_n_si, q_n_sj, q_n_sa, q_n_sb, q_n_sf, q_n_sc, Nat.reduceEqDiff, Nat.reduceAdd, ↓reduceIte, Int32.reduceLT, Int32.reduceLE, Nat.reduceLeDiff, ni_neg, ni_clamp, ni_lef, or_self, or_false, false_or, ni_add1, ni_pred]
    · obtain ⟨m, hm, e⟩ := ni_ex h1
      have h3 : m < 6 := by
        rw [e, show (6 : Int32) = nI 6 from rfl, ni_le (by omega) hm] at h2; omega
      simp (decide := true) only [h1, h2, or_self, q_bd_s, q_bv_s, q_lt_s, q_i_si, q_i_sj, q_i_sa, q_i_sb, q_i_sf, q_i_sc, q_j_si, q_j_sj, q_j_sa, q_j_sb, q_j_sf, q_j_sc, q_a_si, q_a_sj, q_a_sa, q_a_sb, q_a_sf, q_a_sc, q_b_si, q_b_sj, q_b_sa, q_b_sb, q_b_sf, q_b_sc, q_f_si, q_f_sj, q_f_sa, q_f_sb, q_f_sf, q_f_sc, q_c_si, q_c_sj, q_c_sa, q_c_sb, q_c_sf, q_c_sc, q_n_si, q_n_sj, q_n_sa, q_n_sb, q_n_sf, q_n_sc, Nat.reduceEqDiff, Nat.reduceAdd, ↓reduceIte, Int32.reduceLT, Int32.reduceLE, Nat.reduceLeDiff, ni_neg, ni_clamp, ni_lef, or_self, or_false, false_or, ni_add1, ni_pred]
      simp (disch := omega) only [e, q_bd_s, q_bv_s, q_lt_s, q_i_si, q_i_sj, q_i_sa, q_i_sb, q_i_sf, q_i_sc, q_j_si, q_j_sj, q_j_sa, q_j_sb, q_j_sf, q_j_sc, q_a_si, q_a_sj, q_a_sa, q_a_sb, q_a_sf, q_a_sc, q_b_si, q_b_sj, q_b_sa, q_b_sb, q_b_sf, q_b_sc, q_f_si, q_f_sj, q_f_sa, q_f_sb, q_f_sf, q_f_sc, q_c_si, q_c_sj, q_c_sa, q_c_sb, q_c_sf, q_c_sc, q_n_si, q_n_sj, q_n_sa, q_n_sb, q_n_sf, q_n_sc, Nat.reduceEqDiff, Nat.reduceAdd, ↓reduceIte, Int32.reduceLT, Int32.reduceLE, Nat.reduceLeDiff, ni_neg, ni_clamp, ni_lef, or_self, or_false, false_or, ni_add1, ni_pred]
theorem ru_LEVEL {hb p p1 q q1 : Nat} (s1 : ru_SA Fin a T XL f0 1 hb p p1 q q1) (h0 : 1 ≤ hb) (c0 : co_c T p1 17) (r0 : co_r T 0 q1 20) : ru_SA Fin a T XL f0 1 hb p (p1 + 1) q (q1 + 1) := by
  refine ru_BEH s1 (by omega) (by omega) ?_
  intro c f h g np t cl vc vr d W hf hf0 hh hg hn ht hc hc' E k1 k2
  have E0 : q_a vc 802 h = q_a vr 2515 g := E 0 (by omega)
  by_cases z : q_a vc 802 h < 0 ∨ 6 ≤ q_a vc 802 h
  · refine ru_tt (x := 3) (p1 := p1 + 1) (h1 := h) (q1 := q1 + 1) (g1 := g) d W (by omega) (by decide) (by omega) k2 ?_ ?_
    · rw [cs_step d.1 c0, cd_17, q_bv_id, cs_pop (by omega), q_bd_s, cs_levelOf, if_pos z, q_bd_s]
      unfold fX4_workQuery_b97
      rw [if_pos rfl, cs_trouble, mC_tc]; rfl
    · rw [rs_step d.1 r0, rd_20, rs_pop (by omega), q_bd_s, ← E0]
      unfold fX12_answers fX12_in fX12_in_b14 fX12_in_b15 fX12_step_b436
      rw [q_bv_id]
      by_cases z1 : q_a vc 802 h < 0
      · rw [if_pos z1, if_neg (by decide), q_bd_s, if_pos rfl, q_bv_id, rs_trouble (by omega) (ru_n70 d.2.2.1)]
      · have z2 : (6 : Int32) - 1 < q_a vc 802 h := by
          obtain ⟨m, hm, e⟩ := ni_ex z1
          have z3 := z.resolve_left z1
          rw [e, show (6 : Int32) = nI 6 from rfl, ni_le (by omega) hm] at z3
          rw [e, show (6 : Int32) - 1 = nI 5 from rfl, ni_lt (by omega) hm]; omega
        rw [if_neg z1, if_pos z2, if_neg (by decide), q_bd_s, if_pos rfl, q_bv_id, rs_trouble (by omega) (ru_n70 d.2.2.1)]
  · have z1 : ¬ q_a vc 802 h < 0 := fun x => z (Or.inl x)
    obtain ⟨m, hm, e⟩ := ni_ex z1
    have h3 : m < 6 := by
      have z3 : ¬ 6 ≤ q_a vc 802 h := fun x => z (Or.inr x)
      rw [e, show (6 : Int32) = nI 6 from rfl, ni_le (by omega) hm] at z3; omega
    have z2 : ¬ (6 : Int32) - 1 < q_a vc 802 h := by
      rw [e, show (6 : Int32) - 1 = nI 5 from rfl, ni_lt (by omega) hm]; omega
    have e5 : ¬ q_a vc 200 m < 0 := (d.2.1.2.2.2.2.2.2.1 m h3).1
    obtain ⟨y, hy, e6⟩ := ni_ex e5
    have e7 : q_a vc 200 m = nI (y) := by rw [e6]
    refine ru_pq (m := 1) (x := q_a vc 200 m) d W (by omega) k1 ?_ ?_
    · rw [cs_step d.1 c0, cd_17, q_bv_id, cs_pop (by omega), q_bd_s, cs_levelOf, if_neg z, q_bd_s, e, ni_clamp (by omega)]
      unfold fX4_workQuery_b97
      rw [mC_a, if_neg (show ¬ q_a vc 200 m = -1 from by rw [e7]; intro x; have x2 := congrArg Int32.toInt x; rw [ni_toInt (by omega)] at x2; have x3 : (-1 : Int32).toInt = -1 := rfl; omega), cs_push (by omega)]; rfl
    · rw [rs_step d.1 r0, rd_20, rs_pop (by omega), q_bd_s, ← E0]
      unfold fX12_answers fX12_in fX12_in_b15 fX12_step_b436 fX12_answers_b72
      rw [q_bv_id, if_neg z1, if_neg z2, if_neg (by decide), q_bd_s, if_neg (by decide)]
      rw [if_pos rfl, if_neg (by rw [e, ni_in h3 (by omega)]; exact id), rs_push (by omega), q_bv_s, e, ni_clamp (by omega), mR_a, d.2.1.1]; rfl
theorem cs_reachLevelOf {v : q_V} {x : Int32} : fX1_reachLevelOf x v = some (if x < 0 ∨ 7 ≤ x then -1 else q_a v 201 x.toNatClampNeg / 10, v) := by
  unfold fX1_reachLevelOf fX1_isReach fX1_isReach_b14 fX1_isReach_b15 fX1_reachLevelOf_b20
  by_cases h1 : x < 0
  · simp (decide := true) only [h1, true_or, q_bd_s, q_bv_s, q_lt_s, q_i_si, q_i_sj, q_i_sa, q_i_sb, q_i_sf, q_i_sc, q_j_si, q_j_sj, q_j_sa, q_j_sb, q_j_sf, q_j_sc, q_a_si, q_a_sj, q_a_sa, q_a_sb, q_a_sf, q_a_sc, q_b_si, q_b_sj, q_b_sa, q_b_sb, q_b_sf, q_b_sc, q_f_si, q_f_sj, q_f_sa, q_f_sb, q_f_sf, q_f_sc, q_c_si, q_c_sj, q_c_sa, q_c_sb, q_c_sf, q_c_sc, q_n_si, q_n_sj, q_n_sa, q_n_sb, q_n_sf, q_n_sc, Nat.reduceEqDiff, Nat.reduceAdd, ↓reduceIte, Int32.reduceLT, Int32.reduceLE, Nat.reduceLeDiff, ni_neg, ni_clamp, ni_lef, or_self, or_false, false_or, ni_add1, ni_pred]
  · by_cases h2 : 7 ≤ x
    · simp (decide := true) only [h1, h2, or_true, q_bd_s, q_bv_s, q_lt_s, q_i_si, q_i_sj, q_i_sa, q_i_sb, q_i_sf, q_i_sc, q_j_si, q_j_sj, q_j_sa, q_j_sb, q_j_sf, q_j_sc, q_a_si, q_a_sj, q_a_sa, q_a_sb, q_a_sf, q_a_sc, q_b_si, q_b_sj, q_b_sa, q_b_sb, q_b_sf, q_b_sc, q_f_si, q_f_sj, q_f_sa, q_f_sb, q_f_sf, q_f_sc, q_c_si, q_c_sj, q_c_sa, q_c_sb, q_c_sf, q_c_sc, q_n_si, q_n_sj, q_n_sa, q_n_sb, q_n_sf, q_n_sc, Nat.reduceEqDiff, Nat.reduceAdd, ↓reduceIte, Int32.reduceLT, Int32.reduceLE, Nat.reduceLeDiff, ni_neg, ni_clamp, ni_lef, or_self, or_false, false_or, ni_add1, ni_pred]
    · obtain ⟨m, hm, e⟩ := ni_ex h1
      have h3 : m < 7 := by
        rw [e, show (7 : Int32) = nI 7 from rfl, ni_le (by omega) hm] at h2; omega
      simp (decide := true) only [h1, h2, or_self, q_bd_s, q_bv_s, q_lt_s, q_i_si, q_i_sj, q_i_sa, q_i_sb, q_i_sf, q_i_sc, q_j_si, q_j_sj, q_j_sa, q_j_sb, q_j_sf, q_j_sc, q_a_si, q_a_sj, q_a_sa, q_a_sb, q_a_sf, q_a_sc, q_b_si, q_b_sj, q_b_sa, q_b_sb, q_b_sf, q_b_sc, q_f_si, q_f_sj, q_f_sa, q_f_sb, q_f_sf, q_f_sc, q_c_si, q_c_sj, q_c_sa, q_c_sb, q_c_sf, q_c_sc, q_n_si, q_n_sj, q_n_sa, q_n_sb, q_n_sf, q_n_sc, Nat.reduceEqDiff, Nat.reduceAdd, ↓reduceIte, Int32.reduceLT, Int32.reduceLE, Nat.reduceLeDiff, ni_neg, ni_clamp, ni_lef, or_self, or_false, false_or, ni_add1, ni_pred]
      simp (disch := omega) only [e, q_bd_s, q_bv_s, q_lt_s, q_i_si, q_i_sj, q_i_sa, q_i_sb, q_i_sf, q_i_sc, q_j_si, q_j_sj, q_j_sa, q_j_sb, q_j_sf, q_j_sc, q_a_si, q_a_sj, q_a_sa, q_a_sb, q_a_sf, q_a_sc, q_b_si, q_b_sj, q_b_sa, q_b_sb, q_b_sf, q_b_sc, q_f_si, q_f_sj, q_f_sa, q_f_sb, q_f_sf, q_f_sc, q_c_si, q_c_sj, q_c_sa, q_c_sb, q_c_sf, q_c_sc, q_n_si, q_n_sj, q_n_sa, q_n_sb, q_n_sf, q_n_sc, Nat.reduceEqDiff, Nat.reduceAdd, ↓reduceIte, Int32.reduceLT, Int32.reduceLE, Nat.reduceLeDiff, ni_neg, ni_clamp, ni_lef, or_self, or_false, false_or, ni_add1, ni_pred]
theorem ru_REACH {hb p p1 q q1 : Nat} (s1 : ru_SA Fin a T XL f0 1 hb p p1 q q1) (h0 : 1 ≤ hb) (c0 : co_c T p1 18) (r0 : co_r T 0 q1 21) : ru_SA Fin a T XL f0 1 hb p (p1 + 1) q (q1 + 1) := by
  refine ru_BEH s1 (by omega) (by omega) ?_
  intro c f h g np t cl vc vr d W hf hf0 hh hg hn ht hc hc' E k1 k2
  have E0 : q_a vc 802 h = q_a vr 2515 g := E 0 (by omega)
  by_cases z : q_a vc 802 h < 0 ∨ 7 ≤ q_a vc 802 h
  · refine ru_tt (x := 3) (p1 := p1 + 1) (h1 := h) (q1 := q1 + 1) (g1 := g) d W (by omega) (by decide) (by omega) k2 ?_ ?_
    · rw [cs_step d.1 c0, cd_18, q_bv_id, cs_pop (by omega), q_bd_s, cs_reachLevelOf, if_pos z, q_bd_s]
      unfold fX4_workQuery_b97
      rw [if_pos rfl, cs_trouble, mC_tc]; rfl
    · rw [rs_step d.1 r0, rd_21, rs_pop (by omega), q_bd_s, ← E0]
      unfold fX12_answers fX12_in fX12_in_b14 fX12_in_b15 fX12_step_b436
      rw [q_bv_id]
      by_cases z1 : q_a vc 802 h < 0
      · rw [if_pos z1, if_neg (by decide), q_bd_s, if_pos rfl, q_bv_id, rs_trouble (by omega) (ru_n70 d.2.2.1)]
      · have z2 : (7 : Int32) - 1 < q_a vc 802 h := by
          obtain ⟨m, hm, e⟩ := ni_ex z1
          have z3 := z.resolve_left z1
          rw [e, show (7 : Int32) = nI 7 from rfl, ni_le (by omega) hm] at z3
          rw [e, show (7 : Int32) - 1 = nI 6 from rfl, ni_lt (by omega) hm]; omega
        rw [if_neg z1, if_pos z2, if_neg (by decide), q_bd_s, if_pos rfl, q_bv_id, rs_trouble (by omega) (ru_n70 d.2.2.1)]
  · have z1 : ¬ q_a vc 802 h < 0 := fun x => z (Or.inl x)
    obtain ⟨m, hm, e⟩ := ni_ex z1
    have h3 : m < 7 := by
      have z3 : ¬ 7 ≤ q_a vc 802 h := fun x => z (Or.inr x)
      rw [e, show (7 : Int32) = nI 7 from rfl, ni_le (by omega) hm] at z3; omega
    have z2 : ¬ (7 : Int32) - 1 < q_a vc 802 h := by
      rw [e, show (7 : Int32) - 1 = nI 6 from rfl, ni_lt (by omega) hm]; omega
    have e5 : ¬ q_a vc 201 m < 0 := (d.2.1.2.2.2.2.2.2.2.1 m h3).1
    obtain ⟨y, hy, e6⟩ := ni_ex e5
    have e7 : q_a vc 201 m / 10 = nI (y / 10) := by rw [e6]; exact ni_div (b := 10) hy (by decide)
    refine ru_pq (m := 1) (x := q_a vc 201 m / 10) d W (by omega) k1 ?_ ?_
    · rw [cs_step d.1 c0, cd_18, q_bv_id, cs_pop (by omega), q_bd_s, cs_reachLevelOf, if_neg z, q_bd_s, e, ni_clamp (by omega)]
      unfold fX4_workQuery_b97
      rw [mC_a, if_neg (show ¬ q_a vc 201 m / 10 = -1 from by rw [e7]; intro x; have x2 := congrArg Int32.toInt x; rw [ni_toInt (by omega)] at x2; have x3 : (-1 : Int32).toInt = -1 := rfl; omega), cs_push (by omega)]; rfl
    · rw [rs_step d.1 r0, rd_21, rs_pop (by omega), q_bd_s, ← E0]
      unfold fX12_answers fX12_in fX12_in_b15 fX12_step_b436 fX12_answers_b72
      rw [q_bv_id, if_neg z1, if_neg z2, if_neg (by decide), q_bd_s, if_neg (by decide)]
      rw [if_neg (by decide), if_pos rfl, if_neg (by rw [e, ni_in h3 (by omega)]; exact id), rs_push (by omega), q_bv_s, e, ni_clamp (by omega), mR_a, d.2.1.2.1]; rfl
theorem cs_placeOf {v : q_V} {x : Int32} : fX1_placeOf x v = some (if x < 0 ∨ 8 ≤ x then -1 else q_a v 204 x.toNatClampNeg, v) := by
  unfold fX1_placeOf fX1_isShip fX1_isShip_b14 fX1_isShip_b15 fX1_placeOf_b17
  by_cases h1 : x < 0
  · simp (decide := true) only [h1, true_or, q_bd_s, q_bv_s, q_lt_s, q_i_si, q_i_sj, q_i_sa, q_i_sb, q_i_sf, q_i_sc, q_j_si, q_j_sj, q_j_sa, q_j_sb, q_j_sf, q_j_sc, q_a_si, q_a_sj, q_a_sa, q_a_sb, q_a_sf, q_a_sc, q_b_si, q_b_sj, q_b_sa, q_b_sb, q_b_sf, q_b_sc, q_f_si, q_f_sj, q_f_sa, q_f_sb, q_f_sf, q_f_sc, q_c_si, q_c_sj, q_c_sa, q_c_sb, q_c_sf, q_c_sc, q_n_si, q_n_sj, q_n_sa, q_n_sb, q_n_sf, q_n_sc, Nat.reduceEqDiff, Nat.reduceAdd, ↓reduceIte, Int32.reduceLT, Int32.reduceLE, Nat.reduceLeDiff, ni_neg, ni_clamp, ni_lef, or_self, or_false, false_or, ni_add1, ni_pred]
  · by_cases h2 : 8 ≤ x
    · simp (decide := true) only [h1, h2, or_true, q_bd_s, q_bv_s, q_lt_s, q_i_si, q_i_sj, q_i_sa, q_i_sb, q_i_sf, q_i_sc, q_j_si, q_j_sj, q_j_sa, q_j_sb, q_j_sf, q_j_sc, q_a_si, q_a_sj, q_a_sa, q_a_sb, q_a_sf, q_a_sc, q_b_si, q_b_sj, q_b_sa, q_b_sb, q_b_sf, q_b_sc, q_f_si, q_f_sj, q_f_sa, q_f_sb, q_f_sf, q_f_sc, q_c_si, q_c_sj, q_c_sa, q_c_sb, q_c_sf, q_c_sc, q_n_si, q_n_sj, q_n_sa, q_n_sb, q_n_sf, q_n_sc, Nat.reduceEqDiff, Nat.reduceAdd, ↓reduceIte, Int32.reduceLT, Int32.reduceLE, Nat.reduceLeDiff, ni_neg, ni_clamp, ni_lef, or_self, or_false, false_or, ni_add1, ni_pred]
    · obtain ⟨m, hm, e⟩ := ni_ex h1
      have h3 : m < 8 := by
        rw [e, show (8 : Int32) = nI 8 from rfl, ni_le (by omega) hm] at h2; omega
      simp (decide := true) only [h1, h2, or_self, q_bd_s, q_bv_s, q_lt_s, q_i_si, q_i_sj, q_i_sa, q_i_sb, q_i_sf, q_i_sc, q_j_si, q_j_sj, q_j_sa, q_j_sb, q_j_sf, q_j_sc, q_a_si, q_a_sj, q_a_sa, q_a_sb, q_a_sf, q_a_sc, q_b_si, q_b_sj, q_b_sa, q_b_sb, q_b_sf, q_b_sc, q_f_si, q_f_sj, q_f_sa, q_f_sb, q_f_sf, q_f_sc, q_c_si, q_c_sj, q_c_sa, q_c_sb, q_c_sf, q_c_sc, q_n_si, q_n_sj, q_n_sa, q_n_sb, q_n_sf, q_n_sc, Nat.reduceEqDiff, Nat.reduceAdd, ↓reduceIte, Int32.reduceLT, Int32.reduceLE, Nat.reduceLeDiff, ni_neg, ni_clamp, ni_lef, or_self, or_false, false_or, ni_add1, ni_pred]
      simp (disch := omega) only [e, q_bd_s, q_bv_s, q_lt_s, q_i_si, q_i_sj, q_i_sa, q_i_sb, q_i_sf, q_i_sc, q_j_si, q_j_sj, q_j_sa, q_j_sb, q_j_sf, q_j_sc, q_a_si, q_a_sj, q_a_sa, q_a_sb, q_a_sf, q_a_sc, q_b_si, q_b_sj, q_b_sa, q_b_sb, q_b_sf, q_b_sc, q_f_si, q_f_sj, q_f_sa, q_f_sb, q_f_sf, q_f_sc, q_c_si, q_c_sj, q_c_sa, q_c_sb, q_c_sf, q_c_sc, q_n_si, q_n_sj, q_n_sa, q_n_sb, q_n_sf, q_n_sc, Nat.reduceEqDiff, Nat.reduceAdd, ↓reduceIte, Int32.reduceLT, Int32.reduceLE, Nat.reduceLeDiff, ni_neg, ni_clamp, ni_lef, or_self, or_false, false_or, ni_add1, ni_pred]
theorem ru_SHIP {hb p p1 q q1 : Nat} (s1 : ru_SA Fin a T XL f0 1 hb p p1 q q1) (h0 : 1 ≤ hb) (c0 : co_c T p1 20) (r0 : co_r T 0 q1 23) : ru_SA Fin a T XL f0 1 hb p (p1 + 1) q (q1 + 1) := by
  refine ru_BEH s1 (by omega) (by omega) ?_
  intro c f h g np t cl vc vr d W hf hf0 hh hg hn ht hc hc' E k1 k2
  have E0 : q_a vc 802 h = q_a vr 2515 g := E 0 (by omega)
  by_cases z : q_a vc 802 h < 0 ∨ 8 ≤ q_a vc 802 h
  · refine ru_tt (x := 3) (p1 := p1 + 1) (h1 := h) (q1 := q1 + 1) (g1 := g) d W (by omega) (by decide) (by omega) k2 ?_ ?_
    · rw [cs_step d.1 c0, cd_20, q_bv_id, cs_pop (by omega), q_bd_s, cs_placeOf, if_pos z, q_bd_s]
      unfold fX4_workQuery_b97
      rw [if_pos rfl, cs_trouble, mC_tc]; rfl
    · rw [rs_step d.1 r0, rd_23, rs_pop (by omega), q_bd_s, ← E0]
      unfold fX12_answers fX12_in fX12_in_b14 fX12_in_b15 fX12_step_b436
      rw [q_bv_id]
      by_cases z1 : q_a vc 802 h < 0
      · rw [if_pos z1, if_neg (by decide), q_bd_s, if_pos rfl, q_bv_id, rs_trouble (by omega) (ru_n70 d.2.2.1)]
      · have z2 : (8 : Int32) - 1 < q_a vc 802 h := by
          obtain ⟨m, hm, e⟩ := ni_ex z1
          have z3 := z.resolve_left z1
          rw [e, show (8 : Int32) = nI 8 from rfl, ni_le (by omega) hm] at z3
          rw [e, show (8 : Int32) - 1 = nI 7 from rfl, ni_lt (by omega) hm]; omega
        rw [if_neg z1, if_pos z2, if_neg (by decide), q_bd_s, if_pos rfl, q_bv_id, rs_trouble (by omega) (ru_n70 d.2.2.1)]
  · have z1 : ¬ q_a vc 802 h < 0 := fun x => z (Or.inl x)
    obtain ⟨m, hm, e⟩ := ni_ex z1
    have h3 : m < 8 := by
      have z3 : ¬ 8 ≤ q_a vc 802 h := fun x => z (Or.inr x)
      rw [e, show (8 : Int32) = nI 8 from rfl, ni_le (by omega) hm] at z3; omega
    have z2 : ¬ (8 : Int32) - 1 < q_a vc 802 h := by
      rw [e, show (8 : Int32) - 1 = nI 7 from rfl, ni_lt (by omega) hm]; omega
    have e5 : ¬ q_a vc 204 m < 0 := (d.2.1.2.2.2.2.2.2.2.2 m h3).1
    obtain ⟨y, hy, e6⟩ := ni_ex e5
    have e7 : q_a vc 204 m = nI (y) := by rw [e6]
    refine ru_pq (m := 1) (x := q_a vc 204 m) d W (by omega) k1 ?_ ?_
    · rw [cs_step d.1 c0, cd_20, q_bv_id, cs_pop (by omega), q_bd_s, cs_placeOf, if_neg z, q_bd_s, e, ni_clamp (by omega)]
      unfold fX4_workQuery_b97
      rw [mC_a, if_neg (show ¬ q_a vc 204 m = -1 from by rw [e7]; intro x; have x2 := congrArg Int32.toInt x; rw [ni_toInt (by omega)] at x2; have x3 : (-1 : Int32).toInt = -1 := rfl; omega), cs_push (by omega)]; rfl
    · rw [rs_step d.1 r0, rd_23, rs_pop (by omega), q_bd_s, ← E0]
      unfold fX12_answers fX12_in fX12_in_b15 fX12_step_b436 fX12_answers_b72
      rw [q_bv_id, if_neg z1, if_neg z2, if_neg (by decide), q_bd_s, if_neg (by decide)]
      rw [if_neg (by decide), if_neg (by decide), if_pos rfl, if_neg (by rw [e, ni_in h3 (by omega)]; exact id), rs_push (by omega), q_bv_s, e, ni_clamp (by omega), mR_a, d.2.1.2.2.2.2.1]; rfl
theorem cs_holdsOf {v : q_V} {x : Int32} : fX1_holdsOf x v = some (if x < 0 ∨ 6 ≤ x then -1 else q_a v 203 x.toNatClampNeg, v) := by
  unfold fX1_holdsOf fX1_isLock fX1_isLock_b14 fX1_isLock_b15 fX1_holdsOf_b17
  by_cases h1 : x < 0
  · simp (decide := true) only [h1, true_or, q_bd_s, q_bv_s, q_lt_s, q_i_si, q_i_sj, q_i_sa, q_i_sb, q_i_sf, q_i_sc, q_j_si, q_j_sj, q_j_sa, q_j_sb, q_j_sf, q_j_sc, q_a_si, q_a_sj, q_a_sa, q_a_sb, q_a_sf, q_a_sc, q_b_si, q_b_sj, q_b_sa, q_b_sb, q_b_sf, q_b_sc, q_f_si, q_f_sj, q_f_sa, q_f_sb, q_f_sf, q_f_sc, q_c_si, q_c_sj, q_c_sa, q_c_sb, q_c_sf, q_c_sc, q_n_si, q_n_sj, q_n_sa, q_n_sb, q_n_sf, q_n_sc, Nat.reduceEqDiff, Nat.reduceAdd, ↓reduceIte, Int32.reduceLT, Int32.reduceLE, Nat.reduceLeDiff, ni_neg, ni_clamp, ni_lef, or_self, or_false, false_or, ni_add1, ni_pred]
  · by_cases h2 : 6 ≤ x
    · simp (decide := true) only [h1, h2, or_true, q_bd_s, q_bv_s, q_lt_s, q_i_si, q_i_sj, q_i_sa, q_i_sb, q_i_sf, q_i_sc, q_j_si, q_j_sj, q_j_sa, q_j_sb, q_j_sf, q_j_sc, q_a_si, q_a_sj, q_a_sa, q_a_sb, q_a_sf, q_a_sc, q_b_si, q_b_sj, q_b_sa, q_b_sb, q_b_sf, q_b_sc, q_f_si, q_f_sj, q_f_sa, q_f_sb, q_f_sf, q_f_sc, q_c_si, q_c_sj, q_c_sa, q_c_sb, q_c_sf, q_c_sc, q_n_si, q_n_sj, q_n_sa, q_n_sb, q_n_sf, q_n_sc, Nat.reduceEqDiff, Nat.reduceAdd, ↓reduceIte, Int32.reduceLT, Int32.reduceLE, Nat.reduceLeDiff, ni_neg, ni_clamp, ni_lef, or_self, or_false, false_or, ni_add1, ni_pred]
    · obtain ⟨m, hm, e⟩ := ni_ex h1
      have h3 : m < 6 := by
        rw [e, show (6 : Int32) = nI 6 from rfl, ni_le (by omega) hm] at h2; omega
      simp (decide := true) only [h1, h2, or_self, q_bd_s, q_bv_s, q_lt_s, q_i_si, q_i_sj, q_i_sa, q_i_sb, q_i_sf, q_i_sc, q_j_si, q_j_sj, q_j_sa, q_j_sb, q_j_sf, q_j_sc, q_a_si, q_a_sj, q_a_sa, q_a_sb, q_a_sf, q_a_sc, q_b_si, q_b_sj, q_b_sa, q_b_sb, q_b_sf, q_b_sc, q_f_si, q_f_sj, q_f_sa, q_f_sb, q_f_sf, q_f_sc, q_c_si, q_c_sj, q_c_sa, q_c_sb, q_c_sf, q_c_sc, q_n_si, q_n_sj, q_n_sa, q_n_sb, q_n_sf, q_n_sc, Nat.reduceEqDiff, Nat.reduceAdd, ↓reduceIte, Int32.reduceLT, Int32.reduceLE, Nat.reduceLeDiff, ni_neg, ni_clamp, ni_lef, or_self, or_false, false_or, ni_add1, ni_pred]
      simp (disch := omega) only [e, q_bd_s, q_bv_s, q_lt_s, q_i_si, q_i_sj, q_i_sa, q_i_sb, q_i_sf, q_i_sc, q_j_si, q_j_sj, q_j_sa, q_j_sb, q_j_sf, q_j_sc, q_a_si, q_a_sj, q_a_sa, q_a_sb, q_a_sf, q_a_sc, q_b_si, q_b_sj, q_b_sa, q_b_sb, q_b_sf, q_b_sc, q_f_si, q_f_sj, q_f_sa, q_f_sb, q_f_sf, q_f_sc, q_c_si, q_c_sj, q_c_sa, q_c_sb, q_c_sf, q_c_sc, q_n_si, q_n_sj, q_n_sa, q_n_sb, q_n_sf, q_n_sc, Nat.reduceEqDiff, Nat.reduceAdd, ↓reduceIte, Int32.reduceLT, Int32.reduceLE, Nat.reduceLeDiff, ni_neg, ni_clamp, ni_lef, or_self, or_false, false_or, ni_add1, ni_pred]
theorem ru_HELD {hb p p1 q q1 : Nat} (s1 : ru_SA Fin a T XL f0 1 hb p p1 q q1) (h0 : 1 ≤ hb) (c0 : co_c T p1 21) (r0 : co_r T 0 q1 24) : ru_SA Fin a T XL f0 1 hb p (p1 + 1) q (q1 + 1) := by
  refine ru_BEH s1 (by omega) (by omega) ?_
  intro c f h g np t cl vc vr d W hf hf0 hh hg hn ht hc hc' E k1 k2
  have E0 : q_a vc 802 h = q_a vr 2515 g := E 0 (by omega)
  by_cases z : q_a vc 802 h < 0 ∨ 6 ≤ q_a vc 802 h
  · refine ru_tt (x := 3) (p1 := p1 + 1) (h1 := h) (q1 := q1 + 1) (g1 := g) d W (by omega) (by decide) (by omega) k2 ?_ ?_
    · rw [cs_step d.1 c0, cd_21, q_bv_id, cs_pop (by omega), q_bd_s, cs_holdsOf, if_pos z, q_bd_s]
      unfold fX4_workQuery_b97
      rw [if_pos rfl, cs_trouble, mC_tc]; rfl
    · rw [rs_step d.1 r0, rd_24, rs_pop (by omega), q_bd_s, ← E0]
      unfold fX12_answers fX12_in fX12_in_b14 fX12_in_b15 fX12_step_b436
      rw [q_bv_id]
      by_cases z1 : q_a vc 802 h < 0
      · rw [if_pos z1, if_neg (by decide), q_bd_s, if_pos rfl, q_bv_id, rs_trouble (by omega) (ru_n70 d.2.2.1)]
      · have z2 : (6 : Int32) - 1 < q_a vc 802 h := by
          obtain ⟨m, hm, e⟩ := ni_ex z1
          have z3 := z.resolve_left z1
          rw [e, show (6 : Int32) = nI 6 from rfl, ni_le (by omega) hm] at z3
          rw [e, show (6 : Int32) - 1 = nI 5 from rfl, ni_lt (by omega) hm]; omega
        rw [if_neg z1, if_pos z2, if_neg (by decide), q_bd_s, if_pos rfl, q_bv_id, rs_trouble (by omega) (ru_n70 d.2.2.1)]
  · have z1 : ¬ q_a vc 802 h < 0 := fun x => z (Or.inl x)
    obtain ⟨m, hm, e⟩ := ni_ex z1
    have h3 : m < 6 := by
      have z3 : ¬ 6 ≤ q_a vc 802 h := fun x => z (Or.inr x)
      rw [e, show (6 : Int32) = nI 6 from rfl, ni_le (by omega) hm] at z3; omega
    have z2 : ¬ (6 : Int32) - 1 < q_a vc 802 h := by
      rw [e, show (6 : Int32) - 1 = nI 5 from rfl, ni_lt (by omega) hm]; omega
    have e5 : ¬ q_a vc 203 m < 0 := (by obtain ⟨w, hw, e9⟩ := d.2.2.2.2.2 m h3; rw [e9, ni_neg (by omega)]; exact id)
    obtain ⟨y, hy, e6⟩ := ni_ex e5
    have e7 : q_a vc 203 m = nI (y) := by rw [e6]
    refine ru_pq (m := 1) (x := q_a vc 203 m) d W (by omega) k1 ?_ ?_
    · rw [cs_step d.1 c0, cd_21, q_bv_id, cs_pop (by omega), q_bd_s, cs_holdsOf, if_neg z, q_bd_s, e, ni_clamp (by omega)]
      unfold fX4_workQuery_b97
      rw [mC_a, if_neg (show ¬ q_a vc 203 m = -1 from by rw [e7]; intro x; have x2 := congrArg Int32.toInt x; rw [ni_toInt (by omega)] at x2; have x3 : (-1 : Int32).toInt = -1 := rfl; omega), cs_push (by omega)]; rfl
    · rw [rs_step d.1 r0, rd_24, rs_pop (by omega), q_bd_s, ← E0]
      unfold fX12_answers fX12_in fX12_in_b15 fX12_step_b436 fX12_answers_b72
      rw [q_bv_id, if_neg z1, if_neg z2, if_neg (by decide), q_bd_s, if_neg (by decide)]
      rw [if_neg (by decide), if_neg (by decide), if_neg (by decide), if_neg (by rw [e, ni_in h3 (by omega)]; exact id), rs_push (by omega), q_bv_s, e, ni_clamp (by omega), mR_a, d.2.1.2.2.2.1]; rfl
end
