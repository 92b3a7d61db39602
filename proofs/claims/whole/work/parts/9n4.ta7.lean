section
variable {g : rd_G} {i n p i' n' q d k s l b e e' D Bd : Nat} {C : Nat → Int32} {r : Int32} {R : Nat → Nat → Int32} {K : rd_K} {A : rd_A} {v w v0 w0 v1 w1 : q_V} {f x : Int32}
/-! a duty's end at a fault -/
set_option maxHeartbeats 200000 in
theorem x_94 (ok : rd_ok g) (h : xc g f x l v) (hk : rdk v0 (gv g)) (hn : q_n (gv g) 2 = 150) (hD : D < 320) : ∃ v', fX8_readDuty_b94 (nI D) v = some v' ∧ xC v0 f x v' := by
  unfold fX8_readDuty_b94 fX5_variableCount fX0_setCounts fX0_setWays
  obtain ⟨_, v1, a1, h1⟩ := x_exp (y := 41) h
  obtain ⟨o2, v2, a2, h2⟩ := x_block_t (xc_i (k := 1604) (x := 0) h1 (by omega))
  obtain ⟨y3, v3, a3, h3⟩ := x_add (y := 54) ok h2
  have hn3 : q_n v3 2 = 150 := by rw [h3.1.2.2.2.2.2]; exact hn
  have nF : ∀ f x u, q_n (cF D f x u) = q_n u := fun f x u => by unfold cF; split <;> rfl
  rw [vu_ex a1, q_bv_s, q_bd_s, q_lt_s, a2, q_bd_s, a3, q_bd_s, q_bd_s]
  rw [show fX0_setFact (nI D) 0 = fX0_setFact (nI D) (nI 0) from rfl, show fX0_setFact (nI D) 1 = fX0_setFact (nI D) (nI 1) from rfl, show fX0_setFact (nI D) 3 = fX0_setFact (nI D) (nI 3) from rfl]
  rw [c_fact hn3 (by omega) hD, q_bv_s, c_fact (by rw [nF]; exact hn3) (by omega) hD, q_bv_s, q_bv_s, c_fact (by rw [nF, nF]; exact hn3) (by omega) hD, q_bv_s, q_bv_s]
  refine ⟨_, rfl, rdk_ce (rdk_f hk h3.1) (cF_ce (cF_ce (cF_ce ce_0))), ?_, ?_, ?_, h3.2.2.2.2.1⟩
  · rw [cF_i, cF_i, cF_i]; exact h3.2.1
  · rw [cF_i, cF_i, cF_i]; exact h3.2.2.1
  · rw [cF_i, cF_i, cF_i]; exact h3.2.2.2.1
set_option maxHeartbeats 200000 in
theorem xr_re (h : xr g f x Bd w) (r : re w w1) (h41 : q_i w1 2441 = q_i w 2441) : xr (reb g v w1) f x Bd w1 := by
  obtain ⟨⟨h1, ⟨j, h2, h3⟩, m, h4, h5⟩, h6, h7, h8, q, h9, h10⟩ := h
  exact ⟨⟨rdF_0, ⟨j, h2, by rw [r.1 2410 (by omega)]; exact h3⟩, m, h4, by rw [h41]; exact h5⟩, by rw [r.1 2408 (by omega)]; exact h6, by rw [r.1 2409 (by omega)]; exact h7, h8, q, h9, by rw [r.1 2417 (by omega)]; exact h10⟩
set_option maxHeartbeats 200000 in
theorem y_148 (h : xr g f x Bd w) (hk : rdK w0 (gw g)) (hB : Bd < 4000) (hD : D < 320) : ∃ w', fX12_duty_b148 (nI D) w = some w' ∧ xR w0 f x w' := by
  have hin : ¬ (nI D < 0 ∨ 320 ≤ (nI D).toNatClampNeg) := ni_nin hD (by omega)
  unfold fX12_duty_b148
  obtain ⟨_, w1, a1, h1⟩ := y_takeS (x := 41) h
  rw [vu_ex a1, q_bv_s, if_neg hin, q_lt_s, if_neg hin, q_lt_s, q_lt_s]
  have r1 : re w1 (q_sj (q_sa (q_sa w1 2428 (upd (q_a w1 2428) (nI D).toNatClampNeg (q_i w1 2442))) 2430 (upd (q_a (q_sa w1 2428 (upd (q_a w1 2428) (nI D).toNatClampNeg (q_i w1 2442))) 2430) (nI D).toNatClampNeg (q_i (q_sa w1 2428 (upd (q_a w1 2428) (nI D).toNatClampNeg (q_i w1 2442))) 2417))) 2426 0) := re_j (re_a (re_a re_0 (by omega)) (by omega))
  have h2 := xr_re (v := w1) h1 r1 rfl
  obtain ⟨z3, w3, a3, h3⟩ := y_block_t h2
  obtain ⟨y4, w4, a4, h4⟩ := y_emit (x := 48) (y := 0) (z := 0) hB h3
  rw [a3, q_bd_s, a4, q_bd_s, if_neg hin, q_lt_s, if_neg hin, q_lt_s]
  refine ⟨_, rfl, rdK_a (rdK_a (rdK_f (rdK_re (rdK_f hk h1.1.1) r1) h4.1.1) (by omega)) (by omega), h4.2.1, h4.2.2.1, h4.2.2.2.1⟩
end
