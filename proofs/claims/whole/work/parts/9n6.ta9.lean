/-- what is done behind a duty's head, and behind its block -/
def c94b (x1 y1005 o : Int32) (T : q_V) : Option q_V := q_bd (fX0_add 54 T) (fun _ T1010 => q_bd (fX5_variableCount T1010) (fun y1015 T1014 => q_bv (fX0_setCounts x1 y1005 y1015 T1014) (fun T1016 => q_bv (fX0_setWays x1 ((o ||| (q_i T1016 1604))) T1016) (fun T1018 => some T1018))))
def c94 (x1 : Int32) (T : q_V) : Option q_V := q_bd (fX8_block_t (q_si T 1604 0)) (fun o T1007 => c94b x1 (q_i T 1006) o T1007)
def r148b (x : Int32) (z : Int64) (T : q_V) : Option q_V := q_bd (fX12_emit 48 0 0 T) (fun _ T1009 => if (x) < 0 ∨ 320 ≤ (x).toNatClampNeg then none else q_lt (q_sa T1009 2429 ((upd (q_a T1009 2429) (x.toNatClampNeg) (q_i T1009 2442)))) (fun T1012 => if (x) < 0 ∨ 320 ≤ (x).toNatClampNeg then none else q_lt (q_sa T1012 2432 ((upd (q_a T1012 2432) (x.toNatClampNeg) ((z ||| ((q_j T1012 2426) &&& 6) : Int64).toInt32)))) (fun T1014 => some T1014)))
def r148 (D : Nat) (w : q_V) : q_V := q_sj (q_sa (q_sa w 2428 (upd (q_a w 2428) D (q_i w 2442))) 2430 (upd (q_a w 2430) D (q_i w 2417))) 2426 0
section
variable {g : rd_G} {i n p i' n' q d k s l b e e' D Bd : Nat} {C : Nat → Int32} {r : Int32} {R : Nat → Nat → Int32} {K : rd_K} {A : rd_A} {v w v0 w0 v1 w1 : q_V} {f x : Int32}
set_option maxHeartbeats 200000 in
theorem b94_e {x1 : Int32} : fX8_readDuty_b94 x1 v = q_bv (fX9_expect 41 v) (fun T => c94 x1 T) := rfl
set_option maxHeartbeats 200000 in
theorem b148_e (hD : D < 320) : fX12_duty_b148 (nI D) w = q_bv (fX12_takeSign 41 w) (fun T => q_bd (fX12_block_t (r148 D T)) (fun z T => r148b (nI D) z T)) := by
  have hin : ¬ (nI D < 0 ∨ 320 ≤ (nI D).toNatClampNeg) := ni_nin hD (by omega)
  have mc : (nI D).toNatClampNeg = D := ni_clamp (by omega)
  unfold fX12_duty_b148 r148b r148
  congr 1
  funext T
  rw [if_neg hin, q_lt_s, if_neg hin, q_lt_s, q_lt_s, mc, q_i_sa, q_a_sa, if_neg (by omega)]
set_option maxHeartbeats 200000 in
theorem re_148 : re w (r148 D w) := re_j (re_a (re_a re_0 (by omega)) (by omega))
set_option maxHeartbeats 200000 in
theorem x_94b {y o : Int32} (ok : rd_ok g) (h : xc g f x l v) (hk : rdk v0 (gv g)) (hn : q_n (gv g) 2 = 150) (hD : D < 320) : ∃ v', c94b (nI D) y o v = some v' ∧ xC v0 f x v' := by
  unfold c94b fX5_variableCount fX0_setCounts fX0_setWays
  obtain ⟨y3, v3, a3, h3⟩ := x_add (y := 54) ok h
  have hn3 : q_n v3 2 = 150 := by rw [h3.1.2.2.2.2.2]; exact hn
  have nF : ∀ f x u, q_n (cF D f x u) = q_n u := fun f x u => by unfold cF; split <;> rfl
  rw [a3, q_bd_s, q_bd_s]
  rw [show fX0_setFact (nI D) 0 = fX0_setFact (nI D) (nI 0) from rfl, show fX0_setFact (nI D) 1 = fX0_setFact (nI D) (nI 1) from rfl, show fX0_setFact (nI D) 3 = fX0_setFact (nI D) (nI 3) from rfl]
  rw [c_fact hn3 (by omega) hD, q_bv_s, c_fact (by rw [nF]; exact hn3) (by omega) hD, q_bv_s, q_bv_s, c_fact (by rw [nF, nF]; exact hn3) (by omega) hD, q_bv_s, q_bv_s]
  refine ⟨_, rfl, rdk_ce (rdk_f hk h3.1) (cF_ce (cF_ce (cF_ce ce_0))), ?_, ?_, ?_, h3.2.2.2.2.1⟩
  · rw [cF_i, cF_i, cF_i]; exact h3.2.1
  · rw [cF_i, cF_i, cF_i]; exact h3.2.2.1
  · rw [cF_i, cF_i, cF_i]; exact h3.2.2.2.1
set_option maxHeartbeats 200000 in
theorem y_148b {z : Int64} (h : xr g f x Bd w) (hk : rdK w0 (gw g)) (hB : Bd < 4000) (hD : D < 320) : ∃ w', r148b (nI D) z w = some w' ∧ xR w0 f x w' := by
  have hin : ¬ (nI D < 0 ∨ 320 ≤ (nI D).toNatClampNeg) := ni_nin hD (by omega)
  unfold r148b
  obtain ⟨y4, w4, a4, h4⟩ := y_emit (x := 48) (y := 0) (z := 0) hB h
  rw [a4, q_bd_s, if_neg hin, q_lt_s, if_neg hin, q_lt_s]
  exact ⟨_, rfl, rdK_a (rdK_a (rdK_f hk h4.1.1) (by omega)) (by omega), h4.2.1, h4.2.2.1, h4.2.2.2.1⟩
set_option maxHeartbeats 200000 in
theorem x_94c (ok : rd_ok g) (h : xc g f x l v) (hk : rdk v0 (gv g)) (hn : q_n (gv g) 2 = 150) (hD : D < 320) : ∃ v', c94 (nI D) v = some v' ∧ xC v0 f x v' := by
  obtain ⟨o2, v2, a2, h2⟩ := x_block_t (xc_i (k := 1604) (x := 0) h (by omega))
  unfold c94
  rw [a2, q_bd_s]
  exact x_94b ok h2 hk hn hD
set_option maxHeartbeats 200000 in
theorem y_148c (h : xr g f x Bd w) (hk : rdK w0 (gw g)) (hB : Bd < 4000) (hD : D < 320) : ∃ w', q_bd (fX12_block_t (r148 D w)) (fun z T => r148b (nI D) z T) = some w' ∧ xR w0 f x w' := by
  have h2 := xr_re (v := w) h (re_148 (D := D)) rfl
  obtain ⟨z3, w3, a3, h3⟩ := y_block_t h2
  rw [a3, q_bd_s]
  exact y_148b h3 (rdK_re (rdK_f hk h.1.1) re_148) hB hD
set_option maxHeartbeats 200000 in
/-- a duty's laters begin -/
theorem SC_lw (h : SC g i n p C i' n' q d r R K k s l b A e e' v w) : SC g i n p C i' n' q d r R K k s l b (A.1, 0, 0, A.2.2.2) e e' (q_si v 1604 0) (r148 D w) := by
  obtain ⟨h1, h2, h3, h4, h5⟩ := h
  refine ⟨sT_ci h1 (by omega), sB_ci h2 (by omega), ?_, ?_, ?_⟩
  · unfold r148
    refine ⟨h3.1, fun j hj => ?_, sK_e (w := w) ?_ ?_ ?_ ?_ h3.2.2.1, h3.2.2.2⟩
    · have := rdj_b hj
      rw [q_a_sj, q_a_sa, if_neg (by omega), q_a_sa, if_neg (by omega)]; exact h3.2.1 j hj
    · rfl
    · rw [q_a_sj, q_a_sa, if_neg (by omega), q_a_sa, if_neg (by omega)]
    · rw [q_a_sj, q_a_sa, if_neg (by omega), q_a_sa, if_neg (by omega)]
    · rw [q_a_sj, q_a_sa, if_neg (by omega), q_a_sa, if_neg (by omega)]
  · obtain ⟨N1, N2, N3, N4, N5, N6⟩ := h4
    unfold r148
    refine ⟨?_, ?_, N3, ?_, ⟨⟨q_i_at, ?_⟩, ?_⟩, ?_⟩
    · rw [q_i_ne (by omega)]; exact N1
    · obtain ⟨c, c1, c2, c3⟩ := N2
      refine ⟨c, by rw [q_i_ne (by omega)]; exact c1, c2, fun z => ?_⟩
      rw [q_b_si, q_a_si, q_a_sj, q_a_sa, if_neg (by omega), q_a_sa, if_neg (by omega)]; exact c3 z
    · rw [q_i_ne (by omega), q_i_ne (by omega)]; exact N4
    · rw [q_j_sj, if_pos rfl]
    · rw [q_a_sj, q_a_sa, if_neg (by omega), q_a_sa, if_neg (by omega)]; exact N5.2
    · rw [q_a_sj, q_a_sa, if_neg (by omega), q_a_sa, if_neg (by omega), q_b_si, q_a_si]; exact N6
  · unfold sM bl br r148 at *
    rw [q_i_ne (by omega), q_i_ne (by omega)]; exact h5
set_option maxHeartbeats 200000 in
theorem wy_0i {o : Int32} {z : Int64} (h : wy 0 o z) : z.toInt32 = o := by
  apply Int32.toBitVec_inj.1
  apply BitVec.eq_of_getLsbD_eq
  intro x hx
  rw [Int64.toBitVec_toInt32, BitVec.getLsbD_signExtend, if_pos (by omega), h.1 x (by omega)]
  rw [show decide (x < 32) = true from decide_eq_true hx, Bool.true_and]
  unfold wf
  by_cases c : x < 3
  · rw [if_pos c]
  · rw [if_neg c, h.2 x (by omega)]
    split
    · exact h.2 _ (by omega)
    · split
      · rfl
      · split
        · exact h.2 _ (by omega)
        · rfl
end
