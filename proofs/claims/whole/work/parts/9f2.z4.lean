set_option maxHeartbeats 200000 in
theorem te_0 {v : q_V} {x : Int32} : ru_te v x 0 = q_i v 814 := by unfold ru_te; rw [upd_ne (by omega), upd_ne (by omega), upd_at]
set_option maxHeartbeats 200000 in
theorem te_5 {v : q_V} {x : Int32} : ru_te v x 5 = q_i v 813 := by unfold ru_te; rw [upd_ne (by omega), upd_at]
set_option maxHeartbeats 200000 in
theorem te_17 {v : q_V} {x : Int32} : ru_te v x 17 = q_a v 1400 17 + (x - q_i v 813) := by unfold ru_te; rw [upd_at, Int32.sub_eq_add_neg, Int32.sub_eq_add_neg, Int32.add_assoc]
set_option maxHeartbeats 200000 in
theorem te_k {v : q_V} {x : Int32} {k : Nat} (h0 : k ≠ 0) (h5 : k ≠ 5) (h17 : k ≠ 17) : ru_te v x k = q_a v 1400 k := by unfold ru_te; rw [upd_ne h17, upd_ne h5, upd_ne h0]
set_option maxHeartbeats 200000 in
theorem dh_i {v : q_V} : q_i (ru_dh v) = q_i v := by unfold ru_dh; rw [q_i_sa]
set_option maxHeartbeats 200000 in
theorem dr_i {v : q_V} : q_i (ru_dr v) = q_i v := by unfold ru_dr; rw [q_i_sa]
set_option maxHeartbeats 200000 in
theorem dh_a {v : q_V} {j : Nat} (h : j ≠ 203) : q_a (ru_dh v) j = q_a v j := by unfold ru_dh; rw [q_a_sa, if_neg h]
set_option maxHeartbeats 200000 in
theorem dr_a {v : q_V} {j : Nat} (h : j ≠ 2465) : q_a (ru_dr v) j = q_a v j := by unfold ru_dr; rw [q_a_sa, if_neg h]
set_option maxHeartbeats 200000 in
theorem dh_3 {v : q_V} : q_a (ru_dh v) 203 = fun k => if k < 6 then 0 else q_a v 203 k := by unfold ru_dh; rw [q_a_sa, if_pos rfl]
set_option maxHeartbeats 200000 in
theorem dr_3 {v : q_V} : q_a (ru_dr v) 2465 = fun k => if k < 6 then 0 else q_a v 2465 k := by unfold ru_dr; rw [q_a_sa, if_pos rfl]
set_option maxHeartbeats 200000 in
theorem ru_i2524 {v : q_V} {p h f np cl : Nat} : q_i (mR v p h f np cl) 2524 = q_i v 2524 := rfl
set_option maxHeartbeats 200000 in
theorem ru_iR {v : q_V} {p h f np cl k : Nat} (h1 : 2470 ≤ k) (h2 : k ≤ 2486) : q_i (mR v p h f np cl) k = q_i v k := mR_oi (by omega)
set_option maxHeartbeats 200000 in
theorem ru_i1 {v : q_V} {p h f np cl : Nat} : q_i (mC v p h f np cl) 1 = q_i v 1 := rfl
set_option maxHeartbeats 200000 in
theorem ru_i3 {v : q_V} {p h f np cl : Nat} : q_i (mC v p h f np cl) 3 = q_i v 3 := rfl
set_option maxHeartbeats 200000 in
theorem ru_nC {v : q_V} {p h f np cl : Nat} : q_n (mC v p h f np cl) = q_n v := rfl
section
variable {a : ru_P} {T : co_T}
set_option maxHeartbeats 200000 in
/-- a run that stops or is out of fuel -/
theorem ru_O_fin : ru_O (ru_fin T) a T := by
  intro o p h f np cl q g t vc vr ho S A Q hf e1 e2
  have n0 : ¬ o = 0 := by rcases ho with z | z <;> rw [z] <;> decide
  have n3 : ¬ o = 3 := by rcases ho with z | z <;> rw [z] <;> decide
  refine ⟨o, ru_dh (q_sa (mC vc p h f np cl) 1400 (ru_te (mC vc p h f np cl) a.2.2.2.1)), _, ?_, rs_endO ho (by rw [ru_i2513]; exact e2), ?_⟩
  · unfold fX4_perform_b154
    rw [cs_te, ru_i814, e1, if_neg n0, if_neg n3, q_bv_s, dh_i, q_i_sa, ru_i814, e1]
  · refine ru_fin_mk S A Q (fun k hk => ?_) (fun j z1 z2 => ?_) ?_ ?_ ?_ ?_ (fun j z => ?_) (fun k z1 z2 => ?_) (fun k z1 z2 => ?_) ?_ ?_ ?_ ?_ ?_ ?_ ?_ ?_
    · rw [dh_3]; exact if_pos hk
    · rw [dh_a z2, q_a_sa, if_neg z1, mC_a]
    · rw [dh_3, q_a_si, dr_3, q_a_si, rb_a, q_a_sa, if_neg (by omega), mC_a, mR_a, A.2.2.2.1]
    · rw [dh_i, q_i_sa, ru_i1]
    · rw [dh_i, q_i_sa, ru_i3]
    · unfold ru_dh; rw [q_n_sa, q_n_sa, ru_nC]
    · rw [q_a_si, dr_a z, q_a_si, rb_a, mR_a]
    · rw [dh_a (by omega), q_a_sa, if_pos rfl, te_k (by omega) (by omega) (by omega), mC_a]
    · rw [q_i_ne (by omega), dr_i, q_i_ne (by omega), rb_i (by omega), ru_iR z1 (by omega)]
    · rw [dh_a (by omega), q_a_sa, if_pos rfl, te_0, ru_i814, e1, q_i_at]
    · rw [dh_a (by omega), q_a_sa, if_pos rfl, te_k (by omega) (by omega) (by omega), mC_a, q_i_ne (by omega), dr_i, q_i_ne (by omega), rb_18]; exact Q.2.2.2.2.2.2.2.2.2.2.2.2.2.2.2.1
    · rw [dh_a (by omega), q_a_sa, if_pos rfl, te_k (by omega) (by omega) (by omega), mC_a, q_i_ne (by omega), dr_i, q_i_ne (by omega), rb_19]; exact Q.2.2.2.2.2.2.2.2.2.2.2.2.2.2.2.2.1
    · rw [dh_a (by omega), q_a_sa, if_pos rfl, te_k (by omega) (by omega) (by omega), mC_a, q_i_ne (by omega), dr_i, q_i_ne (by omega), rb_20]; exact Q.2.2.2.2.2.2.2.2.2.2.2.2.2.2.2.2.2.1
    · rw [dh_a (by omega), q_a_sa, if_pos rfl, te_k (by omega) (by omega) (by omega), mC_a, q_i_ne (by omega), dr_i, q_i_ne (by omega), rb_22]; exact Q.2.2.2.2.2.2.2.2.2.2.2.2.2.2.2.2.2.2.1
    · rw [dh_a (by omega), q_a_sa, if_pos rfl, te_5, mC_813, q_i_ne (by omega), dr_i, q_i_ne (by omega), rb_23, mR_2512]
    · rw [dh_a (by omega), q_a_sa, if_pos rfl, te_k (by omega) (by omega) (by omega), mC_a, q_i_ne (by omega), dr_i, q_i_at]; exact Q.2.2.2.2.2.2.2.2.2.2.2.2.2.2.2.2.2.2.2
    · rw [dh_a (by omega), q_a_sa, if_pos rfl, te_17, mC_a, mC_813, q_i_ne (by omega), dr_i, q_i_ne (by omega), rb_24, mR_2512, ru_i2524, Q.2.2.2.2.2.2.2.2.2.2.2.1]
set_option maxHeartbeats 200000 in
/-- a run whose own call ends -/
theorem ru_E0_fin : ru_E0 (ru_fin T) a T := by
  intro p h f np cl q g t cl' vc vr S A Q H hf we e1 e2
  have H0 : ∀ k, k < 6 → q_a vc 203 k = 0 := fun k hk => by
    obtain ⟨m, hm, e⟩ := H k hk
    rw [e, show m = 0 by omega]; rfl
  have e2' : q_i (mR vr q g f t cl') 2513 = 0 := by rw [ru_i2513]; exact e2
  rcases we with ⟨w1, w2⟩ | ⟨w1, w2, w3, w4, w5, -⟩ | ⟨w1, w2, w3⟩ | ⟨e, he, -⟩
  · have e10 : q_i vc 814 = 0 := by rw [e1, w1]; rfl
    refine ⟨0, q_sa (mC vc p h f np cl) 1400 (upd (upd (ru_te (mC vc p h f np cl) a.2.2.2.1) 1 0) 18 1), _, ?_, rs_end0 e2' (by rw [ru_iR (by omega) (by omega)]; exact w2), ?_⟩
    · unfold fX4_perform_b154
      rw [cs_te, ru_i814, e10, if_pos rfl, mC_f, w1, if_neg (show ¬ (1 : Int32) = 2 by decide), q_bv_s, q_i_sa, ru_i814, e10]
    · refine ru_fin_mk S A Q (fun k hk => ?_) (fun j z1 z2 => ?_) ?_ ?_ ?_ ?_ (fun j z => ?_) (fun k z1 z2 => ?_) (fun k z1 z2 => ?_) ?_ ?_ ?_ ?_ ?_ ?_ ?_ ?_
      · rw [q_a_sa, if_neg (by omega), mC_a]; exact H0 k hk
      · rw [q_a_sa, if_neg z1, mC_a]
      · rw [q_a_sa, if_neg (by omega), mC_a, q_a_si, q_a_si, q_a_si, rb_a, mR_a, A.2.2.2.1]
      · rw [q_i_sa, ru_i1]
      · rw [q_i_sa, ru_i3]
      · rw [q_n_sa, ru_nC]
      · rw [q_a_si, q_a_si, q_a_si, rb_a, mR_a]
      · rw [q_a_sa, if_pos rfl, upd_ne (by omega), upd_ne (by omega), te_k (by omega) (by omega) (by omega), mC_a]
      · rw [q_i_ne (by omega), q_i_ne (by omega), q_i_ne (by omega), rb_i (by omega), ru_iR z1 (by omega)]
      · rw [q_a_sa, if_pos rfl, upd_ne (by omega), upd_ne (by omega), te_0, ru_i814, e10, q_i_ne (by omega), q_i_at]
      · rw [q_a_sa, if_pos rfl, upd_ne (by omega), upd_at, q_i_at]
      · rw [q_a_sa, if_pos rfl, upd_ne (by omega), upd_ne (by omega), te_k (by omega) (by omega) (by omega), mC_a, q_i_ne (by omega), q_i_ne (by omega), q_i_ne (by omega), rb_19]; exact Q.2.2.2.2.2.2.2.2.2.2.2.2.2.2.2.2.1
      · rw [q_a_sa, if_pos rfl, upd_ne (by omega), upd_ne (by omega), te_k (by omega) (by omega) (by omega), mC_a, q_i_ne (by omega), q_i_ne (by omega), q_i_ne (by omega), rb_20]; exact Q.2.2.2.2.2.2.2.2.2.2.2.2.2.2.2.2.2.1
      · rw [q_a_sa, if_pos rfl, upd_ne (by omega), upd_ne (by omega), te_k (by omega) (by omega) (by omega), mC_a, q_i_ne (by omega), q_i_ne (by omega), q_i_ne (by omega), rb_22]; exact Q.2.2.2.2.2.2.2.2.2.2.2.2.2.2.2.2.2.2.1
      · rw [q_a_sa, if_pos rfl, upd_ne (by omega), upd_ne (by omega), te_5, mC_813, q_i_ne (by omega), q_i_ne (by omega), q_i_ne (by omega), rb_23, mR_2512]
      · rw [q_a_sa, if_pos rfl, upd_at, q_i_ne (by omega), q_i_ne (by omega), q_i_at]
      · rw [q_a_sa, if_pos rfl, upd_ne (by omega), upd_ne (by omega), te_17, mC_a, mC_813, q_i_ne (by omega), q_i_ne (by omega), q_i_ne (by omega), rb_24, mR_2512, ru_i2524, Q.2.2.2.2.2.2.2.2.2.2.2.1]
  · have e10 : q_i vc 814 = 3 := by rw [e1, w1]; rfl
    refine ⟨3, q_sa (mC vc p h f np cl) 1400 (upd (upd (upd (upd (ru_te (mC vc p h f np cl) a.2.2.2.1) 2 (q_f vc 2001 168)) 3 (q_f vc 2002 168)) 4 (q_f vc 2003 168)) 18 4), _, ?_, rs_end4 e2' (by rw [ru_iR (by omega) (by omega)]; exact w2), ?_⟩
    · unfold fX4_perform_b154
      rw [cs_te, ru_i814, e10, if_neg (show ¬ (3 : Int32) = 0 by decide), if_pos rfl, mC_f, w1, q_bv_s, q_i_sa, ru_i814, e10]
    · refine ru_fin_mk S A Q (fun k hk => ?_) (fun j z1 z2 => ?_) ?_ ?_ ?_ ?_ (fun j z => ?_) (fun k z1 z2 => ?_) (fun k z1 z2 => ?_) ?_ ?_ ?_ ?_ ?_ ?_ ?_ ?_
      · rw [q_a_sa, if_neg (by omega), mC_a]; exact H0 k hk
      · rw [q_a_sa, if_neg z1, mC_a]
      · rw [q_a_sa, if_neg (by omega), mC_a, q_a_si, q_a_si, q_a_si, q_a_si, q_a_si, rb_a, mR_a, A.2.2.2.1]
      · rw [q_i_sa, ru_i1]
      · rw [q_i_sa, ru_i3]
      · rw [q_n_sa, ru_nC]
      · rw [q_a_si, q_a_si, q_a_si, q_a_si, q_a_si, rb_a, mR_a]
      · rw [q_a_sa, if_pos rfl, upd_ne (by omega), upd_ne (by omega), upd_ne (by omega), upd_ne (by omega), te_k (by omega) (by omega) (by omega), mC_a]
      · rw [q_i_ne (by omega), q_i_ne (by omega), q_i_ne (by omega), q_i_ne (by omega), q_i_ne (by omega), rb_i (by omega), ru_iR z1 (by omega)]
      · rw [q_a_sa, if_pos rfl, upd_ne (by omega), upd_ne (by omega), upd_ne (by omega), upd_ne (by omega), te_0, ru_i814, e10, q_i_ne (by omega), q_i_ne (by omega), q_i_ne (by omega), q_i_at]
      · rw [q_a_sa, if_pos rfl, upd_ne (by omega), upd_ne (by omega), upd_ne (by omega), upd_ne (by omega), te_k (by omega) (by omega) (by omega), mC_a, q_i_ne (by omega), q_i_ne (by omega), q_i_ne (by omega), q_i_ne (by omega), q_i_ne (by omega), rb_18]; exact Q.2.2.2.2.2.2.2.2.2.2.2.2.2.2.2.1
      · rw [q_a_sa, if_pos rfl, upd_ne (by omega), upd_ne (by omega), upd_ne (by omega), upd_at, q_i_ne (by omega), q_i_ne (by omega), q_i_at, ru_iR (by omega) (by omega)]; exact w3
      · rw [q_a_sa, if_pos rfl, upd_ne (by omega), upd_ne (by omega), upd_at, q_i_ne (by omega), q_i_at, ru_iR (by omega) (by omega)]; exact w4
      · rw [q_a_sa, if_pos rfl, upd_ne (by omega), upd_at, q_i_at, ru_iR (by omega) (by omega)]; exact w5
      · rw [q_a_sa, if_pos rfl, upd_ne (by omega), upd_ne (by omega), upd_ne (by omega), upd_ne (by omega), te_5, mC_813, q_i_ne (by omega), q_i_ne (by omega), q_i_ne (by omega), q_i_ne (by omega), q_i_ne (by omega), rb_23, mR_2512]
      · rw [q_a_sa, if_pos rfl, upd_at, q_i_ne (by omega), q_i_ne (by omega), q_i_ne (by omega), q_i_ne (by omega), q_i_at]
      · rw [q_a_sa, if_pos rfl, upd_ne (by omega), upd_ne (by omega), upd_ne (by omega), upd_ne (by omega), te_17, mC_a, mC_813, q_i_ne (by omega), q_i_ne (by omega), q_i_ne (by omega), q_i_ne (by omega), q_i_ne (by omega), rb_24, mR_2512, ru_i2524, Q.2.2.2.2.2.2.2.2.2.2.2.1]
  · have e10 : q_i vc 814 = 0 := by rw [e1, w1]; rfl
    refine ⟨0, q_sa (mC vc p h f np cl) 1400 (upd (upd (ru_te (mC vc p h f np cl) a.2.2.2.1) 1 (q_f vc 2001 168)) 18 2), _, ?_, rs_end3 e2' (by rw [ru_iR (by omega) (by omega)]; exact w2), ?_⟩
    · unfold fX4_perform_b154
      rw [cs_te, ru_i814, e10, if_pos rfl, mC_f, w1, if_pos rfl, q_bv_s, q_i_sa, ru_i814, e10]
    · refine ru_fin_mk S A Q (fun k hk => ?_) (fun j z1 z2 => ?_) ?_ ?_ ?_ ?_ (fun j z => ?_) (fun k z1 z2 => ?_) (fun k z1 z2 => ?_) ?_ ?_ ?_ ?_ ?_ ?_ ?_ ?_
      · rw [q_a_sa, if_neg (by omega), mC_a]; exact H0 k hk
      · rw [q_a_sa, if_neg z1, mC_a]
      · rw [q_a_sa, if_neg (by omega), mC_a, q_a_si, q_a_si, q_a_si, rb_a, mR_a, A.2.2.2.1]
      · rw [q_i_sa, ru_i1]
      · rw [q_i_sa, ru_i3]
      · rw [q_n_sa, ru_nC]
      · rw [q_a_si, q_a_si, q_a_si, rb_a, mR_a]
      · rw [q_a_sa, if_pos rfl, upd_ne (by omega), upd_ne (by omega), te_k (by omega) (by omega) (by omega), mC_a]
      · rw [q_i_ne (by omega), q_i_ne (by omega), q_i_ne (by omega), rb_i (by omega), ru_iR z1 (by omega)]
      · rw [q_a_sa, if_pos rfl, upd_ne (by omega), upd_ne (by omega), te_0, ru_i814, e10, q_i_ne (by omega), q_i_at]
      · rw [q_a_sa, if_pos rfl, upd_ne (by omega), upd_at, q_i_at, ru_iR (by omega) (by omega)]; exact w3
      · rw [q_a_sa, if_pos rfl, upd_ne (by omega), upd_ne (by omega), te_k (by omega) (by omega) (by omega), mC_a, q_i_ne (by omega), q_i_ne (by omega), q_i_ne (by omega), rb_19]; exact Q.2.2.2.2.2.2.2.2.2.2.2.2.2.2.2.2.1
      · rw [q_a_sa, if_pos rfl, upd_ne (by omega), upd_ne (by omega), te_k (by omega) (by omega) (by omega), mC_a, q_i_ne (by omega), q_i_ne (by omega), q_i_ne (by omega), rb_20]; exact Q.2.2.2.2.2.2.2.2.2.2.2.2.2.2.2.2.2.1
      · rw [q_a_sa, if_pos rfl, upd_ne (by omega), upd_ne (by omega), te_k (by omega) (by omega) (by omega), mC_a, q_i_ne (by omega), q_i_ne (by omega), q_i_ne (by omega), rb_22]; exact Q.2.2.2.2.2.2.2.2.2.2.2.2.2.2.2.2.2.2.1
      · rw [q_a_sa, if_pos rfl, upd_ne (by omega), upd_ne (by omega), te_5, mC_813, q_i_ne (by omega), q_i_ne (by omega), q_i_ne (by omega), rb_23, mR_2512]
      · rw [q_a_sa, if_pos rfl, upd_at, q_i_ne (by omega), q_i_ne (by omega), q_i_at]
      · rw [q_a_sa, if_pos rfl, upd_ne (by omega), upd_ne (by omega), te_17, mC_a, mC_813, q_i_ne (by omega), q_i_ne (by omega), q_i_ne (by omega), rb_24, mR_2512, ru_i2524, Q.2.2.2.2.2.2.2.2.2.2.2.1]
  · exact absurd he (by simp)
end
