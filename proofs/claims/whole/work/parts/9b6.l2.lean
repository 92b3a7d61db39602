section
variable {Fin : q_V → q_V → Prop} {a : ru_P} {T : co_T} {XL : Int32 → Int32 → Int32 → Prop} {f0 nu : Nat} {L : List (Nat × Nat)}
theorem ru_z_e {v w : q_V} {t : Nat} (h : q_a w 2491 = q_a v 2491) : ru_z w t = ru_z v t := ru_z_c (fun n _ => by rw [h])
theorem cs_lt45 {v : q_V} {p h f np cl : Nat} (hn : np < 168) (e : q_f v 1200 np = 45) : fX4_leaveTop (mC v p h f (np + 1) cl) = fX4_leaveHold np (mC v p h f (np + 1) cl) := by
  unfold fX4_leaveTop fX4_leaveTop_b85
  rw [cs_top hn, q_bd_s, q_lt_s, mC_f, e, if_pos rfl]
  try simp only [q_bv_id]
theorem cs_lt46 {v : q_V} {p h f np cl : Nat} (hn : np < 168) (e : q_f v 1200 np = 46) : fX4_leaveTop (mC v p h f (np + 1) cl) = fX4_leaveRound np (mC v p h f (np + 1) cl) := by
  unfold fX4_leaveTop fX4_leaveTop_b85
  rw [cs_top hn, q_bd_s, q_lt_s, mC_f, e, if_neg (by decide), if_pos rfl]
  try simp only [q_bv_id]
theorem cs_lt47 {v : q_V} {p h f np cl : Nat} (hn : np < 168) (e : q_f v 1200 np = 47) : fX4_leaveTop (mC v p h f (np + 1) cl) = fX4_leaveTry np (mC v p h f (np + 1) cl) := by
  unfold fX4_leaveTop fX4_leaveTop_b85
  rw [cs_top hn, q_bd_s, q_lt_s, mC_f, e, if_neg (by decide), if_neg (by decide), if_pos rfl]
  try simp only [q_bv_id]
theorem cs_lt50 {v : q_V} {p h f np cl : Nat} (hn : np < 168) (e : q_f v 1200 np = 50) : fX4_leaveTop (mC v p h f (np + 1) cl) = fX4_leaveEnsure np (mC v p h f (np + 1) cl) := by
  unfold fX4_leaveTop fX4_leaveTop_b85
  rw [cs_top hn, q_bd_s, q_lt_s, mC_f, e, if_neg (by decide), if_neg (by decide), if_neg (by decide), if_neg (by decide), if_neg (by decide), if_pos rfl]
  try simp only [q_bv_id]
theorem cs_lt53 {v : q_V} {p h f np cl : Nat} (hn : np < 168) (e : q_f v 1200 np = 53) : fX4_leaveTop (mC v p h f (np + 1) cl) = fX4_leaveCall np (mC v p h f (np + 1) cl) := by
  unfold fX4_leaveTop fX4_leaveTop_b80 fX4_leaveTop_b85
  rw [cs_top hn, q_bd_s, q_lt_s, mC_f, e, if_neg (by decide), if_neg (by decide), if_neg (by decide), if_neg (by decide), if_neg (by decide), if_neg (by decide)]
  try simp only [q_bv_id]
theorem rs_it2 {v : q_V} {q g f t cl : Nat} (ht : t < 240) (e : q_a v 2488 t = 2) : rs_it (mR v q g f (t + 1) cl) = fX12_leavesHold (nI t) (mR v q g f (t + 1) cl) := by
  unfold rs_it
  rw [mR_2487, ni_pred, if_neg (by rw [ni_in ht (by omega)]; exact id), ni_clamp (by omega), mR_a, e, if_pos rfl]
theorem rs_it3 {v : q_V} {q g f t cl : Nat} (ht : t < 240) (e : q_a v 2488 t = 3) : rs_it (mR v q g f (t + 1) cl) = fX12_leavesLoop (nI t) (mR v q g f (t + 1) cl) := by
  unfold rs_it
  rw [mR_2487, ni_pred, if_neg (by rw [ni_in ht (by omega)]; exact id), ni_clamp (by omega), mR_a, e, if_neg (by decide), if_pos rfl]
theorem rs_it4 {v : q_V} {q g f t cl : Nat} (ht : t < 240) (e : q_a v 2488 t = 4) : rs_it (mR v q g f (t + 1) cl) = fX12_leavesTrial (nI t) (mR v q g f (t + 1) cl) := by
  unfold rs_it
  rw [mR_2487, ni_pred, if_neg (by rw [ni_in ht (by omega)]; exact id), ni_clamp (by omega), mR_a, e, if_neg (by decide), if_neg (by decide), if_pos rfl]
theorem rs_it5 {v : q_V} {q g f t cl : Nat} (ht : t < 240) (e : q_a v 2488 t = 5) : rs_it (mR v q g f (t + 1) cl) = fX12_leavesEnsure (nI t) (mR v q g f (t + 1) cl) := by
  unfold rs_it
  rw [mR_2487, ni_pred, if_neg (by rw [ni_in ht (by omega)]; exact id), ni_clamp (by omega), mR_a, e, if_neg (by decide), if_neg (by decide), if_neg (by decide), if_pos rfl]
theorem rs_it1 {v : q_V} {q g f t cl : Nat} (ht : t < 240) (e : q_a v 2488 t = 1) : rs_it (mR v q g f (t + 1) cl) = fX12_leavesCall (nI t) (mR v q g f (t + 1) cl) := by
  unfold rs_it
  rw [mR_2487, ni_pred, if_neg (by rw [ni_in ht (by omega)]; exact id), ni_clamp (by omega), mR_a, e, if_neg (by decide), if_neg (by decide), if_neg (by decide), if_neg (by decide)]
theorem ru_Q_6 {vc vr : q_V} (h : ru_Q vc vr) : ru_Q (ru_ct vc 6) (q_si vr 2471 (q_i vr 2471 + 1)) := by
  obtain ⟨h1, h2, h3, h4, h5, h6, h7, h8, h9, h10, h11, h12, h13, h14, h15, h16⟩ := h
  exact ⟨show q_a vc 1400 6 + 1 = q_i vr 2471 + 1 from by rw [h1], h2, h3, h4, h5, h6, h7, h8, h9, h10, h11, h12, h13, h14, h15, h16⟩
theorem ru_D_c6 {cl t np : Nat} {vc vr : q_V} (d : ru_D T XL cl t np vc vr) : ru_D T XL cl t np (ru_ct vc 6) (q_si vr 2471 (q_i vr 2471 + 1)) :=
  ⟨d.1, d.2.1, ru_Q_6 d.2.2.1, d.2.2.2.1, ⟨trivial, d.2.2.2.2.1.2.1.trans (ru_z_e (by rfl)).symm, d.2.2.2.2.1.2.2⟩, d.2.2.2.2.2⟩
theorem ru_Q_7 {vc vr : q_V} (h : ru_Q vc vr) : ru_Q (ru_ct vc 7) (q_si vr 2472 (q_i vr 2472 + 1)) := by
  obtain ⟨h1, h2, h3, h4, h5, h6, h7, h8, h9, h10, h11, h12, h13, h14, h15, h16⟩ := h
  exact ⟨h1, show q_a vc 1400 7 + 1 = q_i vr 2472 + 1 from by rw [h2], h3, h4, h5, h6, h7, h8, h9, h10, h11, h12, h13, h14, h15, h16⟩
theorem ru_D_c7 {cl t np : Nat} {vc vr : q_V} (d : ru_D T XL cl t np vc vr) : ru_D T XL cl t np (ru_ct vc 7) (q_si vr 2472 (q_i vr 2472 + 1)) :=
  ⟨d.1, d.2.1, ru_Q_7 d.2.2.1, d.2.2.2.1, ⟨trivial, d.2.2.2.2.1.2.1.trans (ru_z_e (by rfl)).symm, d.2.2.2.2.1.2.2⟩, d.2.2.2.2.2⟩
theorem ru_Q_8 {vc vr : q_V} (h : ru_Q vc vr) : ru_Q (ru_ct vc 8) (q_si vr 2473 (q_i vr 2473 + 1)) := by
  obtain ⟨h1, h2, h3, h4, h5, h6, h7, h8, h9, h10, h11, h12, h13, h14, h15, h16⟩ := h
  exact ⟨h1, h2, show q_a vc 1400 8 + 1 = q_i vr 2473 + 1 from by rw [h3], h4, h5, h6, h7, h8, h9, h10, h11, h12, h13, h14, h15, h16⟩
theorem ru_D_c8 {cl t np : Nat} {vc vr : q_V} (d : ru_D T XL cl t np vc vr) : ru_D T XL cl t np (ru_ct vc 8) (q_si vr 2473 (q_i vr 2473 + 1)) :=
  ⟨d.1, d.2.1, ru_Q_8 d.2.2.1, d.2.2.2.1, ⟨trivial, d.2.2.2.2.1.2.1.trans (ru_z_e (by rfl)).symm, d.2.2.2.2.1.2.2⟩, d.2.2.2.2.2⟩
theorem ru_Q_9 {vc vr : q_V} (h : ru_Q vc vr) : ru_Q (ru_ct vc 9) (q_si vr 2474 (q_i vr 2474 + 1)) := by
  obtain ⟨h1, h2, h3, h4, h5, h6, h7, h8, h9, h10, h11, h12, h13, h14, h15, h16⟩ := h
  exact ⟨h1, h2, h3, show q_a vc 1400 9 + 1 = q_i vr 2474 + 1 from by rw [h4], h5, h6, h7, h8, h9, h10, h11, h12, h13, h14, h15, h16⟩
theorem ru_D_c9 {cl t np : Nat} {vc vr : q_V} (d : ru_D T XL cl t np vc vr) : ru_D T XL cl t np (ru_ct vc 9) (q_si vr 2474 (q_i vr 2474 + 1)) :=
  ⟨d.1, d.2.1, ru_Q_9 d.2.2.1, d.2.2.2.1, ⟨trivial, d.2.2.2.2.1.2.1.trans (ru_z_e (by rfl)).symm, d.2.2.2.2.1.2.2⟩, d.2.2.2.2.2⟩
theorem ru_Q_10 {vc vr : q_V} (h : ru_Q vc vr) : ru_Q (ru_ct vc 10) (q_si vr 2475 (q_i vr 2475 + 1)) := by
  obtain ⟨h1, h2, h3, h4, h5, h6, h7, h8, h9, h10, h11, h12, h13, h14, h15, h16⟩ := h
  exact ⟨h1, h2, h3, h4, show q_a vc 1400 10 + 1 = q_i vr 2475 + 1 from by rw [h5], h6, h7, h8, h9, h10, h11, h12, h13, h14, h15, h16⟩
theorem ru_D_c10 {cl t np : Nat} {vc vr : q_V} (d : ru_D T XL cl t np vc vr) : ru_D T XL cl t np (ru_ct vc 10) (q_si vr 2475 (q_i vr 2475 + 1)) :=
  ⟨d.1, d.2.1, ru_Q_10 d.2.2.1, d.2.2.2.1, ⟨trivial, d.2.2.2.2.1.2.1.trans (ru_z_e (by rfl)).symm, d.2.2.2.2.1.2.2⟩, d.2.2.2.2.2⟩
theorem ru_Q_11 {vc vr : q_V} (h : ru_Q vc vr) : ru_Q (ru_ct vc 11) (q_si vr 2476 (q_i vr 2476 + 1)) := by
  obtain ⟨h1, h2, h3, h4, h5, h6, h7, h8, h9, h10, h11, h12, h13, h14, h15, h16⟩ := h
  exact ⟨h1, h2, h3, h4, h5, show q_a vc 1400 11 + 1 = q_i vr 2476 + 1 from by rw [h6], h7, h8, h9, h10, h11, h12, h13, h14, h15, h16⟩
theorem ru_D_c11 {cl t np : Nat} {vc vr : q_V} (d : ru_D T XL cl t np vc vr) : ru_D T XL cl t np (ru_ct vc 11) (q_si vr 2476 (q_i vr 2476 + 1)) :=
  ⟨d.1, d.2.1, ru_Q_11 d.2.2.1, d.2.2.2.1, ⟨trivial, d.2.2.2.2.1.2.1.trans (ru_z_e (by rfl)).symm, d.2.2.2.2.1.2.2⟩, d.2.2.2.2.2⟩
theorem ru_Q_13 {vc vr : q_V} (h : ru_Q vc vr) : ru_Q (ru_ct vc 13) (q_si vr 2478 (q_i vr 2478 + 1)) := by
  obtain ⟨h1, h2, h3, h4, h5, h6, h7, h8, h9, h10, h11, h12, h13, h14, h15, h16⟩ := h
  exact ⟨h1, h2, h3, h4, h5, h6, h7, show q_a vc 1400 13 + 1 = q_i vr 2478 + 1 from by rw [h8], h9, h10, h11, h12, h13, h14, h15, h16⟩
theorem ru_D_c13 {cl t np : Nat} {vc vr : q_V} (d : ru_D T XL cl t np vc vr) : ru_D T XL cl t np (ru_ct vc 13) (q_si vr 2478 (q_i vr 2478 + 1)) :=
  ⟨d.1, d.2.1, ru_Q_13 d.2.2.1, d.2.2.2.1, ⟨trivial, d.2.2.2.2.1.2.1.trans (ru_z_e (by rfl)).symm, d.2.2.2.2.1.2.2⟩, d.2.2.2.2.2⟩
theorem ru_Q_14 {vc vr : q_V} (h : ru_Q vc vr) : ru_Q (ru_ct vc 14) (q_si vr 2479 (q_i vr 2479 + 1)) := by
  obtain ⟨h1, h2, h3, h4, h5, h6, h7, h8, h9, h10, h11, h12, h13, h14, h15, h16⟩ := h
  exact ⟨h1, h2, h3, h4, h5, h6, h7, h8, show q_a vc 1400 14 + 1 = q_i vr 2479 + 1 from by rw [h9], h10, h11, h12, h13, h14, h15, h16⟩
theorem ru_D_c14 {cl t np : Nat} {vc vr : q_V} (d : ru_D T XL cl t np vc vr) : ru_D T XL cl t np (ru_ct vc 14) (q_si vr 2479 (q_i vr 2479 + 1)) :=
  ⟨d.1, d.2.1, ru_Q_14 d.2.2.1, d.2.2.2.1, ⟨trivial, d.2.2.2.2.1.2.1.trans (ru_z_e (by rfl)).symm, d.2.2.2.2.1.2.2⟩, d.2.2.2.2.2⟩
theorem ru_Q_15 {vc vr : q_V} (h : ru_Q vc vr) : ru_Q (ru_ct vc 15) (q_si vr 2480 (q_i vr 2480 + 1)) := by
  obtain ⟨h1, h2, h3, h4, h5, h6, h7, h8, h9, h10, h11, h12, h13, h14, h15, h16⟩ := h
  exact ⟨h1, h2, h3, h4, h5, h6, h7, h8, h9, show q_a vc 1400 15 + 1 = q_i vr 2480 + 1 from by rw [h10], h11, h12, h13, h14, h15, h16⟩
theorem ru_D_c15 {cl t np : Nat} {vc vr : q_V} (d : ru_D T XL cl t np vc vr) : ru_D T XL cl t np (ru_ct vc 15) (q_si vr 2480 (q_i vr 2480 + 1)) :=
  ⟨d.1, d.2.1, ru_Q_15 d.2.2.1, d.2.2.2.1, ⟨trivial, d.2.2.2.2.1.2.1.trans (ru_z_e (by rfl)).symm, d.2.2.2.2.1.2.2⟩, d.2.2.2.2.2⟩
theorem ru_K_ct {np t h g cl k : Nat} {vc vr vc1 vr1 : q_V} (K : ru_K np t h g cl vc vr vc1 vr1) : ru_K np t h g cl vc vr (ru_ct vc1 k) vr1 := K
/-- a line of the log, if at all -/
def ru_ow (b : Bool) (v : q_V) (s n : Int32) : q_V := if b then ru_wr v s n else v
def ru_on (b : Bool) (v : q_V) (s n : Int32) : q_V := if b then ru_nt v s n else v
theorem ru_D_ow {b : Bool} {cl t np : Nat} {vc vr : q_V} {s n : Int32} (d : ru_D T XL cl t np vc vr) (hl : ru_l vc ≤ 2000000000) : ru_D T XL cl t np (ru_ow b vc s n) (ru_on b vr s n) := by
  cases b
  · exact d
  · exact ru_D_w d hl
theorem ru_K_ow {b : Bool} {np t h g cl : Nat} {vc vr vc1 vr1 : q_V} {s n : Int32} (K : ru_K np t h g cl vc vr vc1 vr1) : ru_K np t h g cl vc vr (ru_ow b vc1 s n) (ru_on b vr1 s n) := by
  cases b
  · exact K
  · exact ru_K_w K
theorem ru_lw_ow {b : Bool} {v v1 : q_V} {s n : Int32} (e : ru_l v1 = ru_l v) (e2 : ru_w v1 ≤ ru_w v) (h0 : ¬ q_a v1 1400 16 < 0) (hl : ru_l v ≤ 2000000000) : ru_lw v (ru_ow b v1 s n) := by
  cases b
  · exact ⟨by show ru_l v1 ≤ _; omega, e2⟩
  · refine ⟨?_, e2⟩
    show ru_l (ru_wr v1 s n) ≤ _
    rw [ru_l_wr h0 (by omega)]; omega
theorem mC_ow {b : Bool} {v : q_V} {s n : Int32} {p h f np cl : Nat} : ru_ow b (mC v p h f np cl) s n = mC (ru_ow b v s n) p h f np cl := by
  cases b <;> rfl
theorem mR_on {b : Bool} {v : q_V} {s n : Int32} {q g f t cl : Nat} : ru_on b (mR v q g f t cl) s n = mR (ru_on b v s n) q g f t cl := by
  cases b
  · rfl
  · exact mR_nt
theorem cs_ow {α : Type} {c : Prop} [Decidable c] {v : q_V} {s n : Int32} {k : q_V → Option α} : (if c then q_bv (fX7_write s n v) k else k v) = k (ru_ow (decide c) v s n) := by
  by_cases h : c
  · rw [if_pos h, cs_wr, q_bv_s, decide_eq_true h]; rfl
  · rw [if_neg h, decide_eq_false h]; rfl
theorem rs_on {α : Type} {c : Prop} [Decidable c] {v : q_V} {s n : Int32} {k : q_V → Option α} (h0 : ¬ q_i v 2470 < 0) : (if c then q_bv (fX12_note s n v) k else k v) = k (ru_on (decide c) v s n) := by
  by_cases h : c
  · rw [if_pos h, rs_note h0, q_bv_s, decide_eq_true h]; rfl
  · rw [if_neg h, decide_eq_false h]; rfl
/-- HOLDS -/
def ru_hc (v : q_V) (m : Nat) (x : Int32) : q_V := q_sa v 203 (upd (q_a v 203) m (q_a v 203 m + x))
def ru_hr (v : q_V) (m : Nat) (x : Int32) : q_V := q_sa v 2465 (upd (q_a v 2465) m (q_a v 2465 m + x))
theorem cs_isLock {x : Int32} {v : q_V} : fX1_isLock x v = some (if x < 0 ∨ 6 ≤ x then 0 else 1, v) := by
  unfold fX1_isLock fX1_isLock_b14 fX1_isLock_b15
  by_cases h1 : x < 0
  · simp (decide := true) only [h1, true_or, q_bd_s, q_bv_s, q_lt_s, q_i_si, q_i_sj, q_i_sa, q_i_sb, q_i_sf, q_i_sc, q_j_si, q_j_sj, q_j_sa, q_j_sb, q_j_sf, q_j_sc, q_a_si, q_a_sj, q_a_sa, q_a_sb, q_a_sf, q_a_sc, q_b_si, q_b_sj, q_b_sa, q_b_sb, q_b_sf, q_b_sc, q_f_si, q_f_sj, q_f_sa, q_f_sb, q_f_sf, q_f_sc, q_c_si, q_c_sj, q_c_sa, q_c_sb, q_c_sf, q_c_sc, q_n_si, q_n_sj, q_n_sa, q_n_sb, q_n_sf, q_n_sc, Nat.reduceEqDiff, Nat.reduceAdd, ↓reduceIte, Int32.reduceLT, Int32.reduceLE, Nat.reduceLeDiff, ni_neg, ni_clamp, ni_lef, or_self, or_false, false_or, ni_add1, ni_pred]
  · by_cases h2 : 6 ≤ x
    · simp (decide := true) only [h1, h2, or_true, q_bd_s, q_bv_s, q_lt_s, q_i_si, q_i_sj, q_i_sa, q_i_sb, q_i_sf, q_i_sc, q_j_si, q_j_sj, q_j_sa, q_j_sb, q_j_sf, q_j_sc, q_a_si, q_a_sj, q_a_sa, q_a_sb, q_a_sf, q_a_sc, q_b_si, q_b_sj, q_b_sa, q_b_sb, q_b_sf, q_b_sc, q_f_si, q_f_sj, q_f_sa, q_f_sb, q_f_sf, q_f_sc, q_c_si, q_c_sj, q_c_sa, q_c_sb, q_c_sf, q_c_sc, q_n_si, q_n_sj, q_n_sa, q_n_sb, q_n_sf, q_n_sc, Nat.reduceEqDiff, Nat.reduceAdd, ↓reduceIte, Int32.reduceLT, Int32.reduceLE, Nat.reduceLeDiff, ni_neg, ni_clamp, ni_lef, or_self, or_false, false_or, ni_add1, ni_pred]
    · simp (decide := true) only [h1, h2, or_self, q_bd_s, q_bv_s, q_lt_s, q_i_si, q_i_sj, q_i_sa, q_i_sb, q_i_sf, q_i_sc, q_j_si, q_j_sj, q_j_sa, q_j_sb, q_j_sf, q_j_sc, q_a_si, q_a_sj, q_a_sa, q_a_sb, q_a_sf, q_a_sc, q_b_si, q_b_sj, q_b_sa, q_b_sb, q_b_sf, q_b_sc, q_f_si, q_f_sj, q_f_sa, q_f_sb, q_f_sf, q_f_sc, q_c_si, q_c_sj, q_c_sa, q_c_sb, q_c_sf, q_c_sc, q_n_si, q_n_sj, q_n_sa, q_n_sb, q_n_sf, q_n_sc, Nat.reduceEqDiff, Nat.reduceAdd, ↓reduceIte, Int32.reduceLT, Int32.reduceLE, Nat.reduceLeDiff, ni_neg, ni_clamp, ni_lef, or_self, or_false, false_or, ni_add1, ni_pred]
theorem upd_at {f : Nat → Int32} {k : Nat} {x : Int32} : upd f k x k = x := by unfold upd; rw [if_pos rfl]
theorem upd_ne {f : Nat → Int32} {k j : Nat} {x : Int32} (h : j ≠ k) : upd f k x j = f j := by unfold upd; rw [if_neg h]
theorem cs_addHold {v : q_V} {m : Nat} {x : Int32} (hm : m < 6) : fX1_addHold (nI m) x v = some (q_a v 203 m + x, ru_hc v m x) := by
  have z : ¬ (nI m < 0 ∨ 6 ≤ nI m) := by
    rw [ni_neg (by omega), show (6 : Int32) = nI 6 from rfl, ni_le (by omega) (by omega)]; simp; omega
  unfold fX1_addHold
  rw [cs_isLock, q_bd_s, if_neg z, if_neg (by decide), if_neg (by rw [ni_in hm (by omega)]; exact id), if_neg (by rw [ni_in hm (by omega)]; exact id), q_lt_s, if_neg (by rw [ni_in hm (by omega)]; exact id), ni_clamp (by omega)]
  show some (upd _ m _ m, _) = _
  rw [upd_at]; rfl
theorem ru_D_h {cl t np np' m : Nat} {vc vr : q_V} {x : Int32} (d : ru_D T XL cl t np vc vr) (hH : ru_H np' (ru_hc vc m x)) : ru_D T XL cl t np' (ru_hc vc m x) (ru_hr vr m x) :=
  ⟨d.1, ⟨d.2.1.1, d.2.1.2.1, d.2.1.2.2.1, (show upd (q_a vc 203) m (q_a vc 203 m + x) = upd (q_a vr 2465) m (q_a vr 2465 m + x) from by rw [d.2.1.2.2.2.1]), d.2.1.2.2.2.2⟩, d.2.2.1, d.2.2.2.1, ⟨trivial, d.2.2.2.2.1.2.1.trans (ru_z_e (by rfl)).symm, d.2.2.2.2.1.2.2⟩, hH⟩
theorem ru_K_hh {np t h g cl m : Nat} {vc vr vc1 vr1 : q_V} (K : ru_K np t h g cl (ru_hc vc m 1) (ru_hr vr m 1) vc1 vr1) : ru_K np t h g cl vc vr (ru_hc vc1 m (-1)) (ru_hr vr1 m (-1)) := by
  refine ⟨K.1, K.2.1, fun j n z1 z2 z3 => ?_, K.2.2.2.1, K.2.2.2.2.1, ?_, K.2.2.2.2.2.2⟩
  · have h := K.2.2.1 j n z1 z2 z3
    unfold ru_hr at h ⊢
    rw [q_a_sa, if_neg (by omega)] at h ⊢
    exact h
  have e : q_a vc1 203 = upd (q_a vc 203) m (q_a vc 203 m + 1) := K.2.2.2.2.2.1
  show upd (q_a vc1 203) m (q_a vc1 203 m + -1) = q_a vc 203
  rw [e]
  funext j
  unfold upd
  by_cases c : j = m
  · subst c; rw [if_pos rfl, if_pos rfl, Int32.add_assoc, show (1 : Int32) + -1 = 0 from by decide, Int32.add_zero]
  · rw [if_neg c, if_neg c]
theorem ru_hold_in (k : Int32) : (k < 0 ∨ 6 ≤ k) ∧ (k < 0 ∨ 5 < k) ∨ ∃ m : Nat, m < 6 ∧ k = nI m ∧ ¬ (k < 0 ∨ 6 ≤ k) ∧ ¬ (k < 0 ∨ 5 < k) := by
  by_cases h1 : k < 0
  · exact Or.inl ⟨Or.inl h1, Or.inl h1⟩
  obtain ⟨m, hm, e⟩ := ni_ex h1
  by_cases h2 : m < 6
  · have a1 : ¬ 6 ≤ k := by rw [e, show (6 : Int32) = nI 6 from rfl, ni_le (by omega) hm]; omega
    have a2 : ¬ 5 < k := by rw [e, show (5 : Int32) = nI 5 from rfl, ni_lt (by omega) hm]; omega
    exact Or.inr ⟨m, h2, e, fun x => x.elim h1 a1, fun x => x.elim h1 a2⟩
  · have a1 : 6 ≤ k := by rw [e, show (6 : Int32) = nI 6 from rfl, ni_le (by omega) hm]; omega
    have a2 : 5 < k := by rw [e, show (5 : Int32) = nI 5 from rfl, ni_lt (by omega) hm]; omega
    exact Or.inl ⟨Or.inr a1, Or.inr a2⟩
theorem ru_K_b {np t h g cl j0 n0 : Nat} {vc vr vc1 vr1 : q_V} {x : Int64} (K : ru_K np t h g cl vc vr vc1 vr1) (hn : t ≤ n0) : ru_K np t h g cl vc vr vc1 (q_sb vr1 j0 (vp_updL (q_b vr1 j0) n0 x)) := by
  refine ⟨K.1, K.2.1, fun j n z1 z2 z3 => ⟨(K.2.2.1 j n z1 z2 z3).1, ?_⟩, K.2.2.2.1, K.2.2.2.2.1, K.2.2.2.2.2⟩
  rw [q_b_sb]
  split
  · next e => subst e; unfold vp_updL; rw [if_neg (by omega)]; exact (K.2.2.1 j n z1 z2 z3).2
  · exact (K.2.2.1 j n z1 z2 z3).2
theorem ru_D_b {cl t np k : Nat} {vc vr : q_V} {x : Nat → Int64} (d : ru_D T XL cl t np vc vr) : ru_D T XL cl t np vc (q_sb vr k x) :=
  ⟨d.1, d.2.1, d.2.2.1, d.2.2.2.1, ⟨trivial, d.2.2.2.2.1.2.1.trans (ru_z_e (by rfl)).symm, d.2.2.2.2.1.2.2⟩, d.2.2.2.2.2⟩
theorem mR_sb' {v : q_V} {q g f t cl k : Nat} {x : Nat → Int64} : q_sb (mR v q g f t cl) k x = mR (q_sb v k x) q g f t cl := rfl
theorem i64_back {x : Int32} : x.toInt64.toInt32 = x := Int32.toInt32_toInt64 x
end
