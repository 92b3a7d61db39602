def ru_vl (v : q_V) (d g k j : Nat) : Nat → Int32 := fun y => if 24 * d ≤ y ∧ y < 24 * d + j then (if y - 24 * d < k then q_a v 2515 (g + (y - 24 * d)) else 0) else q_a v 2509 y
def ru_c2 (v : q_V) (d g k t : Nat) (x : Int32) : q_V := ru_op (q_sa v 2509 (ru_vl v d g k 24)) t g 1 6 x
def ru_c3 (v : q_V) (d g k t q : Nat) (x : Int32) : q_V := q_sa (q_sa (q_sa (q_sa (q_sa (ru_c2 v d g k t x) 2502 (upd (q_a v 2502) d (nI q))) 2503 (upd (q_a v 2503) d (q_i v 2511))) 2504 (upd (q_a v 2504) d 0)) 2505 (upd (q_a v 2505) d 0)) 2506 (upd (q_a v 2506) d 0)
set_option maxHeartbeats 200000 in
theorem c2_a {v : q_V} {d g k t j : Nat} {x : Int32} (h : j < 2488 ∨ 2492 < j) (h2 : j ≠ 2509) : q_a (ru_c2 v d g k t x) j = q_a v j := by
  unfold ru_c2; rw [op_a h, q_a_sa, if_neg h2]
set_option maxHeartbeats 200000 in
theorem c3_a {v : q_V} {d g k t q j : Nat} {x : Int32} (h : j < 2488 ∨ 2492 < j) (h2 : j ≠ 2509) (h3 : j < 2502 ∨ 2506 < j) : q_a (ru_c3 v d g k t q x) j = q_a v j := by
  unfold ru_c3; rw [q_a_sa, if_neg (by omega), q_a_sa, if_neg (by omega), q_a_sa, if_neg (by omega), q_a_sa, if_neg (by omega), q_a_sa, if_neg (by omega), c2_a h h2]
set_option maxHeartbeats 200000 in
theorem c3_i {v : q_V} {d g k t q : Nat} {x : Int32} : q_i (ru_c3 v d g k t q x) = q_i v := by
  unfold ru_c3 ru_c2; rw [q_i_sa, q_i_sa, q_i_sa, q_i_sa, q_i_sa, op_i, q_i_sa]
set_option maxHeartbeats 200000 in
theorem c3_b {v : q_V} {d g k t q : Nat} {x : Int32} : q_b (ru_c3 v d g k t q x) = q_b v := by
  unfold ru_c3 ru_c2; rw [q_b_sa, q_b_sa, q_b_sa, q_b_sa, q_b_sa, op_b, q_b_sa]
set_option maxHeartbeats 200000 in
theorem c3_o {v : q_V} {d g k t q j : Nat} {x : Int32} (h : 2488 ≤ j) (h2 : j ≤ 2492) : q_a (ru_c3 v d g k t q x) j = q_a (ru_op (q_sa v 2509 (ru_vl v d g k 24)) t g 1 6 x) j := by
  unfold ru_c3 ru_c2; rw [q_a_sa, if_neg (by omega), q_a_sa, if_neg (by omega), q_a_sa, if_neg (by omega), q_a_sa, if_neg (by omega), q_a_sa, if_neg (by omega)]
set_option maxHeartbeats 200000 in
theorem c3_9 {v : q_V} {d g k t q : Nat} {x : Int32} : q_a (ru_c3 v d g k t q x) 2509 = ru_vl v d g k 24 := by
  unfold ru_c3 ru_c2; rw [q_a_sa, if_neg (by omega), q_a_sa, if_neg (by omega), q_a_sa, if_neg (by omega), q_a_sa, if_neg (by omega), q_a_sa, if_neg (by omega), op_a (by omega), q_a_sa, if_pos rfl]
set_option maxHeartbeats 200000 in
theorem c3_2 {v : q_V} {d g k t q : Nat} {x : Int32} : q_a (ru_c3 v d g k t q x) 2502 = upd (q_a v 2502) d (nI q) := by
  unfold ru_c3; rw [q_a_sa, if_neg (by omega), q_a_sa, if_neg (by omega), q_a_sa, if_neg (by omega), q_a_sa, if_neg (by omega), q_a_sa, if_pos rfl]
set_option maxHeartbeats 200000 in
theorem c3_3 {v : q_V} {d g k t q : Nat} {x : Int32} : q_a (ru_c3 v d g k t q x) 2503 = upd (q_a v 2503) d (q_i v 2511) := by
  unfold ru_c3; rw [q_a_sa, if_neg (by omega), q_a_sa, if_neg (by omega), q_a_sa, if_neg (by omega), q_a_sa, if_pos rfl]
set_option maxHeartbeats 200000 in
theorem c3_4 {v : q_V} {d g k t q : Nat} {x : Int32} : q_a (ru_c3 v d g k t q x) 2504 = upd (q_a v 2504) d 0 := by
  unfold ru_c3; rw [q_a_sa, if_neg (by omega), q_a_sa, if_neg (by omega), q_a_sa, if_pos rfl]
set_option maxHeartbeats 200000 in
theorem c3_5 {v : q_V} {d g k t q : Nat} {x : Int32} : q_a (ru_c3 v d g k t q x) 2505 = upd (q_a v 2505) d 0 := by
  unfold ru_c3; rw [q_a_sa, if_neg (by omega), q_a_sa, if_pos rfl]
set_option maxHeartbeats 200000 in
theorem c3_6 {v : q_V} {d g k t q : Nat} {x : Int32} : q_a (ru_c3 v d g k t q x) 2506 = upd (q_a v 2506) d 0 := by
  unfold ru_c3; rw [q_a_sa, if_pos rfl]
section
variable {Fin : q_V → q_V → Prop} {a : ru_P} {T : co_T} {XL : Int32 → Int32 → Int32 → Prop} {f0 nu : Nat} {L : List (Nat × Nat)}
set_option maxHeartbeats 200000 in
theorem mR_11 {v : q_V} {q g f t cl : Nat} : q_i (mR v q g f t cl) 2511 = q_i v 2511 := by
  rw [mR_i, if_neg (by omega), if_neg (by omega), if_neg (by omega), if_neg (by omega), if_neg (by omega)]
set_option maxHeartbeats 200000 in
theorem rs_calls_L {v : q_V} {d k dp g q f t qe : Nat} (hd : d < 30) (hk : k ≤ 24) (ht : t < 240) (hdp : dp < 13) (hg : g + 24 < 4000) (ee : q_a v 2457 d = nI qe) : ∀ n j, j ≤ 24 → 24 < n + j → fX12_calls_L55 (nI d) (nI k) n (nI j) (mR (q_sa v 2509 (ru_vl v dp g k j)) q g f t dp) = some (mR (ru_c3 v dp g k t q (nI d)) qe g f (t + 1) dp) := by
  intro n
  induction n with
  | zero => intro j h1 h2; omega
  | succ n ih =>
    intro j h1 h2
    unfold fX12_calls_L55
    by_cases c : j = 24
    · subst c
      have x2 : q_a (ru_c2 v dp g k t (nI d)) 2502 = q_a v 2502 := c2_a (by omega) (by omega)
      have x3 : ∀ u, q_a (q_sa (ru_c2 v dp g k t (nI d)) 2502 u) 2503 = q_a v 2503 := fun u => by rw [q_a_sa, if_neg (by omega)]; exact c2_a (by omega) (by omega)
      have x4 : ∀ u u', q_a (q_sa (q_sa (ru_c2 v dp g k t (nI d)) 2502 u) 2503 u') 2504 = q_a v 2504 := fun u u' => by rw [q_a_sa, if_neg (by omega), q_a_sa, if_neg (by omega)]; exact c2_a (by omega) (by omega)
      have x5 : ∀ u u' u2, q_a (q_sa (q_sa (q_sa (ru_c2 v dp g k t (nI d)) 2502 u) 2503 u') 2504 u2) 2505 = q_a v 2505 := fun u u' u2 => by rw [q_a_sa, if_neg (by omega), q_a_sa, if_neg (by omega), q_a_sa, if_neg (by omega)]; exact c2_a (by omega) (by omega)
      have x6 : ∀ u u' u2 u3, q_a (q_sa (q_sa (q_sa (q_sa (ru_c2 v dp g k t (nI d)) 2502 u) 2503 u') 2504 u2) 2505 u3) 2506 = q_a v 2506 := fun u u' u2 u3 => by rw [q_a_sa, if_neg (by omega), q_a_sa, if_neg (by omega), q_a_sa, if_neg (by omega), q_a_sa, if_neg (by omega)]; exact c2_a (by omega) (by omega)
      have i11 : ∀ u, q_i (q_sa (ru_c2 v dp g k t (nI d)) 2502 u) 2511 = q_i v 2511 := fun u => by unfold ru_c2; rw [q_i_sa, op_i, q_i_sa]
      have xe : q_a (ru_c3 v dp g k t q (nI d)) 2457 d = nI qe := by rw [c3_a (by omega) (by omega) (by omega)]; exact ee
      rw [if_pos (by decide), rs_opens ht, q_bv_s, show ru_op (q_sa v 2509 (ru_vl v dp g k 24)) t g 1 6 (nI d) = ru_c2 v dp g k t (nI d) from rfl]
      rw [mR_2501, if_neg (by rw [ni_in hdp (by omega)]; exact id), q_lt_s, ni_clamp (a := dp) (by omega), mR_2510, mR_a, x2, mR_sa]
      rw [mR_2501, if_neg (by rw [ni_in hdp (by omega)]; exact id), q_lt_s, ni_clamp (a := dp) (by omega), mR_11, i11, mR_a, x3, mR_sa]
      rw [mR_2501, if_neg (by rw [ni_in hdp (by omega)]; exact id), q_lt_s, ni_clamp (a := dp) (by omega), mR_a, x4, mR_sa]
      rw [mR_2501, if_neg (by rw [ni_in hdp (by omega)]; exact id), q_lt_s, ni_clamp (a := dp) (by omega), mR_a, x5, mR_sa]
      rw [mR_2501, if_neg (by rw [ni_in hdp (by omega)]; exact id), q_lt_s, ni_clamp (a := dp) (by omega), mR_a, x6, mR_sa]
      rw [if_neg (by rw [ni_in hd (by omega)]; exact id), q_lt_s, ni_clamp (by omega), mR_a]
      show some (q_si (mR (ru_c3 v dp g k t q (nI d)) q g f (t + 1) dp) 2510 (q_a (ru_c3 v dp g k t q (nI d)) 2457 d)) = _
      rw [xe, mR_s2510]
    · have e : ∀ x : Int32, x = (if j < k then q_a v 2515 (g + j) else 0) → upd (ru_vl v dp g k j) (24 * dp + j) x = ru_vl v dp g k (j + 1) := by
        intro x hx
        funext y
        unfold upd ru_vl
        by_cases c1 : y = 24 * dp + j
        · rw [if_pos c1, if_pos (by omega), hx, c1, show 24 * dp + j - 24 * dp = j from by omega]
        · rw [if_neg c1]
          by_cases c2 : 24 * dp ≤ y ∧ y < 24 * dp + j
          · rw [if_pos c2, if_pos (show 24 * dp ≤ y ∧ y < 24 * dp + (j + 1) by omega)]
          · rw [if_neg c2, if_neg (show ¬ (24 * dp ≤ y ∧ y < 24 * dp + (j + 1)) by omega)]
      have key : ∀ x : Int32, x = (if j < k then q_a v 2515 (g + j) else 0) → fX12_calls_b94 (nI d) (nI k) (nI j) x (nI (24 * dp + j)) (fun xn3_ S_ => fX12_calls_L55 (nI d) (nI k) n xn3_ S_) (mR (q_sa v 2509 (ru_vl v dp g k j)) q g f t dp) = some (mR (ru_c3 v dp g k t q (nI d)) qe g f (t + 1) dp) := by
        intro x hx
        unfold fX12_calls_b94
        rw [if_neg (by rw [ni_in (show 24 * dp + j < 312 by omega) (by omega)]; exact id), q_lt_s, q_lt_s, ni_clamp (by omega), ni_add1, mR_sa, mR_a, q_sa_sa, q_a_sa, if_pos rfl, e x hx]
        exact ih (j + 1) (by omega) (by omega)
      rw [if_neg (by rw [show (24 : Int32) = nI 24 from rfl, ni_le (by omega) (by omega)]; omega), mR_2501, ni_24]
      by_cases c3 : k ≤ j
      · rw [if_pos (by rw [ni_le (by omega) (by omega)]; exact c3), key 0 (by rw [if_neg (by omega)])]
      · rw [if_neg (by rw [ni_le (by omega) (by omega)]; exact c3), mR_2516, ni_add, if_neg (by rw [ni_in (show g + j < 4000 by omega) (by omega)]; exact id), ni_clamp (by omega), mR_a, q_a_sa, if_neg (by omega), key _ (by rw [if_pos (by omega)])]
set_option maxHeartbeats 200000 in
theorem rs_CALL {vc vr : q_V} {d k pe qe q g f t cl : Nat} (s : ru_S T vc vr) (hT : T.2.2.2 d = some (k, pe, qe)) (hf : f < 20000) (hcl : cl < 12) (ht : t < 240) (hg : g + 24 < 4000) (r0 : co_r T 0 q 19) (r1 : co_r T 1 q (nI d)) (r2 : co_r T 2 q (nI k)) : fX12_step (mR vr q (g + k) (f + 1) t cl) = some (mR (ru_c3 (q_si vr 2480 (q_i vr 2480 + 1)) (cl + 1) g k t (q + 1) (nI d)) qe g f (t + 1) (cl + 1)) := by
  obtain ⟨D, s5, s6, s7⟩ := s.2.2.2.2
  obtain ⟨t1, t2, t3, t4, t5⟩ := s7 d k pe qe hT
  have lo := rs_calls_L (v := q_si vr 2480 (q_i vr 2480 + 1)) (q := q + 1) (f := f) (qe := qe) (d := d) (k := k) (dp := cl + 1) (g := g) (t := t) (by omega) (by omega) ht (by omega) hg (by rw [q_a_si]; exact t5) q_N 0 (by omega) (by unfold q_N; omega)
  have e : ru_vl (q_si vr 2480 (q_i vr 2480 + 1)) (cl + 1) g k 0 = q_a (q_si vr 2480 (q_i vr 2480 + 1)) 2509 := by
    funext y; unfold ru_vl; rw [if_neg (by omega)]
  rw [e, q_sa_id] at lo
  rw [rs_step s r0, rd_19, r1.2, r2.2]
  unfold fX12_calls fX12_step_b436
  rw [rs_burn hf, q_bd_s, if_neg (by decide), mR_2501, if_neg (by rw [show (12 : Int32) = nI 12 from rfl]; exact ni_ne (by omega) (by omega) (by omega)), ni_add1, mR_s2501, q_lt_s, mR_oi (k := 2480) (by omega), mR_s2480, q_lt_s, mR_2516, ni_sub (by omega), show g + k - k = g from by omega, mR_s2516, q_lt_s, show (0 : Int32) = nI 0 from rfl, lo, q_bv_s]
set_option maxHeartbeats 200000 in
theorem rs_CALL0 {vc vr : q_V} {q g t cl : Nat} (s : ru_S T vc vr) (r0 : co_r T 0 q 19) : fX12_step (mR vr q g 0 t cl) = some (mR (q_si vr 2513 2) (q + 1) g 0 t cl) := by
  rw [rs_step s r0, rd_19]
  unfold fX12_calls fX12_step_b436
  rw [rs_burn0, q_bd_s, if_pos rfl, q_bv_s]
set_option maxHeartbeats 200000 in
theorem rs_CALLd {vc vr : q_V} {q g f t : Nat} (s : ru_S T vc vr) (hf : f < 20000) (ht : t < 240) (h70 : ¬ q_i vr 2470 < 0) (r0 : co_r T 0 q 19) : fX12_step (mR vr q g (f + 1) t 12) = fX12_leaves (mR (ru_tr vr t 2) (q + 1) g f t 12) := by
  rw [rs_step s r0, rd_19]
  unfold fX12_calls fX12_step_b436
  rw [rs_burn hf, q_bd_s, if_neg (by decide), mR_2501, if_pos (by decide), q_bv_id, q_bv_id, rs_trouble ht h70]
end
