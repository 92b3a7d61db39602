def ru_runT (N : Nat) (x1 x2 x3 x4 : Int32) (S : q_V) : Option (Int32 × q_V) :=
  q_bv (fX12_clear S) (fun T2 =>
  q_lt (q_si T2 2512 x4) (fun T3 =>
  if (x1) < 0 ∨ 30 ≤ (x1).toNatClampNeg then none else
  q_lt ((q_a T3 2458 x1.toNatClampNeg) : Int32) (fun y5 =>
  ru_L82 N x1 x2 x3 x4 q_N y5 0 T3)))
def ru_pt (x2 x3 x4 x5 : Int32) (T3 : q_V) : Option (Int32 × q_V) :=
  q_lt (q_si T3 803 0) (fun T4 =>
  q_lt (q_si T4 805 0) (fun T5 =>
  q_lt (q_si T5 807 0) (fun T6 =>
  q_lt (q_si T6 812 0) (fun T7 =>
  q_lt (q_si T7 811 0) (fun T8 =>
  q_lt (q_si T8 813 x5) (fun T9 =>
  q_lt (q_si T9 814 ((- 1))) (fun T10 =>
  q_bv (fX10_become 168 0 0 T10) (fun T12 =>
  fX4_perform_L60 x2 x3 x4 x5 q_N 0 T12))))))))
set_option maxHeartbeats 200000 in
theorem cs_performR {x2 x3 x4 x5 : Int32} {v : q_V} : fX4_performR x2 x3 x4 x5 v = q_bv (fX7_clear v) (fun T3 => ru_pt x2 x3 x4 x5 T3) := rfl
def ru_v0 (w : q_V) : q_V := q_sf (q_sf (q_si (q_si (q_si w 812 0) 811 0) 814 (-1)) 2000 168 0) 2001 168 0
set_option maxHeartbeats 200000 in
theorem cs_pt {x2 x3 x4 : Int32} {f : Nat} {v : q_V} : ∃ p, ru_pt x2 x3 x4 (nI f) v = fX4_perform_L60 x2 x3 x4 (nI f) q_N 0 (mC (ru_v0 v) p 0 f 0 0) := by
  obtain ⟨p, hp⟩ := ni_all (q_i v 810)
  obtain ⟨h, hh⟩ := ni_all (q_i v 803)
  obtain ⟨f', hf⟩ := ni_all (q_i v 813)
  obtain ⟨np, hn⟩ := ni_all (q_i v 807)
  obtain ⟨cl, hc⟩ := ni_all (q_i v 805)
  have m03 : ∀ w p h f np cl, q_si (mC w p h f np cl) 803 0 = mC w p 0 f np cl := fun _ _ _ _ _ _ => mC_s803
  have m05 : ∀ w p h f np cl, q_si (mC w p h f np cl) 805 0 = mC w p h f np 0 := fun _ _ _ _ _ _ => mC_s805
  have m07 : ∀ w p h f np cl, q_si (mC w p h f np cl) 807 0 = mC w p h f 0 cl := fun _ _ _ _ _ _ => mC_s807
  have key : ∀ w, ru_pt x2 x3 x4 (nI f) (mC w p h f' np cl) = fX4_perform_L60 x2 x3 x4 (nI f) q_N 0 (mC (ru_v0 w) p 0 f 0 0) := by
    intro w
    unfold ru_pt fX10_become ru_v0
    rw [m03, q_lt_s, m05, q_lt_s, m07, q_lt_s, mC_s812, q_lt_s, mC_s811, q_lt_s, mC_s813, q_lt_s, mC_s814, q_lt_s, mC_sf, q_lt_s, mC_sf, q_lt_s, q_bv_s]
  have h1 := key v
  rw [mC_self hp hh hf hn hc] at h1
  exact ⟨p, h1⟩
set_option maxHeartbeats 200000 in
theorem v0_a {w : q_V} : q_a (ru_v0 w) = q_a w := by unfold ru_v0; rw [q_a_sf, q_a_sf, q_a_si, q_a_si, q_a_si]
set_option maxHeartbeats 200000 in
theorem v0_n {w : q_V} : q_n (ru_v0 w) = q_n w := by unfold ru_v0; rw [q_n_sf, q_n_sf]; rfl
set_option maxHeartbeats 200000 in
theorem v0_i {w : q_V} {k : Nat} (h : k < 811) : q_i (ru_v0 w) k = q_i w k := by unfold ru_v0; rw [q_i_sf, q_i_sf, q_i_ne (by omega), q_i_ne (by omega), q_i_ne (by omega)]
set_option maxHeartbeats 200000 in
theorem v0_12 {w : q_V} : q_i (ru_v0 w) 812 = 0 := by unfold ru_v0; rw [q_i_sf, q_i_sf, q_i_ne (by omega), q_i_ne (by omega), q_i_at]
set_option maxHeartbeats 200000 in
theorem v0_11 {w : q_V} : q_i (ru_v0 w) 811 = 0 := by unfold ru_v0; rw [q_i_sf, q_i_sf, q_i_ne (by omega), q_i_at]
set_option maxHeartbeats 200000 in
theorem v0_14 {w : q_V} : q_i (ru_v0 w) 814 = -1 := by unfold ru_v0; rw [q_i_sf, q_i_sf, q_i_at]
set_option maxHeartbeats 200000 in
theorem v0_w {w : q_V} : q_f (ru_v0 w) 2000 168 = 0 := by unfold ru_v0; rw [q_f_sf, if_neg (by omega), q_f_sf, if_pos ⟨rfl, rfl⟩]
set_option maxHeartbeats 200000 in
theorem cl0_a {w : q_V} : q_a (ru_cl0 w) = q_a w := by unfold ru_cl0; rw [q_a_si, q_a_si, q_a_si, q_a_si, q_a_si, q_a_si, q_a_si, q_a_si, q_a_si, q_a_si, q_a_si, q_a_si, q_a_si, q_a_si, q_a_si]
set_option maxHeartbeats 200000 in
theorem cl0_2470 {w : q_V} : q_i (ru_cl0 w) 2470 = 0 := by unfold ru_cl0; rw [q_i_ne (by omega), q_i_ne (by omega), q_i_ne (by omega), q_i_ne (by omega), q_i_ne (by omega), q_i_ne (by omega), q_i_ne (by omega), q_i_ne (by omega), q_i_ne (by omega), q_i_ne (by omega), q_i_ne (by omega), q_i_ne (by omega), q_i_ne (by omega), q_i_ne (by omega), q_i_at]
set_option maxHeartbeats 200000 in
theorem cl0_2471 {w : q_V} : q_i (ru_cl0 w) 2471 = 0 := by unfold ru_cl0; rw [q_i_ne (by omega), q_i_ne (by omega), q_i_ne (by omega), q_i_ne (by omega), q_i_ne (by omega), q_i_ne (by omega), q_i_ne (by omega), q_i_ne (by omega), q_i_ne (by omega), q_i_ne (by omega), q_i_ne (by omega), q_i_ne (by omega), q_i_ne (by omega), q_i_at]
set_option maxHeartbeats 200000 in
theorem cl0_2472 {w : q_V} : q_i (ru_cl0 w) 2472 = 0 := by unfold ru_cl0; rw [q_i_ne (by omega), q_i_ne (by omega), q_i_ne (by omega), q_i_ne (by omega), q_i_ne (by omega), q_i_ne (by omega), q_i_ne (by omega), q_i_ne (by omega), q_i_ne (by omega), q_i_ne (by omega), q_i_ne (by omega), q_i_ne (by omega), q_i_at]
set_option maxHeartbeats 200000 in
theorem cl0_2473 {w : q_V} : q_i (ru_cl0 w) 2473 = 0 := by unfold ru_cl0; rw [q_i_ne (by omega), q_i_ne (by omega), q_i_ne (by omega), q_i_ne (by omega), q_i_ne (by omega), q_i_ne (by omega), q_i_ne (by omega), q_i_ne (by omega), q_i_ne (by omega), q_i_ne (by omega), q_i_ne (by omega), q_i_at]
set_option maxHeartbeats 200000 in
theorem cl0_2474 {w : q_V} : q_i (ru_cl0 w) 2474 = 0 := by unfold ru_cl0; rw [q_i_ne (by omega), q_i_ne (by omega), q_i_ne (by omega), q_i_ne (by omega), q_i_ne (by omega), q_i_ne (by omega), q_i_ne (by omega), q_i_ne (by omega), q_i_ne (by omega), q_i_ne (by omega), q_i_at]
set_option maxHeartbeats 200000 in
theorem cl0_2475 {w : q_V} : q_i (ru_cl0 w) 2475 = 0 := by unfold ru_cl0; rw [q_i_ne (by omega), q_i_ne (by omega), q_i_ne (by omega), q_i_ne (by omega), q_i_ne (by omega), q_i_ne (by omega), q_i_ne (by omega), q_i_ne (by omega), q_i_ne (by omega), q_i_at]
set_option maxHeartbeats 200000 in
theorem cl0_2476 {w : q_V} : q_i (ru_cl0 w) 2476 = 0 := by unfold ru_cl0; rw [q_i_ne (by omega), q_i_ne (by omega), q_i_ne (by omega), q_i_ne (by omega), q_i_ne (by omega), q_i_ne (by omega), q_i_ne (by omega), q_i_ne (by omega), q_i_at]
set_option maxHeartbeats 200000 in
theorem cl0_2477 {w : q_V} : q_i (ru_cl0 w) 2477 = 0 := by unfold ru_cl0; rw [q_i_ne (by omega), q_i_ne (by omega), q_i_ne (by omega), q_i_ne (by omega), q_i_ne (by omega), q_i_ne (by omega), q_i_ne (by omega), q_i_at]
set_option maxHeartbeats 200000 in
theorem cl0_2478 {w : q_V} : q_i (ru_cl0 w) 2478 = 0 := by unfold ru_cl0; rw [q_i_ne (by omega), q_i_ne (by omega), q_i_ne (by omega), q_i_ne (by omega), q_i_ne (by omega), q_i_ne (by omega), q_i_at]
set_option maxHeartbeats 200000 in
theorem cl0_2479 {w : q_V} : q_i (ru_cl0 w) 2479 = 0 := by unfold ru_cl0; rw [q_i_ne (by omega), q_i_ne (by omega), q_i_ne (by omega), q_i_ne (by omega), q_i_ne (by omega), q_i_at]
set_option maxHeartbeats 200000 in
theorem cl0_2480 {w : q_V} : q_i (ru_cl0 w) 2480 = 0 := by unfold ru_cl0; rw [q_i_ne (by omega), q_i_ne (by omega), q_i_ne (by omega), q_i_ne (by omega), q_i_at]
set_option maxHeartbeats 200000 in
theorem cl0_2481 {w : q_V} : q_i (ru_cl0 w) 2481 = 0 := by unfold ru_cl0; rw [q_i_ne (by omega), q_i_ne (by omega), q_i_ne (by omega), q_i_at]
set_option maxHeartbeats 200000 in
theorem cl0_2511 {w : q_V} : q_i (ru_cl0 w) 2511 = 0 := by unfold ru_cl0; rw [q_i_ne (by omega), q_i_ne (by omega), q_i_at]
set_option maxHeartbeats 200000 in
theorem cl0_2513 {w : q_V} : q_i (ru_cl0 w) 2513 = 0 := by unfold ru_cl0; rw [q_i_ne (by omega), q_i_at]
set_option maxHeartbeats 200000 in
theorem cl0_2514 {w : q_V} : q_i (ru_cl0 w) 2514 = 0 := by unfold ru_cl0; rw [q_i_at]
set_option maxHeartbeats 200000 in
theorem cl0_2524 {w : q_V} : q_i (ru_cl0 w) 2524 = q_i w 2524 := by unfold ru_cl0; rw [q_i_ne (by omega), q_i_ne (by omega), q_i_ne (by omega), q_i_ne (by omega), q_i_ne (by omega), q_i_ne (by omega), q_i_ne (by omega), q_i_ne (by omega), q_i_ne (by omega), q_i_ne (by omega), q_i_ne (by omega), q_i_ne (by omega), q_i_ne (by omega), q_i_ne (by omega), q_i_ne (by omega)]
