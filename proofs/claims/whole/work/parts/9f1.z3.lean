def ru_rb (v : q_V) (x : Int32) : q_V := q_si (q_si (q_si (q_si (q_si (q_si v 2523 (q_i v 2512)) 2524 (q_i v 2524 + (x - q_i v 2512))) 2518 0) 2519 0) 2520 0) 2522 (-1)
def ru_tl (v : q_V) : Option q_V := if q_i v 2513 ≤ 0 then (if q_i v 2481 = 4 then fX12_tellEnd_b57 4 v else if q_i v 2481 = 3 then fX12_tellEnd_b57 2 v else fX12_tellEnd_b57 1 v) else fX12_tellEnd_b57 0 v
set_option maxHeartbeats 200000 in
theorem rb_i {v : q_V} {x : Int32} {k : Nat} (h : k < 2517) : q_i (ru_rb v x) k = q_i v k := by
  unfold ru_rb
  rw [q_i_si, if_neg (by omega), q_i_si, if_neg (by omega), q_i_si, if_neg (by omega), q_i_si, if_neg (by omega), q_i_si, if_neg (by omega), q_i_si, if_neg (by omega)]
set_option maxHeartbeats 200000 in
theorem rb_a {v : q_V} {x : Int32} : q_a (ru_rb v x) = q_a v := by
  unfold ru_rb
  rw [q_a_si, q_a_si, q_a_si, q_a_si, q_a_si, q_a_si]
set_option maxHeartbeats 200000 in
theorem rb_18 {v : q_V} {x : Int32} : q_i (ru_rb v x) 2518 = 0 := by
  unfold ru_rb
  rw [q_i_si, if_neg (by omega), q_i_si, if_neg (by omega), q_i_si, if_neg (by omega), q_i_si, if_pos rfl]
set_option maxHeartbeats 200000 in
theorem rb_19 {v : q_V} {x : Int32} : q_i (ru_rb v x) 2519 = 0 := by
  unfold ru_rb
  rw [q_i_si, if_neg (by omega), q_i_si, if_neg (by omega), q_i_si, if_pos rfl]
set_option maxHeartbeats 200000 in
theorem rb_20 {v : q_V} {x : Int32} : q_i (ru_rb v x) 2520 = 0 := by
  unfold ru_rb
  rw [q_i_si, if_neg (by omega), q_i_si, if_pos rfl]
set_option maxHeartbeats 200000 in
theorem rb_22 {v : q_V} {x : Int32} : q_i (ru_rb v x) 2522 = -1 := by
  unfold ru_rb
  rw [q_i_si, if_pos rfl]
set_option maxHeartbeats 200000 in
theorem rb_23 {v : q_V} {x : Int32} : q_i (ru_rb v x) 2523 = q_i v 2512 := by
  unfold ru_rb
  rw [q_i_si, if_neg (by omega), q_i_si, if_neg (by omega), q_i_si, if_neg (by omega), q_i_si, if_neg (by omega), q_i_si, if_neg (by omega), q_i_si, if_pos rfl]
set_option maxHeartbeats 200000 in
theorem rb_24 {v : q_V} {x : Int32} : q_i (ru_rb v x) 2524 = q_i v 2524 + (x - q_i v 2512) := by
  unfold ru_rb
  rw [q_i_si, if_neg (by omega), q_i_si, if_neg (by omega), q_i_si, if_neg (by omega), q_i_si, if_neg (by omega), q_i_si, if_pos rfl]
set_option maxHeartbeats 200000 in
theorem q_i_ne {v : q_V} {k j : Nat} {x : Int32} (h : j ≠ k) : q_i (q_si v k x) j = q_i v j := by rw [q_i_si, if_neg h]
set_option maxHeartbeats 200000 in
theorem q_i_at {v : q_V} {k : Nat} {x : Int32} : q_i (q_si v k x) k = x := by rw [q_i_si, if_pos rfl]
set_option maxHeartbeats 200000 in
theorem rs_tellEnd {v : q_V} : fX12_tellEnd v = ru_tl (q_si (q_si (q_si (q_si v 2518 0) 2519 0) 2520 0) 2522 (-1)) := by
  unfold fX12_tellEnd ru_tl
  rw [q_lt_s, q_lt_s, q_lt_s, q_lt_s]
set_option maxHeartbeats 200000 in
theorem rs_b147 {v : q_V} {x1 x2 x3 x : Int32} : fX12_run_b147 x1 x2 x3 x v = q_bv (ru_tl (ru_rb v x)) (fun T => some (q_i T 2517, T)) := by
  unfold fX12_run_b147 ru_rb
  rw [q_lt_s, q_lt_s, rs_tellEnd, q_i_ne (k := 2523) (j := 2524) (by omega), q_i_ne (k := 2523) (j := 2512) (by omega)]
set_option maxHeartbeats 200000 in
theorem rs_b57a {v : q_V} {c : Int32} (h : q_i v 2513 = 0) (h4 : q_i v 2481 = 4) : fX12_tellEnd_b57 c v = some (q_si (q_si (q_si (q_si (q_si v 2521 c) 2517 3) 2519 (q_i v 2484)) 2520 (q_i v 2485)) 2522 (q_i v 2486)) := by
  have z : (0 : Int32) ≤ 0 := by decide
  have z4 : (4 : Int32) = 4 := rfl
  have k1 : q_i (q_si v 2521 c) 2513 = 0 := (q_i_ne (by omega)).trans h
  have k2 : q_i (q_si v 2521 c) 2481 = 4 := (q_i_ne (by omega)).trans h4
  have k3 : q_i (q_si (q_si v 2521 c) 2517 3) 2481 = 4 := (q_i_ne (by omega)).trans k2
  unfold fX12_tellEnd_b57
  rw [q_lt_s, k1, if_pos z, k2, if_pos z4]
  unfold fX12_tellEnd_b111 fX12_tellEnd_b169
  rw [q_lt_s, k3, if_pos z4, q_lt_s, q_lt_s, q_lt_s, q_i_ne (j := 2484) (by omega), q_i_ne (j := 2484) (by omega), q_i_ne (j := 2485) (by omega), q_i_ne (j := 2485) (by omega), q_i_ne (j := 2485) (by omega), q_i_ne (j := 2486) (by omega), q_i_ne (j := 2486) (by omega), q_i_ne (j := 2486) (by omega), q_i_ne (j := 2486) (by omega)]
set_option maxHeartbeats 200000 in
theorem rs_b57b {v : q_V} {c : Int32} (h : q_i v 2513 = 0) (h4 : q_i v 2481 = 3) : fX12_tellEnd_b57 c v = some (q_si (q_si (q_si v 2521 c) 2517 0) 2518 (q_i v 2483)) := by
  have z : (0 : Int32) ≤ 0 := by decide
  have z4 : ¬ (3 : Int32) = 4 := by decide
  have z3 : (3 : Int32) = 3 := rfl
  have k1 : q_i (q_si v 2521 c) 2513 = 0 := (q_i_ne (by omega)).trans h
  have k2 : q_i (q_si v 2521 c) 2481 = 3 := (q_i_ne (by omega)).trans h4
  have k3 : q_i (q_si (q_si v 2521 c) 2517 0) 2481 = 3 := (q_i_ne (by omega)).trans k2
  unfold fX12_tellEnd_b57
  rw [q_lt_s, k1, if_pos z, k2, if_neg z4]
  unfold fX12_tellEnd_b111 fX12_tellEnd_b166 fX12_tellEnd_b169
  rw [q_lt_s, k3, if_neg z4, if_pos z3, q_lt_s, q_i_ne (j := 2483) (by omega), q_i_ne (j := 2483) (by omega)]
set_option maxHeartbeats 200000 in
theorem rs_b57c {v : q_V} {c : Int32} (h : q_i v 2513 = 0) (h4 : q_i v 2481 = 0) : fX12_tellEnd_b57 c v = some (q_si (q_si (q_si v 2521 c) 2517 0) 2518 0) := by
  have z : (0 : Int32) ≤ 0 := by decide
  have z4 : ¬ (0 : Int32) = 4 := by decide
  have z3 : ¬ (0 : Int32) = 3 := by decide
  have k1 : q_i (q_si v 2521 c) 2513 = 0 := (q_i_ne (by omega)).trans h
  have k2 : q_i (q_si v 2521 c) 2481 = 0 := (q_i_ne (by omega)).trans h4
  have k3 : q_i (q_si (q_si v 2521 c) 2517 0) 2481 = 0 := (q_i_ne (by omega)).trans k2
  unfold fX12_tellEnd_b57
  rw [q_lt_s, k1, if_pos z, k2, if_neg z4]
  unfold fX12_tellEnd_b111 fX12_tellEnd_b166 fX12_tellEnd_b169
  rw [q_lt_s, k3, if_neg z4, if_neg z3, q_lt_s]
set_option maxHeartbeats 200000 in
theorem rs_end4 {v : q_V} {x1 x2 x3 x : Int32} (h : q_i v 2513 = 0) (h4 : q_i v 2481 = 4) : fX12_run_b147 x1 x2 x3 x v = some (3, q_si (q_si (q_si (q_si (q_si (ru_rb v x) 2521 4) 2517 3) 2519 (q_i v 2484)) 2520 (q_i v 2485)) 2522 (q_i v 2486)) := by
  have e13 : q_i (ru_rb v x) 2513 = 0 := (rb_i (by omega)).trans h
  have e81 : q_i (ru_rb v x) 2481 = 4 := (rb_i (by omega)).trans h4
  rw [rs_b147]
  unfold ru_tl
  rw [rs_b57a e13 e81, e13, if_pos (show (0 : Int32) ≤ 0 by decide), e81, if_pos (show (4 : Int32) = 4 from rfl), q_bv_s, rb_i (k := 2484) (by omega), rb_i (k := 2485) (by omega), rb_i (k := 2486) (by omega), q_i_ne (j := 2517) (by omega), q_i_ne (j := 2517) (by omega), q_i_ne (j := 2517) (by omega), q_i_at]
set_option maxHeartbeats 200000 in
theorem rs_end3 {v : q_V} {x1 x2 x3 x : Int32} (h : q_i v 2513 = 0) (h4 : q_i v 2481 = 3) : fX12_run_b147 x1 x2 x3 x v = some (0, q_si (q_si (q_si (ru_rb v x) 2521 2) 2517 0) 2518 (q_i v 2483)) := by
  have e13 : q_i (ru_rb v x) 2513 = 0 := (rb_i (by omega)).trans h
  have e81 : q_i (ru_rb v x) 2481 = 3 := (rb_i (by omega)).trans h4
  rw [rs_b147]
  unfold ru_tl
  rw [rs_b57b (c := 2) e13 e81, e13, if_pos (show (0 : Int32) ≤ 0 by decide), e81, if_neg (show ¬ (3 : Int32) = 4 by decide), if_pos (show (3 : Int32) = 3 from rfl), q_bv_s, rb_i (k := 2483) (by omega), q_i_ne (j := 2517) (by omega), q_i_at]
set_option maxHeartbeats 200000 in
theorem rs_end0 {v : q_V} {x1 x2 x3 x : Int32} (h : q_i v 2513 = 0) (h4 : q_i v 2481 = 0) : fX12_run_b147 x1 x2 x3 x v = some (0, q_si (q_si (q_si (ru_rb v x) 2521 1) 2517 0) 2518 0) := by
  have e13 : q_i (ru_rb v x) 2513 = 0 := (rb_i (by omega)).trans h
  have e81 : q_i (ru_rb v x) 2481 = 0 := (rb_i (by omega)).trans h4
  rw [rs_b147]
  unfold ru_tl
  rw [rs_b57c (c := 1) e13 e81, e13, if_pos (show (0 : Int32) ≤ 0 by decide), e81, if_neg (show ¬ (0 : Int32) = 4 by decide), if_neg (show ¬ (0 : Int32) = 3 by decide), q_bv_s, q_i_ne (j := 2517) (by omega), q_i_at]
set_option maxHeartbeats 200000 in
theorem rs_endO {v : q_V} {x1 x2 x3 x o : Int32} (ho : o = 1 ∨ o = 2) (h : q_i v 2513 = o) : fX12_run_b147 x1 x2 x3 x v = some (o, q_si (ru_dr (q_si (ru_rb v x) 2521 0)) 2517 o) := by
  have e13 : q_i (ru_rb v x) 2513 = o := (rb_i (by omega)).trans h
  have n : ¬ o ≤ 0 := by rcases ho with z | z <;> rw [z] <;> decide
  have e2 : q_i (q_si (ru_rb v x) 2521 0) 2513 = o := (q_i_ne (by omega)).trans e13
  rw [rs_b147]
  unfold ru_tl fX12_tellEnd_b57
  rw [e13, if_neg n, q_lt_s, e2, if_neg n, rs_drop, q_bv_s, e2, q_i_at]
/-- what is told is alike -/
def ru_told (vc vr : q_V) : Prop :=
  q_a vc 1400 0 = q_i vr 2517 ∧ q_a vc 1400 1 = q_i vr 2518 ∧ q_a vc 1400 2 = q_i vr 2519 ∧ q_a vc 1400 3 = q_i vr 2520 ∧ q_a vc 1400 4 = q_i vr 2522 ∧ q_a vc 1400 5 = q_i vr 2523 ∧ q_a vc 1400 18 = q_i vr 2521 ∧ q_a vc 1400 17 = q_i vr 2524 ∧
  (∀ k, 6 ≤ k → k ≤ 15 → q_a vc 1400 k = q_i vr (2465 + k)) ∧ q_a vc 1400 16 = q_i vr 2470 ∧ q_a vc 1401 = q_a vr 2468 ∧ q_a vc 1402 = q_a vr 2469 ∧ ¬ q_i vr 2470 < 0
/-- how the two stand behind a run -/
def ru_fin (T : co_T) (vc vr : q_V) : Prop := ru_S T vc vr ∧ ru_A vc vr ∧ (∀ k, k < 6 → q_a vc 203 k = 0) ∧ ru_told vc vr
set_option maxHeartbeats 200000 in
theorem ru_fin_mk {T : co_T} {vc vr X Y : q_V} (S : ru_S T vc vr) (A : ru_A vc vr) (Q : ru_Q vc vr) (h0 : ∀ k, k < 6 → q_a X 203 k = 0) (a1 : ∀ j, j ≠ 1400 → j ≠ 203 → q_a X j = q_a vc j) (a2 : q_a X 203 = q_a Y 2465) (i1 : q_i X 1 = q_i vc 1) (i3 : q_i X 3 = q_i vc 3) (n : q_n X = q_n vc) (b : ∀ j, j ≠ 2465 → q_a Y j = q_a vr j) (c : ∀ k, 6 ≤ k → k ≤ 16 → q_a X 1400 k = q_a vc 1400 k) (c' : ∀ k, 2470 ≤ k → k ≤ 2480 → q_i Y k = q_i vr k)
    (t0 : q_a X 1400 0 = q_i Y 2517) (t1 : q_a X 1400 1 = q_i Y 2518) (t2 : q_a X 1400 2 = q_i Y 2519) (t3 : q_a X 1400 3 = q_i Y 2520) (t4 : q_a X 1400 4 = q_i Y 2522) (t5 : q_a X 1400 5 = q_i Y 2523) (t18 : q_a X 1400 18 = q_i Y 2521) (t17 : q_a X 1400 17 = q_i Y 2524) : ru_fin T X Y := by
  obtain ⟨h1, h2, h3, h4, h5, h6, h7, h8, h9, h10, h11, h12, h13, h14, h15, h16⟩ := Q
  obtain ⟨e1, e2, e3, e4, e5, e6, e7, e8, e9⟩ := A
  refine ⟨ru_S_e2 S (a1 0 (by omega) (by omega)) (a1 2 (by omega) (by omega)) i1 i3 n (fun j z1 z2 => b j (by omega)), ⟨?_, ?_, ?_, a2, ?_, ?_, ?_, ?_, ?_⟩, h0, t0, t1, t2, t3, t4, t5, t18, t17, ?_, ?_, ?_, ?_, ?_⟩
  · rw [a1 200 (by omega) (by omega), b 2463 (by omega)]; exact e1
  · rw [a1 201 (by omega) (by omega), b 2466 (by omega)]; exact e2
  · rw [a1 202 (by omega) (by omega), b 2464 (by omega)]; exact e3
  · rw [a1 204 (by omega) (by omega), b 2467 (by omega)]; exact e5
  · rw [a1 202 (by omega) (by omega)]; exact e6
  · rw [a1 200 (by omega) (by omega)]; exact e7
  · rw [a1 201 (by omega) (by omega)]; exact e8
  · rw [a1 204 (by omega) (by omega)]; exact e9
  · intro k k1 k2
    rw [c k (by omega) (by omega), c' (2465 + k) (by omega) (by omega)]
    rcases (show k = 6 ∨ k = 7 ∨ k = 8 ∨ k = 9 ∨ k = 10 ∨ k = 11 ∨ k = 12 ∨ k = 13 ∨ k = 14 ∨ k = 15 by omega) with z | z | z | z | z | z | z | z | z | z <;> rw [z] <;> assumption
  · rw [c 16 (by omega) (by omega), c' 2470 (by omega) (by omega)]; exact h11
  · rw [a1 1401 (by omega) (by omega), b 2468 (by omega)]; exact h13
  · rw [a1 1402 (by omega) (by omega), b 2469 (by omega)]; exact h14
  · rw [c' 2470 (by omega) (by omega)]; exact h15
