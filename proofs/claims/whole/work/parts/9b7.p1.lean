/-! what the composed changes leave alone -/
set_option maxHeartbeats 200000 in
theorem op_i {v : q_V} {t g : Nat} {s st e : Int32} : q_i (ru_op v t g s st e) = q_i v := rfl
set_option maxHeartbeats 200000 in
theorem op_b {v : q_V} {t g : Nat} {s st e : Int32} : q_b (ru_op v t g s st e) = q_b v := rfl
set_option maxHeartbeats 200000 in
theorem op_a {v : q_V} {t g j : Nat} {s st e : Int32} (h : j < 2488 ∨ 2492 < j) : q_a (ru_op v t g s st e) j = q_a v j := by
  unfold ru_op
  rw [q_a_sa, if_neg (by omega), q_a_sa, if_neg (by omega), q_a_sa, if_neg (by omega), q_a_sa, if_neg (by omega), q_a_sa, if_neg (by omega)]
set_option maxHeartbeats 200000 in
theorem nt_a {v : q_V} {s n : Int32} {j : Nat} (h : 2469 < j) : q_a (ru_nt v s n) j = q_a v j := by
  unfold ru_nt; rw [q_a_si, q_a_sa, if_neg (by omega), q_a_sa, if_neg (by omega)]
set_option maxHeartbeats 200000 in
theorem nt_i {v : q_V} {s n : Int32} {k : Nat} (h : k ≠ 2470) : q_i (ru_nt v s n) k = q_i v k := by
  unfold ru_nt; rw [q_i_si, if_neg h]; rfl
set_option maxHeartbeats 200000 in
theorem nt_b {v : q_V} {s n : Int32} : q_b (ru_nt v s n) = q_b v := rfl
set_option maxHeartbeats 200000 in
theorem on_a {b : Bool} {v : q_V} {s n : Int32} {j : Nat} (h : 2469 < j) : q_a (ru_on b v s n) j = q_a v j := by
  cases b
  · rfl
  · exact nt_a h
set_option maxHeartbeats 200000 in
theorem on_b {b : Bool} {v : q_V} {s n : Int32} : q_b (ru_on b v s n) = q_b v := by cases b <;> rfl
set_option maxHeartbeats 200000 in
theorem on_i {b : Bool} {v : q_V} {s n : Int32} {k : Nat} (h : k ≠ 2470) : q_i (ru_on b v s n) k = q_i v k := by
  cases b
  · rfl
  · exact nt_i h
set_option maxHeartbeats 200000 in
theorem hr_i {v : q_V} {m : Nat} {x : Int32} : q_i (ru_hr v m x) = q_i v := rfl
set_option maxHeartbeats 200000 in
theorem hr_b {v : q_V} {m : Nat} {x : Int32} : q_b (ru_hr v m x) = q_b v := rfl
set_option maxHeartbeats 200000 in
theorem hr_a {v : q_V} {m j : Nat} {x : Int32} (h : j ≠ 2465) : q_a (ru_hr v m x) j = q_a v j := by unfold ru_hr; rw [q_a_sa, if_neg h]
set_option maxHeartbeats 200000 in
theorem hr_at {v : q_V} {m : Nat} {x : Int32} : q_a (ru_hr v m x) 2465 m = q_a v 2465 m + x := by unfold ru_hr; rw [q_a_sa, if_pos rfl, upd_at]
set_option maxHeartbeats 200000 in
theorem hc_i {v : q_V} {m : Nat} {x : Int32} : q_i (ru_hc v m x) = q_i v := rfl
set_option maxHeartbeats 200000 in
theorem hc_f {v : q_V} {m : Nat} {x : Int32} : q_f (ru_hc v m x) = q_f v := rfl
set_option maxHeartbeats 200000 in
theorem hc_at {v : q_V} {m : Nat} {x : Int32} : q_a (ru_hc v m x) 203 m = q_a v 203 m + x := by unfold ru_hc; rw [q_a_sa, if_pos rfl, upd_at]
set_option maxHeartbeats 200000 in
theorem ct_i {v : q_V} {k : Nat} : q_i (ru_ct v k) = q_i v := rfl
set_option maxHeartbeats 200000 in
theorem ct_f {v : q_V} {k : Nat} : q_f (ru_ct v k) = q_f v := rfl
set_option maxHeartbeats 200000 in
theorem ct_a {v : q_V} {k j : Nat} (h : j ≠ 1400) : q_a (ru_ct v k) j = q_a v j := by unfold ru_ct; rw [q_a_sa, if_neg h]
set_option maxHeartbeats 200000 in
theorem wr_f {v : q_V} {s n : Int32} : q_f (ru_wr v s n) = q_f v := rfl
set_option maxHeartbeats 200000 in
theorem wr_i {v : q_V} {s n : Int32} : q_i (ru_wr v s n) = q_i v := rfl
set_option maxHeartbeats 200000 in
theorem wr_a {v : q_V} {s n : Int32} {j : Nat} (h : j < 1400) : q_a (ru_wr v s n) j = q_a v j := by
  unfold ru_wr; rw [q_a_sa, if_neg (by omega), q_a_sa, if_neg (by omega), q_a_sa, if_neg (by omega)]
set_option maxHeartbeats 200000 in
theorem ow_f {b : Bool} {v : q_V} {s n : Int32} : q_f (ru_ow b v s n) = q_f v := by cases b <;> rfl
set_option maxHeartbeats 200000 in
theorem ow_i {b : Bool} {v : q_V} {s n : Int32} : q_i (ru_ow b v s n) = q_i v := by cases b <;> rfl
set_option maxHeartbeats 200000 in
theorem ow_a {b : Bool} {v : q_V} {s n : Int32} {j : Nat} (h : j < 1400) : q_a (ru_ow b v s n) j = q_a v j := by
  cases b
  · rfl
  · exact wr_a h
set_option maxHeartbeats 200000 in
theorem bg_i {v : q_V} {np h : Nat} {x y : Int32} : q_i (ru_bg v np h x y) = q_i v := rfl
set_option maxHeartbeats 200000 in
theorem bg_a {v : q_V} {np h : Nat} {x y : Int32} : q_a (ru_bg v np h x y) = q_a v := rfl
set_option maxHeartbeats 200000 in
theorem bg_f {v : q_V} {np h k n : Nat} {x y : Int32} (hk : n ≠ np ∨ k < 1200 ∨ 1207 < k) : q_f (ru_bg v np h x y) k n = q_f v k n := by
  unfold ru_bg
  rw [q_f_sf, if_neg (by omega), q_f_sf, if_neg (by omega), q_f_sf, if_neg (by omega), q_f_sf, if_neg (by omega), q_f_sf, if_neg (by omega)]
set_option maxHeartbeats 200000 in
theorem mC_hc {v : q_V} {m : Nat} {x : Int32} {p h f np cl : Nat} : ru_hc (mC v p h f np cl) m x = mC (ru_hc v m x) p h f np cl := rfl
set_option maxHeartbeats 200000 in
theorem mR_hr {v : q_V} {m : Nat} {x : Int32} {q g f t cl : Nat} : ru_hr (mR v q g f t cl) m x = mR (ru_hr v m x) q g f t cl := rfl
set_option maxHeartbeats 200000 in
/-- what waits depends on nothing else -/
theorem ru_w_e {v v1 : q_V} {p h f np p1 h1 f1 np1 cl : Nat} (e : ∀ i, q_f v1 602 i = q_f v 602 i) : ru_w (mC v1 p1 h1 f1 np1 cl) = ru_w (mC v p h f np cl) := by
  unfold ru_w
  rw [mC_805, mC_805, mC_f, mC_f, e]
section
variable {Fin : q_V → q_V → Prop} {a : ru_P} {T : co_T} {XL : Int32 → Int32 → Int32 → Prop} {f0 nu : Nat} {L : List (Nat × Nat)}
set_option maxHeartbeats 200000 in
theorem ru_D_t0 {cl t np : Nat} {vc vr : q_V} (d : ru_D T XL cl (t + 1) np vc vr) (e : q_a vr 2491 t = 0) : ru_D T XL cl t np vc vr :=
  ⟨d.1, d.2.1, d.2.2.1, d.2.2.2.1, ⟨trivial, d.2.2.2.2.1.2.1.trans (by rw [ru_z_s, e, if_pos (by decide)]), d.2.2.2.2.1.2.2⟩, d.2.2.2.2.2⟩
set_option maxHeartbeats 200000 in
theorem cs_leave_x {v : q_V} {p h f np cl pe p'' : Nat} (pp : q_f v 2000 168 = 1 → p'' = pe) : fX4_leave np (nI p'') (mC v p h f (np + 1) cl) = fX4_leave np (nI pe) (mC v p h f (np + 1) cl) := by
  by_cases c : q_f v 2000 168 = 1
  · rw [pp c]
  · rw [cs_leave2 c, cs_leave2 c]
set_option maxHeartbeats 200000 in
theorem ru_bd_up {f f1 h h1 g g1 np t cl : Nat} (bd : ru_bd nu f f0 h g np t cl) (hn : nu + 1 ≤ 14) (hf : f1 ≤ f) (hh : h1 ≤ h + 2) (hg : g1 ≤ h1) : ru_bd (nu + 1) f1 f0 h1 g1 (np + 1) (t + 1) cl := by
  obtain ⟨b1, b2, b3, b4, b5, b6, b7, b8, b9, b10⟩ := bd
  exact ⟨by omega, b2, by omega, hn, by omega, hg, by omega, by omega, b9, b10⟩
set_option maxHeartbeats 200000 in
theorem ru_we_i {v w v1 w1 : q_V} (we : ru_we L v w) (h1 : ∀ k, 2000 ≤ k → k ≤ 2003 → q_f v1 k 168 = q_f v k 168) (h2 : ∀ k, 2481 ≤ k → k ≤ 2486 → q_i w1 k = q_i w k) : ru_we L v1 w1 := by
  unfold ru_we ru_wl at we ⊢
  rw [h1 2000 (by omega) (by omega), h1 2001 (by omega) (by omega), h1 2002 (by omega) (by omega), h1 2003 (by omega) (by omega), h2 2481 (by omega) (by omega), h2 2482 (by omega) (by omega), h2 2483 (by omega) (by omega), h2 2484 (by omega) (by omega), h2 2485 (by omega) (by omega), h2 2486 (by omega) (by omega)]
  exact we
end
