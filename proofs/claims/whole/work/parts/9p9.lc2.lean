/-- reading an empty tape -/
def s9 (v : q_V) : q_V := q_si (q_si (q_si (q_si (q_si (q_si (q_si (q_si v 1802 0) 1803 0) 1804 0) 1809 0) 1810 (-1)) 1805 261) 1806 0) 1805 261
def s5 (v : q_V) : q_V := q_si (q_si (q_si v 1002 0) 1011 0) 1012 (-1)
def s0 (v : q_V) : q_V := q_si (q_si (q_si (q_si (q_si (s9 (s9 (s5 v))) 1809 2) 1810 0) 1805 263) 1805 263) 1805 263
/-- a view with other lengths -/
def nn (v : q_V) (f : Nat → Nat) : q_V := (q_i v, q_j v, q_a v, q_b v, q_f v, q_c v, f)
section
variable {v w v' w' vc vr vc' vr' vD vO : q_V}
set_option maxHeartbeats 200000 in
theorem qN_s : ∃ n, q_N = n + 1 := ⟨q_N - 1, by unfold q_N; omega⟩
set_option maxHeartbeats 200000 in
theorem s9_e : fX9_start 0 v = some (s9 v) := by
  obtain ⟨n, hn⟩ := qN_s
  unfold fX9_start fX9_advance fX9_passBlanks fX9_byteAt fX9_byteAt_b30 fX9_byteAt_b31 fX9_advance_b86
  simp only [q_lt_s]
  rw [if_neg (show ¬ (3000 : Int32) < 0 by decide), if_neg (by rw [q_i_si, if_pos rfl]; decide), hn, fX9_passBlanks_L2, if_pos (show q_i (q_si (q_si (q_si (q_si (q_si (q_si v 1802 0) 1803 0) 1804 0) 1809 0) 1810 (-1)) 1805 261) 1802 ≤ q_i (q_si (q_si (q_si (q_si (q_si (q_si v 1802 0) 1803 0) 1804 0) 1809 0) 1810 (-1)) 1805 261) 1803 from (by decide : (0 : Int32) ≤ 0)), q_bv_s]
  rfl
set_option maxHeartbeats 200000 in
theorem s0_e : fX8_readTextR 0 v = some (s0 v) := by
  obtain ⟨n, hn⟩ := qN_s
  have e1 : fX5_clear v = some (s5 v) := rfl
  have e2 : fX8_collectDuties (s9 (s5 v)) = some (s9 (s5 v)) := by
    unfold fX8_collectDuties
    rw [hn, fX8_collectDuties_L2, if_neg (by decide), if_pos (show q_i (s9 (s5 v)) 1805 = 261 from rfl)]; rfl
  have e3 : fX8_readDuty 0 (s9 (s9 (s5 v))) = some (q_si (q_si (q_si (q_si (s9 (s9 (s5 v))) 1809 2) 1810 0) 1805 263) 1805 263) := by
    unfold fX8_readDuty
    have r1 : fX9_expect 300 (s9 (s9 (s5 v))) = some (q_si (q_si (q_si (s9 (s9 (s5 v))) 1809 2) 1810 0) 1805 263) := by
      unfold fX9_expect fX9_refuse fX9_refuse_b16 fX9_stopWith
      rw [if_neg (show ¬ q_i (s9 (s9 (s5 v))) 1805 = 300 from (by decide : ¬ (261 : Int32) = 300)), if_neg (show ¬ q_i (s9 (s9 (s5 v))) 1805 = 262 from (by decide : ¬ (261 : Int32) = 262)), if_pos (show q_i (s9 (s9 (s5 v))) 1809 = 0 from rfl)]; rfl
    have r2 : ∀ u, q_i u 1805 = 263 → ¬ q_i u 1809 = 0 → fX9_expect 259 u = some (q_si u 1805 263) := fun u u1 u2 => by
      unfold fX9_expect fX9_refuse fX9_refuse_b16 fX9_stopWith
      rw [u1, if_neg (by decide), if_neg (by decide), if_neg u2]; rfl
    rw [r1, q_bv_s, q_lt_s, q_lt_s, r2 (q_si (q_si (q_si (s9 (s9 (s5 v))) 1809 2) 1810 0) 1805 263) rfl (show ¬ q_i (q_si (q_si (q_si (s9 (s9 (s5 v))) 1809 2) 1810 0) 1805 263) 1809 = 0 from (by decide : ¬ (2 : Int32) = 0)), q_bv_s]
    unfold fX9_isStopped
    rw [if_pos (show q_i (q_si (q_si (q_si (q_si (s9 (s9 (s5 v))) 1809 2) 1810 0) 1805 263) 1805 263) 1805 = 263 from rfl)]
    unfold fX9_isStopped_b15
    rw [if_neg (by decide), q_bd_s, if_neg (by decide)]
  unfold fX8_readTextR
  rw [e1, q_bv_s, s9_e, q_bv_s, e2, q_bv_s, s9_e, q_bv_s, e3, q_bv_s, hn, fX8_readText_L47, if_neg (by decide)]
  rw [if_neg (show ¬ q_i (q_si (q_si (q_si (q_si (s9 (s9 (s5 v))) 1809 2) 1810 0) 1805 263) 1805 263) 1805 = 300 from (by decide : ¬ (263 : Int32) = 300))]
  unfold fX8_readText_b78
  rw [if_neg (show ¬ q_i (q_si (q_si (q_si (q_si (s9 (s9 (s5 v))) 1809 2) 1810 0) 1805 263) 1805 263) 1805 = 261 from (by decide : ¬ (263 : Int32) = 261))]
  unfold fX9_refuse fX9_refuse_b16 fX9_stopWith
  rw [if_neg (show ¬ q_i (q_si (q_si (q_si (q_si (s9 (s9 (s5 v))) 1809 2) 1810 0) 1805 263) 1805 263) 1805 = 262 from (by decide : ¬ (263 : Int32) = 262))]
  rw [if_neg (show ¬ q_i (q_si (q_si (q_si (q_si (s9 (s9 (s5 v))) 1809 2) 1810 0) 1805 263) 1805 263) 1809 = 0 from (by decide : ¬ (2 : Int32) = 0))]
  rfl
set_option maxHeartbeats 200000 in
theorem nn_si {f : Nat → Nat} {k : Nat} {x : Int32} : q_si (nn v f) k x = nn (q_si v k x) f := id rfl
set_option maxHeartbeats 200000 in
theorem rdk_nn {f : Nat → Nat} (h : rdk (nn v f) (nn w f)) (e : q_n w = q_n v) : rdk v w := ⟨h.1, h.2.1, h.2.2.1, h.2.2.2.1, h.2.2.2.2.1, e⟩
set_option maxHeartbeats 200000 in
theorem n_s0 : q_n (s0 v) = q_n v := by
  unfold s0 s9 s5
  simp only [q_n_si]
set_option maxHeartbeats 200000 in
theorem nn_s0 {f : Nat → Nat} : s0 (nn v f) = nn (s0 v) f := by
  unfold s0 s9 s5
  simp only [nn_si]
set_option maxHeartbeats 200000 in
theorem nn_i {f : Nat → Nat} : q_i (nn v f) = q_i v := id rfl
set_option maxHeartbeats 200000 in
theorem nn_a {f : Nat → Nat} : q_a (nn v f) = q_a v := id rfl
set_option maxHeartbeats 200000 in
theorem nn_b {f : Nat → Nat} : q_b (nn v f) = q_b v := id rfl
set_option maxHeartbeats 200000 in
theorem s0_9 : q_i (s0 v) 1809 = 2 := rfl
set_option maxHeartbeats 200000 in
theorem s0_10 : q_i (s0 v) 1810 = 0 := rfl
set_option maxHeartbeats 200000 in
theorem fk_2 (h : q_i v 1809 = 2) : fX8_faultKind v = some (2, v) := by
  unfold fX8_faultKind fX8_faultKind_b27
  rw [h, if_neg (by decide)]
set_option maxHeartbeats 200000 in
theorem fp_0 (h : q_i v 1809 = 2) (h' : q_i v 1810 = 0) : fX8_faultPlace v = some (0, v) := by
  unfold fX8_faultPlace fX8_faultPlace_b27
  rw [h, h', if_neg (by decide)]
set_option maxHeartbeats 200000 in
theorem s0_n {f : Nat → Nat} : fX8_readTextR (nI 0) (nn v f) = some (nn (s0 v) f) := by
  rw [← nn_s0]; exact s0_e
set_option maxHeartbeats 200000 in
/-- READ of an empty tape on one view: the new book has no room at all -/
theorem h_read0 (h : LR v v) (hL : q_i v 2206 = 0) (d1 : ∀ k, uQ k → q_a vD k = q_a v k ∧ q_b vD k = q_b v k) (d2 : q_i vD 1 = 0 ∧ q_i vD 3 = 0) :
    ∃ v1 o pl, fX8_readTextR 0 vD = some v1 ∧ fX8_faultKind v1 = some (o, v1) ∧ fX8_faultPlace v1 = some (pl, v1) ∧ rdk vD v1 ∧ o ≠ 0 ∧ ∀ vO, LU v vO → (q_i vO 2206 = 0 ∧ q_i vO 2207 = o ∧ q_i vO 2208 = pl) → (∀ k, uQ k → q_a vO k = q_a v1 k ∧ q_b vO k = q_b v1 k) → BU v vO → ∃ v2, fX12_read vO = some (o, v2) ∧ LR v2 v2 := by
  obtain ⟨v1, o, pl, a1, a2, a3, a4, a5⟩ := h_read (vD := nn vD (fun k => if k = 0 then 16 else 150)) (L := 0) h hL (by omega) d1 ⟨d2.1, d2.2, rfl, rfl⟩
  have e1 : v1 = nn (s0 vD) (fun k => if k = 0 then 16 else 150) := by
    have := s0_n (v := vD) (f := fun k => if k = 0 then 16 else 150)
    rw [a1] at this
    exact Option.some.inj this
  have k1 : fX8_faultKind (s0 vD) = some (2, s0 vD) := fk_2 s0_9
  have k2 : fX8_faultPlace (s0 vD) = some (0, s0 vD) := fp_0 s0_9 s0_10
  have k1' : fX8_faultKind v1 = some (2, v1) := fk_2 (by rw [e1, nn_i]; exact s0_9)
  have k2' : fX8_faultPlace v1 = some (0, v1) := fp_0 (by rw [e1, nn_i]; exact s0_9) (by rw [e1, nn_i]; exact s0_10)
  have eo : o = 2 := by rw [a2] at k1'; injection k1' with z; exact congrArg Prod.fst z
  have ep : pl = 0 := by rw [a3] at k2'; injection k2' with z; exact congrArg Prod.fst z
  subst eo; subst ep
  refine ⟨s0 vD, 2, 0, s0_e, k1, k2, ?_, by decide, fun vO o1 o2 o3 o4 => a5 vO o1 o2 (fun k hk => ?_) (fun z => absurd z (by decide)) (fun _ => o4)⟩
  · rw [e1] at a4; exact rdk_nn a4 n_s0
  · rw [e1, nn_a, nn_b]; exact o3 k hk
end
