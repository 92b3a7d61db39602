section
variable {g : rd_G} {l : Nat} {v w : q_V} {f p : Int32}
set_option maxHeartbeats 200000 in
/-- a chain at a fault -/
theorem x_chL {x1 y : Int32} (ok : rd_ok g) : ∀ t m N x v, xc g f p l v → m + t = 2 * gL g + 16 → t < N → cG g f p l (vu (fX0_setChain_L5 x1 y N x (nI m) v)) := by
  have hL := ok.1
  intro t
  induction t with
  | zero =>
    intro m N x v h hm hN
    obtain ⟨N, rfl⟩ : ∃ N', N = N' + 1 := ⟨N - 1, by omega⟩
    have hn := rd_n0 ok h.1
    rw [fX0_setChain_L5, hn, if_pos (ni_ple (by omega) (by omega))]
    exact cG_s h
  | succ t ih =>
    intro m N x v h hm hN
    obtain ⟨N, rfl⟩ : ∃ N', N = N' + 1 := ⟨N - 1, by omega⟩
    have hn := rd_n0 ok h.1
    rw [fX0_setChain_L5, hn, if_neg (ni_nle (by omega) (by omega))]
    by_cases c0 : x ≤ 0
    · rw [if_pos c0]; exact cG_s h
    · rw [if_neg c0]
      by_cases c1 : nI (2 * gL g + 16) ≤ x
      · rw [if_pos c1]; exact cG_s h
      · have hin := x_nk (m := 2 * gL g + 16) (by omega) (fun z => c0 (Int32.le_of_lt z)) c1
        rw [if_neg c1, if_neg hin, q_lt_s, if_neg hin, q_lt_s, q_lt_s, ni_add1]
        exact ih (m + 1) N _ _ (xc_a h (by omega)) (by omega) (by omega)
set_option maxHeartbeats 200000 in
theorem x_chain {x y : Int32} (ok : rd_ok g) (h : xc g f p l v) : cG g f p l (vu (fX0_setChain x y v)) := by
  have hL := ok.1
  exact x_chL ok (2 * gL g + 16) 0 q_N x v h (by omega) (by unfold q_N; omega)
set_option maxHeartbeats 200000 in
/-- a list at a fault -/
theorem x_l65 {x1 x2 x3 : Int32} (ok : rd_ok g) (h : xc g f p l v) : cG g f p l (fX8_list_b65 x1 x2 x3 v) := by
  unfold fX8_list_b65
  exact cG_d (x_add2 ok h) (fun a v h => cG_v (x_chain ok h) (fun v h => cG_s h))
set_option maxHeartbeats 200000 in
theorem x_lL {x1 x2 x3 x4 : Int32} {N : Nat} (ok : rd_ok g) (h : xc g f p l v) : cG g f p l (fX8_list_L7 x1 (N + 1) x2 x3 x4 v) := by
  rw [fX8_list_L7]
  refine cG_i (fun _ => x_l65 ok h) (fun _ => cG_d (x_E h) (fun a v h => ?_))
  rw [q_lt_s]
  refine cG_d (x_add2 ok h) (fun a v h => ?_)
  rw [q_lt_s, if_neg (by rw [h.2.1]; decide)]
  exact x_l65 ok h
end
