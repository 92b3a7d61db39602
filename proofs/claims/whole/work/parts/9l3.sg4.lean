section
variable {g : rd_G} {l : Nat} {v w : q_V} {f p : Int32}
set_option maxHeartbeats 200000 in
/-- the reference's patching at a fault -/
theorem y_patL {x1 x2 y : Int32} {q Bd : Nat} (hq : q ≤ Bd) (hB : Bd < 4000) : ∀ t m N w, xr g f p Bd w → q_i w 2417 = nI q → m < 2147483648 → q - m = t → t < N → rG g f p Bd (fX12_list_L60 x1 x2 N y (nI m) w) := by
  intro t
  induction t with
  | zero =>
    intro m N w h e hm2 hm hN
    obtain ⟨N, rfl⟩ : ∃ N', N = N' + 1 := ⟨N - 1, by omega⟩
    rw [fX12_list_L60, e, if_pos (ni_ple (by omega) (by omega))]
    exact rG_s h
  | succ t ih =>
    intro m N w h e hm2 hm hN
    obtain ⟨N, rfl⟩ : ∃ N', N = N' + 1 := ⟨N - 1, by omega⟩
    have hin : ¬ (nI m < 0 ∨ 4000 ≤ (nI m).toNatClampNeg) := ni_nin (by omega) (by omega)
    have s91 : rG g f p Bd (fX12_list_b91 x1 x2 y (nI m) (fun a b S => fX12_list_L60 x1 x2 N a b S) w) := by
      unfold fX12_list_b91 fX12_list_b113
      rw [if_neg hin, if_neg hin, q_lt_s, q_lt_s, ni_add1, q_lt_s]
      exact rG_i (fun _ => ih (m + 1) N _ (xr_a h (by omega)) (by rw [q_i_sa]; exact e) (by omega) (by omega) (by omega)) (fun _ => ih (m + 1) N _ h e (by omega) (by omega) (by omega))
    rw [fX12_list_L60, e, if_neg (ni_nle (by omega) (by omega)), if_neg hin]
    refine rG_i (fun _ => s91) (fun _ => ?_)
    rw [if_neg hin]
    refine rG_i (fun _ => s91) (fun _ => ?_)
    unfold fX12_list_b113
    rw [q_lt_s, ni_add1]
    exact ih (m + 1) N _ h e (by omega) (by omega) (by omega)
set_option maxHeartbeats 200000 in
theorem y_l47 {x1 x2 : Int32} {m Bd : Nat} (hm : m < 4000) (hB : Bd + 1 < 4000) (h : xr g f p Bd w) : rG g f p (Bd + 1) (fX12_list_b47 x1 x2 (nI m) w) := by
  unfold fX12_list_b47
  refine rG_d (y_emit (by omega) h) (fun a w h => ?_)
  obtain ⟨q, h1, h2⟩ := h.2.2.2.2
  exact y_patL h1 hB (q - m) m q_N w h h2 (by omega) rfl (by unfold q_N; omega)
set_option maxHeartbeats 200000 in
theorem y_lL {x1 x2 : Int32} {m Bd N : Nat} (hm : m < 4000) (hB : Bd + 2 < 4000) (h : xr g f p Bd w) : rG g f p (Bd + 2) (fX12_list_L25 x1 x2 (N + 1) (nI m) w) := by
  rw [fX12_list_L25]
  refine rG_v (y_E h) (fun w h => rG_d (y_emit (by omega) h) (fun a w h => ?_))
  obtain ⟨w1, e1, h1⟩ := y_skip (x := 144) h
  rw [e1, q_bd_s, if_pos rfl]
  exact y_l47 hm hB h1
end
