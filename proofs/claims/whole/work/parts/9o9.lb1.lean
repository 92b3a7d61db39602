/-- how class and reference stand between calls -/
def LR (vc vr : q_V) : Prop := (∃ L, L ≤ 3000 ∧ q_i vc 2206 = nI L ∧ q_i vr 2402 = nI L ∧ ∀ j, j < L → q_a vc 2200 j = q_a vr 2401 j ∧ ∃ b, b < 128 ∧ q_a vc 2200 j = nI b) ∧ (q_i vc 2207 = q_i vr 2408 ∧ q_i vc 2208 = q_i vr 2409) ∧ (ru_A vc vr ∧ ∀ k, k < 6 → q_a vc 203 k = 0) ∧ ru_told vc vr ∧ ((∀ j, j < 40 → q_b vc 1801 j = kw_c j) ∧ ∀ j, j < 40 → q_b vr 2403 (tk_x j) = kw_c j) ∧ ((q_i vc 3 ≤ 0 ∧ q_i vr 2447 = 0) ∨ ∃ T XL, bk T XL vc vr)
section
variable {vc vr vc' vr' v w : q_V}
set_option maxHeartbeats 200000 in
theorem bk_c {T : co_T} {XL : Int32 → Int32 → Int32 → Prop} (h : bk T XL vc vr) (hi : ∀ k, k < 4 → q_i vc' k = q_i vc k) (ha : ∀ k, k < 4 → q_a vc' k = q_a vc k) (hn : q_n vc' = q_n vc) : bk T XL vc' vr := by
  unfold bk ru_S ru_B at h ⊢
  rw [ha 0 (by omega), hi 1 (by omega), hn, hi 3 (by omega), ha 2 (by omega)]; exact h
set_option maxHeartbeats 200000 in
theorem bk_r {T : co_T} {XL : Int32 → Int32 → Int32 → Prop} (h : bk T XL vc vr) (hi : ∀ k, 2447 ≤ k → k ≤ 2462 → q_i vr' k = q_i vr k) (ha : ∀ k, 2447 ≤ k → k ≤ 2462 → q_a vr' k = q_a vr k) : bk T XL vc vr' := by
  unfold bk ru_S at h ⊢
  rw [ha 2448 (by omega) (by omega), ha 2449 (by omega) (by omega), ha 2450 (by omega) (by omega), ha 2451 (by omega) (by omega), ha 2452 (by omega) (by omega), ha 2453 (by omega) (by omega), ha 2454 (by omega) (by omega), ha 2455 (by omega) (by omega), ha 2456 (by omega) (by omega), ha 2457 (by omega) (by omega), ha 2458 (by omega) (by omega), ha 2459 (by omega) (by omega), ha 2460 (by omega) (by omega), ha 2461 (by omega) (by omega), hi 2462 (by omega) (by omega), hi 2447 (by omega) (by omega)]; exact h
set_option maxHeartbeats 200000 in
theorem LR_c (h : LR vc vr) (hi : ∀ k, k < 2400 → q_i vc' k = q_i vc k) (ha : ∀ k, k < 2400 → q_a vc' k = q_a vc k) (hb : ∀ k, k < 2400 → q_b vc' k = q_b vc k) (hn : q_n vc' = q_n vc) : LR vc' vr := by
  obtain ⟨h1, h2, h3, h4, h5, h6⟩ := h
  refine ⟨?_, ?_, ?_, ?_, ?_, ?_⟩
  · rw [hi 2206 (by omega), ha 2200 (by omega)]; exact h1
  · rw [hi 2207 (by omega), hi 2208 (by omega)]; exact h2
  · unfold ru_A at h3 ⊢
    rw [ha 200 (by omega), ha 201 (by omega), ha 202 (by omega), ha 203 (by omega), ha 204 (by omega)]; exact h3
  · unfold ru_told at h4 ⊢
    rw [ha 1400 (by omega), ha 1401 (by omega), ha 1402 (by omega)]; exact h4
  · rw [hb 1801 (by omega)]; exact h5
  · rw [hi 3 (by omega)]
    rcases h6 with h6 | ⟨T, XL, h6⟩
    · exact Or.inl h6
    · exact Or.inr ⟨T, XL, bk_c h6 (fun k hk => hi k (by omega)) (fun k hk => ha k (by omega)) hn⟩
set_option maxHeartbeats 200000 in
theorem LR_r (h : LR vc vr) (hi : ∀ k, 2400 < k → q_i vr' k = q_i vr k) (ha : ∀ k, 2400 < k → q_a vr' k = q_a vr k) (hb : ∀ k, 2400 < k → q_b vr' k = q_b vr k) : LR vc vr' := by
  obtain ⟨h1, h2, h3, h4, h5, h6⟩ := h
  refine ⟨?_, ?_, ?_, ?_, ?_, ?_⟩
  · rw [hi 2402 (by omega), ha 2401 (by omega)]; exact h1
  · rw [hi 2408 (by omega), hi 2409 (by omega)]; exact h2
  · unfold ru_A at h3 ⊢
    rw [ha 2463 (by omega), ha 2464 (by omega), ha 2465 (by omega), ha 2466 (by omega), ha 2467 (by omega)]; exact h3
  · unfold ru_told at h4 ⊢
    obtain ⟨t0, t1, t2, t3, t4, t5, t6, t7, t8, t9, t10, t11, t12⟩ := h4
    rw [hi 2517 (by omega), hi 2518 (by omega), hi 2519 (by omega), hi 2520 (by omega), hi 2522 (by omega), hi 2523 (by omega), hi 2521 (by omega), hi 2524 (by omega), hi 2470 (by omega), ha 2468 (by omega), ha 2469 (by omega)]
    exact ⟨t0, t1, t2, t3, t4, t5, t6, t7, fun k k1 k2 => by rw [hi (2465 + k) (by omega)]; exact t8 k k1 k2, t9, t10, t11, t12⟩
  · rw [hb 2403 (by omega)]; exact h5
  · rw [hi 2447 (by omega)]
    rcases h6 with h6 | ⟨T, XL, h6⟩
    · exact Or.inl h6
    · exact Or.inr ⟨T, XL, bk_r h6 (fun k h1 h2 => hi k (by omega)) (fun k h1 h2 => ha k (by omega))⟩
set_option maxHeartbeats 200000 in
theorem LR_0 {x : Int32} (h : LR vc vr) : LR vc (q_si vr 2400 x) := LR_r h (fun k hk => by rw [q_i_ne (by omega)]) (fun _ _ => rfl) (fun _ _ => rfl)
set_option maxHeartbeats 200000 in
/-- the reference's run leaves alone -/
theorem l_L82 {v0 : q_V} {N : Nat} {x1 x2 x3 x4 : Int32} : ∀ n a b S, lc bW v0 S → lo_D bW v0 (ru_L82 N x1 x2 x3 x4 n a b S) := by
  intro n
  induction n with
  | zero => intro a b S _; exact lo_nD
  | succ n ih =>
    intro a b S h
    rw [ru_L82]
    exact lo_iD (fun _ => lo_vD (l_X12_calls h) (fun _ h => l_X12_run_L126 _ _ h)) (fun _ => lo_iD (fun _ => l_X12_run_b110 (fun _ _ _ h => ih _ _ _ h) h) (fun _ => lo_iD (fun _ => l_X12_run_b110 (fun _ _ _ h => ih _ _ _ h) h) (fun _ => l_X12_run_b110 (fun _ _ _ h => ih _ _ _ h) h)))
set_option maxHeartbeats 200000 in
theorem l_runT {v0 S : q_V} {N : Nat} {x1 x2 x3 x4 : Int32} (h : lc bW v0 S) : lo_D bW v0 (ru_runT N x1 x2 x3 x4 S) := by
  unfold ru_runT
  exact lo_vD (l_X12_clear h) (fun _ h => lo_wD (lcI h rfl) (fun _ h => lo_iD (fun _ => lo_nD) (fun _ => lo_xD (l_L82 _ _ _ _ h))))
set_option maxHeartbeats 200000 in
/-- RUN: both machines on a book that both hold -/
theorem a_run {T : co_T} {XL : Int32 → Int32 → Int32 → Prop} {d f D : Nat} {x y : Int32} (h : LR vc vr) (B : bk T XL vc vr) (hD : q_i vc 3 = nI D) (hd : d < D) (hD3 : D ≤ 30) (hf : f ≤ 20000) : ∃ N o vc' vr', fX4_performR (nI d) x y (nI f) vc = some (o, vc') ∧ ru_runT N (nI d) x y (nI f) (q_si vr 2400 0) = some (o, vr') ∧ LR vc' vr' ∧ lc bR vc vc' ∧ lc bW (q_si vr 2400 0) vr' := by
  have h0 := LR_0 (x := 0) h
  have B0 : bk T XL vc (q_si vr 2400 0) := bk_r B (fun k h1 h2 => by rw [q_i_ne (by omega)]) (fun _ _ _ => rfl)
  obtain ⟨S, dD, dL, D', p1, p2, p3, p4, p5, p6⟩ := id B0
  have eD : D' = D := by
    rw [p3, ni_eq (by omega) (by omega)] at hD; exact hD
  subst eD
  obtain ⟨⟨k, pe, qe, hT, h58⟩, _⟩ := p6 d hd
  obtain ⟨h1, h2, h3, h4, h5, h6⟩ := h0
  obtain ⟨N, o, vc', vr', a1, a2, fin⟩ := ru_RUN (x := x) (y := y) dD dL S h3.1 h3.2 h4.2.2.2.2.2.2.2.1 h4.2.2.2.2.2.2.2.2.2.2.1 h4.2.2.2.2.2.2.2.2.2.2.2.1 hT hf h58
  have l1 : lc bR vc vc' := l_X4_performR lc_0 o vc' a1
  have l2 : lc bW (q_si vr 2400 0) vr' := l_runT lc_0 o vr' a2
  refine ⟨N, o, vc', vr', a1, a2, ⟨?_, ?_, ⟨fin.2.1, fin.2.2.1⟩, fin.2.2.2, ?_, Or.inr ⟨T, XL, fin.1, dD, dL, D', p1, p2, ?_, ?_, ?_, fun j hj => ?_⟩⟩, l1, l2⟩
  · rw [l1.1 2206 rfl, l1.2.2.1 2200 rfl, l2.1 2402 rfl, l2.2.2.1 2401 rfl]; exact h1
  · rw [l1.1 2207 rfl, l1.1 2208 rfl, l2.1 2408 rfl, l2.1 2409 rfl]; exact h2
  · rw [l1.2.2.2.1 1801 rfl, l2.2.2.2.1 2403 rfl]; exact h5
  · rw [l1.1 3 rfl]; exact p3
  · rw [l2.1 2462 rfl]; exact p4
  · rw [l2.1 2447 rfl]; exact p5
  · rw [l1.2.2.1 2 rfl, l2.2.2.1 2458 rfl, l2.2.2.1 2459 rfl, l2.2.2.1 2460 rfl, l2.2.2.1 2461 rfl]; exact p6 j hj
end
