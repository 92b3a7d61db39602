set_option maxHeartbeats 200000 in
theorem ck_fr : ∀ i, i < 12 → (gx 2 3 i = some (31 + 3 * i) ∧ gx 3 600 i = some (32 + 3 * i) ∧ gx 3 601 i = some (33 + 3 * i)) ∧ kp_C mz 28 i = some (31 + 3 * i) ∧ kp_K mz (31 + 3 * i) < 13 ∧ kp_R mz 600 (31 + 3 * i) = some (32 + 3 * i) ∧ kp_R mz 601 (31 + 3 * i) = some (33 + 3 * i) ∧ 13 ≤ kp_K mz (32 + 3 * i) ∧ 13 ≤ kp_K mz (33 + 3 * i) ∧ kp_N mz (32 + 3 * i) = 24 ∧ kp_N mz (33 + 3 * i) = 40 := by decide +kernel
set_option maxHeartbeats 200000 in
theorem ck_pt : ∀ i, i < 168 → (gx 2 6 i = some (67 + 2 * i) ∧ gx 2 10 i = some (68 + 2 * i)) ∧ kp_C mz 29 i = some (67 + 2 * i) ∧ kp_K mz (67 + 2 * i) < 13 ∧ kp_R mz 1208 (67 + 2 * i) = some (68 + 2 * i) := by decide +kernel
set_option maxHeartbeats 200000 in
theorem ck_ob : ∀ k, k ∈ [0, 1, 2, 4, 5, 7, 8, 9, 11, 12] → (gx 0 k 0).isSome = true := by decide +kernel
set_option maxHeartbeats 200000 in
theorem ck_le : ∀ q, q ∈ q_len → (gx 1 q.1 0).isSome = true := by decide +kernel
set_option maxHeartbeats 200000 in
theorem ck_x : (gx 0 0 0 = some 2 ∧ gx 0 11 0 = some 0 ∧ gx 0 12 0 = some 403 ∧ gx 1 0 0 = some 3 ∧ gx 1 2 0 = some 4 ∧ gx 2 10 168 = some 30 ∧ gx 1 804 0 = some 28 ∧ gx 1 806 0 = some 29 ∧ gx 1 1801 0 = some 7 ∧ gx 1 2403 0 = some 405 ∧ gx 1 1400 0 = some 23) ∧ (kp_K mz 0 < 13 ∧ kp_K mz 2 < 13 ∧ kp_K mz 403 < 13 ∧ 13 ≤ kp_K mz 28 ∧ 13 ≤ kp_K mz 29 ∧ 13 ≤ kp_K mz 7 ∧ 13 ≤ kp_K mz 405 ∧ 13 ≤ kp_K mz 23 ∧ 13 ≤ kp_K mz 475) ∧ kp_R mz 2205 0 = some 2 ∧ kp_N mz 475 = 1 := by decide +kernel
set_option maxHeartbeats 200000 in
theorem ck_i : kp_I mz 2206 0 = 0 ∧ kp_I mz 2207 0 = 0 ∧ kp_I mz 2208 0 = -1 ∧ kp_I mz 3 2 = 0 ∧ kp_I mz 2402 403 = 0 ∧ kp_I mz 2408 403 = 0 ∧ kp_I mz 2409 403 = -1 ∧ kp_I mz 2447 403 = 0 ∧ kp_I mz 2470 403 = 0 := by decide +kernel
set_option maxHeartbeats 200000 in
theorem ck_t : kp_A mz 23 0 = kp_I mz 2517 403 ∧ kp_A mz 23 1 = kp_I mz 2518 403 ∧ kp_A mz 23 2 = kp_I mz 2519 403 ∧ kp_A mz 23 3 = kp_I mz 2520 403 ∧ kp_A mz 23 4 = kp_I mz 2522 403 ∧ kp_A mz 23 5 = kp_I mz 2523 403 ∧ kp_A mz 23 18 = kp_I mz 2521 403 ∧ kp_A mz 23 17 = kp_I mz 2524 403 ∧ (∀ k, k < 16 → 6 ≤ k → kp_A mz 23 k = kp_I mz (2465 + k) 403) ∧ kp_A mz 23 16 = kp_I mz 2470 403 := by decide +kernel
set_option maxHeartbeats 200000 in
theorem ck_w : (∀ j, j < 40 → kp_B mz 7 j = kw_c j) ∧ ∀ j, j < 40 → kp_B mz 405 (tk_x j) = kw_c j := by decide +kernel
set_option maxHeartbeats 200000 in
theorem ck_z : ∀ k, k ∈ [200, 201, 202, 203, 204, 1401, 1402, 2463, 2464, 2465, 2466, 2467, 2468, 2469] → ∃ i, gx 1 k 0 = some i ∧ 13 ≤ kp_K mz i ∧ i ≠ 23 := fun k hk => by
  have h : ∀ k, k ∈ [200, 201, 202, 203, 204, 1401, 1402, 2463, 2464, 2465, 2466, 2467, 2468, 2469] → (match gx 1 k 0 with | some i => decide (13 ≤ kp_K mz i ∧ i ≠ 23) | none => false) = true := by decide +kernel
  have := h k hk
  cases c : gx 1 k 0 with
  | none => rw [c] at this; cases this
  | some i => rw [c] at this; exact ⟨i, rfl, of_decide_eq_true this⟩
