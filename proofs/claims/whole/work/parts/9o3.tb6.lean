/-- the reference keeps what it read -/
def kf (lo hi : Nat) (u u' : q_V) : Prop := q_i u' = q_i u ∧ q_j u' = q_j u ∧ (∀ k, ¬ (lo ≤ k ∧ k ≤ hi) → q_a u' k = q_a u k) ∧ q_b u' = q_b u ∧ q_f u' = q_f u ∧ q_c u' = q_c u ∧ q_n u' = q_n u
section
variable {u u' : q_V} {lo hi q d D : Nat}
set_option maxHeartbeats 200000 in
theorem kf_0 : kf lo hi u u := ⟨rfl, rfl, fun _ _ => rfl, rfl, rfl, rfl, rfl⟩
set_option maxHeartbeats 200000 in
theorem kf_a {k : Nat} {x : Nat → Int32} (h : kf lo hi u u') (hk : lo ≤ k ∧ k ≤ hi) : kf lo hi u (q_sa u' k x) := ⟨h.1, h.2.1, fun j hj => by rw [q_a_sa, if_neg (fun z => hj (by rw [z]; exact hk))]; exact h.2.2.1 j hj, h.2.2.2⟩
def k7 (u u' : q_V) (m : Nat) : Prop := ∀ x, x < m → q_a u' 2448 x = q_a u 2414 x ∧ q_a u' 2449 x = q_a u 2415 x ∧ q_a u' 2450 x = q_a u 2416 x
set_option maxHeartbeats 200000 in
theorem up_lt {m x : Nat} {f g : Nat → Int32} (hx : x < m + 1) (h : x < m → f x = g x) : upd f m (g m) x = g x := by
  by_cases c : x = m
  · rw [c, upd_at]
  · rw [upd_ne c]; exact h (by omega)
set_option maxHeartbeats 200000 in
theorem kp_7 (hq : q_i u 2417 = nI q) (hq4 : q < 4000) : ∀ t m N u', m + t = q → t < N → kf 2448 2450 u u' → k7 u u' m → ∃ u2, fX12_keep_L7 N (nI m) u' = fX12_keep_L59 q_N 0 u2 ∧ kf 2448 2450 u u2 ∧ k7 u u2 q := by
  intro t
  induction t with
  | zero =>
    intro m N u' hm hN hf hk
    obtain ⟨N, rfl⟩ : ∃ y, N = y + 1 := ⟨N - 1, by omega⟩
    rw [fX12_keep_L7, hf.1, hq, if_pos (ni_ple (by omega) (by omega))]
    exact ⟨u', rfl, hf, by rw [show q = m by omega]; exact hk⟩
  | succ t ih =>
    intro m N u' hm hN hf hk
    obtain ⟨N, rfl⟩ : ∃ y, N = y + 1 := ⟨N - 1, by omega⟩
    have hin : ¬ (nI m < 0 ∨ 4000 ≤ (nI m).toNatClampNeg) := ni_nin (by omega) (by omega)
    rw [fX12_keep_L7, hf.1, hq, if_neg (ni_nle (by omega) (by omega))]
    simp only [if_neg hin, q_lt_s, ni_add1]
    rw [ni_clamp (show m < 2147483648 by omega)]
    refine ih (m + 1) N _ (by omega) (by omega) (kf_a (kf_a (kf_a hf (by omega)) (by omega)) (by omega)) (fun x hx => ?_)
    have e0 := hf.2.2.1 2414 (by omega)
    have e1 := hf.2.2.1 2415 (by omega)
    have e2 := hf.2.2.1 2416 (by omega)
    refine ⟨?_, ?_, ?_⟩
    · rw [q_a_sa, if_neg (by omega), q_a_sa, if_neg (by omega), q_a_sa, if_pos rfl, e0]
      exact up_lt hx (fun h => (hk x h).1)
    · rw [q_a_sa, if_neg (by omega), q_a_sa, if_pos rfl, q_a_sa, if_neg (by omega), q_a_sa, if_neg (by omega), e1]
      exact up_lt hx (fun h => (hk x h).2.1)
    · rw [q_a_sa, if_pos rfl, q_a_sa, if_neg (by omega), q_a_sa, if_neg (by omega), q_a_sa, if_neg (by omega), q_a_sa, if_neg (by omega), e2]
      exact up_lt hx (fun h => (hk x h).2.2)
def k59 (u u' : q_V) (m : Nat) : Prop := ∀ j x, j < 6 → x < m → q_a u' (2451 + j) x = q_a u (2418 + j) x
set_option maxHeartbeats 200000 in
theorem kp_59 (hq : q_i u 2424 = nI d) (hq4 : d < 640) : ∀ t m N u', m + t = d → t < N → kf 2451 2456 u u' → k59 u u' m → ∃ u2, fX12_keep_L59 N (nI m) u' = fX12_keep_L155 q_N 0 (q_si u2 2462 (q_i u 2433)) ∧ kf 2451 2456 u u2 ∧ k59 u u2 d := by
  intro t
  induction t with
  | zero =>
    intro m N u' hm hN hf hk
    obtain ⟨N, rfl⟩ : ∃ y, N = y + 1 := ⟨N - 1, by omega⟩
    rw [fX12_keep_L59, hf.1, hq, if_pos (ni_ple (by omega) (by omega)), q_lt_s]
    exact ⟨u', rfl, hf, by rw [show d = m by omega]; exact hk⟩
  | succ t ih =>
    intro m N u' hm hN hf hk
    obtain ⟨N, rfl⟩ : ∃ y, N = y + 1 := ⟨N - 1, by omega⟩
    have hin : ¬ (nI m < 0 ∨ 640 ≤ (nI m).toNatClampNeg) := ni_nin (by omega) (by omega)
    rw [fX12_keep_L59, hf.1, hq, if_neg (ni_nle (by omega) (by omega))]
    simp only [if_neg hin, q_lt_s, ni_add1]
    rw [ni_clamp (show m < 2147483648 by omega)]
    refine ih (m + 1) N _ (by omega) (by omega) (kf_a (kf_a (kf_a (kf_a (kf_a (kf_a hf (by omega)) (by omega)) (by omega)) (by omega)) (by omega)) (by omega)) (fun j x hj hx => ?_)
    have e0 := hf.2.2.1 2418 (by omega)
    have e1 := hf.2.2.1 2419 (by omega)
    have e2 := hf.2.2.1 2420 (by omega)
    have e3 := hf.2.2.1 2421 (by omega)
    have e4 := hf.2.2.1 2422 (by omega)
    have e5 := hf.2.2.1 2423 (by omega)
    have hj2 : j = 0 ∨ j = 1 ∨ j = 2 ∨ j = 3 ∨ j = 4 ∨ j = 5 := by omega
    simp only [q_a_sa]
    rcases hj2 with rfl | rfl | rfl | rfl | rfl | rfl
    · simp only [Nat.reduceAdd, Nat.reduceEqDiff, ↓reduceIte, e0]
      exact up_lt hx (fun h => hk 0 x (by omega) h)
    · simp only [Nat.reduceAdd, Nat.reduceEqDiff, ↓reduceIte, e1]
      exact up_lt hx (fun h => hk 1 x (by omega) h)
    · simp only [Nat.reduceAdd, Nat.reduceEqDiff, ↓reduceIte, e2]
      exact up_lt hx (fun h => hk 2 x (by omega) h)
    · simp only [Nat.reduceAdd, Nat.reduceEqDiff, ↓reduceIte, e3]
      exact up_lt hx (fun h => hk 3 x (by omega) h)
    · simp only [Nat.reduceAdd, Nat.reduceEqDiff, ↓reduceIte, e4]
      exact up_lt hx (fun h => hk 4 x (by omega) h)
    · simp only [Nat.reduceAdd, Nat.reduceEqDiff, ↓reduceIte, e5]
      exact up_lt hx (fun h => hk 5 x (by omega) h)
def k155 (u u' : q_V) (m : Nat) : Prop := ∀ x, x < m → q_a u' 2457 x = q_a u 2430 x ∧ q_a u' 2458 x = q_a u 2428 x ∧ q_a u' 2459 x = q_a u 2429 x ∧ q_a u' 2460 x = q_a u 2431 x ∧ q_a u' 2461 x = q_a u 2432 x
set_option maxHeartbeats 200000 in
theorem kp_155 (hq : q_i u 2462 = nI D) (hq4 : D ≤ 30) : ∀ t m N u', m + t = D → t < N → kf 2457 2461 u u' → k155 u u' m → ∃ u2, fX12_keep_L155 N (nI m) u' = some u2 ∧ kf 2457 2461 u u2 ∧ k155 u u2 D := by
  intro t
  induction t with
  | zero =>
    intro m N u' hm hN hf hk
    obtain ⟨N, rfl⟩ : ∃ y, N = y + 1 := ⟨N - 1, by omega⟩
    rw [fX12_keep_L155, hf.1, hq, if_pos (ni_ple (by omega) (by omega))]
    exact ⟨u', rfl, hf, by rw [show D = m by omega]; exact hk⟩
  | succ t ih =>
    intro m N u' hm hN hf hk
    obtain ⟨N, rfl⟩ : ∃ y, N = y + 1 := ⟨N - 1, by omega⟩
    have hin : ¬ (nI m < 0 ∨ 320 ≤ (nI m).toNatClampNeg) := ni_nin (by omega) (by omega)
    have hin2 : ¬ (nI m < 0 ∨ 30 ≤ (nI m).toNatClampNeg) := ni_nin (by omega) (by omega)
    rw [fX12_keep_L155, hf.1, hq, if_neg (ni_nle (by omega) (by omega))]
    simp only [if_neg hin, if_neg hin2, q_lt_s, ni_add1]
    rw [ni_clamp (show m < 2147483648 by omega)]
    refine ih (m + 1) N _ (by omega) (by omega) (kf_a (kf_a (kf_a (kf_a (kf_a hf (by omega)) (by omega)) (by omega)) (by omega)) (by omega)) (fun x hx => ?_)
    have e0 := hf.2.2.1 2430 (by omega)
    have e1 := hf.2.2.1 2428 (by omega)
    have e2 := hf.2.2.1 2429 (by omega)
    have e3 := hf.2.2.1 2431 (by omega)
    have e4 := hf.2.2.1 2432 (by omega)
    refine ⟨?_, ?_, ?_, ?_, ?_⟩
    · rw [q_a_sa, if_neg (by omega), q_a_sa, if_neg (by omega), q_a_sa, if_neg (by omega), q_a_sa, if_neg (by omega), q_a_sa, if_pos rfl, e0]
      exact up_lt hx (fun h => (hk x h).1)
    · rw [q_a_sa, if_neg (by omega), q_a_sa, if_neg (by omega), q_a_sa, if_neg (by omega), q_a_sa, if_pos rfl, q_a_sa, if_neg (by omega), q_a_sa, if_neg (by omega), e1]
      exact up_lt hx (fun h => (hk x h).2.1)
    · rw [q_a_sa, if_neg (by omega), q_a_sa, if_neg (by omega), q_a_sa, if_pos rfl, q_a_sa, if_neg (by omega), q_a_sa, if_neg (by omega), q_a_sa, if_neg (by omega), q_a_sa, if_neg (by omega), e2]
      exact up_lt hx (fun h => (hk x h).2.2.1)
    · rw [q_a_sa, if_neg (by omega), q_a_sa, if_pos rfl, q_a_sa, if_neg (by omega), q_a_sa, if_neg (by omega), q_a_sa, if_neg (by omega), q_a_sa, if_neg (by omega), q_a_sa, if_neg (by omega), q_a_sa, if_neg (by omega), e3]
      exact up_lt hx (fun h => (hk x h).2.2.2.1)
    · rw [q_a_sa, if_pos rfl, q_a_sa, if_neg (by omega), q_a_sa, if_neg (by omega), q_a_sa, if_neg (by omega), q_a_sa, if_neg (by omega), q_a_sa, if_neg (by omega), q_a_sa, if_neg (by omega), q_a_sa, if_neg (by omega), q_a_sa, if_neg (by omega), e4]
      exact up_lt hx (fun h => (hk x h).2.2.2.2)
set_option maxHeartbeats 200000 in
/-- all that is kept -/
theorem t_keep (hq : q_i u 2417 = nI q) (hq4 : q < 4000) (hd : q_i u 2424 = nI d) (hd6 : d < 640) (hD : q_i u 2433 = nI D) (hD3 : D ≤ 30) : ∃ u', fX12_keep u = some u' ∧ (∀ k, k ≠ 2447 → k ≠ 2462 → q_i u' k = q_i u k) ∧ q_i u' 2447 = 1 ∧ q_i u' 2462 = nI D ∧ q_j u' = q_j u ∧ (∀ k, ¬ (2448 ≤ k ∧ k ≤ 2461) → q_a u' k = q_a u k) ∧ q_b u' = q_b u ∧ (q_f u' = q_f u ∧ q_c u' = q_c u ∧ q_n u' = q_n u) ∧ k7 u u' q ∧ k59 u u' d ∧ k155 u u' D := by
  obtain ⟨u1, a1, f1, k1⟩ := kp_7 (u := q_si u 2447 1) (by rw [q_i_ne (by omega)]; exact hq) hq4 q 0 q_N (q_si u 2447 1) (by omega) (by unfold q_N; omega) kf_0 (fun x hx => absurd hx (by omega))
  obtain ⟨u2, a2, f2, k2⟩ := kp_59 (u := u1) (by rw [f1.1, q_i_ne (by omega)]; exact hd) hd6 d 0 q_N u1 (by omega) (by unfold q_N; omega) kf_0 (fun j x _ hx => absurd hx (by omega))
  have e33 : q_i u1 2433 = nI D := by rw [f1.1, q_i_ne (by omega)]; exact hD
  obtain ⟨u3, a3, f3, k3⟩ := kp_155 (u := q_si u2 2462 (q_i u1 2433)) (by rw [q_i_at]; exact e33) hD3 D 0 q_N (q_si u2 2462 (q_i u1 2433)) (by omega) (by unfold q_N; omega) kf_0 (fun x hx => absurd hx (by omega))
  refine ⟨u3, ?_, fun k h1 h2 => ?_, ?_, ?_, ?_, fun k hk => ?_, ?_, ⟨?_, ?_, ?_⟩, fun x hx => ?_, fun j x hj hx => ?_, fun x hx => ?_⟩
  · unfold fX12_keep
    rw [q_lt_s]
    exact a1.trans (a2.trans a3)
  · rw [f3.1, q_i_ne h2, f2.1, f1.1, q_i_ne h1]
  · rw [f3.1, q_i_ne (by omega), f2.1, f1.1, q_i_at]
  · rw [f3.1, q_i_at, e33]
  · rw [f3.2.1, q_j_si, f2.2.1, f1.2.1, q_j_si]
  · rw [f3.2.2.1 k (by omega), q_a_si, f2.2.2.1 k (by omega), f1.2.2.1 k (by omega), q_a_si]
  · rw [f3.2.2.2.1, q_b_si, f2.2.2.2.1, f1.2.2.2.1, q_b_si]
  · rw [f3.2.2.2.2.1, q_f_si, f2.2.2.2.2.1, f1.2.2.2.2.1, q_f_si]
  · rw [f3.2.2.2.2.2.1, q_c_si, f2.2.2.2.2.2.1, f1.2.2.2.2.2.1, q_c_si]
  · rw [f3.2.2.2.2.2.2, q_n_si, f2.2.2.2.2.2.2, f1.2.2.2.2.2.2, q_n_si]
  · have := k1 x hx
    rw [f3.2.2.1 2448 (by omega), f3.2.2.1 2449 (by omega), f3.2.2.1 2450 (by omega), q_a_si, f2.2.2.1 2448 (by omega), f2.2.2.1 2449 (by omega), f2.2.2.1 2450 (by omega)]
    exact this
  · have := k2 j x hj hx
    rw [f3.2.2.1 (2451 + j) (by omega), q_a_si, this, f1.2.2.1 (2418 + j) (by omega), q_a_si]
  · have := k3 x hx
    rw [q_a_si, f2.2.2.1 2430 (by omega), f2.2.2.1 2428 (by omega), f2.2.2.1 2429 (by omega), f2.2.2.1 2431 (by omega), f2.2.2.1 2432 (by omega), f1.2.2.1 2430 (by omega), f1.2.2.1 2428 (by omega), f1.2.2.1 2429 (by omega), f1.2.2.1 2431 (by omega), f1.2.2.1 2432 (by omega), q_a_si] at this
    exact this
end
