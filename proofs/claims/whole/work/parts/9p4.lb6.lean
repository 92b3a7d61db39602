section
variable {vc vr v w : q_V} {x x1 x2 : Int32}
set_option maxHeartbeats 200000 in
theorem a_w27 (e : q_a vc 201 = q_a vr 2466) : ∀ r i a n1 n2, i + r = 7 → r < n1 → r < n2 → ∃ y : Int32, fX1_allWater_L27 n1 a (nI i) vc = some (y, vc) ∧ fX12_allWater_L27 n2 a (nI i) vr = some (y, vr) := by
  intro r
  induction r with
  | zero =>
    intro i a n1 n2 hi h1 h2
    obtain ⟨n1, rfl⟩ : ∃ y, n1 = y + 1 := ⟨n1 - 1, by omega⟩
    obtain ⟨n2, rfl⟩ : ∃ y, n2 = y + 1 := ⟨n2 - 1, by omega⟩
    rw [fX1_allWater_L27, fX12_allWater_L27, if_pos (show (7 : Int32) ≤ nI i from ni_ple (a := 7) (by omega) (by omega)), if_pos (show (7 : Int32) ≤ nI i from ni_ple (a := 7) (by omega) (by omega))]
    exact ⟨_, rfl, rfl⟩
  | succ r ih =>
    intro i a n1 n2 hi h1 h2
    obtain ⟨n1, rfl⟩ : ∃ y, n1 = y + 1 := ⟨n1 - 1, by omega⟩
    obtain ⟨n2, rfl⟩ : ∃ y, n2 = y + 1 := ⟨n2 - 1, by omega⟩
    rw [fX1_allWater_L27, fX12_allWater_L27, if_neg (show ¬ (7 : Int32) ≤ nI i from ni_nle (a := 7) (by omega) (by omega)), if_neg (show ¬ (7 : Int32) ≤ nI i from ni_nle (a := 7) (by omega) (by omega)), if_neg (ni_nin (by omega) (by omega)), if_neg (ni_nin (by omega) (by omega)), e]
    simp only [q_lt_s, ni_add1]
    exact ih (i + 1) _ n1 n2 (by omega) (by omega) (by omega)
set_option maxHeartbeats 200000 in
theorem a_w4 (e0 : q_a vc 200 = q_a vr 2463) (e : q_a vc 201 = q_a vr 2466) : ∀ r i a n1 n2, i + r = 6 → r < n1 → r < n2 → ∃ y : Int32, fX1_allWater_L4 n1 a (nI i) vc = some (y, vc) ∧ fX12_allWater_L4 n2 a (nI i) vr = some (y, vr) := by
  intro r
  induction r with
  | zero =>
    intro i a n1 n2 hi h1 h2
    obtain ⟨n1, rfl⟩ : ∃ y, n1 = y + 1 := ⟨n1 - 1, by omega⟩
    obtain ⟨n2, rfl⟩ : ∃ y, n2 = y + 1 := ⟨n2 - 1, by omega⟩
    rw [fX1_allWater_L4, fX12_allWater_L4, if_pos (show (6 : Int32) ≤ nI i from ni_ple (a := 6) (by omega) (by omega)), if_pos (show (6 : Int32) ≤ nI i from ni_ple (a := 6) (by omega) (by omega))]
    exact a_w27 e 7 0 a q_N q_N (by omega) (by unfold q_N; omega) (by unfold q_N; omega)
  | succ r ih =>
    intro i a n1 n2 hi h1 h2
    obtain ⟨n1, rfl⟩ : ∃ y, n1 = y + 1 := ⟨n1 - 1, by omega⟩
    obtain ⟨n2, rfl⟩ : ∃ y, n2 = y + 1 := ⟨n2 - 1, by omega⟩
    rw [fX1_allWater_L4, fX12_allWater_L4, if_neg (show ¬ (6 : Int32) ≤ nI i from ni_nle (a := 6) (by omega) (by omega)), if_neg (show ¬ (6 : Int32) ≤ nI i from ni_nle (a := 6) (by omega) (by omega)), if_neg (ni_nin (by omega) (by omega)), if_neg (ni_nin (by omega) (by omega)), e0]
    simp only [q_lt_s, ni_add1]
    exact ih (i + 1) _ n1 n2 (by omega) (by omega) (by omega)
set_option maxHeartbeats 200000 in
/-- LOOK -/
theorem a_look (h : LR vc vr) : ∃ o, fX11_look x1 x2 vc = some (o, vc) ∧ fX12_look x1 x2 vr = some (o, q_si vr 2400 0) := by
  obtain ⟨_, _, ⟨A, A0⟩, _⟩ := id h
  obtain ⟨e1, e2, e3, e4, e5, e6, e7, e8, e9⟩ := A
  unfold fX11_look fX1_fact fX1_fact_b87 fX12_look fX12_look_b67 fX12_look_b97 fX12_look_b129 fX12_look_b149 fX12_look_b170 fX12_look_b191
  rw [q_lt_s]
  simp only [q_bd_eta]
  have two : ∀ m k (hm : m + 1 < 2147483648) (hk : k < m + 1), True := fun _ _ _ _ => trivial
  by_cases c0 : x1 = 0
  · rw [if_pos c0, if_pos c0]
    unfold fX1_levelOf fX1_levelOf_b17
    have out : (x2 < 0 ∨ nI 6 ≤ x2) → _ := fun hx => (⟨o_lock (v := vc) hx, o_in (m := 5) (w := q_si vr 2400 0) (by omega) hx⟩ : fX1_isLock x2 vc = some (0, vc) ∧ fX12_in x2 0 (nI 5) (q_si vr 2400 0) = some (0, q_si vr 2400 0))
    have fin : ∀ (hx : fX1_isLock x2 vc = some (0, vc) ∧ fX12_in x2 0 (nI 5) (q_si vr 2400 0) = some (0, q_si vr 2400 0)), ∃ o, q_bd (fX1_isLock x2 vc) (fun y2 T1 => if y2 = 0 then some (-1, T1) else if x2 < 0 ∨ 6 ≤ x2.toNatClampNeg then none else some (q_a T1 200 x2.toNatClampNeg, T1)) = some (o, vc) ∧ q_bd (fX12_in x2 0 (nI 5) (q_si vr 2400 0)) (fun y4 T3 => if y4 = 0 then some (-1, T3) else if x2 < 0 ∨ 6 ≤ x2.toNatClampNeg then none else some (q_a T3 2463 x2.toNatClampNeg, T3)) = some (o, q_si vr 2400 0) := fun hx => ⟨-1, by rw [hx.1, q_bd_s, if_pos rfl], by rw [hx.2, q_bd_s, if_pos rfl]⟩
    rcases x_rng (x := x2) (m := 6) (by omega) with c | c | ⟨k, hk, e⟩
    · exact fin (out (Or.inl c))
    · exact fin (out (Or.inr c))
    · subst e
      rw [i_lock hk, show fX12_in (nI k) 0 5 (q_si vr 2400 0) = some (1, q_si vr 2400 0) from i_in (m := 5) (by omega) (by omega), q_bd_s, q_bd_s, if_neg (show ¬ (1 : Int32) = 0 by decide), if_neg (show ¬ (1 : Int32) = 0 by decide), if_neg (ni_nin (by omega) (by omega)), if_neg (ni_nin (by omega) (by omega)), e1]; exact ⟨_, rfl, rfl⟩
  rw [if_neg c0, if_neg c0]
  by_cases c1 : x1 = 1
  · rw [if_pos c1, if_pos c1]
    rcases x_rng (x := x2) (m := 6) (by omega) with c | c | ⟨k, hk, e⟩
    · rw [o_gate (Or.inl c), show fX12_in x2 0 5 (q_si vr 2400 0) = some (0, q_si vr 2400 0) from o_in (m := 5) (by omega) (Or.inl c), q_bd_s, if_pos rfl]; exact ⟨_, rfl, rfl⟩
    · rw [o_gate (Or.inr c), show fX12_in x2 0 5 (q_si vr 2400 0) = some (0, q_si vr 2400 0) from o_in (m := 5) (by omega) (Or.inr c), q_bd_s, if_pos rfl]; exact ⟨_, rfl, rfl⟩
    · subst e
      rw [show fX1_gateOf (nI k) 0 vc = some (q_a vc 202 (2 * k + 0), vc) from i_gate (s := 0) hk (by omega), show fX12_in (nI k) 0 5 (q_si vr 2400 0) = some (1, q_si vr 2400 0) from i_in (m := 5) (by omega) (by omega), q_bd_s, if_neg (show ¬ (1 : Int32) = 0 by decide), ni_2m, if_neg (ni_nin (by omega) (by omega)), ni_clamp (by omega), q_a_si]
      have g0 := e6 (2 * k) (by omega)
      rw [e3] at g0
      rw [Nat.add_zero, e3]
      rcases g0 with g0 | g0
      · rw [g0, if_pos rfl]; exact ⟨_, rfl, rfl⟩
      · rw [g0, if_neg (by decide)]; exact ⟨_, rfl, rfl⟩
  rw [if_neg c1, if_neg c1]
  by_cases c2 : x1 = 2
  · rw [if_pos c2, if_pos c2]
    rcases x_rng (x := x2) (m := 6) (by omega) with c | c | ⟨k, hk, e⟩
    · rw [o_gate (Or.inl c), show fX12_in x2 0 5 (q_si vr 2400 0) = some (0, q_si vr 2400 0) from o_in (m := 5) (by omega) (Or.inl c), q_bd_s, if_pos rfl]; exact ⟨_, rfl, rfl⟩
    · rw [o_gate (Or.inr c), show fX12_in x2 0 5 (q_si vr 2400 0) = some (0, q_si vr 2400 0) from o_in (m := 5) (by omega) (Or.inr c), q_bd_s, if_pos rfl]; exact ⟨_, rfl, rfl⟩
    · subst e
      rw [show fX1_gateOf (nI k) 1 vc = some (q_a vc 202 (2 * k + 1), vc) from i_gate (s := 1) hk (by omega), show fX12_in (nI k) 0 5 (q_si vr 2400 0) = some (1, q_si vr 2400 0) from i_in (m := 5) (by omega) (by omega), q_bd_s, if_neg (show ¬ (1 : Int32) = 0 by decide), ni_2m, ni_add1, if_neg (ni_nin (by omega) (by omega)), ni_clamp (by omega), q_a_si]
      have g0 := e6 (2 * k + 1) (by omega)
      rw [e3] at g0
      rw [e3]
      rcases g0 with g0 | g0
      · rw [g0, if_pos rfl]; exact ⟨_, rfl, rfl⟩
      · rw [g0, if_neg (by decide)]; exact ⟨_, rfl, rfl⟩
  rw [if_neg c2, if_neg c2]
  by_cases c3 : x1 = 3
  · rw [if_pos c3, if_pos c3]
    unfold fX1_holdsOf fX1_holdsOf_b17
    rcases x_rng (x := x2) (m := 6) (by omega) with c | c | ⟨k, hk, e⟩
    · rw [o_lock (Or.inl c), q_bd_s, if_pos rfl, show fX12_in x2 0 5 (q_si vr 2400 0) = some (0, q_si vr 2400 0) from o_in (m := 5) (by omega) (Or.inl c), q_bd_s, if_pos rfl]; exact ⟨_, rfl, rfl⟩
    · rw [o_lock (Or.inr c), q_bd_s, if_pos rfl, show fX12_in x2 0 5 (q_si vr 2400 0) = some (0, q_si vr 2400 0) from o_in (m := 5) (by omega) (Or.inr c), q_bd_s, if_pos rfl]; exact ⟨_, rfl, rfl⟩
    · subst e
      rw [i_lock hk, show fX12_in (nI k) 0 5 (q_si vr 2400 0) = some (1, q_si vr 2400 0) from i_in (m := 5) (by omega) (by omega), q_bd_s, q_bd_s, if_neg (show ¬ (1 : Int32) = 0 by decide), if_neg (show ¬ (1 : Int32) = 0 by decide), if_neg (ni_nin (by omega) (by omega)), if_neg (ni_nin (by omega) (by omega)), e4]; exact ⟨_, rfl, rfl⟩
  rw [if_neg c3, if_neg c3]
  by_cases c4 : x1 = 4
  · rw [if_pos c4, if_pos c4]
    rcases x_rng (x := x2) (m := 7) (by omega) with c | c | ⟨k, hk, e⟩
    · rw [o_reach (Or.inl c), q_bd_s, if_pos rfl, show fX12_in x2 0 6 (q_si vr 2400 0) = some (0, q_si vr 2400 0) from o_in (m := 6) (by omega) (Or.inl c), q_bd_s, if_pos rfl]; exact ⟨_, rfl, rfl⟩
    · rw [o_reach (Or.inr c), q_bd_s, if_pos rfl, show fX12_in x2 0 6 (q_si vr 2400 0) = some (0, q_si vr 2400 0) from o_in (m := 6) (by omega) (Or.inr c), q_bd_s, if_pos rfl]; exact ⟨_, rfl, rfl⟩
    · subst e
      rw [i_reach hk, show fX12_in (nI k) 0 6 (q_si vr 2400 0) = some (1, q_si vr 2400 0) from i_in (m := 6) (by omega) (by omega), q_bd_s, q_bd_s, if_neg (show ¬ (1 : Int32) = 0 by decide), if_neg (show ¬ (1 : Int32) = 0 by decide), if_neg (ni_nin (by omega) (by omega)), if_neg (ni_nin (by omega) (by omega)), e2]; exact ⟨_, rfl, rfl⟩
  rw [if_neg c4, if_neg c4]
  by_cases c5 : x1 = 5
  · rw [if_pos c5, if_pos c5]
    unfold fX1_placeOf fX1_placeOf_b17
    rcases x_rng (x := x2) (m := 8) (by omega) with c | c | ⟨k, hk, e⟩
    · rw [o_ship (Or.inl c), q_bd_s, if_pos rfl, show fX12_in x2 0 7 (q_si vr 2400 0) = some (0, q_si vr 2400 0) from o_in (m := 7) (by omega) (Or.inl c), q_bd_s, if_pos rfl]; exact ⟨_, rfl, rfl⟩
    · rw [o_ship (Or.inr c), q_bd_s, if_pos rfl, show fX12_in x2 0 7 (q_si vr 2400 0) = some (0, q_si vr 2400 0) from o_in (m := 7) (by omega) (Or.inr c), q_bd_s, if_pos rfl]; exact ⟨_, rfl, rfl⟩
    · subst e
      rw [i_ship hk, show fX12_in (nI k) 0 7 (q_si vr 2400 0) = some (1, q_si vr 2400 0) from i_in (m := 7) (by omega) (by omega), q_bd_s, q_bd_s, if_neg (show ¬ (1 : Int32) = 0 by decide), if_neg (show ¬ (1 : Int32) = 0 by decide), if_neg (ni_nin (by omega) (by omega)), if_neg (ni_nin (by omega) (by omega)), e5]; exact ⟨_, rfl, rfl⟩
  rw [if_neg c5, if_neg c5]
  by_cases c6 : x1 = 6
  · rw [if_pos c6, if_pos c6]
    exact a_w4 (vr := q_si vr 2400 0) e1 e2 6 0 0 q_N q_N (by omega) (by unfold q_N; omega) (by unfold q_N; omega)
  · rw [if_neg c6, if_neg c6]; exact ⟨_, rfl, rfl⟩
end
