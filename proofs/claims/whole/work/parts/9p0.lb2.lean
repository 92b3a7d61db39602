section
variable {vc vr vD vO v w v1 w1 : q_V} {x x1 x2 : Int32}
set_option maxHeartbeats 200000 in
/-- READ keeps the relation -/
theorem a_read {L : Nat} (h : LR vc vr) (hL : q_i vc 2206 = nI L) (hL3 : L ≤ 3000) (d1 : ∀ k, 4 ≤ k → q_a vD k = q_a vc k ∧ q_b vD k = q_b vc k) (d2 : q_i vD 1 = 0 ∧ q_i vD 3 = 0 ∧ q_n vD 0 = 2 * L + 16 ∧ q_n vD 2 = 150) :
    ∃ v1 w1 o pl, fX8_readTextR (nI L) vD = some v1 ∧ fX12_read vr = some (o, w1) ∧ fX8_faultKind v1 = some (o, v1) ∧ fX8_faultPlace v1 = some (pl, v1) ∧ rdk vD v1 ∧ rdW vr w1 ∧ q_i w1 2400 = 0 ∧ ∀ vO, (q_i vO 2206 = 0 ∧ q_i vO 2207 = o ∧ q_i vO 2208 = pl) → (∀ k, 4 ≤ k → k < 1000 ∨ 1013 ≤ k → q_a vO k = q_a v1 k ∧ q_b vO k = q_b v1 k) → (o = 0 → (∀ k, k < 4 → q_i vO k = q_i v1 k ∧ q_a vO k = q_a v1 k) ∧ q_n vO = q_n v1) → (o ≠ 0 → (∀ k, k < 4 → q_i vO k = q_i vc k ∧ q_a vO k = q_a vc k) ∧ q_n vO = q_n vc) → LR vO w1 := by
  obtain ⟨⟨L', l1, l2, l3, l4⟩, h2, h3, h4, h5, h6⟩ := h
  have eL : L' = L := by
    rw [hL, ni_eq (by omega) (by omega)] at l2; omega
  subst eL
  have ki : ∀ i, i < 40 → ∀ j, j < 40 → kw_c i = kw_c j → i = j := kw_inj
  obtain ⟨v1, w1, o, pl, a1, a2, a3, a4, a5, a6, a7, a8, a9, a10, a11⟩ := t_read (tp := q_a vc 2200) (L := L') (v0 := vD) (w0 := vr) hL3 (fun j hj => (l4 j hj).2) (fun j hj => by rw [(d1 2200 (by omega)).1]) (fun j hj => by rw [(d1 1801 (by omega)).2]; exact h5.1 j hj) d2.2.2.1 d2.2.2.2 d2.1 d2.2.1 ⟨l3, hL3, fun j hj => ⟨(l4 j hj).1.symm, (l4 j hj).2⟩, h5.2, fun i j hi hj => ki i hi j hj⟩
  refine ⟨v1, w1, o, pl, a1, a2, a3, a4, a6, a7, a8, fun vO o1 o2 o3 o4 => ?_⟩
  have ac : ∀ k, 4 ≤ k → k < 1000 ∨ 1013 ≤ k → q_a vO k = q_a vc k ∧ q_b vO k = q_b vc k := fun k k1 k2 => by
    have b1 := o2 k k1 k2
    have b2 := a6.2.2.1 k (by omega)
    have b3 := d1 k k1
    exact ⟨b1.1.trans (b2.1.trans b3.1), b1.2.trans (b2.2.trans b3.2)⟩
  refine ⟨⟨0, by omega, o1.1, a9, fun j hj => absurd hj (by omega)⟩, ⟨by rw [o1.2.1, a5], by rw [o1.2.2, a10]⟩, ?_, ?_, ?_, ?_⟩
  · unfold ru_A at h3 ⊢
    rw [(ac 200 (by omega) (by omega)).1, (ac 201 (by omega) (by omega)).1, (ac 202 (by omega) (by omega)).1, (ac 203 (by omega) (by omega)).1, (ac 204 (by omega) (by omega)).1, (a7.1 2463 (by omega)).2.1, (a7.1 2464 (by omega)).2.1, (a7.1 2465 (by omega)).2.1, (a7.1 2466 (by omega)).2.1, (a7.1 2467 (by omega)).2.1]; exact h3
  · unfold ru_told at h4 ⊢
    obtain ⟨t0, t1, t2, t3, t4, t5, t6, t7, t8, t9, t10, t11, t12⟩ := h4
    rw [(ac 1400 (by omega) (by omega)).1, (ac 1401 (by omega) (by omega)).1, (ac 1402 (by omega) (by omega)).1, (a7.1 2517 (by omega)).1, (a7.1 2518 (by omega)).1, (a7.1 2519 (by omega)).1, (a7.1 2520 (by omega)).1, (a7.1 2522 (by omega)).1, (a7.1 2523 (by omega)).1, (a7.1 2521 (by omega)).1, (a7.1 2524 (by omega)).1, (a7.1 2470 (by omega)).1, (a7.1 2468 (by omega)).2.1, (a7.1 2469 (by omega)).2.1]
    exact ⟨t0, t1, t2, t3, t4, t5, t6, t7, fun k k1 k2 => by rw [(a7.1 (2465 + k) (by omega)).1]; exact t8 k k1 k2, t9, t10, t11, t12⟩
  · rw [(ac 1801 (by omega) (by omega)).2, (a7.1 2403 (by omega)).2.2]; exact h5
  · rcases a11 with ⟨ne, q1⟩ | ⟨z, T, XL, B⟩
    · obtain ⟨e1, e2⟩ := o4 ne
      rw [(e1 3 (by omega)).1, (q1 2447 (by omega)).1]
      rcases h6 with h6 | ⟨T, XL, h6⟩
      · exact Or.inl h6
      · exact Or.inr ⟨T, XL, bk_c (bk_r h6 (fun k h1 h2 => (q1 k h1).1) (fun k h1 h2 => (q1 k h1).2)) (fun k hk => (e1 k hk).1) (fun k hk => (e1 k hk).2) e2⟩
    · obtain ⟨e1, e2⟩ := o3 z
      exact Or.inr ⟨T, XL, bk_c B (fun k hk => (e1 k hk).1) (fun k hk => (e1 k hk).2) e2⟩
set_option maxHeartbeats 200000 in
/-- FAULT -/
theorem a_fault (h : LR vc vr) : ∃ o, fX11_fault x vc = some (o, vc) ∧ fX12_fault x vr = some (o, q_si vr 2400 0) := by
  obtain ⟨_, h2, _⟩ := h
  unfold fX11_fault fX11_fault_b22 fX12_fault fX12_fault_b29
  rw [q_lt_s, q_i_ne (by omega), q_i_ne (by omega), h2.1, h2.2]
  by_cases c0 : x = 0
  · rw [if_pos c0, if_pos c0]; exact ⟨_, rfl, rfl⟩
  · rw [if_neg c0, if_neg c0]
    by_cases c1 : x = 1
    · rw [if_pos c1, if_pos c1]; exact ⟨_, rfl, rfl⟩
    · rw [if_neg c1, if_neg c1]; exact ⟨_, rfl, rfl⟩
set_option maxHeartbeats 200000 in
theorem x_rng {m : Nat} (hm : m < 2147483648) : (x < 0) ∨ (nI m ≤ x) ∨ ∃ k, k < m ∧ x = nI k := by
  by_cases c : x < 0
  · exact Or.inl c
  · obtain ⟨a, ha, e⟩ := ni_ex c
    rcases Nat.lt_or_ge a m with z | z
    · exact Or.inr (Or.inr ⟨a, z, e⟩)
    · exact Or.inr (Or.inl (by rw [e]; exact ni_ple z ha))
set_option maxHeartbeats 200000 in
theorem x_out {m k : Nat} (hm : m < 2147483648) (h : x < 0 ∨ nI m ≤ x) (hk : k < m) : ¬ x = nI k := by
  intro z
  rw [z] at h
  rcases h with h | h
  · rw [ni_neg (by omega)] at h; exact h
  · exact absurd h (ni_nle hk hm)
set_option maxHeartbeats 200000 in
/-- TOLD -/
theorem a_told (h : LR vc vr) : ∃ o, fX11_told x vc = some (o, vc) ∧ fX12_told x vr = some (o, q_si vr 2400 0) := by
  obtain ⟨_, _, _, h4, _⟩ := h
  obtain ⟨t0, t1, t2, t3, t4, t5, t6, t7, t8, t9, t10, t11, t12⟩ := h4
  have out : (x < 0 ∨ nI 19 ≤ x) → ∃ o, fX11_told x vc = some (o, vc) ∧ fX12_told x vr = some (o, q_si vr 2400 0) := fun hx => by
    have n := fun k (hk : k < 19) => x_out (x := x) (m := 19) (by omega) hx hk
    refine ⟨-1, ?_, ?_⟩
    · unfold fX11_told fX7_get fX7_get_b19 fX7_get_b20
      by_cases c : x < 0
      · rw [if_pos c, q_bd_s]
      · rw [if_neg c, if_pos (show (19 : Int32) ≤ x from hx.resolve_left c), q_bd_s]
    · unfold fX12_told
      rw [q_lt_s, if_neg (show ¬ x = 0 from n 0 (by omega)), if_neg (show ¬ x = 1 from n 1 (by omega)), if_neg (show ¬ x = 2 from n 2 (by omega)), if_neg (show ¬ x = 3 from n 3 (by omega)), if_neg (show ¬ x = 4 from n 4 (by omega)), if_neg (show ¬ x = 5 from n 5 (by omega)), if_neg (show ¬ x = 6 from n 6 (by omega)), if_neg (show ¬ x = 7 from n 7 (by omega)), if_neg (show ¬ x = 8 from n 8 (by omega)), if_neg (show ¬ x = 9 from n 9 (by omega)), if_neg (show ¬ x = 10 from n 10 (by omega)), if_neg (show ¬ x = 11 from n 11 (by omega)), if_neg (show ¬ x = 12 from n 12 (by omega)), if_neg (show ¬ x = 13 from n 13 (by omega)), if_neg (show ¬ x = 14 from n 14 (by omega)), if_neg (show ¬ x = 15 from n 15 (by omega)), if_neg (show ¬ x = 16 from n 16 (by omega)), if_neg (show ¬ x = 17 from n 17 (by omega)), if_neg (show ¬ x = 18 from n 18 (by omega))]
  rcases x_rng (x := x) (m := 19) (by omega) with c | c | ⟨k, hk, e⟩
  · exact out (Or.inl c)
  · exact out (Or.inr c)
  · subst e
    have cl : fX11_told (nI k) vc = some (q_a vc 1400 k, vc) := by
      unfold fX11_told fX7_get fX7_get_b20
      rw [if_neg (by rw [ni_neg (by omega)]; exact not_false), if_neg (show ¬ (19 : Int32) ≤ nI k from ni_nle (a := 19) (by omega) (by omega)), if_neg (ni_nin (by omega) (by omega)), ni_clamp (by omega), q_bd_s]
    rw [cl]
    have hk2 : k = 0 ∨ k = 1 ∨ k = 2 ∨ k = 3 ∨ k = 4 ∨ k = 5 ∨ k = 6 ∨ k = 7 ∨ k = 8 ∨ k = 9 ∨ k = 10 ∨ k = 11 ∨ k = 12 ∨ k = 13 ∨ k = 14 ∨ k = 15 ∨ k = 16 ∨ k = 17 ∨ k = 18 := by omega
    rcases hk2 with e | e | e | e | e | e | e | e | e | e | e | e | e | e | e | e | e | e | e <;> subst e
    · exact ⟨_, rfl, by rw [t0]; rfl⟩
    · exact ⟨_, rfl, by rw [t1]; rfl⟩
    · exact ⟨_, rfl, by rw [t2]; rfl⟩
    · exact ⟨_, rfl, by rw [t3]; rfl⟩
    · exact ⟨_, rfl, by rw [t4]; rfl⟩
    · exact ⟨_, rfl, by rw [t5]; rfl⟩
    · exact ⟨_, rfl, by rw [t8 6 (by omega) (by omega)]; rfl⟩
    · exact ⟨_, rfl, by rw [t8 7 (by omega) (by omega)]; rfl⟩
    · exact ⟨_, rfl, by rw [t8 8 (by omega) (by omega)]; rfl⟩
    · exact ⟨_, rfl, by rw [t8 9 (by omega) (by omega)]; rfl⟩
    · exact ⟨_, rfl, by rw [t8 10 (by omega) (by omega)]; rfl⟩
    · exact ⟨_, rfl, by rw [t8 11 (by omega) (by omega)]; rfl⟩
    · exact ⟨_, rfl, by rw [t8 12 (by omega) (by omega)]; rfl⟩
    · exact ⟨_, rfl, by rw [t8 13 (by omega) (by omega)]; rfl⟩
    · exact ⟨_, rfl, by rw [t8 14 (by omega) (by omega)]; rfl⟩
    · exact ⟨_, rfl, by rw [t8 15 (by omega) (by omega)]; rfl⟩
    · exact ⟨_, rfl, by rw [t9]; rfl⟩
    · exact ⟨_, rfl, by rw [t7]; rfl⟩
    · exact ⟨_, rfl, by rw [t6]; rfl⟩
set_option maxHeartbeats 200000 in
/-- another tape, all else as it was -/
theorem LR_t {vc' vr' : q_V} (h : LR vc vr) (ht : ∃ L, L ≤ 3000 ∧ q_i vc' 2206 = nI L ∧ q_i vr' 2402 = nI L ∧ ∀ j, j < L → q_a vc' 2200 j = q_a vr' 2401 j ∧ ∃ b, b < 128 ∧ q_a vc' 2200 j = nI b) (hi : ∀ k, k ≠ 2206 → q_i vc' k = q_i vc k) (ha : ∀ k, k ≠ 2200 → q_a vc' k = q_a vc k) (hb : q_b vc' = q_b vc) (hn : q_n vc' = q_n vc) (hi' : ∀ k, 2402 < k → q_i vr' k = q_i vr k) (ha' : ∀ k, 2401 < k → q_a vr' k = q_a vr k) (hb' : q_b vr' = q_b vr) : LR vc' vr' := by
  obtain ⟨_, h2, h3, h4, h5, h6⟩ := h
  refine ⟨ht, ?_, ?_, ?_, ?_, ?_⟩
  · rw [hi 2207 (by omega), hi 2208 (by omega), hi' 2408 (by omega), hi' 2409 (by omega)]; exact h2
  · unfold ru_A at h3 ⊢
    rw [ha 200 (by omega), ha 201 (by omega), ha 202 (by omega), ha 203 (by omega), ha 204 (by omega), ha' 2463 (by omega), ha' 2464 (by omega), ha' 2465 (by omega), ha' 2466 (by omega), ha' 2467 (by omega)]; exact h3
  · unfold ru_told at h4 ⊢
    obtain ⟨t0, t1, t2, t3, t4, t5, t6, t7, t8, t9, t10, t11, t12⟩ := h4
    rw [ha 1400 (by omega), ha 1401 (by omega), ha 1402 (by omega), hi' 2517 (by omega), hi' 2518 (by omega), hi' 2519 (by omega), hi' 2520 (by omega), hi' 2522 (by omega), hi' 2523 (by omega), hi' 2521 (by omega), hi' 2524 (by omega), hi' 2470 (by omega), ha' 2468 (by omega), ha' 2469 (by omega)]
    exact ⟨t0, t1, t2, t3, t4, t5, t6, t7, fun k k1 k2 => by rw [hi' (2465 + k) (by omega)]; exact t8 k k1 k2, t9, t10, t11, t12⟩
  · rw [hb, hb']; exact h5
  · rw [hi 3 (by omega), hi' 2447 (by omega)]
    rcases h6 with h6 | ⟨T, XL, h6⟩
    · exact Or.inl h6
    · exact Or.inr ⟨T, XL, bk_c (bk_r h6 (fun k h1 h2 => hi' k (by omega)) (fun k h1 h2 => ha' k (by omega))) (fun k hk => hi k (by omega)) (fun k hk => ha k (by omega)) hn⟩
set_option maxHeartbeats 200000 in
/-- END -/
theorem a_end (h : LR vc vr) : ∃ o vc' vr', fX11_end x vc = some (o, vc') ∧ fX12_end x vr = some (o, vr') ∧ LR vc' vr' ∧ (vc' = vc ∨ vc' = q_si vc 2206 x) ∧ (vr' = q_si vr 2400 0 ∨ vr' = q_si (q_si vr 2400 0) 2402 x) := by
  have h' := LR_0 (x := 0) h
  obtain ⟨⟨L, l1, l2, l3, l4⟩, hr⟩ := h
  unfold fX11_end fX11_end_b12 fX12_end fX12_end_b17
  simp only [q_lt_s]
  rw [q_i_ne (by omega), l2, l3]
  by_cases c : x < 0
  · rw [if_pos c, if_pos c]; exact ⟨_, _, _, rfl, rfl, h', Or.inl rfl, Or.inl rfl⟩
  · rw [if_neg c, if_neg c]
    by_cases c2 : x ≤ nI L
    · rw [if_pos c2, if_pos c2]
      obtain ⟨a, ha, e⟩ := ni_ex c
      subst e
      rw [ni_le ha (by omega)] at c2
      refine ⟨_, _, _, rfl, rfl, ?_, Or.inr rfl, Or.inr rfl⟩
      exact LR_t h' ⟨a, by omega, q_i_at, q_i_at, fun j hj => l4 j (by omega)⟩ (fun k hk => q_i_ne hk) (fun _ _ => rfl) rfl rfl (fun k hk => q_i_ne (by omega)) (fun _ _ => rfl) rfl
    · rw [if_neg c2, if_neg c2]; exact ⟨_, _, _, rfl, rfl, h', Or.inl rfl, Or.inl rfl⟩
end
