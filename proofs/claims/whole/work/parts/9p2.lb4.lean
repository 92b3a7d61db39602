section
variable {vc vr vc' vr' v w : q_V} {x x1 x2 : Int32}
set_option maxHeartbeats 200000 in
theorem o_lock (h : x < 0 ∨ nI 6 ≤ x) : fX1_isLock x v = some (0, v) := by
  unfold fX1_isLock fX1_isLock_b14 fX1_isLock_b15
  by_cases c : x < 0
  · rw [if_pos c, if_neg (by decide)]
  · rw [if_neg c, if_pos (show (6 : Int32) ≤ x from h.resolve_left c), if_neg (by decide)]
set_option maxHeartbeats 200000 in
theorem i_lock {k : Nat} (h : k < 6) : fX1_isLock (nI k) v = some (1, v) := by
  unfold fX1_isLock fX1_isLock_b15
  rw [if_neg (by rw [ni_neg (by omega)]; exact not_false), if_neg (show ¬ (6 : Int32) ≤ nI k from ni_nle (a := 6) h (by omega)), if_neg (by decide)]
set_option maxHeartbeats 200000 in
theorem o_reach (h : x < 0 ∨ nI 7 ≤ x) : fX1_isReach x v = some (0, v) := by
  unfold fX1_isReach fX1_isReach_b14 fX1_isReach_b15
  by_cases c : x < 0
  · rw [if_pos c, if_neg (by decide)]
  · rw [if_neg c, if_pos (show (7 : Int32) ≤ x from h.resolve_left c), if_neg (by decide)]
set_option maxHeartbeats 200000 in
theorem i_reach {k : Nat} (h : k < 7) : fX1_isReach (nI k) v = some (1, v) := by
  unfold fX1_isReach fX1_isReach_b15
  rw [if_neg (by rw [ni_neg (by omega)]; exact not_false), if_neg (show ¬ (7 : Int32) ≤ nI k from ni_nle (a := 7) h (by omega)), if_neg (by decide)]
set_option maxHeartbeats 200000 in
theorem o_ship (h : x < 0 ∨ nI 8 ≤ x) : fX1_isShip x v = some (0, v) := by
  unfold fX1_isShip fX1_isShip_b14 fX1_isShip_b15
  by_cases c : x < 0
  · rw [if_pos c, if_neg (by decide)]
  · rw [if_neg c, if_pos (show (8 : Int32) ≤ x from h.resolve_left c), if_neg (by decide)]
set_option maxHeartbeats 200000 in
theorem i_ship {k : Nat} (h : k < 8) : fX1_isShip (nI k) v = some (1, v) := by
  unfold fX1_isShip fX1_isShip_b15
  rw [if_neg (by rw [ni_neg (by omega)]; exact not_false), if_neg (show ¬ (8 : Int32) ≤ nI k from ni_nle (a := 8) h (by omega)), if_neg (by decide)]
set_option maxHeartbeats 200000 in
theorem o_in {m : Nat} (hm : m + 1 < 2147483648) (h : x < 0 ∨ nI (m + 1) ≤ x) : fX12_in x 0 (nI m) w = some (0, w) := by
  rw [r_inr (a := 0) (by omega), if_pos]
  rcases h with h | h
  · exact Or.inl h
  · right
    rw [Int32.lt_iff_toInt_lt, ni_toInt (by omega)]
    rw [Int32.le_iff_toInt_le, ni_toInt (by omega)] at h
    omega
set_option maxHeartbeats 200000 in
theorem i_in {m k : Nat} (hm : m < 2147483648) (h : k ≤ m) : fX12_in (nI k) 0 (nI m) w = some (1, w) := by
  rw [r_inr (a := 0) hm, if_neg]
  intro z
  rcases z with z | z
  · rw [ni_neg (by omega)] at z; exact z
  · exact absurd z (ni_nlt h (by omega))
set_option maxHeartbeats 200000 in
/-- another canal, all else as it was -/
theorem LR_a (h : LR vc vr) (hA : ru_A vc' vr' ∧ ∀ k, k < 6 → q_a vc' 203 k = 0) (hi : q_i vc' = q_i vc) (ha : ∀ k, ¬ (200 ≤ k ∧ k ≤ 204) → q_a vc' k = q_a vc k) (hb : q_b vc' = q_b vc) (hn : q_n vc' = q_n vc) (hi' : q_i vr' = q_i vr) (ha' : ∀ k, ¬ (2463 ≤ k ∧ k ≤ 2467) → q_a vr' k = q_a vr k) (hb' : q_b vr' = q_b vr) : LR vc' vr' := by
  obtain ⟨h1, h2, h3, h4, h5, h6⟩ := h
  refine ⟨?_, ?_, hA, ?_, ?_, ?_⟩
  · rw [hi, hi', ha 2200 (by omega), ha' 2401 (by omega)]; exact h1
  · rw [hi, hi']; exact h2
  · unfold ru_told at h4 ⊢
    rw [ha 1400 (by omega), ha 1401 (by omega), ha 1402 (by omega), hi', ha' 2468 (by omega), ha' 2469 (by omega)]; exact h4
  · rw [hb, hb']; exact h5
  · rw [hi, hi']
    rcases h6 with h6 | ⟨T, XL, h6⟩
    · exact Or.inl h6
    · exact Or.inr ⟨T, XL, bk_c (bk_r h6 (fun k h1 h2 => by rw [hi']) (fun k h1 h2 => ha' k (by omega))) (fun k hk => by rw [hi]) (fun k hk => ha k (by omega)) hn⟩
/-- what both calls on the canal may leave -/
def cw (vc vr vc' vr' : q_V) : Prop := (vc' = vc ∧ vr' = q_si vr 2400 0) ∨ ∃ k j f g, 200 ≤ k ∧ k ≤ 204 ∧ 2463 ≤ j ∧ j ≤ 2467 ∧ vc' = q_sa vc k f ∧ vr' = q_sa (q_si vr 2400 0) j g
set_option maxHeartbeats 200000 in
/-- FILL -/
theorem a_fill (h : LR vc vr) : ∃ o vc' vr', fX11_fill x1 x2 vc = some (o, vc') ∧ fX12_fill x1 x2 vr = some (o, vr') ∧ LR vc' vr' ∧ cw vc vr vc' vr' := by
  have h' := LR_0 (x := 0) h
  have no : fX1_fillReach x1 x2 vc = some (0, vc) → fX12_fill x1 x2 vr = some (0, q_si vr 2400 0) → ∃ o vc' vr', fX11_fill x1 x2 vc = some (o, vc') ∧ fX12_fill x1 x2 vr = some (o, vr') ∧ LR vc' vr' ∧ cw vc vr vc' vr' := fun e1 e2 => by
    refine ⟨0, vc, _, ?_, e2, h', Or.inl ⟨rfl, rfl⟩⟩
    unfold fX11_fill
    rw [e1, q_bd_s, if_neg (by decide)]
  have oo : (x1 < 0 ∨ nI 7 ≤ x1) → fX1_fillReach x1 x2 vc = some (0, vc) ∧ fX12_fill x1 x2 vr = some (0, q_si vr 2400 0) := fun hx => by
    unfold fX1_fillReach fX1_fillReach_b17 fX12_fill fX12_fill_b26
    rw [o_reach hx, q_bd_s, if_pos rfl, q_lt_s, show fX12_in x1 0 6 (q_si vr 2400 0) = some (0, q_si vr 2400 0) from o_in (m := 6) (by omega) hx, q_bd_s, if_pos rfl]
    exact ⟨rfl, rfl⟩
  rcases x_rng (x := x1) (m := 7) (by omega) with c | c | ⟨k, hk, e⟩
  · exact no (oo (Or.inl c)).1 (oo (Or.inl c)).2
  · exact no (oo (Or.inr c)).1 (oo (Or.inr c)).2
  · subst e
    have hin : ¬ (nI k < 0 ∨ 7 ≤ (nI k).toNatClampNeg) := ni_nin (by omega) (by omega)
    have mc : (nI k).toNatClampNeg = k := ni_clamp (by omega)
    have o2 : (x2 < 0 ∨ nI 100001 ≤ x2) → fX1_fillReach (nI k) x2 vc = some (0, vc) ∧ fX12_fill (nI k) x2 vr = some (0, q_si vr 2400 0) := fun hx => by
      unfold fX1_fillReach fX1_fillReach_b17 fX12_fill fX12_fill_b26
      rw [i_reach hk, q_bd_s, if_neg (show ¬ (1 : Int32) = 0 by decide), q_lt_s, q_lt_s, show fX12_in (nI k) 0 6 (q_si vr 2400 0) = some (1, q_si vr 2400 0) from i_in (m := 6) (by omega) (by omega), q_bd_s, if_neg (show ¬ (1 : Int32) = 0 by decide), show fX12_in x2 0 100000 (q_si vr 2400 0) = some (0, q_si vr 2400 0) from o_in (m := 100000) (by omega) hx, q_bd_s, if_pos rfl]
      by_cases z : x2 < 0
      · rw [if_pos z]; exact ⟨rfl, rfl⟩
      · have : ¬ x2 ≤ 100000 := by
          have h1 := hx.resolve_left z
          rw [Int32.le_iff_toInt_le] at h1 ⊢
          rw [ni_toInt (by omega)] at h1
          have : (100000 : Int32).toInt = 100000 := rfl
          omega
        rw [if_neg z, if_neg this]; exact ⟨rfl, rfl⟩
    rcases x_rng (x := x2) (m := 100001) (by omega) with c | c | ⟨y, hy, e⟩
    · exact no (o2 (Or.inl c)).1 (o2 (Or.inl c)).2
    · exact no (o2 (Or.inr c)).1 (o2 (Or.inr c)).2
    · subst e
      have n0 : ¬ nI y < 0 := by rw [ni_neg (by omega)]; exact not_false
      refine ⟨1, q_sa vc 201 (upd (q_a vc 201) k (nI y)), q_sa (q_si vr 2400 0) 2466 (upd (q_a vr 2466) k (nI y)), ?_, ?_, ?_, Or.inr ⟨201, 2466, _, _, by omega, by omega, by omega, by omega, rfl, rfl⟩⟩
      · unfold fX11_fill fX1_fillReach
        rw [i_reach hk, q_bd_s, if_neg (show ¬ (1 : Int32) = 0 by decide), if_neg n0, if_pos (show nI y ≤ 100000 from ni_ple (b := 100000) (by omega) (by omega)), if_neg hin, mc, q_lt_s, q_bd_s, if_neg (by decide)]
      · unfold fX12_fill
        rw [q_lt_s, show fX12_in (nI k) 0 6 (q_si vr 2400 0) = some (1, q_si vr 2400 0) from i_in (m := 6) (by omega) (by omega), q_bd_s, if_neg (show ¬ (1 : Int32) = 0 by decide), show fX12_in (nI y) 0 100000 (q_si vr 2400 0) = some (1, q_si vr 2400 0) from i_in (m := 100000) (by omega) (by omega), q_bd_s, if_neg (show ¬ (1 : Int32) = 0 by decide), if_neg hin, mc, q_lt_s]
        rfl
      · obtain ⟨_, _, ⟨A, A0⟩, _⟩ := id h
        obtain ⟨e1, e2, e3, e4, e5, e6, e7, e8, e9⟩ := A
        refine LR_a h' ⟨⟨?_, ?_, ?_, ?_, ?_, ?_, ?_, fun j hj => ?_, ?_⟩, ?_⟩ rfl (fun j hj => by rw [q_a_sa, if_neg (by omega)]) rfl rfl rfl (fun j hj => by rw [q_a_sa, if_neg (by omega)]) rfl
        · rw [q_a_sa, if_neg (by omega), q_a_sa, if_neg (by omega)]; exact e1
        · rw [q_a_sa, if_pos rfl, q_a_sa, if_pos rfl, e2]
        · rw [q_a_sa, if_neg (by omega), q_a_sa, if_neg (by omega)]; exact e3
        · rw [q_a_sa, if_neg (by omega), q_a_sa, if_neg (by omega)]; exact e4
        · rw [q_a_sa, if_neg (by omega), q_a_sa, if_neg (by omega)]; exact e5
        · rw [q_a_sa, if_neg (by omega)]; exact e6
        · rw [q_a_sa, if_neg (by omega)]; exact e7
        · rw [q_a_sa, if_pos rfl]
          by_cases z : j = k
          · rw [z, upd_at]; exact ⟨n0, show nI y ≤ 200000 from ni_ple (b := 200000) (by omega) (by omega)⟩
          · rw [upd_ne z]; exact e8 j hj
        · rw [q_a_sa, if_neg (by omega)]; exact e9
        · rw [q_a_sa, if_neg (by omega)]; exact A0
end
