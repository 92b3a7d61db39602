section
variable {vc vr vc' vr' v w : q_V} {x x1 x2 : Int32}
set_option maxHeartbeats 200000 in
theorem i_gate {k s : Nat} (hk : k < 6) (hs : s < 2) : fX1_gateOf (nI k) (nI s) v = some (q_a v 202 (2 * k + s), v) := by
  unfold fX1_gateOf fX1_gateOf_b22
  have hs2 : s = 0 ∨ s = 1 := by omega
  have c : ¬ (nI k < 0 ∨ 6 ≤ nI k ∨ ¬ (nI s = 0 ∨ nI s = 1)) := by
    intro z
    rcases z with z | z | z
    · rw [ni_neg (by omega)] at z; exact z
    · exact absurd z (show ¬ (6 : Int32) ≤ nI k from ni_nle (a := 6) hk (by omega))
    · rcases hs2 with e | e
      · subst e; exact z (Or.inl rfl)
      · subst e; exact z (Or.inr rfl)
  have e2 : (2 : Int32) * nI k + nI s = nI (2 * k + s) := by
    unfold nI
    rw [show (2 : Int32) = Int32.ofNat 2 from rfl, ← Int32.ofNat_mul, ← Int32.ofNat_add]
  rw [cs_isGate, if_neg c, q_bd_s, if_neg (show ¬ (1 : Int32) = 0 by decide), e2, if_neg (ni_nin (by omega) (by omega)), ni_clamp (by omega)]
set_option maxHeartbeats 200000 in
theorem o_gate (h : x < 0 ∨ nI 6 ≤ x) {s : Int32} : fX1_gateOf x s v = some (-1, v) := by
  unfold fX1_gateOf fX1_gateOf_b22
  rw [cs_isGate, if_pos (show x < 0 ∨ 6 ≤ x ∨ ¬ (s = 0 ∨ s = 1) from h.elim Or.inl (fun z => Or.inr (Or.inl z))), q_bd_s, if_pos rfl]
set_option maxHeartbeats 200000 in
theorem ni_2m {k : Nat} : (2 : Int32) * nI k = nI (2 * k) := by
  unfold nI
  rw [show (2 : Int32) = Int32.ofNat 2 from rfl, ← Int32.ofNat_mul]
set_option maxHeartbeats 200000 in
/-- CHAMBER -/
theorem a_chamber (h : LR vc vr) : ∃ o vc' vr', fX11_chamber x1 x2 vc = some (o, vc') ∧ fX12_chamber x1 x2 vr = some (o, vr') ∧ LR vc' vr' ∧ cw vc vr vc' vr' := by
  have h' := LR_0 (x := 0) h
  obtain ⟨_, _, ⟨A, A0⟩, _⟩ := id h
  obtain ⟨e1, e2, e3, e4, e5, e6, e7, e8, e9⟩ := A
  have no : fX1_fillChamber x1 x2 vc = some (0, vc) ∧ fX12_chamber x1 x2 vr = some (0, q_si vr 2400 0) → ∃ o vc' vr', fX11_chamber x1 x2 vc = some (o, vc') ∧ fX12_chamber x1 x2 vr = some (o, vr') ∧ LR vc' vr' ∧ cw vc vr vc' vr' := fun e => by
    refine ⟨0, vc, _, ?_, e.2, h', Or.inl ⟨rfl, rfl⟩⟩
    unfold fX11_chamber
    rw [e.1, q_bd_s, if_neg (by decide)]
  have oo : (x1 < 0 ∨ nI 6 ≤ x1) → fX1_fillChamber x1 x2 vc = some (0, vc) ∧ fX12_chamber x1 x2 vr = some (0, q_si vr 2400 0) := fun hx => by
    unfold fX1_fillChamber fX1_fillChamber_b38 fX12_chamber fX12_chamber_b49
    rw [o_lock hx, q_bd_s, if_pos rfl, q_lt_s, show fX12_in x1 0 5 (q_si vr 2400 0) = some (0, q_si vr 2400 0) from o_in (m := 5) (by omega) hx, q_bd_s, if_pos rfl]
    exact ⟨rfl, rfl⟩
  rcases x_rng (x := x1) (m := 6) (by omega) with c | c | ⟨k, hk, e⟩
  · exact no (oo (Or.inl c))
  · exact no (oo (Or.inr c))
  · subst e
    have hin : ¬ (nI k < 0 ∨ 6 ≤ (nI k).toNatClampNeg) := ni_nin (by omega) (by omega)
    have mc : (nI k).toNatClampNeg = k := ni_clamp (by omega)
    have o2 : (x2 < 0 ∨ nI 10001 ≤ x2) → fX1_fillChamber (nI k) x2 vc = some (0, vc) ∧ fX12_chamber (nI k) x2 vr = some (0, q_si vr 2400 0) := fun hx => by
      unfold fX1_fillChamber fX1_fillChamber_b38 fX12_chamber fX12_chamber_b49
      simp only [q_lt_s]
      rw [i_lock hk, q_bd_s, if_neg (show ¬ (1 : Int32) = 0 by decide), show fX12_in (nI k) 0 5 (q_si vr 2400 0) = some (1, q_si vr 2400 0) from i_in (m := 5) (by omega) (by omega), q_bd_s, if_neg (show ¬ (1 : Int32) = 0 by decide), show fX12_in x2 0 10000 (q_si vr 2400 0) = some (0, q_si vr 2400 0) from o_in (m := 10000) (by omega) hx, q_bd_s, if_pos rfl]
      by_cases z : x2 < 0
      · rw [if_pos z]; exact ⟨rfl, rfl⟩
      · have : (10000 : Int32) < x2 := by
          have h1 := hx.resolve_left z
          rw [Int32.le_iff_toInt_le, ni_toInt (by omega)] at h1
          rw [Int32.lt_iff_toInt_lt]
          have : (10000 : Int32).toInt = 10000 := rfl
          omega
        rw [if_neg z, if_pos this]; exact ⟨rfl, rfl⟩
    rcases x_rng (x := x2) (m := 10001) (by omega) with c | c | ⟨y, hy, e⟩
    · exact no (o2 (Or.inl c))
    · exact no (o2 (Or.inr c))
    · subst e
      have n0 : ¬ nI y < 0 := by rw [ni_neg (by omega)]; exact not_false
      have n1 : ¬ (10000 : Int32) < nI y := ni_nlt (a := 10000) (by omega) (by omega)
      have cl : fX1_fillChamber (nI k) (nI y) vc = if q_a vc 202 (2 * k) = 1 then some (0, vc) else if q_a vc 202 (2 * k + 1) = 1 then some (0, vc) else some (1, q_sa vc 200 (upd (q_a vc 200) k (nI y))) := by
        unfold fX1_fillChamber fX1_fillChamber_b38
        rw [i_lock hk, q_bd_s, if_neg (show ¬ (1 : Int32) = 0 by decide), if_neg n0, if_neg n1, show fX1_gateOf (nI k) 0 vc = some (q_a vc 202 (2 * k + 0), vc) from i_gate (s := 0) hk (by omega), q_bd_s, show fX1_gateOf (nI k) 1 vc = some (q_a vc 202 (2 * k + 1), vc) from i_gate (s := 1) hk (by omega), q_bd_s, if_neg hin, mc, q_lt_s, Nat.add_zero]
      have hin2 : ¬ (nI (2 * k) < 0 ∨ 12 ≤ (nI (2 * k)).toNatClampNeg) := ni_nin (by omega) (by omega)
      have hin3 : ¬ (nI (2 * k + 1) < 0 ∨ 12 ≤ (nI (2 * k + 1)).toNatClampNeg) := ni_nin (by omega) (by omega)
      have rr : fX12_chamber (nI k) (nI y) vr = if q_a vr 2464 (2 * k) = 0 then if q_a vr 2464 (2 * k + 1) = 0 then some (1, q_sa (q_si vr 2400 0) 2463 (upd (q_a vr 2463) k (nI y))) else some (0, q_si vr 2400 0) else some (0, q_si vr 2400 0) := by
        unfold fX12_chamber fX12_chamber_b49
        simp only [q_lt_s]
        rw [show fX12_in (nI k) 0 5 (q_si vr 2400 0) = some (1, q_si vr 2400 0) from i_in (m := 5) (by omega) (by omega), q_bd_s, if_neg (show ¬ (1 : Int32) = 0 by decide), show fX12_in (nI y) 0 10000 (q_si vr 2400 0) = some (1, q_si vr 2400 0) from i_in (m := 10000) (by omega) (by omega), q_bd_s, if_neg (show ¬ (1 : Int32) = 0 by decide), ni_2m, if_neg hin2, ni_add1, if_neg hin3, if_neg hin, mc, ni_clamp (show 2 * k < 2147483648 by omega), ni_clamp (show 2 * k + 1 < 2147483648 by omega), q_a_si]
      have g0 := e6 (2 * k) (by omega)
      have g1 := e6 (2 * k + 1) (by omega)
      rw [e3] at g0 g1 cl
      rcases g0 with g0 | g0
      · rcases g1 with g1 | g1
        · rw [g0, g1, if_neg (by decide), if_neg (by decide)] at cl
          rw [g0, g1, if_pos rfl, if_pos rfl] at rr
          refine ⟨1, q_sa vc 200 (upd (q_a vc 200) k (nI y)), q_sa (q_si vr 2400 0) 2463 (upd (q_a vr 2463) k (nI y)), ?_, rr, ?_, Or.inr ⟨200, 2463, _, _, by omega, by omega, by omega, by omega, rfl, rfl⟩⟩
          · unfold fX11_chamber
            rw [cl, q_bd_s, if_neg (by decide)]
          · refine LR_a h' ⟨⟨?_, ?_, ?_, ?_, ?_, ?_, fun j hj => ?_, ?_, ?_⟩, ?_⟩ rfl (fun j hj => by rw [q_a_sa, if_neg (by omega)]) rfl rfl rfl (fun j hj => by rw [q_a_sa, if_neg (by omega)]) rfl
            · rw [q_a_sa, if_pos rfl, q_a_sa, if_pos rfl, e1]
            · rw [q_a_sa, if_neg (by omega), q_a_sa, if_neg (by omega)]; exact e2
            · rw [q_a_sa, if_neg (by omega), q_a_sa, if_neg (by omega)]; exact e3
            · rw [q_a_sa, if_neg (by omega), q_a_sa, if_neg (by omega)]; exact e4
            · rw [q_a_sa, if_neg (by omega), q_a_sa, if_neg (by omega)]; exact e5
            · rw [q_a_sa, if_neg (by omega)]; exact e6
            · rw [q_a_sa, if_pos rfl]
              by_cases z : j = k
              · rw [z, upd_at]; exact ⟨n0, show nI y ≤ 20000 from ni_ple (b := 20000) (by omega) (by omega)⟩
              · rw [upd_ne z]; exact e7 j hj
            · rw [q_a_sa, if_neg (by omega)]; exact e8
            · rw [q_a_sa, if_neg (by omega)]; exact e9
            · rw [q_a_sa, if_neg (by omega)]; exact A0
        · rw [g0, g1, if_neg (by decide), if_pos rfl] at cl
          rw [g0, g1, if_pos rfl, if_neg (by decide)] at rr
          exact no ⟨cl, rr⟩
      · rw [g0, if_pos rfl] at cl
        rw [g0, if_neg (by decide)] at rr
        exact no ⟨cl, rr⟩
set_option maxHeartbeats 200000 in
/-- BERTH -/
theorem a_berth (h : LR vc vr) : ∃ o vc' vr', fX11_berth x1 x2 vc = some (o, vc') ∧ fX12_berth x1 x2 vr = some (o, vr') ∧ LR vc' vr' ∧ cw vc vr vc' vr' := by
  have h' := LR_0 (x := 0) h
  obtain ⟨_, _, ⟨A, A0⟩, _⟩ := id h
  obtain ⟨e1, e2, e3, e4, e5, e6, e7, e8, e9⟩ := A
  have no : fX1_layShip x1 x2 vc = some (0, vc) ∧ fX12_berth x1 x2 vr = some (0, q_si vr 2400 0) → ∃ o vc' vr', fX11_berth x1 x2 vc = some (o, vc') ∧ fX12_berth x1 x2 vr = some (o, vr') ∧ LR vc' vr' ∧ cw vc vr vc' vr' := fun e => by
    refine ⟨0, vc, _, ?_, e.2, h', Or.inl ⟨rfl, rfl⟩⟩
    unfold fX11_berth
    rw [e.1, q_bd_s, if_neg (by decide)]
  have oo : (x1 < 0 ∨ nI 8 ≤ x1) → fX1_layShip x1 x2 vc = some (0, vc) ∧ fX12_berth x1 x2 vr = some (0, q_si vr 2400 0) := fun hx => by
    unfold fX1_layShip fX1_layShip_b26 fX12_berth fX12_berth_b41
    rw [o_ship hx, q_bd_s, if_pos rfl, q_lt_s, show fX12_in x1 0 7 (q_si vr 2400 0) = some (0, q_si vr 2400 0) from o_in (m := 7) (by omega) hx, q_bd_s, if_pos rfl]
    exact ⟨rfl, rfl⟩
  rcases x_rng (x := x1) (m := 8) (by omega) with c | c | ⟨k, hk, e⟩
  · exact no (oo (Or.inl c))
  · exact no (oo (Or.inr c))
  · subst e
    have hin : ¬ (nI k < 0 ∨ 8 ≤ (nI k).toNatClampNeg) := ni_nin (by omega) (by omega)
    have mc : (nI k).toNatClampNeg = k := ni_clamp (by omega)
    have hk8 : ¬ (nI k < 0 ∨ 8 ≤ k) := by have := hin; rw [mc] at this; exact this
    have o2 : (x2 < 0 ∨ nI 13 ≤ x2) → fX1_layShip (nI k) x2 vc = some (0, vc) ∧ fX12_berth (nI k) x2 vr = some (0, q_si vr 2400 0) := fun hx => by
      unfold fX1_layShip fX1_layShip_b26 fX12_berth fX12_berth_b41
      simp only [q_lt_s]
      rw [i_ship hk, q_bd_s, if_neg (show ¬ (1 : Int32) = 0 by decide), show fX12_in (nI k) 0 7 (q_si vr 2400 0) = some (1, q_si vr 2400 0) from i_in (m := 7) (by omega) (by omega), q_bd_s, if_neg (show ¬ (1 : Int32) = 0 by decide), show fX12_in x2 0 12 (q_si vr 2400 0) = some (0, q_si vr 2400 0) from o_in (m := 12) (by omega) hx, q_bd_s, if_pos rfl]
      by_cases z : x2 < 0
      · rw [if_pos z]; exact ⟨rfl, rfl⟩
      · have : (12 : Int32) < x2 := by
          have h1 := hx.resolve_left z
          rw [Int32.le_iff_toInt_le, ni_toInt (by omega)] at h1
          rw [Int32.lt_iff_toInt_lt]
          have : (12 : Int32).toInt = 12 := rfl
          omega
        rw [if_neg z, if_pos this]; exact ⟨rfl, rfl⟩
    rcases x_rng (x := x2) (m := 13) (by omega) with c | c | ⟨y, hy, e⟩
    · exact no (o2 (Or.inl c))
    · exact no (o2 (Or.inr c))
    · subst e
      have n0 : ¬ nI y < 0 := by rw [ni_neg (by omega)]; exact not_false
      have n1 : ¬ (12 : Int32) < nI y := ni_nlt (a := 12) (by omega) (by omega)
      obtain ⟨t, ht, a1, a2⟩ := ru_tk (x1 := nI y) (x2 := nI k) (vc := vc) (vr := q_si vr 2400 0) e5 8 0 q_N q_N (by omega) (by unfold q_N; omega) (by unfold q_N; omega)
      have par : (nI y - nI y / 2 * 2 = 0 ∧ ¬ nI y - nI y / 2 * 2 = 1) ∨ (¬ nI y - nI y / 2 * 2 = 0 ∧ nI y - nI y / 2 * 2 = 1) := by
        have : ∀ y, y < 13 → (nI y - nI y / 2 * 2 = 0 ∧ ¬ nI y - nI y / 2 * 2 = 1) ∨ (¬ nI y - nI y / 2 * 2 = 0 ∧ nI y - nI y / 2 * 2 = 1) := by decide
        exact this y hy
      have yes : fX1_layShip (nI k) (nI y) vc = some (1, q_sa vc 204 (upd (q_a vc 204) k (nI y))) → fX12_berth (nI k) (nI y) vr = some (1, q_sa (q_si vr 2400 0) 2467 (upd (q_a vr 2467) k (nI y))) → ∃ o vc' vr', fX11_berth (nI k) (nI y) vc = some (o, vc') ∧ fX12_berth (nI k) (nI y) vr = some (o, vr') ∧ LR vc' vr' ∧ cw vc vr vc' vr' := fun b1 b2 => by
        refine ⟨1, q_sa vc 204 (upd (q_a vc 204) k (nI y)), q_sa (q_si vr 2400 0) 2467 (upd (q_a vr 2467) k (nI y)), ?_, b2, ?_, Or.inr ⟨204, 2467, _, _, by omega, by omega, by omega, by omega, rfl, rfl⟩⟩
        · unfold fX11_berth
          rw [b1, q_bd_s, if_neg (by decide)]
        · refine LR_a h' ⟨⟨?_, ?_, ?_, ?_, ?_, ?_, ?_, ?_, fun j hj => ?_⟩, ?_⟩ rfl (fun j hj => by rw [q_a_sa, if_neg (by omega)]) rfl rfl rfl (fun j hj => by rw [q_a_sa, if_neg (by omega)]) rfl
          · rw [q_a_sa, if_neg (by omega), q_a_sa, if_neg (by omega)]; exact e1
          · rw [q_a_sa, if_neg (by omega), q_a_sa, if_neg (by omega)]; exact e2
          · rw [q_a_sa, if_neg (by omega), q_a_sa, if_neg (by omega)]; exact e3
          · rw [q_a_sa, if_neg (by omega), q_a_sa, if_neg (by omega)]; exact e4
          · rw [q_a_sa, if_pos rfl, q_a_sa, if_pos rfl, e5]
          · rw [q_a_sa, if_neg (by omega)]; exact e6
          · rw [q_a_sa, if_neg (by omega)]; exact e7
          · rw [q_a_sa, if_neg (by omega)]; exact e8
          · rw [q_a_sa, if_pos rfl]
            by_cases z : j = k
            · rw [z, upd_at]; exact ⟨n0, show nI y ≤ 12 from ni_ple (b := 12) (by omega) (by omega)⟩
            · rw [upd_ne z]; exact e9 j hj
          · rw [q_a_sa, if_neg (by omega)]; exact A0
      have cl : fX1_layShip (nI k) (nI y) vc = q_bd (fX1_isTaken (nI y) (nI k) vc) (fun y4 T3 => if y4 = 0 then some (1, q_sa T3 204 (upd (q_a T3 204) k (nI y))) else some (0, T3)) := by
        unfold fX1_layShip fX1_layShip_b26
        simp only [q_lt_s]
        rw [i_ship hk, q_bd_s, if_neg (show ¬ (1 : Int32) = 0 by decide), if_neg n0, if_neg n1]
        simp only [mc, if_neg hk8]
      have rr : fX12_berth (nI k) (nI y) vr = if nI y - nI y / 2 * 2 = 1 then q_bd (fX12_isTaken (nI y) (nI k) (q_si vr 2400 0)) (fun y7 T6 => if y7 = 0 then some (1, q_sa T6 2467 (upd (q_a T6 2467) k (nI y))) else some (0, T6)) else some (1, q_sa (q_si vr 2400 0) 2467 (upd (q_a vr 2467) k (nI y))) := by
        unfold fX12_berth fX12_berth_b41 fX12_berth_b43
        simp only [q_lt_s]
        rw [show fX12_in (nI k) 0 7 (q_si vr 2400 0) = some (1, q_si vr 2400 0) from i_in (m := 7) (by omega) (by omega), q_bd_s, if_neg (show ¬ (1 : Int32) = 0 by decide), show fX12_in (nI y) 0 12 (q_si vr 2400 0) = some (1, q_si vr 2400 0) from i_in (m := 12) (by omega) (by omega), q_bd_s, if_neg (show ¬ (1 : Int32) = 0 by decide)]
        simp only [mc, if_neg hk8, q_a_si]
      rcases par with ⟨p1, p2⟩ | ⟨p1, p2⟩
      · have k1 : fX1_isTaken (nI y) (nI k) vc = some (0, vc) := by unfold fX1_isTaken; rw [if_pos p1]
        rw [k1, q_bd_s, if_pos rfl] at cl
        rw [if_neg p2] at rr
        exact yes cl rr
      · have k1 : fX1_isTaken (nI y) (nI k) vc = some (t, vc) := by unfold fX1_isTaken; rw [if_neg p1]; exact a1
        have k2 : fX12_isTaken (nI y) (nI k) (q_si vr 2400 0) = some (t, q_si vr 2400 0) := a2
        rw [k1, q_bd_s] at cl
        rw [if_pos p2, k2, q_bd_s, q_a_si] at rr
        by_cases z : t = 0
        · rw [if_pos z] at cl rr
          exact yes cl rr
        · rw [if_neg z] at cl rr
          exact no ⟨cl, rr⟩
end
