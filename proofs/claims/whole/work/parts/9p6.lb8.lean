/-- how the class's run leaves: 0 with a run, 1 or 2 with a throw -/
def rx (x1 x4 : Int32) (v : q_V) : Int32 := if q_i v 3 ≤ 0 then 1 else if q_a v 1400 17 < 200000 then (if x1 < 0 then 2 else if q_i v 3 ≤ x1 then 2 else if x4 < 0 then 2 else if x4 ≤ 20000 then 0 else 2) else 1
/-- the reference's run, its steps counted by N -/
def ru_all (N : Nat) (x1 x2 x3 x4 : Int32) (S : q_V) : Option (Int32 × q_V) :=
  q_lt (q_si S 2400 0) (fun T1 =>
  if (q_i T1 2447) = 0 then
  fX12_run_b22 x1 x2 x3 x4 T1
  else
  if (q_i T1 2524) < 200000 then
  if x1 < 0 then
  fX12_run_b54 x1 x2 x3 x4 T1
  else
  if (q_i T1 2462) ≤ x1 then
  fX12_run_b54 x1 x2 x3 x4 T1
  else
  if x4 < 0 then
  fX12_run_b54 x1 x2 x3 x4 T1
  else
  if x4 ≤ 20000 then
  ru_runT N x1 x2 x3 x4 T1
  else
  fX12_run_b54 x1 x2 x3 x4 T1
  else
  fX12_run_b22 x1 x2 x3 x4 T1)
section
variable {vc vr : q_V} {x1 x2 x3 x4 : Int32}
set_option maxHeartbeats 200000 in
theorem a_runs (h : LR vc vr) : (∃ e, (e = 1 ∨ e = 2) ∧ rx x1 x4 vc = e ∧ ∀ N, ru_all N x1 x2 x3 x4 vr = some (0, q_si (q_si vr 2400 0) 2400 e)) ∨ (rx x1 x4 vc = 0 ∧ ∃ N o vc' vr', fX4_performR x1 x2 x3 x4 vc = some (o, vc') ∧ ru_all N x1 x2 x3 x4 vr = some (o, vr') ∧ LR vc' vr' ∧ lc bR vc vc' ∧ lc bW (q_si vr 2400 0) vr') := by
  obtain ⟨_, _, _, tt, _, h6⟩ := id h
  have e17 : q_a vc 1400 17 = q_i vr 2524 := tt.2.2.2.2.2.2.2.1
  have j1 : q_i (q_si vr 2400 0) 2447 = q_i vr 2447 := q_i_ne (by omega)
  have j2 : q_i (q_si vr 2400 0) 2524 = q_i vr 2524 := q_i_ne (by omega)
  have j3 : q_i (q_si vr 2400 0) 2462 = q_i vr 2462 := q_i_ne (by omega)
  unfold rx ru_all
  simp only [q_lt_s]
  rw [j1, j2, j3, e17]
  rcases h6 with ⟨c1, c2⟩ | ⟨T, XL, B⟩
  · left
    refine ⟨1, Or.inl rfl, by rw [if_pos c1], fun N => ?_⟩
    rw [if_pos c2]; rfl
  · obtain ⟨_, _, _, D, d1, d2, d3, d4, d5, _⟩ := id B
    have n0 : ¬ nI D ≤ 0 := ni_nle (b := 0) d1 (by omega)
    rw [d3, d4, d5, if_neg n0]
    by_cases c2 : q_i vr 2524 < 200000
    · rw [if_pos c2]
      have bad : (if x1 < 0 then (2 : Int32) else if nI D ≤ x1 then 2 else if x4 < 0 then 2 else if x4 ≤ 20000 then 0 else 2) = 2 → (∀ N, (if x1 < 0 then fX12_run_b54 x1 x2 x3 x4 (q_si vr 2400 0) else if nI D ≤ x1 then fX12_run_b54 x1 x2 x3 x4 (q_si vr 2400 0) else if x4 < 0 then fX12_run_b54 x1 x2 x3 x4 (q_si vr 2400 0) else if x4 ≤ 20000 then ru_runT N x1 x2 x3 x4 (q_si vr 2400 0) else fX12_run_b54 x1 x2 x3 x4 (q_si vr 2400 0)) = some (0, q_si (q_si vr 2400 0) 2400 2)) → (∃ e : Int32, (e = 1 ∨ e = 2) ∧ (if x1 < 0 then (2 : Int32) else if nI D ≤ x1 then 2 else if x4 < 0 then 2 else if x4 ≤ 20000 then 0 else 2) = e ∧ ∀ N, (if (1 : Int32) = 0 then fX12_run_b22 x1 x2 x3 x4 (q_si vr 2400 0) else if q_i vr 2524 < 200000 then (if x1 < 0 then fX12_run_b54 x1 x2 x3 x4 (q_si vr 2400 0) else if nI D ≤ x1 then fX12_run_b54 x1 x2 x3 x4 (q_si vr 2400 0) else if x4 < 0 then fX12_run_b54 x1 x2 x3 x4 (q_si vr 2400 0) else if x4 ≤ 20000 then ru_runT N x1 x2 x3 x4 (q_si vr 2400 0) else fX12_run_b54 x1 x2 x3 x4 (q_si vr 2400 0)) else fX12_run_b22 x1 x2 x3 x4 (q_si vr 2400 0)) = some (0, q_si (q_si vr 2400 0) 2400 e)) := fun z1 z2 => ⟨2, Or.inr rfl, z1, fun N => by rw [if_neg (by decide), if_pos c2]; exact z2 N⟩
      by_cases c3 : x1 < 0
      · exact Or.inl (bad (by rw [if_pos c3]) (fun N => by rw [if_pos c3]; rfl))
      · by_cases c4 : nI D ≤ x1
        · exact Or.inl (bad (by rw [if_neg c3, if_pos c4]) (fun N => by rw [if_neg c3, if_pos c4]; rfl))
        · by_cases c5 : x4 < 0
          · exact Or.inl (bad (by rw [if_neg c3, if_neg c4, if_pos c5]) (fun N => by rw [if_neg c3, if_neg c4, if_pos c5]; rfl))
          · by_cases c6 : x4 ≤ 20000
            · right
              refine ⟨by rw [if_neg c3, if_neg c4, if_neg c5, if_pos c6], ?_⟩
              rcases x_rng (x := x1) (m := D) (by omega) with c | c | ⟨k, hk, ek⟩
              · exact absurd c c3
              · exact absurd c c4
              · rcases x_rng (x := x4) (m := 20001) (by omega) with c | c | ⟨f, hf, ef⟩
                · exact absurd c c5
                · rw [Int32.le_iff_toInt_le] at c c6
                  rw [ni_toInt (by omega)] at c
                  have : (20000 : Int32).toInt = 20000 := rfl
                  omega
                · subst ek; subst ef
                  obtain ⟨N, o, vc', vr', a1, a2, a3⟩ := a_run (x := x2) (y := x3) h B d3 hk d2 (f := f) (by omega)
                  refine ⟨N, o, vc', vr', a1, ?_, a3⟩
                  rw [if_neg (by decide), if_pos c2, if_neg c3, if_neg c4, if_neg c5, if_pos c6]; exact a2
            · exact Or.inl (bad (by rw [if_neg c3, if_neg c4, if_neg c5, if_neg c6]) (fun N => by rw [if_neg c3, if_neg c4, if_neg c5, if_neg c6]; rfl))
    · left
      refine ⟨1, Or.inl rfl, by rw [if_neg c2], fun N => ?_⟩
      rw [if_neg (by decide), if_neg c2]; rfl
end
