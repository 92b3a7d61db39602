section
variable {vc vr v w : q_V} {x x1 x2 : Int32}
set_option maxHeartbeats 200000 in
theorem r_inr {a m : Nat} (hm : m < 2147483648) : fX12_in x 0 (nI m) w = some (if x < 0 ∨ nI m < x then 0 else 1, w) := by
  unfold fX12_in fX12_in_b14 fX12_in_b15
  by_cases c : x < 0
  · rw [if_pos c, if_pos (Or.inl c), if_neg (by decide)]
  · rw [if_neg c]
    by_cases c2 : nI m < x
    · rw [if_pos c2, if_pos (Or.inr c2), if_neg (by decide)]
    · rw [if_neg c2, if_neg (show ¬ ¬ ((1 : Int32) = 0 ∨ (1 : Int32) = 1) by decide), if_neg (fun z => z.elim c c2)]
set_option maxHeartbeats 200000 in
/-- LOG -/
theorem a_log (h : LR vc vr) : ∃ o, fX11_log x1 x2 vc = some (o, vc) ∧ fX12_log x1 x2 vr = some (o, q_si vr 2400 0) := by
  obtain ⟨_, _, _, h4, _⟩ := h
  obtain ⟨t0, t1, t2, t3, t4, t5, t6, t7, t8, t9, t10, t11, t12⟩ := h4
  unfold fX11_log fX7_entry fX7_entry_b22 fX7_entry_b50 fX12_log fX12_log_b26 fX12_log_b56 fX12_in fX12_in_b14 fX12_in_b15
  rw [q_lt_s, q_i_ne (by omega), if_neg (show ¬ ((16 : Int32) < 0 ∨ 19 ≤ ((16 : Int32)).toNatClampNeg) by decide), show ((16 : Int32)).toNatClampNeg = 16 by decide, t9]
  by_cases c : x1 < 0
  · rw [if_pos c, if_pos c, q_bd_s, if_neg (by decide), q_bd_s, if_pos rfl]; exact ⟨_, rfl, rfl⟩
  · rw [if_neg c, if_neg c]
    obtain ⟨a, ha, e⟩ := ni_ex c
    obtain ⟨n, hn, en⟩ := ni_ex t12
    have eq2 : (q_i vr 2470 ≤ x1) ↔ (q_i vr 2470 - 1 < x1) := by
      rw [e, en, ni_le hn ha]
      by_cases z : n = 0
      · subst z
        have : nI 0 - 1 < nI a := by
          rw [Int32.lt_iff_toInt_lt, Int32.toInt_sub, ni_toInt (by omega), ni_toInt (by omega)]
          have e1 : (1 : Int32).toInt = 1 := rfl
          rw [e1, Int.bmod_eq_of_le (by omega) (by omega)]; omega
        exact ⟨fun _ => this, fun _ => by omega⟩
      · obtain ⟨m, rfl⟩ : ∃ m, n = m + 1 := ⟨n - 1, by omega⟩
        rw [show nI (m + 1) - 1 = nI m from ni_pred, ni_lt (by omega) (by omega)]; omega
    by_cases c2 : q_i vr 2470 ≤ x1
    · rw [if_pos c2, if_pos (eq2.1 c2), q_bd_s, if_neg (by decide), q_bd_s, if_pos rfl]; exact ⟨_, rfl, rfl⟩
    · rw [if_neg c2, if_neg (fun z => c2 (eq2.2 z)), if_neg (show ¬ ¬ ((1 : Int32) = 0 ∨ (1 : Int32) = 1) by decide), q_bd_s, if_neg (show ¬ (1 : Int32) = 0 by decide)]
      by_cases c3 : x1 < 300
      · have hin : ¬ (x1 < 0 ∨ 300 ≤ x1.toNatClampNeg) := by
          rw [e] at c3 ⊢
          have : a < 300 := by rw [show (300 : Int32) = nI 300 from rfl, ni_lt ha (by omega)] at c3; exact c3
          exact ni_nin (by omega) (by omega)
        rw [if_pos c3, if_pos c3, if_neg hin, if_neg hin, if_neg hin, if_neg hin, q_a_si, t10, t11]
        by_cases d0 : x2 = 0
        · rw [if_pos d0, if_pos d0, q_bd_s]; exact ⟨_, rfl, rfl⟩
        · rw [if_neg d0, if_neg d0]
          by_cases d1 : x2 = 1
          · rw [if_pos d1, if_pos d1, q_bd_s]; exact ⟨_, rfl, rfl⟩
          · rw [if_neg d1, if_neg d1, q_bd_s]; exact ⟨_, rfl, rfl⟩
      · rw [if_neg c3, if_neg c3, q_bd_s]; exact ⟨_, rfl, rfl⟩
set_option maxHeartbeats 200000 in
/-- DUTY -/
theorem a_duty (h : LR vc vr) : ∃ o, fX11_duty x1 x2 vc = some (o, vc) ∧ fX12_duty_ x1 x2 vr = some (o, q_si vr 2400 0) := by
  obtain ⟨_, _, _, _, _, h6⟩ := h
  unfold fX11_duty fX11_duty_b29 fX11_hasBook fX11_hasBook_b15 fX12_duty_ fX12_duty__b31 fX12_duty__b44 fX12_duty__b102
  rw [q_lt_s, q_i_ne (by omega), q_i_ne (by omega), q_a_si]
  rcases h6 with ⟨g1, g2⟩ | ⟨T, XL, S, dD, dL, D, p1, p2, p3, p4, p5, p6⟩
  · rw [if_pos g1, if_neg (by decide), q_bd_s, if_pos rfl, if_pos g2]; exact ⟨_, rfl, rfl⟩
  · have n2 := S.2.2.2.1
    rw [p3, if_neg (show ¬ nI D ≤ 0 from ni_nle (b := 0) p1 (by omega)), if_neg (show ¬ ¬ ((1 : Int32) = 0 ∨ (1 : Int32) = 1) by decide), q_bd_s, if_neg (show ¬ (1 : Int32) = 0 by decide), p5, if_neg (show ¬ (1 : Int32) = 0 by decide), p3, p4]
    by_cases c : x1 = -1
    · rw [if_pos c, if_pos c]
      by_cases d0 : x2 = 0
      · rw [if_pos d0, if_pos d0]; exact ⟨_, rfl, rfl⟩
      · rw [if_neg d0, if_neg d0]; exact ⟨_, rfl, rfl⟩
    · rw [if_neg c, if_neg c]
      unfold fX0_dutyFact fX0_dutyFact_b18 fX0_dutyFact_b19 fX0_fact fX0_fact_b40 fX0_fact_b41
      rw [q_lt_s, p3, n2]
      have bad : (x1 < 0 ∨ nI D ≤ x1) → ∃ o, (q_bd (if x2 < 0 then some (-1, vc) else if 3 < x2 then some (-1, vc) else q_bd (if x1 < 0 then some (-1, vc) else if nI D ≤ x1 then some (-1, vc) else if 5 * x1 + x2 < 0 then some (-1, vc) else if nI 150 ≤ 5 * x1 + x2 then some (-1, vc) else if 5 * x1 + x2 < 0 ∨ 150 ≤ (5 * x1 + x2).toNatClampNeg then none else some (q_a vc 2 (5 * x1 + x2).toNatClampNeg, vc)) fun y2 T1 => some (y2, T1)) fun y5 T4 => some (y5, T4)) = some (o, vc) ∧ o = -1 := fun hx => by
        refine ⟨-1, ?_, rfl⟩
        have inner : (if x1 < 0 then some ((-1 : Int32), vc) else if nI D ≤ x1 then some (-1, vc) else if 5 * x1 + x2 < 0 then some (-1, vc) else if nI 150 ≤ 5 * x1 + x2 then some (-1, vc) else if 5 * x1 + x2 < 0 ∨ 150 ≤ (5 * x1 + x2).toNatClampNeg then none else some (q_a vc 2 (5 * x1 + x2).toNatClampNeg, vc)) = some (-1, vc) := by
          by_cases z : x1 < 0
          · rw [if_pos z]
          · rw [if_neg z, if_pos (hx.resolve_left z)]
        rw [inner, q_bd_s]
        by_cases z : x2 < 0
        · rw [if_pos z, q_bd_s]
        · rw [if_neg z]
          by_cases z2 : 3 < x2
          · rw [if_pos z2, q_bd_s]
          · rw [if_neg z2, q_bd_s]
      rcases x_rng (x := x1) (m := D) (by omega) with c1 | c1 | ⟨j, hj, e⟩
      · obtain ⟨o, o1, o2⟩ := bad (Or.inl c1)
        rw [o1, o2, if_pos c1]; exact ⟨_, rfl, rfl⟩
      · obtain ⟨o, o1, o2⟩ := bad (Or.inr c1)
        have c2 : ¬ x1 < nI D := Int32.not_lt.2 c1
        by_cases c0 : x1 < 0
        · rw [o1, o2, if_pos c0]; exact ⟨_, rfl, rfl⟩
        · rw [o1, o2, if_neg c0, if_neg c2]; exact ⟨_, rfl, rfl⟩
      · subst e
        have n0 : ¬ nI j < 0 := by rw [ni_neg (by omega)]; exact not_false
        have hin : ¬ (nI j < 0 ∨ 30 ≤ (nI j).toNatClampNeg) := ni_nin (by omega) (by omega)
        have mc : (nI j).toNatClampNeg = j := ni_clamp (by omega)
        obtain ⟨_, f0, f1, f2, f3⟩ := p6 j hj
        rw [if_neg n0, if_neg n0, if_pos (ni_plt hj (by omega)), if_neg (ni_nle hj (by omega)), if_neg hin, if_neg hin, if_neg hin, if_neg hin, mc]
        rcases x_rng (x := x2) (m := 4) (by omega) with e1 | e1 | ⟨k, hk, e⟩
        · have n := fun k (hk : k < 4) => x_out (x := x2) (m := 4) (by omega) (Or.inl e1) hk
          rw [if_pos e1, q_bd_s, if_neg (show ¬ x2 = 0 from n 0 (by omega)), if_neg (show ¬ x2 = 1 from n 1 (by omega)), if_neg (show ¬ x2 = 2 from n 2 (by omega)), if_neg (show ¬ x2 = 3 from n 3 (by omega))]; exact ⟨_, rfl, rfl⟩
        · have n := fun k (hk : k < 4) => x_out (x := x2) (m := 4) (by omega) (Or.inr e1) hk
          have h3 : (3 : Int32) < x2 := by
            rw [Int32.lt_iff_toInt_lt]
            rw [Int32.le_iff_toInt_le, ni_toInt (by omega)] at e1
            have : (3 : Int32).toInt = 3 := rfl
            omega
          have h0 : ¬ x2 < 0 := fun z => by
            rw [Int32.lt_iff_toInt_lt] at z h3
            have a1 : (3 : Int32).toInt = 3 := rfl
            have a2 : (0 : Int32).toInt = 0 := rfl
            omega
          rw [if_neg h0, if_pos h3, q_bd_s, if_neg (show ¬ x2 = 0 from n 0 (by omega)), if_neg (show ¬ x2 = 1 from n 1 (by omega)), if_neg (show ¬ x2 = 2 from n 2 (by omega)), if_neg (show ¬ x2 = 3 from n 3 (by omega))]; exact ⟨_, rfl, rfl⟩
        · subst e
          have n0 : ¬ nI k < 0 := by rw [ni_neg (by omega)]; exact not_false
          rw [if_neg n0, if_neg (show ¬ (3 : Int32) < nI k from ni_nlt (a := 3) (by omega) (by omega)), ni_5, if_neg (show ¬ nI (5 * j + k) < 0 by rw [ni_neg (by omega)]; exact not_false), if_neg (ni_nle (by omega) (by omega)), if_neg (ni_nin (by omega) (by omega)), ni_clamp (by omega), q_bd_s, q_bd_s]
          have hk2 : k = 0 ∨ k = 1 ∨ k = 2 ∨ k = 3 := by omega
          rcases hk2 with e | e | e | e <;> subst e
          · exact ⟨_, rfl, by rw [Nat.add_zero, f0]; rfl⟩
          · exact ⟨_, rfl, by rw [f1]; rfl⟩
          · exact ⟨_, rfl, by rw [f2]; rfl⟩
          · exact ⟨_, rfl, by rw [f3]; rfl⟩
end
