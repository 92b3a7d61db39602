theorem cs_gateOf {v : q_V} {k s : Int32} : fX1_gateOf k s v = some (if k < 0 ∨ 6 ≤ k ∨ ¬ (s = 0 ∨ s = 1) then -1 else q_a v 202 (2 * k + s).toNatClampNeg, v) := by
  unfold fX1_gateOf fX1_isGate fX1_isGate_b23 fX1_isGate_b24 fX1_isGate_b19 fX1_gateOf_b22
  unfold fX1_isGate_b24
  by_cases h1 : k < 0
  · simp (decide := true) only [h1, true_or, q_bd_s, q_bv_s, q_lt_s, q_i_si, q_i_sj, q_i_sa, q_i_sb, q_i_sf, q_i_sc, q_j_si, q_j_sj, q_j_sa, q_j_sb, q_j_sf, q_j_sc, q_a_si, q_a_sj, q_a_sa, q_a_sb, q_a_sf, q_a_sc, q_b_si, q_b_sj, q_b_sa, q_b_sb, q_b_sf, q_b_sc, q_f_si, q_f_sj, q_f_sa, q_f_sb, q_f_sf, q_f_sc, q_c_si, q_c_sj, q_c_sa, q_c_sb, q_c_sf, q_c_sc, q_n_si, q_n_sj, q_n_sa, q_n_sb, q_n_sf, q_n_sc, Nat.reduceEqDiff, Nat.reduceAdd, ↓reduceIte, Int32.reduceLT, Int32.reduceLE, Nat.reduceLeDiff, ni_neg, ni_clamp, ni_lef, or_self, or_false, false_or, ni_add1, ni_pred]
  · by_cases h2 : 6 ≤ k
    · simp (decide := true) only [h1, h2, true_or, or_true, q_bd_s, q_bv_s, q_lt_s, q_i_si, q_i_sj, q_i_sa, q_i_sb, q_i_sf, q_i_sc, q_j_si, q_j_sj, q_j_sa, q_j_sb, q_j_sf, q_j_sc, q_a_si, q_a_sj, q_a_sa, q_a_sb, q_a_sf, q_a_sc, q_b_si, q_b_sj, q_b_sa, q_b_sb, q_b_sf, q_b_sc, q_f_si, q_f_sj, q_f_sa, q_f_sb, q_f_sf, q_f_sc, q_c_si, q_c_sj, q_c_sa, q_c_sb, q_c_sf, q_c_sc, q_n_si, q_n_sj, q_n_sa, q_n_sb, q_n_sf, q_n_sc, Nat.reduceEqDiff, Nat.reduceAdd, ↓reduceIte, Int32.reduceLT, Int32.reduceLE, Nat.reduceLeDiff, ni_neg, ni_clamp, ni_lef, or_self, or_false, false_or, ni_add1, ni_pred]
    · obtain ⟨m, hm, e⟩ := ni_ex h1
      have h3 : m < 6 := by
        rw [e, show (6 : Int32) = nI 6 from rfl, ni_le (by omega) hm] at h2; omega
      have e2 : (2 : Int32) * nI m = nI (2 * m) := (Int32.ofNat_mul 2 m).symm
      by_cases h4 : s = 0
      · subst h4
        simp (decide := true) only [h1, h2, or_self, q_bd_s, q_bv_s, q_lt_s, q_i_si, q_i_sj, q_i_sa, q_i_sb, q_i_sf, q_i_sc, q_j_si, q_j_sj, q_j_sa, q_j_sb, q_j_sf, q_j_sc, q_a_si, q_a_sj, q_a_sa, q_a_sb, q_a_sf, q_a_sc, q_b_si, q_b_sj, q_b_sa, q_b_sb, q_b_sf, q_b_sc, q_f_si, q_f_sj, q_f_sa, q_f_sb, q_f_sf, q_f_sc, q_c_si, q_c_sj, q_c_sa, q_c_sb, q_c_sf, q_c_sc, q_n_si, q_n_sj, q_n_sa, q_n_sb, q_n_sf, q_n_sc, Nat.reduceEqDiff, Nat.reduceAdd, ↓reduceIte, Int32.reduceLT, Int32.reduceLE, Nat.reduceLeDiff, ni_neg, ni_clamp, ni_lef, or_self, or_false, false_or, ni_add1, ni_pred]
        rw [e, e2, Int32.add_zero]
        simp (disch := omega) only [q_bd_s, q_bv_s, q_lt_s, q_i_si, q_i_sj, q_i_sa, q_i_sb, q_i_sf, q_i_sc, q_j_si, q_j_sj, q_j_sa, q_j_sb, q_j_sf, q_j_sc, q_a_si, q_a_sj, q_a_sa, q_a_sb, q_a_sf, q_a_sc, q_b_si, q_b_sj, q_b_sa, q_b_sb, q_b_sf, q_b_sc, q_f_si, q_f_sj, q_f_sa, q_f_sb, q_f_sf, q_f_sc, q_c_si, q_c_sj, q_c_sa, q_c_sb, q_c_sf, q_c_sc, q_n_si, q_n_sj, q_n_sa, q_n_sb, q_n_sf, q_n_sc, Nat.reduceEqDiff, Nat.reduceAdd, ↓reduceIte, Int32.reduceLT, Int32.reduceLE, Nat.reduceLeDiff, ni_neg, ni_clamp, ni_lef, or_self, or_false, false_or, ni_add1, ni_pred]
      · by_cases h5 : s = 1
        · subst h5
          simp (decide := true) only [h1, h2, or_self, q_bd_s, q_bv_s, q_lt_s, q_i_si, q_i_sj, q_i_sa, q_i_sb, q_i_sf, q_i_sc, q_j_si, q_j_sj, q_j_sa, q_j_sb, q_j_sf, q_j_sc, q_a_si, q_a_sj, q_a_sa, q_a_sb, q_a_sf, q_a_sc, q_b_si, q_b_sj, q_b_sa, q_b_sb, q_b_sf, q_b_sc, q_f_si, q_f_sj, q_f_sa, q_f_sb, q_f_sf, q_f_sc, q_c_si, q_c_sj, q_c_sa, q_c_sb, q_c_sf, q_c_sc, q_n_si, q_n_sj, q_n_sa, q_n_sb, q_n_sf, q_n_sc, Nat.reduceEqDiff, Nat.reduceAdd, ↓reduceIte, Int32.reduceLT, Int32.reduceLE, Nat.reduceLeDiff, ni_neg, ni_clamp, ni_lef, or_self, or_false, false_or, ni_add1, ni_pred]
          rw [e, e2, ni_add1]
          simp (disch := omega) only [q_bd_s, q_bv_s, q_lt_s, q_i_si, q_i_sj, q_i_sa, q_i_sb, q_i_sf, q_i_sc, q_j_si, q_j_sj, q_j_sa, q_j_sb, q_j_sf, q_j_sc, q_a_si, q_a_sj, q_a_sa, q_a_sb, q_a_sf, q_a_sc, q_b_si, q_b_sj, q_b_sa, q_b_sb, q_b_sf, q_b_sc, q_f_si, q_f_sj, q_f_sa, q_f_sb, q_f_sf, q_f_sc, q_c_si, q_c_sj, q_c_sa, q_c_sb, q_c_sf, q_c_sc, q_n_si, q_n_sj, q_n_sa, q_n_sb, q_n_sf, q_n_sc, Nat.reduceEqDiff, Nat.reduceAdd, ↓reduceIte, Int32.reduceLT, Int32.reduceLE, Nat.reduceLeDiff, ni_neg, ni_clamp, ni_lef, or_self, or_false, false_or, ni_add1, ni_pred]
        · simp (decide := true) only [h1, h2, h4, h5, or_self, not_false_eq_true, or_true, q_bd_s, q_bv_s, q_lt_s, q_i_si, q_i_sj, q_i_sa, q_i_sb, q_i_sf, q_i_sc, q_j_si, q_j_sj, q_j_sa, q_j_sb, q_j_sf, q_j_sc, q_a_si, q_a_sj, q_a_sa, q_a_sb, q_a_sf, q_a_sc, q_b_si, q_b_sj, q_b_sa, q_b_sb, q_b_sf, q_b_sc, q_f_si, q_f_sj, q_f_sa, q_f_sb, q_f_sf, q_f_sc, q_c_si, q_c_sj, q_c_sa, q_c_sb, q_c_sf, q_c_sc, q_n_si, q_n_sj, q_n_sa, q_n_sb, q_n_sf, q_n_sc, Nat.reduceEqDiff, Nat.reduceAdd, ↓reduceIte, Int32.reduceLT, Int32.reduceLE, Nat.reduceLeDiff, ni_neg, ni_clamp, ni_lef, or_self, or_false, false_or, ni_add1, ni_pred]
section
variable {Fin : q_V → q_V → Prop} {a : ru_P} {T : co_T} {XL : Int32 → Int32 → Int32 → Prop} {f0 : Nat}
theorem ru_TRUTH {hb p p1 q q1 : Nat} (s1 : ru_SA Fin a T XL f0 1 hb p p1 q q1) (h0 : 1 ≤ hb) (c0 : co_c T p1 7) (r0 : co_r T 0 q1 18) : ru_SA Fin a T XL f0 1 hb p (p1 + 1) q (q1 + 1) := by
  refine ru_BEH s1 (by omega) (by omega) ?_
  intro c f h g np t cl vc vr d W hf hf0 hh hg hn ht hc hc' E k1 k2
  have E0 : q_a vc 802 h = q_a vr 2515 g := E 0 (by omega)
  refine ru_pq (m := 1) (x := if q_a vc 802 h = 0 then 0 else 1) d W (by omega) k1 ?_ ?_
  · rw [cs_step d.1 c0, cd_7, q_bv_id, cs_pop (by omega), q_bd_s]
    unfold fX4_workSingle_b141
    split <;> rw [cs_push (by omega)] <;> rfl
  · rw [rs_step d.1 r0, rd_18, rs_pop (by omega), q_bd_s, E0]
    unfold fX12_step_b321
    split <;> rw [rs_push (by omega)] <;> rfl
/-- a class's step and a reference's that come to the same point -/
theorem ru_bb {B w : Nat} {vc vr vc1 vr1 : q_V} (hw : 1 ≤ w) (e1 : fX4_step vc = some vc1) (e2 : fX12_step vr = some vr1) (c1 : q_i vc 814 = -1) (c2 : q_f vc 2000 168 = 0) (c3 : q_i vr 2513 = 0) (c4 : q_i vr 2514 = 0) (hl : ru_lw vc vc1) (k : ru_G Fin a B vc1 vr1) : ru_G Fin a (B + w) vc vr :=
  ru_mono (ru_cs e1 c1 c2 hl (ru_rs e2 c3 c4 k)) (by omega)
theorem ru_OA {hb p p1 p2 q q1 q2 : Nat} {o : Bool} (s1 : ru_SA Fin a T XL f0 1 hb p p1 q q1) (h0 : 1 ≤ hb) (c0 : co_c T p1 (if o then 24 else 25)) (c1 : co_c T (p1 + 1) (nI (p2 + 1))) (r0 : co_r T 0 q1 (if o then 16 else 17)) (r1 : co_r T 1 q1 (nI (q2 + 1)))
    (s2 : ru_SA Fin a T XL f0 1 hb (p1 + 2) p2 (q1 + 1) q2) (c2 : co_c T p2 7) (r2 : co_r T 0 q2 18) : ru_SA Fin a T XL f0 1 hb p (p2 + 1) q (q2 + 1) := by
  have s3 := ru_TRUTH s2 h0 c2 r2
  have o1 := s2.1
  have o2 := s2.2.1
  refine ru_BEH s1 (by omega) (by omega) ?_
  intro c f h g np t cl vc vr d W hf hf0 hh hg hn ht hc hc' E k1 k2
  have E0 : q_a vc 802 h = q_a vr 2515 g := E 0 (by omega)
  by_cases z : (q_a vc 802 h = 0) = (o = true)
  · -- not settled
    rw [show 40000 * f + c + 4 * (p2 + 1 - p1) = 40000 * f + c + 4 * (p2 + 1 - (p1 + 2)) + 8 from by omega]
    refine ru_bb (w := 8) (vc1 := mC vc (p1 + 2) h f np cl) (vr1 := mR vr (q1 + 1) g f t cl) (by omega) ?_ ?_ d.2.2.2.2.1.2.2.1 W.1 d.2.2.2.2.1.2.2.2.1 d.2.2.2.2.1.2.2.2.2 ⟨Nat.le_add_right _ _, Nat.le_refl _⟩ (s3.2.2 c f h g np t cl vc vr d W hf hf0 hh hg hn ht hc hc' k1 k2)
    · cases o
      · have z1 : ¬ q_a vc 802 h = 0 := by rw [z]; decide
        rw [cs_step d.1 c0, if_neg (by decide), cd_25, q_bv_id, cs_S d.1 c1, q_bd_s, cs_peek0 (by omega), q_bd_s, if_neg z1]
        unfold fX4_flow_b143 fX4_settle fX4_settle_b27 fX4_flow_b272
        rw [cs_pop (by omega), q_bd_s, if_pos rfl]; rfl
      · have z1 : q_a vc 802 h = 0 := by rw [z]
        rw [cs_step d.1 c0, if_pos rfl, cd_24, q_bv_id, cs_S d.1 c1, q_bd_s, cs_peek0 (by omega), q_bd_s, if_pos z1]
        unfold fX4_flow_b122 fX4_settle fX4_settle_b27 fX4_flow_b272
        rw [cs_pop (by omega), q_bd_s, if_pos rfl]; rfl
    · rw [E0] at z
      cases o
      · have z1 : ¬ q_a vr 2515 g = 0 := by rw [z]; decide
        rw [rs_step d.1 r0, if_neg (by decide), rd_17, rs_pop (by omega), q_bd_s, if_neg z1]
        unfold fX12_step_b300 fX12_jumpIf
        rw [if_pos rfl]; rfl
      · have z1 : q_a vr 2515 g = 0 := by rw [z]
        rw [rs_step d.1 r0, if_pos rfl, rd_16, rs_pop (by omega), q_bd_s, if_pos z1]
        unfold fX12_step_b279 fX12_jumpIf
        rw [if_pos rfl]; rfl
  · refine ru_pq (m := 1) (x := if o then 1 else 0) d W (by omega) k1 ?_ ?_
    · cases o
      · have z1 : q_a vc 802 h = 0 := by
          refine Decidable.byContradiction (fun x => z ?_)
          rw [eq_false x]; decide
        rw [cs_step d.1 c0, if_neg (by decide), cd_25, q_bv_id, cs_S d.1 c1, q_bd_s, cs_peek0 (by omega), q_bd_s, if_pos z1]
        unfold fX4_flow_b143 fX4_settle fX4_settle_b19 fX4_settle_b27 fX4_flow_b272
        rw [cs_pop (by omega), q_bd_s, if_neg (by decide), if_pos z1, cs_push (by omega), q_bv_s, q_lt_s, mC_s810]; rfl
      · have z1 : ¬ q_a vc 802 h = 0 := fun x => z (by rw [eq_true x]; decide)
        rw [cs_step d.1 c0, if_pos rfl, cd_24, q_bv_id, cs_S d.1 c1, q_bd_s, cs_peek0 (by omega), q_bd_s, if_neg z1]
        unfold fX4_flow_b122 fX4_settle fX4_settle_b19 fX4_settle_b27 fX4_flow_b272
        rw [cs_pop (by omega), q_bd_s, if_neg (by decide), if_neg z1, cs_push (by omega), q_bv_s, q_lt_s, mC_s810]; rfl
    · rw [E0] at z
      cases o
      · have z1 : q_a vr 2515 g = 0 := by
          refine Decidable.byContradiction (fun x => z ?_)
          rw [eq_false x]; decide
        rw [rs_step d.1 r0, if_neg (by decide), rd_17, rs_pop (by omega), q_bd_s, if_pos z1, r1.2]
        unfold fX12_step_b300 fX12_jumpIf
        rw [if_neg (by decide), rs_push (by omega), q_bv_s, q_lt_s, mR_s2510]; rfl
      · have z1 : ¬ q_a vr 2515 g = 0 := fun x => z (by rw [eq_true x]; decide)
        rw [rs_step d.1 r0, if_pos rfl, rd_16, rs_pop (by omega), q_bd_s, if_neg z1, r1.2]
        unfold fX12_step_b279 fX12_jumpIf
        rw [if_neg (by decide), rs_push (by omega), q_bv_s, q_lt_s, mR_s2510]; rfl
theorem rs_in {x lo hi : Int32} {v : q_V} : fX12_in x lo hi v = some (if x < lo ∨ hi < x then 0 else 1, v) := by
  unfold fX12_in fX12_in_b14 fX12_in_b15
  by_cases h1 : x < lo
  · simp (decide := true) only [h1, true_or, q_bd_s, q_bv_s, q_lt_s, q_i_si, q_i_sj, q_i_sa, q_i_sb, q_i_sf, q_i_sc, q_j_si, q_j_sj, q_j_sa, q_j_sb, q_j_sf, q_j_sc, q_a_si, q_a_sj, q_a_sa, q_a_sb, q_a_sf, q_a_sc, q_b_si, q_b_sj, q_b_sa, q_b_sb, q_b_sf, q_b_sc, q_f_si, q_f_sj, q_f_sa, q_f_sb, q_f_sf, q_f_sc, q_c_si, q_c_sj, q_c_sa, q_c_sb, q_c_sf, q_c_sc, q_n_si, q_n_sj, q_n_sa, q_n_sb, q_n_sf, q_n_sc, Nat.reduceEqDiff, Nat.reduceAdd, ↓reduceIte, Int32.reduceLT, Int32.reduceLE, Nat.reduceLeDiff, ni_neg, ni_clamp, ni_lef, or_self, or_false, false_or, ni_add1, ni_pred]
  · by_cases h2 : hi < x
    · simp (decide := true) only [h1, h2, or_true, q_bd_s, q_bv_s, q_lt_s, q_i_si, q_i_sj, q_i_sa, q_i_sb, q_i_sf, q_i_sc, q_j_si, q_j_sj, q_j_sa, q_j_sb, q_j_sf, q_j_sc, q_a_si, q_a_sj, q_a_sa, q_a_sb, q_a_sf, q_a_sc, q_b_si, q_b_sj, q_b_sa, q_b_sb, q_b_sf, q_b_sc, q_f_si, q_f_sj, q_f_sa, q_f_sb, q_f_sf, q_f_sc, q_c_si, q_c_sj, q_c_sa, q_c_sb, q_c_sf, q_c_sc, q_n_si, q_n_sj, q_n_sa, q_n_sb, q_n_sf, q_n_sc, Nat.reduceEqDiff, Nat.reduceAdd, ↓reduceIte, Int32.reduceLT, Int32.reduceLE, Nat.reduceLeDiff, ni_neg, ni_clamp, ni_lef, or_self, or_false, false_or, ni_add1, ni_pred]
    · simp (decide := true) only [h1, h2, q_bd_s, q_bv_s, q_lt_s, q_i_si, q_i_sj, q_i_sa, q_i_sb, q_i_sf, q_i_sc, q_j_si, q_j_sj, q_j_sa, q_j_sb, q_j_sf, q_j_sc, q_a_si, q_a_sj, q_a_sa, q_a_sb, q_a_sf, q_a_sc, q_b_si, q_b_sj, q_b_sa, q_b_sb, q_b_sf, q_b_sc, q_f_si, q_f_sj, q_f_sa, q_f_sb, q_f_sf, q_f_sc, q_c_si, q_c_sj, q_c_sa, q_c_sb, q_c_sf, q_c_sc, q_n_si, q_n_sj, q_n_sa, q_n_sb, q_n_sf, q_n_sc, Nat.reduceEqDiff, Nat.reduceAdd, ↓reduceIte, Int32.reduceLT, Int32.reduceLE, Nat.reduceLeDiff, ni_neg, ni_clamp, ni_lef, or_self, or_false, false_or, ni_add1, ni_pred]
/-- a gate's lock and side -/
theorem ru_gate (k s : Int32) : (k < 0 ∨ 6 ≤ k ∨ ¬ (s = 0 ∨ s = 1)) ∧ (k < 0 ∨ 5 < k ∨ s < 0 ∨ 1 < s) ∨ ∃ m j : Nat, m < 6 ∧ j < 2 ∧ k = nI m ∧ s = nI j ∧ ¬ (k < 0 ∨ 6 ≤ k ∨ ¬ (s = 0 ∨ s = 1)) ∧ ¬ (k < 0 ∨ 5 < k) ∧ ¬ (s < 0 ∨ 1 < s) := by
  by_cases h1 : k < 0
  · exact Or.inl ⟨Or.inl h1, Or.inl h1⟩
  obtain ⟨m, hm, e⟩ := ni_ex h1
  by_cases h2 : m < 6
  · have a1 : ¬ 6 ≤ k := by rw [e, show (6 : Int32) = nI 6 from rfl, ni_le (by omega) hm]; omega
    have a2 : ¬ 5 < k := by rw [e, show (5 : Int32) = nI 5 from rfl, ni_lt (by omega) hm]; omega
    by_cases h3 : s < 0
    · refine Or.inl ⟨Or.inr (Or.inr ?_), Or.inr (Or.inr (Or.inl h3))⟩
      intro x
      cases x with
      | inl x => rw [x] at h3; exact absurd h3 (by decide)
      | inr x => rw [x] at h3; exact absurd h3 (by decide)
    obtain ⟨j, hj, e'⟩ := ni_ex h3
    by_cases h4 : j < 2
    · have a3 : ¬ 1 < s := by rw [e', show (1 : Int32) = nI 1 from rfl, ni_lt (by omega) hj]; omega
      refine Or.inr ⟨m, j, h2, h4, e, e', ?_, ?_, ?_⟩
      · intro x
        cases x with
        | inl x => exact h1 x
        | inr x => cases x with
          | inl x => exact a1 x
          | inr x =>
            apply x
            have : j = 0 ∨ j = 1 := by omega
            cases this with
            | inl y => left; rw [e', y]; rfl
            | inr y => right; rw [e', y]; rfl
      · intro x; cases x with
        | inl x => exact h1 x
        | inr x => exact a2 x
      · intro x; cases x with
        | inl x => exact h3 x
        | inr x => exact a3 x
    · have a3 : 1 < s := by rw [e', show (1 : Int32) = nI 1 from rfl, ni_lt (by omega) hj]; omega
      refine Or.inl ⟨Or.inr (Or.inr ?_), Or.inr (Or.inr (Or.inr a3))⟩
      intro x
      cases x with
      | inl x => rw [x] at a3; exact absurd a3 (by decide)
      | inr x => rw [x] at a3; exact absurd a3 (by decide)
  · have a1 : 6 ≤ k := by rw [e, show (6 : Int32) = nI 6 from rfl, ni_le (by omega) hm]; omega
    have a2 : 5 < k := by rw [e, show (5 : Int32) = nI 5 from rfl, ni_lt (by omega) hm]; omega
    exact Or.inl ⟨Or.inr (Or.inl a1), Or.inr (Or.inl a2)⟩
theorem ni_2 {m j : Nat} : 2 * nI m + nI j = nI (2 * m + j) := by
  rw [show (2 : Int32) * nI m = nI (2 * m) from (Int32.ofNat_mul 2 m).symm, ni_add]
theorem ru_GATE {hb p p1 q q1 : Nat} (s1 : ru_SA Fin a T XL f0 2 hb p p1 q q1) (h0 : 2 ≤ hb) (c0 : co_c T p1 19) (r0 : co_r T 0 q1 22) : ru_SA Fin a T XL f0 1 hb p (p1 + 1) q (q1 + 1) := by
  refine ru_BEH s1 (by omega) (by omega) ?_
  intro c f h g np t cl vc vr d W hf hf0 hh hg hn ht hc hc' E k1 k2
  have E0 : q_a vc 802 h = q_a vr 2515 g := E 0 (by omega)
  have E1 : q_a vc 802 (h + 1) = q_a vr 2515 (g + 1) := E 1 (by omega)
  rcases ru_gate (q_a vc 802 h) (q_a vc 802 (h + 1)) with ⟨z1, z2⟩ | ⟨m, j, hm, hj, e1, e2, z1, z2, z3⟩
  · refine ru_tt (x := 3) (p1 := p1 + 1) (h1 := h) (q1 := q1 + 1) (g1 := g) d W (by omega) (by decide) (by omega) k2 ?_ ?_
    · rw [cs_step d.1 c0, cd_19, q_bv_id, cs_pop (by omega), q_bd_s, cs_pop (by omega), q_bd_s, cs_gateOf, if_pos z1, q_bd_s]
      unfold fX4_workQuery_b97
      rw [if_pos rfl, cs_trouble, mC_tc]; rfl
    · rw [rs_step d.1 r0, rd_22]
      unfold fX12_answersGate fX12_answersGate_b28 fX12_step_b436
      rw [rs_pop (by omega), q_bd_s, rs_pop (by omega), q_bd_s, ← E0, ← E1, rs_in, q_bd_s]
      by_cases y1 : q_a vc 802 h < 0 ∨ 5 < q_a vc 802 h
      · rw [if_pos y1, if_pos rfl, q_bv_id, q_bv_id, rs_trouble (by omega) (ru_n70 d.2.2.1)]
      · have y2 : q_a vc 802 (h + 1) < 0 ∨ 1 < q_a vc 802 (h + 1) := by
          rcases z2 with x | x | x | x
          · exact absurd (Or.inl x) y1
          · exact absurd (Or.inr x) y1
          · exact Or.inl x
          · exact Or.inr x
        rw [if_neg y1, if_neg (by decide), rs_in, q_bd_s, if_pos y2, if_pos rfl, q_bv_id, q_bv_id, rs_trouble (by omega) (ru_n70 d.2.2.1)]
  · have e5 := d.2.1.2.2.2.2.2.1 (2 * m + j) (by omega)
    refine ru_pq (m := 2) (x := q_a vc 202 (2 * m + j)) d W (by omega) k1 ?_ ?_
    · rw [cs_step d.1 c0, cd_19, q_bv_id, cs_pop (by omega), q_bd_s, cs_pop (by omega), q_bd_s, cs_gateOf, if_neg z1, q_bd_s, e1, e2, ni_2, ni_clamp (by omega), mC_a]
      unfold fX4_workQuery_b97
      rw [if_neg (by rcases e5 with x | x <;> rw [x] <;> decide), cs_push (by omega)]; rfl
    · rw [rs_step d.1 r0, rd_22]
      unfold fX12_answersGate fX12_answersGate_b53 fX12_step_b436
      rw [rs_pop (by omega), q_bd_s, rs_pop (by omega), q_bd_s, ← E0, ← E1, rs_in, q_bd_s, if_neg z2, if_neg (by decide), rs_in, q_bd_s, if_neg z3, if_neg (by decide), e1, e2, ni_2, if_neg (by rw [ni_in (by omega) (by omega)]; exact id), ni_clamp (by omega), mR_a, ← d.2.1.2.2.1]
      rcases e5 with x | x
      · rw [x, if_pos rfl, rs_push (by omega)]; rfl
      · rw [x, if_neg (by decide), rs_push (by omega)]; rfl
end
