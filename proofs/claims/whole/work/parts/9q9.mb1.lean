set_option maxHeartbeats 200000 in
theorem ptr_u : ∀ q, q ∈ q_ptr → (q.1 = 0 ∧ q.2 = (1, 0, 0)) ∨ (q.1 = 2 ∧ q.2 = (1, 2, 0)) ∨ (3 < q.1 ∧ q.1 / 200 ∈ [1, 2, 4, 5, 7, 8, 9, 11, 12] ∧ ((q.2.1 = 0 ∧ q.2.2.1 ∈ [1, 2, 4, 5, 7, 8, 9, 11, 12] ∧ q.2.2.2 = 0) ∨ (q.2.1 = 1 ∧ q.2.2.1 ∈ q_len.map Prod.fst ∧ q.2.2.1 ≠ 0 ∧ q.2.2.1 ≠ 2 ∧ q.2.2.2 = 0) ∨ (q.2.1 = 2 ∧ q.2.2.1 = 10 ∧ q.2.2.2 = 168))) := by decide +kernel
set_option maxHeartbeats 200000 in
theorem len_u : ∀ q, q ∈ q_len → q.1 ≠ 0 ∧ q.1 ≠ 2 := by decide +kernel
section
variable {g : q_G} {S U : kp_S} {b1 b2 b3 n1 n2 : Nat}
set_option maxHeartbeats 200000 in
theorem ob_u {k : Nat} (hk : k ∈ [1, 2, 4, 5, 7, 8, 9, 11, 12]) (m : q_mem g S) : g 0 k 0 ∈ kp_L S ∧ k ≠ 0 := by
  refine ⟨m.1 k (List.mem_cons_of_mem _ hk), fun z => ?_⟩
  subst z; revert hk; decide
set_option maxHeartbeats 200000 in
/-- the graph with the new book; no pointer to it is set yet -/
theorem nG_gr (hi : q_inj g) (h : q_gr 3 g (kp_R S) (kp_C S) (kp_N S)) (m : q_mem g S) (B : nB S U b1 b2 b3 n1 n2) : q_gr 2 (nG g S b1 b2 b3) (kp_R U) (kp_C U) (kp_N U) := by
  obtain ⟨fr, f, _, r0, r2, _⟩ := B
  have old : ∀ x, x ∈ kp_L S → (∀ j, kp_R U j x = kp_R S j x) ∧ kp_C U x = kp_C S x ∧ kp_N U x = kp_N S x := fun x hx => by
    obtain ⟨_, _, c3, _, _, c6⟩ := fr.2 x hx not_false
    exact ⟨c3, c6, (fr.1 x hx).2.2⟩
  refine ⟨fun q hq => ?_, fun k hk => absurd hk (by simp [q_bp]), fun q hq => ?_, fun i hi' => ?_, fun i hi' => ?_⟩
  · have e := h.1 q hq
    rcases ptr_u q hq with ⟨p1, p2⟩ | ⟨p1, p2⟩ | ⟨p0, p1, p2⟩
    · obtain ⟨q1, q2⟩ := q
      cases p1; cases p2
      show kp_R U 0 (nG g S b1 b2 b3 0 0 0) = some (nG g S b1 b2 b3 1 0 0)
      rw [nG_1 m f, nG_2 hi m f]; exact r0
    · obtain ⟨q1, q2⟩ := q
      cases p1; cases p2
      show kp_R U 2 (nG g S b1 b2 b3 0 0 0) = some (nG g S b1 b2 b3 1 2 0)
      rw [nG_1 m f, nG_3 hi m f]; exact r2
    · obtain ⟨s1, s2⟩ := ob_u p1 m
      rw [nG_u hi s1 f (fun z => s2 z.2) (fun z => absurd z.1 (by decide)) (fun z => absurd z.1 (by decide)), (old _ s1).1, e]
      rcases p2 with ⟨z1, z2, z3⟩ | ⟨z1, z2, z3, z4, z5⟩ | ⟨z1, z2, z3⟩
      · obtain ⟨t1, t2⟩ := ob_u z2 m
        rw [z1, z3, nG_u hi t1 f (fun z => t2 z.2) (fun z => absurd z.1 (by decide)) (fun z => absurd z.1 (by decide))]
      · obtain ⟨w, w1, w2⟩ := List.mem_map.mp z2
        have t1 := m.2.1 w w1
        rw [w2] at t1
        rw [z1, z5, nG_u hi t1 f (fun z => absurd z.1 (by decide)) (fun z => z3 z.2) (fun z => z4 z.2)]
      · rw [z1, z2, z3, nG_u hi (m.2.2.2.2.2 168 (by omega)) f (fun z => absurd z.1 (by decide)) (fun z => absurd z.1 (by decide)) (fun z => absurd z.1 (by decide))]
  · have t1 := m.2.1 q hq
    obtain ⟨z1, z2⟩ := len_u q hq
    rw [nG_u hi t1 f (fun z => absurd z.1 (by decide)) (fun z => z1 z.2) (fun z => z2 z.2), (old _ t1).2.2]; exact h.2.2.1 q hq
  · have e := h.2.2.2.1 i hi'
    obtain ⟨t1, t2, t3⟩ := m.2.2.2.1 i hi'
    have t0 : g 1 804 0 ∈ kp_L S := m.2.1 (804, 12) (by decide +kernel)
    rw [nG_u hi t0 f (by decide) (by decide) (by decide), nG_u hi t1 f (by decide) (by decide) (by decide), nG_u hi t2 f (by decide) (by decide) (by decide), nG_u hi t3 f (by decide) (by decide) (by decide), (old _ t0).2.1, (old _ t1).1, (old _ t1).1, (old _ t2).2.2, (old _ t3).2.2]; exact e
  · have e := h.2.2.2.2 i hi'
    have t1 := m.2.2.2.2.1 i hi'
    have t2 := m.2.2.2.2.2 i (by omega)
    have t0 : g 1 806 0 ∈ kp_L S := m.2.1 (806, 168) (by decide +kernel)
    rw [nG_u hi t0 f (by decide) (by decide) (by decide), nG_u hi t1 f (by decide) (by decide) (by decide), nG_u hi t2 f (by decide) (by decide) (by decide), (old _ t0).2.1, (old _ t1).1]; exact e
end
