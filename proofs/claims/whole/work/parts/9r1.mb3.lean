section
variable {g : q_G} {S T U : kp_S} {b1 b2 b3 n1 n2 a : Nat} {P : kp_S → Prop} {x o pl : Int32} {v v1 v2 : q_V}
set_option maxHeartbeats 200000 in
/-- the reference's read, last -/
theorem rd_fin (hi : q_inj g) (hg : q_gr 3 g (kp_R T) (kp_C T) (kp_N T)) (m : q_mem g T) (r1 : fX12_read (q_w g T) = some (o, v2)) (r2 : LR v2 v2) (kk : ∀ T2, LI g T2 → kp_le T T2 → P T2) : wX12_read (g 0 12 0) T (fun y' T2 => (o = y' → P T2) ∧ (¬ o = y' → False)) := by
  refine b_X12_read (S0 := T) ⟨hi, ⟨hg.1, fun k hk => absurd hk (by simp [q_bp]), hg.2.2⟩, kp_fr.rf⟩ r1 (fun U R e => ?_)
  subst e
  exact ⟨fun _ => kk U ⟨hi, G_3 R hg m rfl, q_mem_le m R.2.2.1, r2⟩ R.2.2.1, fun z => z rfl⟩
set_option maxHeartbeats 200000 in
/-- with a fault: the old book's graph again -/
theorem nG_back {gr : Nat} (hi : q_inj g) (m : q_mem g S) (f : nF S b1 b2 b3) (h : q_gr gr (nG g S b1 b2 b3) (kp_R T) (kp_C T) (kp_N T)) (h0 : kp_R T 0 (g 0 0 0) = some (g 1 0 0)) (h2 : kp_R T 2 (g 0 0 0) = some (g 1 2 0)) (h5 : kp_R T 2205 (g 0 11 0) = some (g 0 0 0)) : q_gr 3 g (kp_R T) (kp_C T) (kp_N T) := by
  refine ⟨fun q hq => ?_, fun k hk => ?_, fun q hq => ?_, fun i hi' => ?_, fun i hi' => ?_⟩
  · have e := h.1 q hq
    rcases ptr_u q hq with ⟨p1, p2⟩ | ⟨p1, p2⟩ | ⟨p0, p1, p2⟩
    · obtain ⟨q1, q2⟩ := q
      cases p1; cases p2
      exact h0
    · obtain ⟨q1, q2⟩ := q
      cases p1; cases p2
      exact h2
    · obtain ⟨s1, s2⟩ := ob_u p1 m
      rw [nG_u hi s1 f (fun z => s2 z.2) (fun z => absurd z.1 (by decide)) (fun z => absurd z.1 (by decide))] at e
      rw [e]
      rcases p2 with ⟨z1, z2, z3⟩ | ⟨z1, z2, z3, z4, z5⟩ | ⟨z1, z2, z3⟩
      · obtain ⟨t1, t2⟩ := ob_u z2 m
        rw [z1, z3, nG_u hi t1 f (fun z => t2 z.2) (fun z => absurd z.1 (by decide)) (fun z => absurd z.1 (by decide))]
      · obtain ⟨w, w1, w2⟩ := List.mem_map.mp z2
        have t1 := m.2.1 w w1
        rw [w2] at t1
        rw [z1, z5, nG_u hi t1 f (fun z => absurd z.1 (by decide)) (fun z => z3 z.2) (fun z => z4 z.2)]
      · rw [z1, z2, z3, nG_u hi (m.2.2.2.2.2 168 (by omega)) f (fun z => absurd z.1 (by decide)) (fun z => absurd z.1 (by decide)) (fun z => absurd z.1 (by decide))]
  · have : k = 2205 := by simpa [q_bp] using hk
    subst this; exact h5
  · have t1 := m.2.1 q hq
    obtain ⟨z1, z2⟩ := len_u q hq
    have e := h.2.2.1 q hq
    rw [nG_u hi t1 f (fun z => absurd z.1 (by decide)) (fun z => z1 z.2) (fun z => z2 z.2)] at e; exact e
  · have e := h.2.2.2.1 i hi'
    obtain ⟨t1, t2, t3⟩ := m.2.2.2.1 i hi'
    have t0 : g 1 804 0 ∈ kp_L S := m.2.1 (804, 12) (by decide +kernel)
    rw [nG_u hi t0 f (by decide) (by decide) (by decide), nG_u hi t1 f (by decide) (by decide) (by decide), nG_u hi t2 f (by decide) (by decide) (by decide), nG_u hi t3 f (by decide) (by decide) (by decide)] at e; exact e
  · have e := h.2.2.2.2 i hi'
    have t1 := m.2.2.2.2.1 i hi'
    have t2 := m.2.2.2.2.2 i (by omega)
    have t0 : g 1 806 0 ∈ kp_L S := m.2.1 (806, 168) (by decide +kernel)
    rw [nG_u hi t0 f (by decide) (by decide) (by decide), nG_u hi t1 f (by decide) (by decide) (by decide), nG_u hi t2 f (by decide) (by decide) (by decide)] at e; exact e
set_option maxHeartbeats 200000 in
/-- without: the face's pointer set to the new book -/
theorem G_2205 {gr : Nat} (h : q_gr gr g (kp_R T) (kp_C T) (kp_N T)) : q_gr 3 g (kp_R (kp_sR T 2205 (g 0 11 0) (g 0 0 0))) (kp_C (kp_sR T 2205 (g 0 11 0) (g 0 0 0))) (kp_N (kp_sR T 2205 (g 0 11 0) (g 0 0 0))) := by
  have ne : ∀ k a, k ≠ 2205 → kp_R (kp_sR T 2205 (g 0 11 0) (g 0 0 0)) k a = kp_R T k a := fun k a hk => by
    rw [rd_R_sR, if_neg (fun z => hk z.1)]
  refine ⟨fun q hq => ?_, fun k hk => ?_, h.2.2.1, fun i hi => ?_, fun i hi => ?_⟩
  · rw [ne _ _ (ptr_w q hq).2.2]; exact h.1 q hq
  · have : k = 2205 := by simpa [q_bp] using hk
    subst this
    rw [rd_R_sR, if_pos ⟨rfl, rfl⟩]
  · have e := h.2.2.2.1 i hi
    exact ⟨e.1, by rw [ne _ _ (by omega)]; exact e.2.1, by rw [ne _ _ (by omega)]; exact e.2.2.1, e.2.2.2⟩
  · have e := h.2.2.2.2 i hi
    exact ⟨e.1, by rw [ne _ _ (by omega)]; exact e.2⟩
set_option maxHeartbeats 200000 in
theorem nG_mem (hi : q_inj g) (m : q_mem g S) (B : nB S U b1 b2 b3 n1 n2) : q_mem (nG g S b1 b2 b3) U := by
  obtain ⟨fr, f, ⟨l1, l2, l3⟩, _⟩ := B
  have up : ∀ x, x ∈ kp_L S → x ∈ kp_L U := fun x hx => (fr.1 x hx).1
  refine ⟨fun k hk => ?_, fun q hq => ?_, ⟨?_, ?_⟩, fun i hi' => ?_, fun i hi' => ?_, fun i hi' => ?_⟩
  · rcases Nat.eq_zero_or_pos k with z | z
    · subst z; rw [nG_1 m f]; exact l1
    · rw [nG_u hi (m.1 k hk) f (by omega) (by omega) (by omega)]; exact up _ (m.1 k hk)
  · obtain ⟨z1, z2⟩ := len_u q hq
    rw [nG_u hi (m.2.1 q hq) f (by omega) (fun z => z1 z.2) (fun z => z2 z.2)]; exact up _ (m.2.1 q hq)
  · rw [nG_2 hi m f]; exact l2
  · rw [nG_3 hi m f]; exact l3
  · obtain ⟨t1, t2, t3⟩ := m.2.2.2.1 i hi'
    rw [nG_u hi t1 f (by decide) (by decide) (by decide), nG_u hi t2 f (by decide) (by decide) (by decide), nG_u hi t3 f (by decide) (by decide) (by decide)]; exact ⟨up _ t1, up _ t2, up _ t3⟩
  · have t1 := m.2.2.2.2.1 i hi'
    rw [nG_u hi t1 f (by decide) (by decide) (by decide)]; exact up _ t1
  · have t1 := m.2.2.2.2.2 i hi'
    rw [nG_u hi t1 f (by decide) (by decide) (by decide)]; exact up _ t1
set_option maxHeartbeats 200000 in
theorem nG_LA (f : nF S b1 b2 b3) (h : LA g a S) (l : kp_le S T) : LA (nG g S b1 b2 b3) a T := ⟨(l a h.1).1, (l a h.1).2.2.trans h.2.1, fun t k n e => h.2.2 t k n (nG_no h.1 f e).1⟩
end
