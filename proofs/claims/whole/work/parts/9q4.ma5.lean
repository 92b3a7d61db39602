section
variable {g : q_G} {S T S0 : kp_S} {P : kp_S → Prop} {x1 x2 x3 x4 : Int32}
set_option maxHeartbeats 200000 in
theorem q_ptr_809 : ∀ q, q ∈ q_ptr → q.1 ≠ 809 := by decide +kernel
set_option maxHeartbeats 200000 in
/-- the machine's book set: the graph for both groups -/
theorem G_809 {gr : Nat} (h : q_gr 3 g (kp_R T) (kp_C T) (kp_N T)) (hb : gr = 0 ∨ gr = 3) : q_gr gr g (kp_R (kp_sR T 809 (g 0 4 0) (g 0 0 0))) (kp_C (kp_sR T 809 (g 0 4 0) (g 0 0 0))) (kp_N (kp_sR T 809 (g 0 4 0) (g 0 0 0))) := by
  have ne : ∀ k a, k ≠ 809 → kp_R (kp_sR T 809 (g 0 4 0) (g 0 0 0)) k a = kp_R T k a := fun k a hk => by
    rw [rd_R_sR, if_neg (fun z => hk z.1)]
  refine ⟨fun q hq => ?_, fun k hk => ?_, h.2.2.1, fun i hi => ?_, fun i hi => ?_⟩
  · rw [ne _ _ (q_ptr_809 q hq)]; exact h.1 q hq
  · rcases hb with e | e
    · subst e
      have : k = 809 := by simpa [q_bp] using hk
      subst this
      rw [rd_R_sR, if_pos ⟨rfl, rfl⟩]
    · subst e
      have : k = 2205 := by simpa [q_bp] using hk
      subst this
      rw [ne _ _ (by omega)]; exact h.2.1 2205 hk
  · have e := h.2.2.2.1 i hi
    exact ⟨e.1, by rw [ne _ _ (by omega)]; exact e.2.1, by rw [ne _ _ (by omega)]; exact e.2.2.1, e.2.2.2⟩
  · have e := h.2.2.2.2 i hi
    exact ⟨e.1, by rw [ne _ _ (by omega)]; exact e.2⟩
set_option maxHeartbeats 200000 in
/-- the class's run over the pool -/
theorem w_run {post px : Int32 → kp_S → Prop} (h : LI g S) (hx : ∀ T e, LJ g S T → q_w g T = q_w g S → rx x1 x4 (q_w g S) = e → (e = 1 ∨ e = 2) → px e T) (hp : rx x1 x4 (q_w g S) = 0 → ∃ o v, fX4_performR x1 x2 x3 x4 (q_w g S) = some (o, v) ∧ ∀ T, LJ g S T → v = q_w g T → post o T) : wX11_run (g 0 11 0) x1 x2 x3 x4 S post px := by
  unfold wX11_run
  by_cases c0 : q_i (q_w g S) 3 ≤ 0
  · refine b_X11_hasBook (G_f h) (y := 0) (v := q_w g S) ?_ (fun T1 R1 e1 => ?_)
    · unfold fX11_hasBook fX11_hasBook_b15; rw [if_pos c0, if_neg (by decide)]
    · exact ⟨fun _ => hx T1 1 ⟨R1.1, R1.2.1, R1.2.2.1⟩ e1.symm (by unfold rx; rw [if_pos c0]) (Or.inl rfl), fun z => absurd rfl z⟩
  · refine b_X11_hasBook (G_f h) (y := 1) (v := q_w g S) ?_ (fun T1 R1 e1 => ?_)
    · unfold fX11_hasBook fX11_hasBook_b15; rw [if_neg c0, if_neg (by decide)]
    · refine ⟨fun z => absurd z (by decide), fun _ => ⟨_, q_p2203 R1, ?_⟩⟩
      have Rm : q_Gm g T1 T1 := ⟨R1.1, R1.2.1, kp_fr.rf⟩
      refine m_X7_get Rm (y := q_a (q_w g S) 1400 17) (v := q_w g T1) ?_ (fun T4 R4 e4 => ?_)
      · rw [e1]; rfl
      · have J : LJ g S T4 := ⟨R4.1, R4.2.1, R1.2.2.1.tr R4.2.2.1⟩
        have ev : q_w g T4 = q_w g S := e4.symm.trans e1.symm
        have e3 : kp_I T4 3 (g 0 0 0) = q_i (q_w g S) 3 := by rw [← ev]; rfl
        refine ⟨fun c1 => ⟨fun c2 => ?_, fun c2 => ⟨g 0 0 0, R4.2.1.2.1 2205 (by simp [q_bp]), fun c3 => ?_, fun c3 => ⟨fun c4 => ?_, fun c4 => ⟨fun c5 => ?_, fun c5 => ?_⟩⟩⟩⟩, fun c1 => ?_⟩
        · exact hx T4 2 J ev (by unfold rx; rw [if_neg c0, if_pos c1, if_pos c2]) (Or.inr rfl)
        · rw [e3] at c3
          exact hx T4 2 J ev (by unfold rx; rw [if_neg c0, if_pos c1, if_neg c2, if_pos c3]) (Or.inr rfl)
        · rw [e3] at c3
          exact hx T4 2 J ev (by unfold rx; rw [if_neg c0, if_pos c1, if_neg c2, if_neg c3, if_pos c4]) (Or.inr rfl)
        · rw [e3] at c3
          obtain ⟨o, v, p1, p2⟩ := hp (by unfold rx; rw [if_neg c0, if_pos c1, if_neg c2, if_neg c3, if_neg c4, if_pos c5])
          refine ⟨g 0 4 0, R4.2.1.1 (2204, 0, 4, 0) (by decide +kernel), wX4_perform_of ?_⟩
          have U0 : q_Gd 0 g (kp_sR T4 809 (g 0 4 0) (g 0 0 0)) (kp_sR T4 809 (g 0 4 0) (g 0 0 0)) := ⟨R4.1, G_809 R4.2.1 (Or.inl rfl), kp_fr.rf⟩
          have le : kp_le T4 (kp_sR T4 809 (g 0 4 0) (g 0 0 0)) := fun _ z => ⟨z, rfl, rfl⟩
          refine b_X4_performR U0 (y := o) (v := v) ?_ (fun T R e => ?_)
          · show fX4_performR x1 x2 x3 x4 (q_w g T4) = some (o, v)
            rw [ev]; exact p1
          · refine p2 T ⟨R.1, G_3 R (G_809 R4.2.1 (Or.inr rfl)) (q_mem_le (q_mem_le h.2.2.1 J.2.2) le) rfl, (J.2.2.tr le).tr R.2.2.1⟩ e
        · rw [e3] at c3
          exact hx T4 2 J ev (by unfold rx; rw [if_neg c0, if_pos c1, if_neg c2, if_neg c3, if_neg c4, if_neg c5]) (Or.inr rfl)
        · exact hx T4 1 J ev (by unfold rx; rw [if_neg c0, if_neg c1]) (Or.inl rfl)
end
