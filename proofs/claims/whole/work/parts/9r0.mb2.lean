set_option maxHeartbeats 200000 in
theorem uQ_k : ∀ k, k < 2470 → ((200 ≤ k ∧ k ≤ 204) ∨ (1400 ≤ k ∧ k ≤ 1402) ∨ k = 1801 ∨ k = 2200 ∨ k = 2401 ∨ k = 2403 ∨ (2448 ≤ k ∧ k ≤ 2461) ∨ (2463 ≤ k ∧ k ≤ 2469)) → k ∈ q_len.map Prod.fst := by decide +kernel
set_option maxHeartbeats 200000 in
theorem ptr_w : ∀ q, q ∈ q_ptr → q.1 ≠ 402 ∧ q.1 ≠ 1603 ∧ q.1 ≠ 2205 := by decide +kernel
section
variable {g : q_G} {S T U : kp_S} {b1 b2 b3 n1 n2 a0 b8 : Nat} {P : kp_S → Prop} {x o pl : Int32} {v v1 v2 : q_V} {K : kp_S → Prop}
set_option maxHeartbeats 200000 in
theorem uQ_len {k : Nat} (h : uQ k) : ∃ q, q ∈ q_len ∧ q.1 = k := by
  obtain ⟨q, q1, q2⟩ := List.mem_map.mp (uQ_k k (by unfold uQ at h; omega) h)
  exact ⟨q, q1, q2⟩
set_option maxHeartbeats 200000 in
theorem w_sI (hi : q_inj g) {k : Nat} {x : Int32} : q_w g (kp_sI S k (g 0 (k / 200) 0) x) = q_si (q_w g S) k x := by
  refine Prod.ext (funext fun j => ?_) (Prod.ext rfl (Prod.ext rfl (Prod.ext rfl (Prod.ext (funext fun j => funext fun m => ?_) rfl))))
  · show kp_I (kp_sI S k (g 0 (k / 200) 0) x) j (g 0 (j / 200) 0) = if j = k then x else kp_I S j (g 0 (j / 200) 0)
    rw [rd_I_sI]
    by_cases hj : j = k
    · subst hj; rw [if_pos ⟨rfl, rfl⟩, if_pos rfl]
    · rw [if_neg (fun q => hj q.1), if_neg hj]
  · show kp_I (kp_sI S k (g 0 (k / 200) 0) x) j (g 2 (j / 200) m) = kp_I S j (g 2 (j / 200) m)
    rw [rd_I_sI, if_neg (fun q => absurd (hi _ _ _ _ _ _ q.2).1 (by decide))]
set_option maxHeartbeats 200000 in
/-- the reader's pointers to the new book -/
theorem G_rd (h : q_gr 2 g (kp_R U) (kp_C U) (kp_N U)) : q_gr 1 g (kp_R (kp_sR (kp_sR U 1603 (g 0 8 0) (g 0 0 0)) 402 (g 0 2 0) (g 0 0 0))) (kp_C (kp_sR (kp_sR U 1603 (g 0 8 0) (g 0 0 0)) 402 (g 0 2 0) (g 0 0 0))) (kp_N (kp_sR (kp_sR U 1603 (g 0 8 0) (g 0 0 0)) 402 (g 0 2 0) (g 0 0 0))) := by
  have ne : ∀ k a, k ≠ 402 → k ≠ 1603 → kp_R (kp_sR (kp_sR U 1603 (g 0 8 0) (g 0 0 0)) 402 (g 0 2 0) (g 0 0 0)) k a = kp_R U k a := fun k a h1 h2 => by
    rw [rd_R_sR, if_neg (fun z => h1 z.1), rd_R_sR, if_neg (fun z => h2 z.1)]
  refine ⟨fun q hq => ?_, fun k hk => ?_, h.2.2.1, fun i hi => ?_, fun i hi => ?_⟩
  · obtain ⟨p1, p2, _⟩ := ptr_w q hq
    rw [ne _ _ p1 p2]; exact h.1 q hq
  · have : k = 402 ∨ k = 1603 := by simpa [q_bp] using hk
    rcases this with e | e <;> subst e
    · rw [rd_R_sR, if_pos ⟨rfl, rfl⟩]
    · rw [rd_R_sR, if_neg (fun z => absurd z.1 (by decide)), rd_R_sR, if_pos ⟨rfl, rfl⟩]
  · have e := h.2.2.2.1 i hi
    exact ⟨e.1, by rw [ne _ _ (by omega) (by omega)]; exact e.2.1, by rw [ne _ _ (by omega) (by omega)]; exact e.2.2.1, e.2.2.2⟩
  · have e := h.2.2.2.2 i hi
    exact ⟨e.1, by rw [ne _ _ (by omega) (by omega)]; exact e.2⟩
set_option maxHeartbeats 200000 in
theorem fk_si {k : Nat} (h : fX8_faultKind v = some (o, v)) (h1 : k ≠ 1809) (h2 : k ≠ 1011) : fX8_faultKind (q_si v k x) = some (o, q_si v k x) := by
  unfold fX8_faultKind fX8_faultKind_b27 at h ⊢
  rw [q_i_si, if_neg (Ne.symm h1), q_i_si, if_neg (Ne.symm h2)]
  by_cases c : q_i v 1809 = 0
  · rw [if_pos c] at h ⊢
    injection h with h; injection h with h; rw [h]
  · rw [if_neg c] at h ⊢
    injection h with h; injection h with h; rw [h]
set_option maxHeartbeats 200000 in
theorem fp_si {k : Nat} (h : fX8_faultPlace v = some (o, v)) (h1 : k ≠ 1809) (h2 : k ≠ 1012) (h3 : k ≠ 1810) : fX8_faultPlace (q_si v k x) = some (o, q_si v k x) := by
  unfold fX8_faultPlace fX8_faultPlace_b27 at h ⊢
  rw [q_i_si, if_neg (Ne.symm h1), q_i_si, if_neg (Ne.symm h2), q_i_si, if_neg (Ne.symm h3)]
  by_cases c : q_i v 1809 = 0
  · rw [if_pos c] at h ⊢
    injection h with h; injection h with h; rw [h]
  · rw [if_neg c] at h ⊢
    injection h with h; injection h with h; rw [h]
/-- what reading may change over the pool -/
def rdQ (g : q_G) (a : Nat) : Prop := q_own 1 g a ∨ a = g 0 11 0
set_option maxHeartbeats 200000 in
theorem fr_t {Q : Nat → Prop} (h : kp_fr Q S T) (h' : kp_fr Q T U) : kp_fr Q S U := h.tr (h'.mono (fun _ _ q => Or.inl q))
set_option maxHeartbeats 200000 in
/-- the class's read behind the new book -/
theorem w_rd (hi : q_inj g) (hg : q_gr 2 g (kp_R U) (kp_C U) (kp_N U)) (hm : g 0 11 0 ∈ kp_L U) (ea : a0 = g 0 11 0) (eb : b8 = g 0 8 0) (ec : b1 = g 0 0 0) (e1 : fX8_readTextR x (q_w g U) = some v1) (e2 : fX8_faultKind v1 = some (o, v1)) (e3 : fX8_faultPlace v1 = some (pl, v1))
    (kk : ∀ T, q_gr 1 g (kp_R T) (kp_C T) (kp_N T) → kp_fr (rdQ g) U T → (∀ j, kp_R T j (g 0 11 0) = kp_R U j (g 0 11 0)) → q_w g T = q_si (q_si (q_si v1 2206 0) 2207 o) 2208 pl → K T) :
    wX8_readText b8 b1 x U (fun T5 => ∀ T6 : kp_S, T6 = kp_sI T5 2206 a0 0 → ∃ b7 : Nat, kp_R T6 2201 a0 = some b7 ∧ wX8_faultKind b7 T6 (fun y9 T8 => ∀ T10 : kp_S, T10 = kp_sI T8 2207 a0 y9 → ∃ b11 : Nat, kp_R T10 2201 a0 = some b11 ∧ wX8_faultPlace b11 T10 (fun y13 T12 => ∀ T14 : kp_S, T14 = kp_sI T12 2208 a0 y13 → K T14))) := by
  subst ea; subst eb; subst ec
  have p22 : (2201, 0, 8, 0) ∈ q_ptr := by decide +kernel
  have no11 : ¬ q_own 1 g (g 0 11 0) := own_no hi rfl
  refine wX8_readText_of (hg.1 (1602, 0, 2, 0) (by decide +kernel)) ?_
  have gW := G_rd hg
  have fW : kp_fr (rdQ g) U (kp_sR (kp_sR U 1603 (g 0 8 0) (g 0 0 0)) 402 (g 0 2 0) (g 0 0 0)) := fr_t (kp_fr.sR (Or.inl ⟨0, 8, 0, rfl, rfl⟩)) (kp_fr.sR (Or.inl ⟨0, 2, 0, rfl, rfl⟩))
  have rW : ∀ j, kp_R (kp_sR (kp_sR U 1603 (g 0 8 0) (g 0 0 0)) 402 (g 0 2 0) (g 0 0 0)) j (g 0 11 0) = kp_R U j (g 0 11 0) := fun j => by
    rw [rd_R_sR, if_neg (fun z => absurd (hi _ _ _ _ _ _ z.2).2.1 (by decide)), rd_R_sR, if_neg (fun z => absurd (hi _ _ _ _ _ _ z.2).2.1 (by decide))]
  have mW := (fW.1 _ hm).1
  have vW : q_w g (kp_sR (kp_sR U 1603 (g 0 8 0) (g 0 0 0)) 402 (g 0 2 0) (g 0 0 0)) = q_w g U := rfl
  generalize kp_sR (kp_sR U 1603 (g 0 8 0) (g 0 0 0)) 402 (g 0 2 0) (g 0 0 0) = W at *
  clear hg
  refine b_X8_readTextR (S0 := W) ⟨hi, gW, kp_fr.rf⟩ (v := v1) (by rw [vW]; exact e1) (fun T5 R5 e5 => ?_)
  intro T6 e6
  have g6 : q_gr 1 g (kp_R T6) (kp_C T6) (kp_N T6) := by subst e6; exact R5.2.1
  have v6 : q_w g T6 = q_si v1 2206 0 := by
    subst e6; rw [e5]; exact w_sI (k := 2206) hi
  have f6 : kp_fr (rdQ g) U T6 := by
    subst e6
    exact fr_t (fr_t fW (R5.2.2.mono (fun _ _ q => Or.inl q))) (kp_fr.sI (Or.inr rfl))
  have r6 : ∀ j, kp_R T6 j (g 0 11 0) = kp_R U j (g 0 11 0) := fun j => by
    subst e6; rw [rd_R_sI, (R5.2.2.2 _ mW no11).2.2.1]; exact rW j
  have m6 := (f6.1 _ hm).1
  clear e6 R5 e5
  refine ⟨g 0 8 0, g6.1 (2201, 0, 8, 0) p22, ?_⟩
  refine b_X8_faultKind (S0 := T6) ⟨hi, g6, kp_fr.rf⟩ (y := o) (v := q_si v1 2206 0) (by rw [v6]; exact fk_si e2 (by decide) (by decide)) (fun T8 R8 e8 => ?_)
  intro T10 e10
  have g10 : q_gr 1 g (kp_R T10) (kp_C T10) (kp_N T10) := by subst e10; exact R8.2.1
  have v10 : q_w g T10 = q_si (q_si v1 2206 0) 2207 o := by
    subst e10; rw [e8]; exact w_sI (k := 2207) hi
  have f10 : kp_fr (rdQ g) U T10 := by
    subst e10
    exact fr_t (fr_t f6 (R8.2.2.mono (fun _ _ q => Or.inl q))) (kp_fr.sI (Or.inr rfl))
  have r10 : ∀ j, kp_R T10 j (g 0 11 0) = kp_R U j (g 0 11 0) := fun j => by
    subst e10; rw [rd_R_sI, (R8.2.2.2 _ m6 no11).2.2.1]; exact r6 j
  have m10 := (f10.1 _ hm).1
  clear e10 R8 e8
  refine ⟨g 0 8 0, g10.1 (2201, 0, 8, 0) p22, ?_⟩
  refine b_X8_faultPlace (S0 := T10) ⟨hi, g10, kp_fr.rf⟩ (y := pl) (v := q_si (q_si v1 2206 0) 2207 o) (by rw [v10]; exact fp_si (fp_si e3 (by decide) (by decide) (by decide)) (by decide) (by decide) (by decide)) (fun T12 R12 e12 => ?_)
  intro T14 e14
  refine kk T14 (by subst e14; exact R12.2.1) ?_ (fun j => ?_) ?_
  · subst e14
    exact fr_t (fr_t f10 (R12.2.2.mono (fun _ _ q => Or.inl q))) (kp_fr.sI (Or.inr rfl))
  · subst e14; rw [rd_R_sI, (R12.2.2.2 _ m10 no11).2.2.1]; exact r10 j
  · subst e14; rw [e12]; exact w_sI (k := 2208) hi
end
