/-- the pool with a new book of two arrays -/
def nB (S U : kp_S) (b1 b2 b3 n1 n2 : Nat) : Prop := kp_fr (fun _ => False) S U ∧ nF S b1 b2 b3 ∧ (b1 ∈ kp_L U ∧ b2 ∈ kp_L U ∧ b3 ∈ kp_L U) ∧ kp_R U 0 b1 = some b2 ∧ kp_R U 2 b1 = some b3 ∧ kp_I U 1 b1 = 0 ∧ kp_I U 3 b1 = 0 ∧ kp_N U b2 = n1 ∧ kp_N U b3 = n2
section
variable {S : kp_S} {b1 : Nat} {post : kp_S → Prop}
set_option maxHeartbeats 200000 in
theorem w_book0 {n1 n2 : Nat} {y1 y2 : Int32} (hb : b1 ∉ kp_L S) (e1 : y1 = nI n1) (e2 : y2 = nI n2) (l1 : n1 ≤ 6016) (l2 : n2 ≤ 150) (kk : ∀ U b2 b3, nB S U b1 b2 b3 n1 n2 → post U) :
    (¬ y1 < 0 ∧ y1.toNatClampNeg ≤ 6016 ∧ ∀ (b : Nat) (T : kp_S), b ∉ kp_L (kp_new S b1 0) → T = kp_newA (kp_new S b1 0) b 14 (y1.toNatClampNeg) → ∀ T' : kp_S, T' = kp_sR T 0 b1 b → wX0_init_b36 b1 0 y2 b1 T' post) := by
  subst e1; subst e2
  refine ⟨by rw [ni_neg (by omega)]; exact not_false, by rw [ni_clamp (by omega)]; exact l1, fun b2 T f2 eT T' eT' => ?_⟩
  rw [ni_clamp (by omega)] at eT
  unfold wX0_init_b36
  refine ⟨by rw [ni_neg (by omega)]; exact not_false, by rw [ni_clamp (by omega)]; exact l2, fun b3 V f3 eV V' eV' => ?_⟩
  rw [ni_clamp (by omega)] at eV
  subst eT; subst eT'; subst eV; subst eV'
  rw [rd_L_new] at f2
  rw [rd_L_sR, rd_L_newA, rd_L_new] at f3
  have g2 : b2 ∉ kp_L S := fun z => f2 (List.mem_append_left _ z)
  have g3 : b3 ∉ kp_L S := fun z => f3 (List.mem_append_left _ (List.mem_append_left _ z))
  have d12 : b1 ≠ b2 := fun z => f2 (List.mem_append_right _ (by rw [z]; exact List.mem_singleton.mpr rfl))
  have d13 : b1 ≠ b3 := fun z => f3 (List.mem_append_left _ (List.mem_append_right _ (by rw [z]; exact List.mem_singleton.mpr rfl)))
  have d23 : b2 ≠ b3 := fun z => f3 (List.mem_append_right _ (by rw [z]; exact List.mem_singleton.mpr rfl))
  refine kk _ b2 b3 ⟨?_, ⟨hb, g2, g3, d12, d13, d23⟩, ?_, ?_, ?_, ?_, ?_, ?_, ?_⟩
  · refine kp_fr.tr (kp_fr.tr (kp_fr.tr (kp_fr.tr (kp_fr.new hb) (kp_fr.newA ?_)) (kp_fr.sR (Or.inr hb))) (kp_fr.newA ?_)) (kp_fr.sR (Or.inr hb))
    · exact f2
    · exact f3
  · refine ⟨?_, ?_, ?_⟩ <;> simp only [rd_L_sR, rd_L_newA, rd_L_new, List.mem_append, List.mem_singleton] <;> simp
  · rw [rd_R_sR, if_neg (by omega), rd_R_newA, rd_R_sR, if_pos ⟨rfl, rfl⟩]
  · rw [rd_R_sR, if_pos ⟨rfl, rfl⟩]
  · rw [rd_I_sR, rd_I_newA, rd_I_sR, rd_I_newA, rd_I_new, if_pos rfl]
  · rw [rd_I_sR, rd_I_newA, rd_I_sR, rd_I_newA, rd_I_new, if_pos rfl]
  · rw [rd_N_sR, rd_N_newA, if_neg d23, rd_N_sR, rd_N_newA, if_pos rfl]
  · rw [rd_N_sR, rd_N_newA, if_pos rfl]
set_option maxHeartbeats 200000 in
/-- a new book for a tape of L bytes -/
theorem w_book {L : Nat} (hL : L ≤ 3000) (hb : b1 ∉ kp_L S) (kk : ∀ U b2 b3, nB S U b1 b2 b3 (if L = 0 then 0 else 2 * L + 16) (if L = 0 then 0 else 150) → post U) : wX0_init b1 (nI L) (kp_new S b1 0) post := by
  unfold wX0_init
  by_cases c : L = 0
  · subst c
    refine ⟨fun _ => ?_, fun z => absurd (show nI 0 ≤ 0 from by decide) z⟩
    unfold wX0_init_b19
    obtain ⟨p1, p2, p3⟩ := w_book0 (y1 := 0) (y2 := 0) (n1 := 0) (n2 := 0) hb rfl rfl (by omega) (by omega) kk
    exact ⟨p1, p2, fun b T h1 h2 T' h3 => ⟨fun _ => p3 b T h1 h2 T' h3, fun z => absurd (show nI 0 ≤ 0 from by decide) z⟩⟩
  · have n0 : ¬ nI L ≤ 0 := ni_nle (b := 0) (by omega) (by omega)
    refine ⟨fun z => absurd z n0, fun _ => ?_⟩
    unfold wX0_init_b19
    rw [if_neg c, if_neg c] at kk
    obtain ⟨p1, p2, p3⟩ := w_book0 (y1 := 2 * nI L + 16) (y2 := 150) (n1 := 2 * L + 16) (n2 := 150) hb (by rw [ni_2m]; exact (Int32.ofNat_add (2 * L) 16).symm) rfl (by omega) (by omega) kk
    exact ⟨p1, p2, fun b T h1 h2 T' h3 => ⟨fun z => absurd z n0, fun _ => p3 b T h1 h2 T' h3⟩⟩
end
