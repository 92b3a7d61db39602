/-- the used nodes lie in the pool -/
def q_mem (g : q_G) (S : kp_S) : Prop := (∀ k, k ∈ [0, 1, 2, 4, 5, 7, 8, 9, 11, 12] → g 0 k 0 ∈ kp_L S) ∧ (∀ q, q ∈ q_len → g 1 q.1 0 ∈ kp_L S) ∧ (g 1 0 0 ∈ kp_L S ∧ g 1 2 0 ∈ kp_L S) ∧ (∀ i, i < 12 → g 2 3 i ∈ kp_L S ∧ g 3 600 i ∈ kp_L S ∧ g 3 601 i ∈ kp_L S) ∧ (∀ i, i < 168 → g 2 6 i ∈ kp_L S) ∧ ∀ i, i ≤ 168 → g 2 10 i ∈ kp_L S
/-- how the pool stands between the law's calls -/
def LI (g : q_G) (S : kp_S) : Prop := q_inj g ∧ q_gr 3 g (kp_R S) (kp_C S) (kp_N S) ∧ q_mem g S ∧ LR (q_w g S) (q_w g S)
section
variable {g : q_G} {S T S0 : kp_S}
set_option maxHeartbeats 200000 in
theorem own_no {gr t k n : Nat} (hi : q_inj g) (h : q_oc gr t k = false) : ¬ q_own gr g (g t k n) := by
  rintro ⟨t', k', n', ho, e⟩
  obtain ⟨e1, e2, _⟩ := hi _ _ _ _ _ _ e
  subst e1; subst e2
  rw [h] at ho; cases ho
set_option maxHeartbeats 200000 in
theorem q_mem_le (h : q_mem g S) (l : kp_le S T) : q_mem g T :=
  ⟨fun k hk => (l _ (h.1 k hk)).1, fun q hq => (l _ (h.2.1 q hq)).1, ⟨(l _ h.2.2.1.1).1, (l _ h.2.2.1.2).1⟩, fun i hi => ⟨(l _ (h.2.2.2.1 i hi).1).1, (l _ (h.2.2.2.1 i hi).2.1).1, (l _ (h.2.2.2.1 i hi).2.2).1⟩, fun i hi => (l _ (h.2.2.2.2.1 i hi)).1, fun i hi => (l _ (h.2.2.2.2.2 i hi)).1⟩
set_option maxHeartbeats 200000 in
theorem G_3 {gr : Nat} (R : q_Gd gr g S T) (h : q_gr 3 g (kp_R S) (kp_C S) (kp_N S)) (m : q_mem g S) (ho : q_oc gr 0 11 = false) : q_gr 3 g (kp_R T) (kp_C T) (kp_N T) := by
  refine ⟨R.2.1.1, fun k hk => ?_, R.2.1.2.2⟩
  have : k = 2205 := by simpa [q_bp] using hk
  subst this
  have e := (R.2.2.2 (g 0 11 0) (m.1 11 (by decide)) (own_no R.1 ho)).2.2.1 2205
  show kp_R T 2205 (g 0 11 0) = some (g 0 0 0)
  rw [e]; exact h.2.1 2205 (by simp [q_bp])
set_option maxHeartbeats 200000 in
theorem G_2 (h : LI g S) : q_Gd 2 g S S := ⟨h.1, ⟨h.2.1.1, fun k hk => absurd hk (by simp [q_bp]), h.2.1.2.2⟩, kp_fr.rf⟩
set_option maxHeartbeats 200000 in
theorem G_f (h : LI g S) : q_Gd 3 g S S := ⟨h.1, h.2.1, kp_fr.rf⟩
set_option maxHeartbeats 200000 in
theorem G_m (h : LI g S) : q_Gm g S S := ⟨h.1, h.2.1, kp_fr.rf⟩
/-- what a class's call leaves, between the two calls -/
def LJ (g : q_G) (S T : kp_S) : Prop := q_inj g ∧ q_gr 3 g (kp_R T) (kp_C T) (kp_N T) ∧ kp_le S T
set_option maxHeartbeats 200000 in
/-- two calls of the law, one behind the other, alike -/
theorem li_two {f r : q_V → Option (Int32 × q_V)} {w1 w2 : kp_S → (Int32 → kp_S → Prop) → Prop} {P : kp_S → Prop} (h : LI g S) (G : ∃ o v1 v2, f (q_w g S) = some (o, v1) ∧ r v1 = some (o, v2) ∧ LR v2 v2)
    (B1 : ∀ (y : Int32) (v : q_V) (post : Int32 → kp_S → Prop), f (q_w g S) = some (y, v) → (∀ T, LJ g S T → v = q_w g T → post y T) → w1 S post)
    (B2 : ∀ (T : kp_S) (y : Int32) (v : q_V) (post : Int32 → kp_S → Prop), q_Gd 2 g T T → r (q_w g T) = some (y, v) → (∀ U, q_Gd 2 g T U → v = q_w g U → post y U) → w2 T post)
    (kk : ∀ T, LI g T → kp_le S T → P T) : w1 S (fun y T1 => w2 T1 (fun y' T2 => (y = y' → P T2) ∧ (¬ y = y' → False))) := by
  obtain ⟨o, v1, v2, a1, a2, a3⟩ := G
  refine B1 o v1 _ a1 (fun T J e => ?_)
  subst e
  refine B2 T o v2 _ ⟨J.1, ⟨J.2.1.1, fun k hk => absurd hk (by simp [q_bp]), J.2.1.2.2⟩, kp_fr.rf⟩ a2 (fun U R e => ?_)
  subst e
  have mT := q_mem_le h.2.2.1 J.2.2
  exact ⟨fun _ => kk U ⟨J.1, G_3 R J.2.1 mT rfl, q_mem_le mT R.2.2.1, a3⟩ (J.2.2.tr R.2.2.1), fun z => z rfl⟩
end
