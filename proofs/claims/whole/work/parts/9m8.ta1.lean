/-! DUTIES, AND THE WHOLE TEXT -/
/-- a token of a duty's head -/
def hdk (c : Int32) : Prop := c = 40 ∨ c = 44 ∨ c = 259
def HR (g : rd_G) : Nat → Nat → Nat → Nat → Prop
  | 0, j, c, h => h = j ∧ c = 0 ∧ ¬ hdk (tkc g j)
  | n + 1, j, c, h => hdk (tkc g j) ∧ ∃ c', c = c' + (if tkc g j = 259 then 1 else 0) ∧ HR g n (j + 1) c' h
/-- what is looked for ahead: duties and how many names stand in their heads -/
def CR (g : rd_G) : Nat → Nat → List (Int64 × Nat) → Nat → Prop
  | 0, i, ls, j => ls = [] ∧ j = i
  | n + 1, i, ls, j => (tkc g i ≠ 261 ∧ tkc g i ≠ 300 ∧ CR g n (i + 1) ls j) ∨ (tkc g i = 300 ∧ tkc g (i + 1) ≠ 259 ∧ CR g n (i + 1) ls j) ∨ (tkc g i = 300 ∧ tkc g (i + 1) = 259 ∧ ∃ m c h ls', HR g m (i + 2) c h ∧ ls = (tkw g (i + 1), c) :: ls' ∧ CR g n h ls' j)
section
variable {g : rd_G}
set_option maxHeartbeats 200000 in
theorem HR_u : ∀ n m j c h c' h', HR g n j c h → HR g m j c' h' → c = c' ∧ h = h' := by
  intro n
  induction n with
  | zero =>
    intro m j c h c' h' a b
    cases m with
    | zero => exact ⟨a.2.1.trans b.2.1.symm, a.1.trans b.1.symm⟩
    | succ m => exact absurd b.1 a.2.2
  | succ n ih =>
    intro m j c h c' h' a b
    cases m with
    | zero => exact absurd a.1 b.2.2
    | succ m =>
      obtain ⟨_, c1, e1, a1⟩ := a
      obtain ⟨_, c2, e2, a2⟩ := b
      obtain ⟨x, y⟩ := ih m (j + 1) c1 h c2 h' a1 a2
      exact ⟨by rw [e1, e2, x], y⟩
set_option maxHeartbeats 200000 in
theorem CR_pre : ∀ n m i a j ls E, CR g n i a j → CR g m i ls E → tkc g E = 261 → ∃ m' rest, CR g m' j rest E ∧ ls = a ++ rest := by
  intro n
  induction n with
  | zero =>
    intro m i a j ls E h1 h2 hE
    obtain ⟨rfl, rfl⟩ := h1
    exact ⟨m, ls, h2, rfl⟩
  | succ n ih =>
    intro m i a j ls E h1 h2 hE
    cases m with
    | zero =>
      obtain ⟨rfl, rfl⟩ := h2
      rcases h1 with h1 | h1 | h1
      · exact absurd hE h1.1
      · rw [h1.1] at hE; exact absurd hE (by decide)
      · rw [h1.1] at hE; exact absurd hE (by decide)
    | succ m =>
      rcases h1 with ⟨p1, p2, p3⟩ | ⟨p1, p2, p3⟩ | ⟨p1, p2, m1, c1, k1, l1, p3, p4, p5⟩
      · rcases h2 with ⟨q1, q2, q3⟩ | ⟨q1, q2, q3⟩ | ⟨q1, q2, _⟩
        · exact ih m (i + 1) a j ls E p3 q3 hE
        · exact absurd q1 p2
        · exact absurd q1 p2
      · rcases h2 with ⟨q1, q2, q3⟩ | ⟨q1, q2, q3⟩ | ⟨q1, q2, _⟩
        · exact absurd p1 q2
        · exact ih m (i + 1) a j ls E p3 q3 hE
        · exact absurd q2 p2
      · rcases h2 with ⟨q1, q2, q3⟩ | ⟨q1, q2, q3⟩ | ⟨q1, q2, m2, c2, k2, l2, q3, q4, q5⟩
        · exact absurd p1 q2
        · exact absurd p2 q2
        · obtain ⟨e1, e2⟩ := HR_u m1 m2 _ _ _ _ _ p3 q3
          subst e1; subst e2
          obtain ⟨m', rest, r1, r2⟩ := ih m k1 l1 j l2 E p5 q5 hE
          exact ⟨m', rest, r1, by rw [p4, q4, r2]; rfl⟩
set_option maxHeartbeats 200000 in
theorem CR_skip : ∀ t i j, j = i + t → (∀ u, i ≤ u → u < j → tkc g u ≠ 300 ∧ tkc g u ≠ 261) → CR g t i [] j := by
  intro t
  induction t with
  | zero => intro i j h _; exact ⟨rfl, h⟩
  | succ t ih =>
    intro i j h hu
    have := hu i (Nat.le_refl _) (by omega)
    exact Or.inl ⟨this.2, this.1, ih (i + 1) j (by omega) (fun u h1 h2 => hu u (by omega) h2)⟩
set_option maxHeartbeats 200000 in
theorem CR_app : ∀ n m i a j b k, CR g n i a j → CR g m j b k → CR g (n + m) i (a ++ b) k := by
  intro n
  induction n with
  | zero =>
    intro m i a j b k h1 h2
    obtain ⟨rfl, rfl⟩ := h1
    rw [Nat.zero_add]; exact h2
  | succ n ih =>
    intro m i a j b k h1 h2
    rw [show n + 1 + m = (n + m) + 1 by omega]
    rcases h1 with ⟨p1, p2, p3⟩ | ⟨p1, p2, p3⟩ | ⟨p1, p2, m1, c1, k1, l1, p3, p4, p5⟩
    · exact Or.inl ⟨p1, p2, ih m (i + 1) a j b k p3 h2⟩
    · exact Or.inr (Or.inl ⟨p1, p2, ih m (i + 1) a j b k p3 h2⟩)
    · exact Or.inr (Or.inr ⟨p1, p2, m1, c1, k1, l1 ++ b, p3, by rw [p4]; rfl, ih m k1 l1 j b k p5 h2⟩)
end
