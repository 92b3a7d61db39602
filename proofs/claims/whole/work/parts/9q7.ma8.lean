/-- addresses above all that is taken -/
def nM (S : kp_S) (b1 b2 b3 : Nat) : Nat := (kp_L S).sum + b1 + b2 + b3 + 1
/-- the graph with a new book: the old book's addresses are no node's any more, nodes outside the pool go above it -/
def nf (g : q_G) (S : kp_S) (b1 b2 b3 x : Nat) : Nat := if x = g 0 0 0 then b1 else if x = g 1 0 0 then b2 else if x = g 1 2 0 then b3 else if x ∈ kp_L S then x else nM S b1 b2 b3 + x
def nG (g : q_G) (S : kp_S) (b1 b2 b3 : Nat) : q_G := fun t k n => nf g S b1 b2 b3 (g t k n)
set_option maxHeartbeats 200000 in
theorem le_sumL : ∀ (l : List Nat) (x : Nat), x ∈ l → x ≤ l.sum
  | [], _, h => absurd h (by simp)
  | a :: l, x, h => by
    rw [List.sum_cons]
    rcases List.mem_cons.mp h with e | e
    · omega
    · have := le_sumL l x e; omega
section
variable {g : q_G} {S T : kp_S} {a b b1 b2 b3 : Nat}
/-- fresh addresses for the new book -/
def nF (S : kp_S) (b1 b2 b3 : Nat) : Prop := b1 ∉ kp_L S ∧ b2 ∉ kp_L S ∧ b3 ∉ kp_L S ∧ b1 ≠ b2 ∧ b1 ≠ b3 ∧ b2 ≠ b3
set_option maxHeartbeats 200000 in
theorem ne_L {x y : Nat} (hx : x ∈ kp_L S) (hy : y ∉ kp_L S) : x ≠ y := fun e => hy (e ▸ hx)
set_option maxHeartbeats 200000 in
/-- what nf answers -/
theorem nf_c (x : Nat) : (x = g 0 0 0 ∧ nf g S b1 b2 b3 x = b1) ∨ (x ≠ g 0 0 0 ∧ x = g 1 0 0 ∧ nf g S b1 b2 b3 x = b2) ∨ (x ≠ g 0 0 0 ∧ x ≠ g 1 0 0 ∧ x = g 1 2 0 ∧ nf g S b1 b2 b3 x = b3) ∨ (x ≠ g 0 0 0 ∧ x ≠ g 1 0 0 ∧ x ≠ g 1 2 0 ∧ x ∈ kp_L S ∧ nf g S b1 b2 b3 x = x) ∨ (x ≠ g 0 0 0 ∧ x ≠ g 1 0 0 ∧ x ≠ g 1 2 0 ∧ x ∉ kp_L S ∧ nf g S b1 b2 b3 x = nM S b1 b2 b3 + x) := by
  unfold nf
  by_cases c1 : x = g 0 0 0
  · left; exact ⟨c1, by rw [if_pos c1]⟩
  · right; rw [if_neg c1]
    by_cases c2 : x = g 1 0 0
    · left; exact ⟨c1, c2, by rw [if_pos c2]⟩
    · right; rw [if_neg c2]
      by_cases c3 : x = g 1 2 0
      · left; exact ⟨c1, c2, c3, by rw [if_pos c3]⟩
      · right; rw [if_neg c3]
        by_cases c4 : x ∈ kp_L S
        · left; exact ⟨c1, c2, c3, c4, by rw [if_pos c4]⟩
        · right; exact ⟨c1, c2, c3, c4, by rw [if_neg c4]⟩
set_option maxHeartbeats 200000 in
theorem nM_L {x : Nat} (h : x ∈ kp_L S) : x < nM S b1 b2 b3 := by
  have := le_sumL _ x h
  unfold nM; omega
set_option maxHeartbeats 200000 in
theorem nM_b : b1 < nM S b1 b2 b3 ∧ b2 < nM S b1 b2 b3 ∧ b3 < nM S b1 b2 b3 := by unfold nM; omega
set_option maxHeartbeats 200000 in
theorem nf_inj {x y : Nat} (f : nF S b1 b2 b3) (h : nf g S b1 b2 b3 x = nf g S b1 b2 b3 y) : x = y := by
  obtain ⟨m1, m2, m3⟩ := nM_b (S := S) (b1 := b1) (b2 := b2) (b3 := b3)
  obtain ⟨f1, f2, f3, f4, f5, f6⟩ := f
  have key : ∀ z, z ∈ kp_L S → z ≠ b1 ∧ z ≠ b2 ∧ z ≠ b3 ∧ z < nM S b1 b2 b3 := fun z hz => ⟨ne_L hz f1, ne_L hz f2, ne_L hz f3, nM_L hz⟩
  have kx := key x
  have ky := key y
  rcases nf_c (g := g) (S := S) (b1 := b1) (b2 := b2) (b3 := b3) x with ⟨p1, p⟩ | ⟨p1, p2, p⟩ | ⟨p1, p2, p3, p⟩ | ⟨p1, p2, p3, p4, p⟩ | ⟨p1, p2, p3, p4, p⟩ <;> rcases nf_c (g := g) (S := S) (b1 := b1) (b2 := b2) (b3 := b3) y with ⟨q1, q⟩ | ⟨q1, q2, q⟩ | ⟨q1, q2, q3, q⟩ | ⟨q1, q2, q3, q4, q⟩ | ⟨q1, q2, q3, q4, q⟩ <;> rw [p, q] at h <;> (try have kx := kx p4) <;> (try have ky := ky q4) <;> omega
set_option maxHeartbeats 200000 in
theorem nG_inj (h : q_inj g) (f : nF S b1 b2 b3) : q_inj (nG g S b1 b2 b3) := fun _ _ _ _ _ _ e => h _ _ _ _ _ _ (nf_inj f e)
set_option maxHeartbeats 200000 in
/-- an address of the pool is a new node only if it was one and isn't the book's -/
theorem nG_no {x t k n : Nat} (hx : x ∈ kp_L S) (f : nF S b1 b2 b3) (e : x = nG g S b1 b2 b3 t k n) : x = g t k n ∧ x ≠ g 0 0 0 ∧ x ≠ g 1 0 0 ∧ x ≠ g 1 2 0 := by
  unfold nG at e
  rcases nf_c (g := g) (S := S) (b1 := b1) (b2 := b2) (b3 := b3) (g t k n) with ⟨p1, p⟩ | ⟨p1, p2, p⟩ | ⟨p1, p2, p3, p⟩ | ⟨p1, p2, p3, p4, p⟩ | ⟨p1, p2, p3, p4, p⟩ <;> rw [p] at e
  · exact absurd hx (e ▸ f.1)
  · exact absurd hx (e ▸ f.2.1)
  · exact absurd hx (e ▸ f.2.2.1)
  · rw [e]; exact ⟨rfl, p1, p2, p3⟩
  · have := nM_L (b1 := b1) (b2 := b2) (b3 := b3) hx; omega
set_option maxHeartbeats 200000 in
theorem nG_1 (m : q_mem g S) (f : nF S b1 b2 b3) : nG g S b1 b2 b3 0 0 0 = b1 := by
  unfold nG nf
  rw [if_pos rfl]
set_option maxHeartbeats 200000 in
theorem nG_2 (h : q_inj g) (m : q_mem g S) (f : nF S b1 b2 b3) : nG g S b1 b2 b3 1 0 0 = b2 := by
  unfold nG nf
  rw [if_neg (fun e => absurd (h _ _ _ _ _ _ e).1 (by decide)), if_pos rfl]
set_option maxHeartbeats 200000 in
theorem nG_3 (h : q_inj g) (m : q_mem g S) (f : nF S b1 b2 b3) : nG g S b1 b2 b3 1 2 0 = b3 := by
  unfold nG nf
  rw [if_neg (fun e => absurd (h _ _ _ _ _ _ e).1 (by decide)), if_neg (fun e => absurd (h _ _ _ _ _ _ e).2.1 (by decide)), if_pos rfl]
set_option maxHeartbeats 200000 in
/-- a used node that isn't the book's stays -/
theorem nG_u {t k n : Nat} (h : q_inj g) (hx : g t k n ∈ kp_L S) (f : nF S b1 b2 b3) (n1 : ¬ (t = 0 ∧ k = 0)) (n2 : ¬ (t = 1 ∧ k = 0)) (n3 : ¬ (t = 1 ∧ k = 2)) : nG g S b1 b2 b3 t k n = g t k n := by
  unfold nG nf
  rw [if_neg (fun e => n1 ⟨(h _ _ _ _ _ _ e).1, (h _ _ _ _ _ _ e).2.1⟩), if_neg (fun e => n2 ⟨(h _ _ _ _ _ _ e).1, (h _ _ _ _ _ _ e).2.1⟩), if_neg (fun e => n3 ⟨(h _ _ _ _ _ _ e).1, (h _ _ _ _ _ _ e).2.1⟩), if_pos hx]
end
