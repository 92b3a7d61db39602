/-- a swap of two addresses, and the graph with a new book -/
def sw (a b x : Nat) : Nat := if x = a then b else if x = b then a else x
def nG (g : q_G) (b1 b2 b3 : Nat) : q_G := fun t k n => sw (g 1 2 0) b3 (sw (g 1 0 0) b2 (sw (g 0 0 0) b1 (g t k n)))
section
variable {g : q_G} {S T : kp_S} {a b b1 b2 b3 : Nat}
set_option maxHeartbeats 200000 in
theorem sw_inj {x y : Nat} (h : sw a b x = sw a b y) : x = y := by
  unfold sw at h
  by_cases c1 : x = a <;> by_cases c2 : y = a <;> by_cases c3 : x = b <;> by_cases c4 : y = b <;> simp only [c1, c2, c3, c4, if_true, if_false, ite_true, ite_false] at h <;> first | omega | (split at h <;> omega) | (split at h <;> split at h <;> omega)
set_option maxHeartbeats 200000 in
theorem sw_a : sw a b a = b := by unfold sw; rw [if_pos rfl]
set_option maxHeartbeats 200000 in
theorem sw_ne {x : Nat} (h1 : x ≠ a) (h2 : x ≠ b) : sw a b x = x := by unfold sw; rw [if_neg h1, if_neg h2]
set_option maxHeartbeats 200000 in
theorem nG_inj (h : q_inj g) : q_inj (nG g b1 b2 b3) := fun _ _ _ _ _ _ e => h _ _ _ _ _ _ (sw_inj (sw_inj (sw_inj e)))
/-- fresh addresses for the new book -/
def nF (S : kp_S) (b1 b2 b3 : Nat) : Prop := b1 ∉ kp_L S ∧ b2 ∉ kp_L S ∧ b3 ∉ kp_L S ∧ b1 ≠ b2 ∧ b1 ≠ b3 ∧ b2 ≠ b3
set_option maxHeartbeats 200000 in
theorem ne_L {x y : Nat} (hx : x ∈ kp_L S) (hy : y ∉ kp_L S) : x ≠ y := fun e => hy (e ▸ hx)
set_option maxHeartbeats 200000 in
theorem nG_1 (m : q_mem g S) (f : nF S b1 b2 b3) : nG g b1 b2 b3 0 0 0 = b1 := by
  unfold nG
  rw [sw_a, sw_ne (ne_L m.2.2.1.1 f.1).symm f.2.2.2.1, sw_ne (ne_L m.2.2.1.2 f.1).symm f.2.2.2.2.1]
set_option maxHeartbeats 200000 in
theorem nG_2 (h : q_inj g) (m : q_mem g S) (f : nF S b1 b2 b3) : nG g b1 b2 b3 1 0 0 = b2 := by
  unfold nG
  rw [sw_ne (fun e => absurd (h _ _ _ _ _ _ e).1 (by decide)) (ne_L m.2.2.1.1 f.1), sw_a, sw_ne (ne_L m.2.2.1.2 f.2.1).symm f.2.2.2.2.2]
set_option maxHeartbeats 200000 in
theorem nG_3 (h : q_inj g) (m : q_mem g S) (f : nF S b1 b2 b3) : nG g b1 b2 b3 1 2 0 = b3 := by
  unfold nG
  rw [sw_ne (fun e => absurd (h _ _ _ _ _ _ e).1 (by decide)) (ne_L m.2.2.1.2 f.1), sw_ne (fun e => absurd (h _ _ _ _ _ _ e).2.1 (by decide)) (ne_L m.2.2.1.2 f.2.1), sw_a]
set_option maxHeartbeats 200000 in
/-- a used node that isn't the book's stays -/
theorem nG_u {t k n : Nat} (h : q_inj g) (hx : g t k n ∈ kp_L S) (f : nF S b1 b2 b3) (n1 : ¬ (t = 0 ∧ k = 0)) (n2 : ¬ (t = 1 ∧ k = 0)) (n3 : ¬ (t = 1 ∧ k = 2)) : nG g b1 b2 b3 t k n = g t k n := by
  unfold nG
  rw [sw_ne (fun e => n1 ⟨(h _ _ _ _ _ _ e).1, (h _ _ _ _ _ _ e).2.1⟩) (ne_L hx f.1), sw_ne (fun e => n2 ⟨(h _ _ _ _ _ _ e).1, (h _ _ _ _ _ _ e).2.1⟩) (ne_L hx f.2.1), sw_ne (fun e => n3 ⟨(h _ _ _ _ _ _ e).1, (h _ _ _ _ _ _ e).2.1⟩) (ne_L hx f.2.2.1)]
end
