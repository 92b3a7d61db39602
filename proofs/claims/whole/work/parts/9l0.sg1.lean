/-- rows whose goal isn't told yet get one -/
def pat (x1 x2 : Int32) (m q : Nat) (R : Nat → Nat → Int32) : Nat → Nat → Int32 := fun j x => if j = 1 ∧ m ≤ x ∧ x < q ∧ (R 0 x = x1 ∨ R 0 x = x2) ∧ R 1 x = -1 then nI q else R j x
section
variable {g : rd_G} {i n p i' n' q d k s l b e e' : Nat} {C : Nat → Int32} {r : Int32} {R : Nat → Nat → Int32} {K : rd_K} {A : rd_A} {v w : q_V}
set_option maxHeartbeats 200000 in
theorem pat_no {x1 x2 : Int32} {m : Nat} (h : ¬ ((R 0 m = x1 ∨ R 0 m = x2) ∧ R 1 m = -1)) : pat x1 x2 (m + 1) q R = pat x1 x2 m q R := by
  funext j x
  unfold pat
  by_cases c : x = m
  · subst c
    rw [if_neg (fun y => absurd y.2.1 (by omega)), if_neg (fun y => h y.2.2.2)]
  · by_cases c2 : j = 1 ∧ m ≤ x ∧ x < q ∧ (R 0 x = x1 ∨ R 0 x = x2) ∧ R 1 x = -1
    · rw [if_pos c2, if_pos ⟨c2.1, by omega, c2.2.2⟩]
    · rw [if_neg c2, if_neg (fun y => c2 ⟨y.1, by omega, y.2.2⟩)]
set_option maxHeartbeats 200000 in
theorem pat_yes {x1 x2 : Int32} {m : Nat} (hm : m < q) (h : (R 0 m = x1 ∨ R 0 m = x2) ∧ R 1 m = -1) : pat x1 x2 (m + 1) q (rO R 1 m (nI q)) = pat x1 x2 m q R := by
  funext j x
  unfold pat
  by_cases c : x = m
  · subst c
    rw [if_neg (fun y => absurd y.2.1 (by omega))]
    by_cases c1 : j = 1
    · subst c1
      rw [rO_at, if_pos ⟨rfl, Nat.le_refl _, hm, h⟩]
    · rw [rO_x (Or.inl c1), if_neg (fun y => c1 y.1)]
  · rw [rO_x (j := 1) (m := 0) (Or.inr c), rO_x (j := 1) (m := 1) (Or.inr c), rO_x (m := j) (Or.inr c)]
    by_cases c2 : j = 1 ∧ m ≤ x ∧ x < q ∧ (R 0 x = x1 ∨ R 0 x = x2) ∧ R 1 x = -1
    · rw [if_pos c2, if_pos ⟨c2.1, by omega, c2.2.2⟩]
    · rw [if_neg c2, if_neg (fun y => c2 ⟨y.1, by omega, y.2.2⟩)]
set_option maxHeartbeats 200000 in
theorem pat_q {x1 x2 : Int32} : pat x1 x2 q q R = R := by
  funext j x
  unfold pat
  rw [if_neg (fun y => absurd y.2.1 (by omega))]
set_option maxHeartbeats 200000 in
/-- the reference's patching of a list's rows -/
theorem r_pat {x1 x2 y : Int32} : ∀ t m N R w, St g i n p C i' n' q d r R K k s l b A e e' v w → q < 4000 → m + t = q → t < N → ∃ w', fX12_list_L60 x1 x2 N y (nI m) w = some (y, w') ∧ St g i n p C i' n' q d r (pat x1 x2 m q R) K k s l b A e e' v w' := by
  intro t
  induction t with
  | zero =>
    intro m N R w h hq hm hN
    obtain ⟨N, rfl⟩ : ∃ N', N = N' + 1 := ⟨N - 1, by omega⟩
    have e7 := h.2.2.2.2.1.1.2.2.2.1
    obtain rfl : m = q := by omega
    refine ⟨w, ?_, by rw [pat_q]; exact h⟩
    rw [fX12_list_L60, e7, if_pos (ni_ple (Nat.le_refl _) (by omega))]
  | succ t ih =>
    intro m N R w h hq hm hN
    obtain ⟨N, rfl⟩ : ∃ N', N = N' + 1 := ⟨N - 1, by omega⟩
    have e7 := h.2.2.2.2.1.1.2.2.2.1
    have e0 : q_a w 2414 = R 0 := h.2.2.2.2.1.2.1 0 (by omega)
    have e1 : q_a w 2415 = R 1 := h.2.2.2.2.1.2.1 1 (by omega)
    have hin : ¬ (nI m < 0 ∨ 4000 ≤ (nI m).toNatClampNeg) := ni_nin (by omega) (by omega)
    have mc : (nI m).toNatClampNeg = m := ni_clamp (by omega)
    have hin2 : ¬ (nI m < 0 ∨ 4000 ≤ m) := by have := hin; rw [mc] at this; exact this
    have st : fX12_list_b91 x1 x2 y (nI m) (fun a b S => fX12_list_L60 x1 x2 N a b S) w = if R 1 m = -1 then fX12_list_L60 x1 x2 N y (nI (m + 1)) (q_sa w 2415 (upd (q_a w 2415) m (nI q))) else fX12_list_L60 x1 x2 N y (nI (m + 1)) w := by
      unfold fX12_list_b91 fX12_list_b113
      rw [if_neg hin, mc, e1, if_neg hin2, e7, q_lt_s, q_lt_s, ni_add1, q_lt_s]
    have s1 := r_set (j := 1) (a := m) (y := nI q) h (by omega)
    have fin : (R 0 m = x1 ∨ R 0 m = x2) → ∃ w', fX12_list_b91 x1 x2 y (nI m) (fun a b S => fX12_list_L60 x1 x2 N a b S) w = some (y, w') ∧ St g i n p C i' n' q d r (pat x1 x2 m q R) K k s l b A e e' v w' := by
      intro hx
      rw [st]
      by_cases c : R 1 m = -1
      · rw [if_pos c, ← pat_yes (by omega) ⟨hx, c⟩]
        exact ih (m + 1) N _ _ s1 hq (by omega) (by omega)
      · rw [if_neg c, ← pat_no (q := q) (x1 := x1) (x2 := x2) (fun z => c z.2)]
        exact ih (m + 1) N _ _ h hq (by omega) (by omega)
    rw [fX12_list_L60, e7, if_neg (ni_nle (by omega) (by omega)), if_neg hin, mc, e0]
    by_cases c1 : R 0 m = x1
    · rw [if_pos c1]; exact fin (Or.inl c1)
    · rw [if_neg c1, if_neg hin2]
      by_cases c2 : R 0 m = x2
      · rw [if_pos c2]; exact fin (Or.inr c2)
      · rw [if_neg c2, ← pat_no (q := q) (x1 := x1) (x2 := x2) (fun z => z.1.elim c1 c2)]
        unfold fX12_list_b113
        rw [q_lt_s, ni_add1]
        exact ih (m + 1) N _ _ h hq (by omega) (by omega)
end
