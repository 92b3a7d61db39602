/-- a choose's rows that wait -/
def pawr (k : Int32) (m q : Nat) (R : Nat → Nat → Int32) : Nat → Nat → Int32 := fun j x => if j = 1 ∧ m ≤ x ∧ x < q ∧ R 0 x = 41 ∧ R 1 x = -1 ∧ R 2 x = k then nI q else R j x
def paw (k y : Int32) (R : Nat → Nat → Int32) : Nat → Nat → Int32 := fun j x => if j = 1 ∧ R 0 x = 41 ∧ R 1 x = -1 ∧ R 2 x = k then y else R j x
section
variable {g : rd_G} {i n p i' n' q d k s l b e e' : Nat} {C : Nat → Int32} {r : Int32} {R : Nat → Nat → Int32} {K : rd_K} {A : rd_A} {v w : q_V} {B : q_V → Option (Int32 × q_V)} {B' : q_V → Option (Int64 × q_V)}
set_option maxHeartbeats 200000 in
theorem pawr_no {x : Int32} {m : Nat} (h : ¬ (R 0 m = 41 ∧ R 1 m = -1 ∧ R 2 m = x)) : pawr x (m + 1) q R = pawr x m q R := by
  funext j y
  unfold pawr
  by_cases c : y = m
  · subst c
    rw [if_neg (fun z => absurd z.2.1 (by omega)), if_neg (fun z => h z.2.2.2)]
  · by_cases c2 : j = 1 ∧ m ≤ y ∧ y < q ∧ R 0 y = 41 ∧ R 1 y = -1 ∧ R 2 y = x
    · rw [if_pos c2, if_pos ⟨c2.1, by omega, c2.2.2⟩]
    · rw [if_neg c2, if_neg (fun z => c2 ⟨z.1, by omega, z.2.2⟩)]
set_option maxHeartbeats 200000 in
theorem pawr_yes {x : Int32} {m : Nat} (hm : m < q) (h : R 0 m = 41 ∧ R 1 m = -1 ∧ R 2 m = x) : pawr x (m + 1) q (rO R 1 m (nI q)) = pawr x m q R := by
  funext j y
  unfold pawr
  by_cases c : y = m
  · subst c
    rw [if_neg (fun z => absurd z.2.1 (by omega))]
    by_cases c1 : j = 1
    · subst c1
      rw [rO_at, if_pos ⟨rfl, Nat.le_refl _, hm, h⟩]
    · rw [rO_x (Or.inl c1), if_neg (fun z => c1 z.1)]
  · rw [rO_x (j := 1) (m := 0) (Or.inr c), rO_x (j := 1) (m := 1) (Or.inr c), rO_x (j := 1) (m := 2) (Or.inr c), rO_x (m := j) (Or.inr c)]
    by_cases c2 : j = 1 ∧ m ≤ y ∧ y < q ∧ R 0 y = 41 ∧ R 1 y = -1 ∧ R 2 y = x
    · rw [if_pos c2, if_pos ⟨c2.1, by omega, c2.2.2⟩]
    · rw [if_neg c2, if_neg (fun z => c2 ⟨z.1, by omega, z.2.2⟩)]
set_option maxHeartbeats 200000 in
theorem pawr_q {x : Int32} : pawr x q q R = R := by
  funext j y
  unfold pawr
  rw [if_neg (fun z => absurd z.2.1 (by omega))]
set_option maxHeartbeats 200000 in
/-- the reference's patching of a choose's rows -/
theorem r_paw {x : Int32} {y : Int64} : ∀ t m N R w, St g i n p C i' n' q d r R K k s l b A e e' v w → q < 4000 → m + t = q → t < N → ∃ w', fX12_choose_L222 B' N y x (nI m) w = some (y, w') ∧ St g i n p C i' n' q d r (pawr x m q R) K k s l b A e e' v w' := by
  intro t
  induction t with
  | zero =>
    intro m N R w h hq hm hN
    obtain ⟨N, rfl⟩ : ∃ N', N = N' + 1 := ⟨N - 1, by omega⟩
    have e7 := h.2.2.2.2.1.1.2.2.2.1
    obtain rfl : m = q := by omega
    refine ⟨w, ?_, by rw [pawr_q]; exact h⟩
    rw [fX12_choose_L222, e7, if_pos (ni_ple (Nat.le_refl _) (by omega))]
  | succ t ih =>
    intro m N R w h hq hm hN
    obtain ⟨N, rfl⟩ : ∃ N', N = N' + 1 := ⟨N - 1, by omega⟩
    have e7 := h.2.2.2.2.1.1.2.2.2.1
    have e0 : q_a w 2414 = R 0 := h.2.2.2.2.1.2.1 0 (by omega)
    have e1 : q_a w 2415 = R 1 := h.2.2.2.2.1.2.1 1 (by omega)
    have e2 : q_a w 2416 = R 2 := h.2.2.2.2.1.2.1 2 (by omega)
    have hin : ¬ (nI m < 0 ∨ 4000 ≤ (nI m).toNatClampNeg) := ni_nin (by omega) (by omega)
    have mc : (nI m).toNatClampNeg = m := ni_clamp (by omega)
    have hin2 : ¬ (nI m < 0 ∨ 4000 ≤ m) := by have := hin; rw [mc] at this; exact this
    have s1 := r_set (j := 1) (a := m) (y := nI q) h (by omega)
    have no : ¬ (R 0 m = 41 ∧ R 1 m = -1 ∧ R 2 m = x) → ∃ w', fX12_choose_L222 B' N y x (nI (m + 1)) w = some (y, w') ∧ St g i n p C i' n' q d r (pawr x m q R) K k s l b A e e' v w' := fun c => by
      rw [← pawr_no c]
      exact ih (m + 1) N _ _ h hq (by omega) (by omega)
    unfold fX12_choose_L222 fX12_choose_b276
    simp only [q_lt_s, ni_add1]
    rw [e7, if_neg (ni_nle (by omega) (by omega)), if_neg hin, mc, e0, e1, e2]
    by_cases c0 : R 0 m = 41
    · rw [if_pos c0, if_neg hin2]
      by_cases c1 : R 1 m = -1
      · rw [if_pos c1, if_neg hin2]
        by_cases c2 : R 2 m = x
        · rw [if_pos c2, if_neg hin2, ← pawr_yes (by omega) ⟨c0, c1, c2⟩]
          have s2 := s1
          rw [show rdj 1 = 2415 from rfl, e1] at s2
          exact ih (m + 1) N _ _ s2 hq (by omega) (by omega)
        · rw [if_neg c2]; exact no (fun z => c2 z.2.2)
      · rw [if_neg c1]; exact no (fun z => c1 z.2.1)
    · rw [if_neg c0]; exact no (fun z => c0 z.1)
set_option maxHeartbeats 200000 in
theorem y_paw {f p x : Int32} {y : Int64} {q Bd : Nat} (hq : q ≤ Bd) (hB : Bd < 4000) : ∀ t m N w, xr g f p Bd w → q_i w 2417 = nI q → m < 2147483648 → q - m = t → t < N → rG g f p Bd (fX12_choose_L222 B' N y x (nI m) w) := by
  intro t
  induction t with
  | zero =>
    intro m N w h e hm2 hm hN
    obtain ⟨N, rfl⟩ : ∃ N', N = N' + 1 := ⟨N - 1, by omega⟩
    rw [fX12_choose_L222, e, if_pos (ni_ple (by omega) (by omega))]
    exact rG_s h
  | succ t ih =>
    intro m N w h e hm2 hm hN
    obtain ⟨N, rfl⟩ : ∃ N', N = N' + 1 := ⟨N - 1, by omega⟩
    have hin : ¬ (nI m < 0 ∨ 4000 ≤ (nI m).toNatClampNeg) := ni_nin (by omega) (by omega)
    have no : rG g f p Bd (fX12_choose_L222 B' N y x (nI (m + 1)) w) := ih (m + 1) N _ h e (by omega) (by omega) (by omega)
    unfold fX12_choose_L222 fX12_choose_b276
    simp only [q_lt_s, ni_add1]
    rw [e, if_neg (ni_nle (by omega) (by omega)), if_neg hin]
    refine rG_i (fun _ => ?_) (fun _ => no)
    rw [if_neg hin]
    refine rG_i (fun _ => ?_) (fun _ => no)
    rw [if_neg hin]
    refine rG_i (fun _ => ?_) (fun _ => no)
    rw [if_neg hin]
    exact ih (m + 1) N _ (xr_a h (by omega)) (by rw [q_i_sa]; exact e) (by omega) (by omega) (by omega)
variable {f p' : Int32} {x1 x2 x3 x4 x5 x6 : Int32}
/-! choose at a fault -/
set_option maxHeartbeats 200000 in
theorem x_c247 (ok : rd_ok g) (h : xc g f p' l v) : cG g f p' l (fX8_choose_b247 B x1 x2 x3 x4 v) := by
  unfold fX8_choose_b247 fX8_choose_b291
  exact cG_d (x_size h) (fun a v h => cG_v (x_chain ok h) (fun v h => cG_v (x_end h) (fun v h => cG_v (x_exp h) (fun v h => cG_i (fun _ => cG_s h) (fun _ => cG_s h)))))
set_option maxHeartbeats 200000 in
theorem x_c193 (ok : rd_ok g) (h : xc g f p' l v) : cG g f p' l (fX8_choose_b193 B x1 x2 x3 x4 v) := by
  unfold fX8_choose_b193
  refine cG_d (x_add2 ok h) (fun a v h => ?_)
  rw [if_neg (by rw [h.2.1]; decide)]
  exact x_c247 ok h
set_option maxHeartbeats 200000 in
theorem x_cL {N : Nat} (ok : rd_ok g) (h : xc g f p' l v) : cG g f p' l (fX8_choose_L37 B (N + 1) x1 x2 x3 x4 x5 v) := by
  rw [fX8_choose_L37]
  refine cG_i (fun _ => x_c193 ok h) (fun _ => ?_)
  rw [if_neg (by rw [h.2.1]; decide)]
  exact x_c193 ok h
set_option maxHeartbeats 200000 in
theorem y_c203 {Bd m : Nat} {z : Int64} (hm : m < 4000) (hB : Bd < 4000) (h : xr g f p' Bd w) : rG g f p' Bd (fX12_choose_b203 B' z (nI m) w) := by
  unfold fX12_choose_b203
  refine rG_v (y_takeS h) (fun w h => ?_)
  rw [q_lt_s]
  have h2 := xr_i (k := 2411) (x := q_i w 2411 - 1) h (by omega)
  obtain ⟨q, h5, h6⟩ := h2.2.2.2.2
  exact y_paw h5 hB (q - m) m q_N _ h2 h6 (by omega) rfl (by unfold q_N; omega)
set_option maxHeartbeats 200000 in
theorem y_cL {Bd m N : Nat} {z : Int64} (hm : m < 4000) (hB : Bd + 1 < 4000) (h : xr g f p' Bd w) : rG g f p' (Bd + 1) (fX12_choose_L47 B' (N + 1) z (nI m) x4 w) := by
  obtain ⟨w1, e1, h1⟩ := y_skip (x := 48) h
  rw [fX12_choose_L47, e1, q_bd_s, if_pos rfl]
  refine rG_d (y_emit (by omega) h1) (fun a w h => ?_)
  obtain ⟨w2, e2, h2⟩ := y_skip (x := 49) h
  rw [e2, q_bd_s, if_pos rfl, q_lt_s]
  exact rG_i (fun _ => y_c203 hm hB h2) (fun _ => y_c203 hm hB h2)
end
