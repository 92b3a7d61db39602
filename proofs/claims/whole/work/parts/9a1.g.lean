/-- the class's fuel, its log's length -/
def ru_f (v : q_V) : Nat := (q_i v 813).toNatClampNeg
def ru_l (v : q_V) : Nat := (q_a v 1400 16).toNatClampNeg
abbrev ru_P : Type := Int32 × Int32 × Int32 × Int32
def ru_C (a : ru_P) : Nat → Int32 → q_V → Option (Int32 × q_V) := fX4_perform_L112 a.1 a.2.1 a.2.2.1 a.2.2.2
def ru_R (a : ru_P) : Nat → q_V → Option (Int32 × q_V) := fX12_run_L126 a.1 a.2.1 a.2.2.1 a.2.2.2
/-- the rest of the run, from here on -/
def ru_G (Fin : q_V → q_V → Prop) (a : ru_P) (B : Nat) (vc vr : q_V) : Prop :=
  ∀ s : Nat, B ≤ s → s ≤ 1000000000 → ru_l vc + 2 * s ≤ 2000000000 → ∃ y vc' vr' n, ru_C a (s + 1) (nI (1000000000 - s)) vc = some (y, vc') ∧ ru_R a n vr = some (y, vr') ∧ Fin vc' vr'
/-- the same, while the class leaves and the reference is in its loop of leaving -/
def ru_L (Fin : q_V → q_V → Prop) (a : ru_P) (B : Nat) (vc vr : q_V) : Prop :=
  ∀ s : Nat, B ≤ s → s ≤ 1000000000 → ru_l vc + 2 * s ≤ 2000000000 → ∃ y vc' vr' w n, ru_C a (s + 1) (nI (1000000000 - s)) vc = some (y, vc') ∧ fX12_leaves vr = some w ∧ ru_R a n w = some (y, vr') ∧ Fin vc' vr'
theorem ru_mono {Fin : q_V → q_V → Prop} {a : ru_P} {B B' : Nat} {vc vr : q_V} (h : ru_G Fin a B vc vr) (hB : B ≤ B') : ru_G Fin a B' vc vr := fun s h1 h2 h3 => h s (Nat.le_trans hB h1) h2 h3
theorem ru_monoL {Fin : q_V → q_V → Prop} {a : ru_P} {B B' : Nat} {vc vr : q_V} (h : ru_L Fin a B vc vr) (hB : B ≤ B') : ru_L Fin a B' vc vr := fun s h1 h2 h3 => h s (Nat.le_trans hB h1) h2 h3
theorem ru_C_s {a : ru_P} {s : Nat} {v v1 : q_V} (hs : s + 1 ≤ 1000000000) (h1 : q_i v 814 = -1) (h2 : q_f v 2000 168 = 0) (h3 : fX4_step v = some v1) : ru_C a (s + 1 + 1) (nI (1000000000 - (s + 1))) v = ru_C a (s + 1) (nI (1000000000 - s)) v1 := by
  unfold ru_C
  rw [fX4_perform_L112]
  rw [if_neg (show ¬ (1000000000 : Int32) ≤ nI (1000000000 - (s + 1)) from by rw [show (1000000000 : Int32) = nI 1000000000 from rfl, ni_le (by decide) (by omega)]; omega), if_pos h1, if_pos h2, h3, q_bv_s]
  unfold fX4_perform_b148
  rw [q_lt_s, ni_add1]
  congr 2; omega
theorem ru_C_l {a : ru_P} {s : Nat} {v v1 : q_V} (hs : s + 1 ≤ 1000000000) (h1 : q_i v 814 = -1) (h2 : q_f v 2000 168 ≠ 0) (h3 : fX4_leaveTop v = some v1) : ru_C a (s + 1 + 1) (nI (1000000000 - (s + 1))) v = ru_C a (s + 1) (nI (1000000000 - s)) v1 := by
  unfold ru_C
  rw [fX4_perform_L112]
  rw [if_neg (show ¬ (1000000000 : Int32) ≤ nI (1000000000 - (s + 1)) from by rw [show (1000000000 : Int32) = nI 1000000000 from rfl, ni_le (by decide) (by omega)]; omega), if_pos h1, if_neg h2, h3, q_bv_s]
  unfold fX4_perform_b148
  rw [q_lt_s, ni_add1]
  congr 2; omega
/-- a step of the class -/
theorem ru_cs {Fin : q_V → q_V → Prop} {a : ru_P} {B : Nat} {vc vr v1 : q_V} (h3 : fX4_step vc = some v1) (h1 : q_i vc 814 = -1) (h2 : q_f vc 2000 168 = 0) (hl : ru_l v1 ≤ ru_l vc + 2) (h : ru_G Fin a B v1 vr) : ru_G Fin a (B + 1) vc vr := by
  intro s hB hs hq
  obtain ⟨s, rfl⟩ : ∃ k, s = k + 1 := ⟨s - 1, by omega⟩
  obtain ⟨y, vc', vr', n, e1, e2, e3⟩ := h s (by omega) (by omega) (by omega)
  exact ⟨y, vc', vr', n, (ru_C_s hs h1 h2 h3).trans e1, e2, e3⟩
theorem ru_csL {Fin : q_V → q_V → Prop} {a : ru_P} {B : Nat} {vc vr v1 : q_V} (h3 : fX4_step vc = some v1) (h1 : q_i vc 814 = -1) (h2 : q_f vc 2000 168 = 0) (hl : ru_l v1 ≤ ru_l vc + 2) (h : ru_L Fin a B v1 vr) : ru_L Fin a (B + 1) vc vr := by
  intro s hB hs hq
  obtain ⟨s, rfl⟩ : ∃ k, s = k + 1 := ⟨s - 1, by omega⟩
  obtain ⟨y, vc', vr', w, n, e1, e2, e3, e4⟩ := h s (by omega) (by omega) (by omega)
  exact ⟨y, vc', vr', w, n, (ru_C_s hs h1 h2 h3).trans e1, e2, e3, e4⟩
theorem ru_cl {Fin : q_V → q_V → Prop} {a : ru_P} {B : Nat} {vc vr v1 : q_V} (h3 : fX4_leaveTop vc = some v1) (h1 : q_i vc 814 = -1) (h2 : q_f vc 2000 168 ≠ 0) (hl : ru_l v1 ≤ ru_l vc + 2) (h : ru_G Fin a B v1 vr) : ru_G Fin a (B + 1) vc vr := by
  intro s hB hs hq
  obtain ⟨s, rfl⟩ : ∃ k, s = k + 1 := ⟨s - 1, by omega⟩
  obtain ⟨y, vc', vr', n, e1, e2, e3⟩ := h s (by omega) (by omega) (by omega)
  exact ⟨y, vc', vr', n, (ru_C_l hs h1 h2 h3).trans e1, e2, e3⟩
theorem ru_clL {Fin : q_V → q_V → Prop} {a : ru_P} {B : Nat} {vc vr v1 : q_V} (h3 : fX4_leaveTop vc = some v1) (h1 : q_i vc 814 = -1) (h2 : q_f vc 2000 168 ≠ 0) (hl : ru_l v1 ≤ ru_l vc + 2) (h : ru_L Fin a B v1 vr) : ru_L Fin a (B + 1) vc vr := by
  intro s hB hs hq
  obtain ⟨s, rfl⟩ : ∃ k, s = k + 1 := ⟨s - 1, by omega⟩
  obtain ⟨y, vc', vr', w, n, e1, e2, e3, e4⟩ := h s (by omega) (by omega) (by omega)
  exact ⟨y, vc', vr', w, n, (ru_C_l hs h1 h2 h3).trans e1, e2, e3, e4⟩
/-- a step of the reference -/
theorem ru_rs {Fin : q_V → q_V → Prop} {a : ru_P} {B : Nat} {vc vr v1 : q_V} (h3 : fX12_step vr = some v1) (h1 : q_i vr 2513 = 0) (h2 : q_i vr 2514 = 0) (h : ru_G Fin a B vc v1) : ru_G Fin a B vc vr := by
  intro s hB hs hq
  obtain ⟨y, vc', vr', n, e1, e2, e3⟩ := h s hB hs hq
  refine ⟨y, vc', vr', n + 1, e1, ?_, e3⟩
  unfold ru_R at e2 ⊢
  rw [fX12_run_L126, if_pos h1, if_pos h2, h3, q_bv_s, e2]
/-- a step of the reference that comes to leaving -/
theorem ru_rl {Fin : q_V → q_V → Prop} {a : ru_P} {B : Nat} {vc vr v1 : q_V} (h3 : fX12_step vr = fX12_leaves v1) (h1 : q_i vr 2513 = 0) (h2 : q_i vr 2514 = 0) (h : ru_L Fin a B vc v1) : ru_G Fin a B vc vr := by
  intro s hB hs hq
  obtain ⟨y, vc', vr', w, n, e1, e2, e3, e4⟩ := h s hB hs hq
  refine ⟨y, vc', vr', n + 1, e1, ?_, e4⟩
  unfold ru_R at e3 ⊢
  rw [fX12_run_L126, if_pos h1, if_pos h2, h3, e2, q_bv_s, e3]
