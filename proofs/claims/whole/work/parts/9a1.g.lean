/-- the class's fuel, its log's length, what the waiting laters of the call at hand will cost -/
def ru_f (v : q_V) : Nat := (q_i v 813).toNatClampNeg
def ru_l (v : q_V) : Nat := (q_a v 1400 16).toNatClampNeg
def ru_w (v : q_V) : Nat := 25000 * (q_f v 602 ((q_i v 805).toNatClampNeg - 1)).toNatClampNeg
/-- the run's arguments, and how many steps the class may take at most -/
abbrev ru_P : Type := Int32 × Int32 × Int32 × Int32 × Nat
def ru_d (a : ru_P) : ru_P := (a.1, a.2.1, a.2.2.1, a.2.2.2.1, a.2.2.2.2 - 1)
def ru_C (a : ru_P) : Nat → Int32 → q_V → Option (Int32 × q_V) := fX4_perform_L112 a.1 a.2.1 a.2.2.1 a.2.2.2.1
def ru_R (a : ru_P) : Nat → q_V → Option (Int32 × q_V) := fX12_run_L126 a.1 a.2.1 a.2.2.1 a.2.2.2.1
/-- the rest of the run, from here on -/
def ru_G (Fin : q_V → q_V → Prop) (a : ru_P) (B : Nat) (vc vr : q_V) : Prop :=
  ∀ s : Nat, B + ru_w vc ≤ s → s ≤ a.2.2.2.2 → s ≤ 1000000000 → ru_l vc + 2 * s ≤ 2000000000 → ∃ y vc' vr' n, ru_C a (s + 1) (nI (1000000000 - s)) vc = some (y, vc') ∧ ru_R a n vr = some (y, vr') ∧ Fin vc' vr'
/-- the same, while the class leaves and the reference is in its loop of leaving -/
def ru_L (Fin : q_V → q_V → Prop) (a : ru_P) (B : Nat) (vc vr : q_V) : Prop :=
  ∀ s : Nat, B + ru_w vc ≤ s → s ≤ a.2.2.2.2 → s ≤ 1000000000 → ru_l vc + 2 * s ≤ 2000000000 → ∃ y vc' vr' w n, ru_C a (s + 1) (nI (1000000000 - s)) vc = some (y, vc') ∧ (∃ k, k ≤ (q_i vr 2487).toNatClampNeg + 1 ∧ k ≤ 1000 ∧ fX12_leaves_L2 k 1 vr = some w) ∧ ru_R a n w = some (y, vr') ∧ Fin vc' vr'
theorem ru_mono {Fin : q_V → q_V → Prop} {a : ru_P} {B B' : Nat} {vc vr : q_V} (h : ru_G Fin a B vc vr) (hB : B ≤ B') : ru_G Fin a B' vc vr := fun s h1 => h s (by omega)
theorem ru_monoL {Fin : q_V → q_V → Prop} {a : ru_P} {B B' : Nat} {vc vr : q_V} (h : ru_L Fin a B vc vr) (hB : B ≤ B') : ru_L Fin a B' vc vr := fun s h1 => h s (by omega)
theorem ru_dG {Fin : q_V → q_V → Prop} {a : ru_P} {B : Nat} {vc vr : q_V} (h : ru_G Fin a B vc vr) : ru_G Fin (ru_d a) B vc vr := fun s h1 h2 h3 h4 => h s h1 (Nat.le_trans h2 (Nat.sub_le _ _)) h3 h4
theorem ru_dL {Fin : q_V → q_V → Prop} {a : ru_P} {B : Nat} {vc vr : q_V} (h : ru_L Fin a B vc vr) : ru_L Fin (ru_d a) B vc vr := fun s h1 h2 h3 h4 => h s h1 (Nat.le_trans h2 (Nat.sub_le _ _)) h3 h4
theorem ru_C_s {a : ru_P} {s : Nat} {v v1 : q_V} (hs : s + 1 ≤ 1000000000) (h1 : q_i v 814 = -1) (h2 : q_f v 2000 168 = 0) (h3 : fX4_step v = some v1) : ru_C a (s + 1 + 1) (nI (1000000000 - (s + 1))) v = ru_C a (s + 1) (nI (1000000000 - s)) v1 := by
  unfold ru_C
  rw [fX4_perform_L112]
  rw [if_neg (show ¬ (1000000000 : Int32) ≤ nI (1000000000 - (s + 1)) from by rw [show (1000000000 : Int32) = nI 1000000000 from rfl, ni_le (by decide) (by omega)]; omega), if_pos h1, if_pos h2, h3, q_bv_s]
  unfold fX4_perform_b148
  rw [q_lt_s, ni_add1]
  congr 2; omega
theorem ru_C_l {a : ru_P} {s : Nat} {v v1 : q_V} (hs : s + 1 ≤ 1000000000) (h1 : q_i v 814 = -1) (h2 : q_f v 2000 168 ≠ 0) (h3 : fX4_leaveTop v = some v1) : ru_C a (s + 1 + 1) (nI (1000000000 - (s + 1))) v = ru_C a (s + 1) (nI (1000000000 - s)) v1 := by
  unfold ru_C
  rw [fX4_perform_L112]
  rw [if_neg (show ¬ (1000000000 : Int32) ≤ nI (1000000000 - (s + 1)) from by rw [show (1000000000 : Int32) = nI 1000000000 from rfl, ni_le (by decide) (by omega)]; omega), if_pos h1, if_neg h2, h3, q_bv_s]
  unfold fX4_perform_b148
  rw [q_lt_s, ni_add1]
  congr 2; omega
/-- a step of the class, a leaving of the class -/
def ru_st (v v1 : q_V) : Prop := q_i v 814 = -1 ∧ (q_f v 2000 168 = 0 ∧ fX4_step v = some v1 ∨ q_f v 2000 168 ≠ 0 ∧ fX4_leaveTop v = some v1)
theorem ru_C_st {a : ru_P} {s : Nat} {v v1 : q_V} (hs : s + 1 ≤ 1000000000) (h : ru_st v v1) : ru_C a (s + 1 + 1) (nI (1000000000 - (s + 1))) v = ru_C a (s + 1) (nI (1000000000 - s)) v1 := by
  obtain ⟨h1, ⟨h2, h3⟩ | ⟨h2, h3⟩⟩ := h
  · exact ru_C_s hs h1 h2 h3
  · exact ru_C_l hs h1 h2 h3
theorem ru_cg {Fin : q_V → q_V → Prop} {a : ru_P} {B B1 : Nat} {vc vr v1 : q_V} (h1 : ru_st vc v1) (hl : ru_l v1 ≤ ru_l vc + 2) (hw : B1 + ru_w v1 + 1 ≤ B + ru_w vc) (h : ru_G Fin (ru_d a) B1 v1 vr) : ru_G Fin a B vc vr := by
  intro s hB hS hs hq
  obtain ⟨s, rfl⟩ : ∃ k, s = k + 1 := ⟨s - 1, by omega⟩
  have hS' : s ≤ (ru_d a).2.2.2.2 := by show s ≤ a.2.2.2.2 - 1; omega
  obtain ⟨y, vc', vr', n, e1, e2, e3⟩ := h s (by omega) hS' (by omega) (by omega)
  exact ⟨y, vc', vr', n, (ru_C_st hs h1).trans e1, e2, e3⟩
theorem ru_cgL {Fin : q_V → q_V → Prop} {a : ru_P} {B B1 : Nat} {vc vr v1 : q_V} (h1 : ru_st vc v1) (hl : ru_l v1 ≤ ru_l vc + 2) (hw : B1 + ru_w v1 + 1 ≤ B + ru_w vc) (h : ru_L Fin (ru_d a) B1 v1 vr) : ru_L Fin a B vc vr := by
  intro s hB hS hs hq
  obtain ⟨s, rfl⟩ : ∃ k, s = k + 1 := ⟨s - 1, by omega⟩
  have hS' : s ≤ (ru_d a).2.2.2.2 := by show s ≤ a.2.2.2.2 - 1; omega
  obtain ⟨y, vc', vr', w, n, e1, e2, e3, e4⟩ := h s (by omega) hS' (by omega) (by omega)
  exact ⟨y, vc', vr', w, n, (ru_C_st hs h1).trans e1, e2, e3, e4⟩
/-- the log grows little, and no later is pledged -/
def ru_lw (vc v1 : q_V) : Prop := ru_l v1 ≤ ru_l vc + 2 ∧ ru_w v1 ≤ ru_w vc
theorem ru_cs {Fin : q_V → q_V → Prop} {a : ru_P} {B : Nat} {vc vr v1 : q_V} (h3 : fX4_step vc = some v1) (h1 : q_i vc 814 = -1) (h2 : q_f vc 2000 168 = 0) (hl : ru_lw vc v1) (h : ru_G Fin a B v1 vr) : ru_G Fin a (B + 1) vc vr :=
  ru_cg ⟨h1, Or.inl ⟨h2, h3⟩⟩ hl.1 (by have := hl.2; omega) (ru_dG h)
theorem ru_csL {Fin : q_V → q_V → Prop} {a : ru_P} {B : Nat} {vc vr v1 : q_V} (h3 : fX4_step vc = some v1) (h1 : q_i vc 814 = -1) (h2 : q_f vc 2000 168 = 0) (hl : ru_lw vc v1) (h : ru_L Fin a B v1 vr) : ru_L Fin a (B + 1) vc vr :=
  ru_cgL ⟨h1, Or.inl ⟨h2, h3⟩⟩ hl.1 (by have := hl.2; omega) (ru_dL h)
theorem ru_cl {Fin : q_V → q_V → Prop} {a : ru_P} {B : Nat} {vc vr v1 : q_V} (h3 : fX4_leaveTop vc = some v1) (h1 : q_i vc 814 = -1) (h2 : q_f vc 2000 168 ≠ 0) (hl : ru_lw vc v1) (h : ru_G Fin a B v1 vr) : ru_G Fin a (B + 1) vc vr :=
  ru_cg ⟨h1, Or.inr ⟨h2, h3⟩⟩ hl.1 (by have := hl.2; omega) (ru_dG h)
theorem ru_clL {Fin : q_V → q_V → Prop} {a : ru_P} {B : Nat} {vc vr v1 : q_V} (h3 : fX4_leaveTop vc = some v1) (h1 : q_i vc 814 = -1) (h2 : q_f vc 2000 168 ≠ 0) (hl : ru_lw vc v1) (h : ru_L Fin a B v1 vr) : ru_L Fin a (B + 1) vc vr :=
  ru_cgL ⟨h1, Or.inr ⟨h2, h3⟩⟩ hl.1 (by have := hl.2; omega) (ru_dL h)
/-- a step of the reference -/
theorem ru_rs {Fin : q_V → q_V → Prop} {a : ru_P} {B : Nat} {vc vr v1 : q_V} (h3 : fX12_step vr = some v1) (h1 : q_i vr 2513 = 0) (h2 : q_i vr 2514 = 0) (h : ru_G Fin a B vc v1) : ru_G Fin a B vc vr := by
  intro s hB hS hs hq
  obtain ⟨y, vc', vr', n, e1, e2, e3⟩ := h s hB hS hs hq
  refine ⟨y, vc', vr', n + 1, e1, ?_, e3⟩
  unfold ru_R at e2 ⊢
  rw [fX12_run_L126, if_pos h1, if_pos h2, h3, q_bv_s, e2]
/-- a turn of the reference's loop of leaving -/
def rs_it (S : q_V) : Option (Int32 × q_V) :=
  if ((q_i S 2487) - 1) < 0 ∨ 240 ≤ ((q_i S 2487) - 1).toNatClampNeg then none else
  if (q_a S 2488 ((q_i S 2487) - 1).toNatClampNeg) = 2 then fX12_leavesHold ((q_i S 2487) - 1) S else
  if (q_a S 2488 ((q_i S 2487) - 1).toNatClampNeg) = 3 then fX12_leavesLoop ((q_i S 2487) - 1) S else
  if (q_a S 2488 ((q_i S 2487) - 1).toNatClampNeg) = 4 then fX12_leavesTrial ((q_i S 2487) - 1) S else
  if (q_a S 2488 ((q_i S 2487) - 1).toNatClampNeg) = 5 then fX12_leavesEnsure ((q_i S 2487) - 1) S else
  fX12_leavesCall ((q_i S 2487) - 1) S
theorem rs_L2 {n : Nat} {x : Int32} {S : q_V} : fX12_leaves_L2 (n + 1) x S = if x = 0 then some S else q_bd (rs_it S) (fun y T => fX12_leaves_L2 n y T) := by
  rw [fX12_leaves_L2]
  unfold rs_it
  simp only [q_lt_s]
  by_cases h0 : x = 0
  · rw [if_pos h0, if_pos h0]
  rw [if_neg h0, if_neg h0]
  by_cases h1 : ((q_i S 2487) - 1) < 0 ∨ 240 ≤ ((q_i S 2487) - 1).toNatClampNeg
  · rw [if_pos h1, if_pos h1]; rfl
  rw [if_neg h1, if_neg h1]
  by_cases h2 : (q_a S 2488 ((q_i S 2487) - 1).toNatClampNeg) = 2
  · rw [if_pos h2, if_pos h2]; rfl
  rw [if_neg h2, if_neg h2]
  by_cases h3 : (q_a S 2488 ((q_i S 2487) - 1).toNatClampNeg) = 3
  · rw [if_pos h3, if_pos h3]; rfl
  rw [if_neg h3, if_neg h3]
  by_cases h4 : (q_a S 2488 ((q_i S 2487) - 1).toNatClampNeg) = 4
  · rw [if_pos h4, if_pos h4]; rfl
  rw [if_neg h4, if_neg h4]
  by_cases h5 : (q_a S 2488 ((q_i S 2487) - 1).toNatClampNeg) = 5
  · rw [if_pos h5, if_pos h5]; rfl
  rw [if_neg h5, if_neg h5]; rfl
theorem rs_L2_1 {n : Nat} {x : Int32} {S w : q_V} (h : fX12_leaves_L2 n x S = some w) : fX12_leaves_L2 (n + 1) x S = some w := by
  induction n generalizing x S with
  | zero => cases h
  | succ n ih =>
    rw [rs_L2] at h ⊢
    by_cases h0 : x = 0
    · rw [if_pos h0] at h ⊢; exact h
    · rw [if_neg h0] at h ⊢
      obtain ⟨y, v, e1, e2⟩ := q_bdi h
      rw [e1, q_bd_s]; exact ih e2
theorem rs_L2_m {n m : Nat} {x : Int32} {S w : q_V} (h : fX12_leaves_L2 n x S = some w) (hm : n ≤ m) : fX12_leaves_L2 m x S = some w := by
  obtain ⟨k, rfl⟩ : ∃ k, m = n + k := ⟨m - n, by omega⟩
  induction k with
  | zero => exact h
  | succ k ih => exact rs_L2_1 (ih (by omega))
/-- a step of the reference that comes to leaving -/
theorem ru_rl {Fin : q_V → q_V → Prop} {a : ru_P} {B : Nat} {vc vr v1 : q_V} (h3 : fX12_step vr = fX12_leaves v1) (h1 : q_i vr 2513 = 0) (h2 : q_i vr 2514 = 0) (h : ru_L Fin a B vc v1) : ru_G Fin a B vc vr := by
  intro s hB hS hs hq
  obtain ⟨y, vc', vr', w, n, e1, ⟨k, k1, k2, e2⟩, e3, e4⟩ := h s hB hS hs hq
  refine ⟨y, vc', vr', n + 1, e1, ?_, e4⟩
  unfold ru_R at e3 ⊢
  rw [fX12_run_L126, if_pos h1, if_pos h2, h3, show fX12_leaves v1 = some w from rs_L2_m e2 (by unfold q_N; omega), q_bv_s, e3]
/-- a turn of leaving after which the reference goes on leaving; after which it goes on -/
theorem ru_le {Fin : q_V → q_V → Prop} {a : ru_P} {B t t1 : Nat} {vc vr v1 : q_V} (h3 : rs_it vr = some (1, v1)) (h1 : q_i vr 2487 = nI t) (h2 : q_i v1 2487 = nI t1) (ht : t1 < t) (ht2 : t < 900) (h : ru_L Fin a B vc v1) : ru_L Fin a B vc vr := by
  intro s hB hS hs hq
  obtain ⟨y, vc', vr', w, n, e1, ⟨k, k1, k2, e2⟩, e3, e4⟩ := h s hB hS hs hq
  rw [h2, ni_clamp (by omega)] at k1
  refine ⟨y, vc', vr', w, n, e1, ⟨k + 1, by rw [h1, ni_clamp (by omega)]; omega, by omega, ?_⟩, e3, e4⟩
  rw [rs_L2, if_neg (by decide), h3, q_bd_s]; exact e2
theorem ru_lz {Fin : q_V → q_V → Prop} {a : ru_P} {B t : Nat} {vc vr v1 : q_V} (h3 : rs_it vr = some (0, v1)) (h1 : q_i vr 2487 = nI (t + 1)) (ht2 : t < 900) (h : ru_G Fin a B vc v1) : ru_L Fin a B vc vr := by
  intro s hB hS hs hq
  obtain ⟨y, vc', vr', n, e1, e2, e3⟩ := h s hB hS hs hq
  refine ⟨y, vc', vr', v1, n, e1, ⟨2, by rw [h1, ni_clamp (by omega)]; omega, by omega, ?_⟩, e2, e3⟩
  rw [rs_L2, if_neg (by decide), h3, q_bd_s, rs_L2, if_pos rfl]
