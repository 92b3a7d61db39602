/-! READING BEHIND A CHANGE of the pool. -/
theorem rd_L_sI {S : kp_S} {k a : Nat} {v : Int32} : kp_L (kp_sI S k a v) = kp_L S := rfl
theorem rd_K_sI {S : kp_S} {k a : Nat} {v : Int32} : kp_K (kp_sI S k a v) = kp_K S := rfl
theorem rd_I_sI {S : kp_S} {k a : Nat} {v : Int32} {j b : Nat} : kp_I (kp_sI S k a v) j b = if j = k ∧ b = a then v else kp_I S j b := rfl
theorem rd_J_sI {S : kp_S} {k a : Nat} {v : Int32} : kp_J (kp_sI S k a v) = kp_J S := rfl
theorem rd_R_sI {S : kp_S} {k a : Nat} {v : Int32} : kp_R (kp_sI S k a v) = kp_R S := rfl
theorem rd_N_sI {S : kp_S} {k a : Nat} {v : Int32} : kp_N (kp_sI S k a v) = kp_N S := rfl
theorem rd_A_sI {S : kp_S} {k a : Nat} {v : Int32} : kp_A (kp_sI S k a v) = kp_A S := rfl
theorem rd_B_sI {S : kp_S} {k a : Nat} {v : Int32} : kp_B (kp_sI S k a v) = kp_B S := rfl
theorem rd_C_sI {S : kp_S} {k a : Nat} {v : Int32} : kp_C (kp_sI S k a v) = kp_C S := rfl
theorem rd_L_sJ {S : kp_S} {k a : Nat} {v : Int64} : kp_L (kp_sJ S k a v) = kp_L S := rfl
theorem rd_K_sJ {S : kp_S} {k a : Nat} {v : Int64} : kp_K (kp_sJ S k a v) = kp_K S := rfl
theorem rd_I_sJ {S : kp_S} {k a : Nat} {v : Int64} : kp_I (kp_sJ S k a v) = kp_I S := rfl
theorem rd_J_sJ {S : kp_S} {k a : Nat} {v : Int64} {j b : Nat} : kp_J (kp_sJ S k a v) j b = if j = k ∧ b = a then v else kp_J S j b := rfl
theorem rd_R_sJ {S : kp_S} {k a : Nat} {v : Int64} : kp_R (kp_sJ S k a v) = kp_R S := rfl
theorem rd_N_sJ {S : kp_S} {k a : Nat} {v : Int64} : kp_N (kp_sJ S k a v) = kp_N S := rfl
theorem rd_A_sJ {S : kp_S} {k a : Nat} {v : Int64} : kp_A (kp_sJ S k a v) = kp_A S := rfl
theorem rd_B_sJ {S : kp_S} {k a : Nat} {v : Int64} : kp_B (kp_sJ S k a v) = kp_B S := rfl
theorem rd_C_sJ {S : kp_S} {k a : Nat} {v : Int64} : kp_C (kp_sJ S k a v) = kp_C S := rfl
theorem rd_L_sR {S : kp_S} {k a : Nat} {v : Nat} : kp_L (kp_sR S k a v) = kp_L S := rfl
theorem rd_K_sR {S : kp_S} {k a : Nat} {v : Nat} : kp_K (kp_sR S k a v) = kp_K S := rfl
theorem rd_I_sR {S : kp_S} {k a : Nat} {v : Nat} : kp_I (kp_sR S k a v) = kp_I S := rfl
theorem rd_J_sR {S : kp_S} {k a : Nat} {v : Nat} : kp_J (kp_sR S k a v) = kp_J S := rfl
theorem rd_R_sR {S : kp_S} {k a : Nat} {v : Nat} {j b : Nat} : kp_R (kp_sR S k a v) j b = if j = k ∧ b = a then some v else kp_R S j b := rfl
theorem rd_N_sR {S : kp_S} {k a : Nat} {v : Nat} : kp_N (kp_sR S k a v) = kp_N S := rfl
theorem rd_A_sR {S : kp_S} {k a : Nat} {v : Nat} : kp_A (kp_sR S k a v) = kp_A S := rfl
theorem rd_B_sR {S : kp_S} {k a : Nat} {v : Nat} : kp_B (kp_sR S k a v) = kp_B S := rfl
theorem rd_C_sR {S : kp_S} {k a : Nat} {v : Nat} : kp_C (kp_sR S k a v) = kp_C S := rfl
theorem rd_L_sA {S : kp_S} {a : Nat} {r : Nat → Int32} : kp_L (kp_sA S a r) = kp_L S := rfl
theorem rd_K_sA {S : kp_S} {a : Nat} {r : Nat → Int32} : kp_K (kp_sA S a r) = kp_K S := rfl
theorem rd_I_sA {S : kp_S} {a : Nat} {r : Nat → Int32} : kp_I (kp_sA S a r) = kp_I S := rfl
theorem rd_J_sA {S : kp_S} {a : Nat} {r : Nat → Int32} : kp_J (kp_sA S a r) = kp_J S := rfl
theorem rd_R_sA {S : kp_S} {a : Nat} {r : Nat → Int32} : kp_R (kp_sA S a r) = kp_R S := rfl
theorem rd_N_sA {S : kp_S} {a : Nat} {r : Nat → Int32} : kp_N (kp_sA S a r) = kp_N S := rfl
theorem rd_A_sA {S : kp_S} {a : Nat} {r : Nat → Int32} {b : Nat} : kp_A (kp_sA S a r) b = if b = a then r else kp_A S b := rfl
theorem rd_B_sA {S : kp_S} {a : Nat} {r : Nat → Int32} : kp_B (kp_sA S a r) = kp_B S := rfl
theorem rd_C_sA {S : kp_S} {a : Nat} {r : Nat → Int32} : kp_C (kp_sA S a r) = kp_C S := rfl
theorem rd_L_sB {S : kp_S} {a : Nat} {r : Nat → Int64} : kp_L (kp_sB S a r) = kp_L S := rfl
theorem rd_K_sB {S : kp_S} {a : Nat} {r : Nat → Int64} : kp_K (kp_sB S a r) = kp_K S := rfl
theorem rd_I_sB {S : kp_S} {a : Nat} {r : Nat → Int64} : kp_I (kp_sB S a r) = kp_I S := rfl
theorem rd_J_sB {S : kp_S} {a : Nat} {r : Nat → Int64} : kp_J (kp_sB S a r) = kp_J S := rfl
theorem rd_R_sB {S : kp_S} {a : Nat} {r : Nat → Int64} : kp_R (kp_sB S a r) = kp_R S := rfl
theorem rd_N_sB {S : kp_S} {a : Nat} {r : Nat → Int64} : kp_N (kp_sB S a r) = kp_N S := rfl
theorem rd_A_sB {S : kp_S} {a : Nat} {r : Nat → Int64} : kp_A (kp_sB S a r) = kp_A S := rfl
theorem rd_B_sB {S : kp_S} {a : Nat} {r : Nat → Int64} {b : Nat} : kp_B (kp_sB S a r) b = if b = a then r else kp_B S b := rfl
theorem rd_C_sB {S : kp_S} {a : Nat} {r : Nat → Int64} : kp_C (kp_sB S a r) = kp_C S := rfl
theorem rd_L_sC {S : kp_S} {a : Nat} {r : Nat → Option Nat} : kp_L (kp_sC S a r) = kp_L S := rfl
theorem rd_K_sC {S : kp_S} {a : Nat} {r : Nat → Option Nat} : kp_K (kp_sC S a r) = kp_K S := rfl
theorem rd_I_sC {S : kp_S} {a : Nat} {r : Nat → Option Nat} : kp_I (kp_sC S a r) = kp_I S := rfl
theorem rd_J_sC {S : kp_S} {a : Nat} {r : Nat → Option Nat} : kp_J (kp_sC S a r) = kp_J S := rfl
theorem rd_R_sC {S : kp_S} {a : Nat} {r : Nat → Option Nat} : kp_R (kp_sC S a r) = kp_R S := rfl
theorem rd_N_sC {S : kp_S} {a : Nat} {r : Nat → Option Nat} : kp_N (kp_sC S a r) = kp_N S := rfl
theorem rd_A_sC {S : kp_S} {a : Nat} {r : Nat → Option Nat} : kp_A (kp_sC S a r) = kp_A S := rfl
theorem rd_B_sC {S : kp_S} {a : Nat} {r : Nat → Option Nat} : kp_B (kp_sC S a r) = kp_B S := rfl
theorem rd_C_sC {S : kp_S} {a : Nat} {r : Nat → Option Nat} {b : Nat} : kp_C (kp_sC S a r) b = if b = a then r else kp_C S b := rfl
theorem rd_L_new {S : kp_S} {q c : Nat} : kp_L (kp_new S q c) = kp_L S ++ [q] := rfl
theorem rd_K_new {S : kp_S} {q c : Nat} {b : Nat} : kp_K (kp_new S q c) b = if b = q then c else kp_K S b := rfl
theorem rd_I_new {S : kp_S} {q c : Nat} {j b : Nat} : kp_I (kp_new S q c) j b = if b = q then 0 else kp_I S j b := rfl
theorem rd_J_new {S : kp_S} {q c : Nat} {j b : Nat} : kp_J (kp_new S q c) j b = if b = q then 0 else kp_J S j b := rfl
theorem rd_R_new {S : kp_S} {q c : Nat} {j b : Nat} : kp_R (kp_new S q c) j b = if b = q then none else kp_R S j b := rfl
theorem rd_N_new {S : kp_S} {q c : Nat} : kp_N (kp_new S q c) = kp_N S := rfl
theorem rd_A_new {S : kp_S} {q c : Nat} : kp_A (kp_new S q c) = kp_A S := rfl
theorem rd_B_new {S : kp_S} {q c : Nat} : kp_B (kp_new S q c) = kp_B S := rfl
theorem rd_C_new {S : kp_S} {q c : Nat} : kp_C (kp_new S q c) = kp_C S := rfl
theorem rd_L_newA {S : kp_S} {q c n : Nat} : kp_L (kp_newA S q c n) = kp_L S ++ [q] := rfl
theorem rd_K_newA {S : kp_S} {q c n : Nat} {b : Nat} : kp_K (kp_newA S q c n) b = if b = q then c else kp_K S b := rfl
theorem rd_I_newA {S : kp_S} {q c n : Nat} : kp_I (kp_newA S q c n) = kp_I S := rfl
theorem rd_J_newA {S : kp_S} {q c n : Nat} : kp_J (kp_newA S q c n) = kp_J S := rfl
theorem rd_R_newA {S : kp_S} {q c n : Nat} : kp_R (kp_newA S q c n) = kp_R S := rfl
theorem rd_N_newA {S : kp_S} {q c n : Nat} {b : Nat} : kp_N (kp_newA S q c n) b = if b = q then n else kp_N S b := rfl
theorem rd_A_newA {S : kp_S} {q c n : Nat} {b : Nat} : kp_A (kp_newA S q c n) b = if b = q then (fun _ => 0) else kp_A S b := rfl
theorem rd_B_newA {S : kp_S} {q c n : Nat} {b : Nat} : kp_B (kp_newA S q c n) b = if b = q then (fun _ => 0) else kp_B S b := rfl
theorem rd_C_newA {S : kp_S} {q c n : Nat} {b : Nat} : kp_C (kp_newA S q c n) b = if b = q then (fun _ => none) else kp_C S b := rfl
/-! WHAT STAYS: T is S but for the things in P, and new ones. -/
def kp_fr (P : Nat → Prop) (S T : kp_S) : Prop := kp_le S T ∧ ∀ b, b ∈ kp_L S → ¬ P b → (∀ j, kp_I T j b = kp_I S j b) ∧ (∀ j, kp_J T j b = kp_J S j b) ∧ (∀ j, kp_R T j b = kp_R S j b) ∧ kp_A T b = kp_A S b ∧ kp_B T b = kp_B S b ∧ kp_C T b = kp_C S b
theorem kp_fr.rf {P : Nat → Prop} {S : kp_S} : kp_fr P S S := ⟨kp_le.rf, fun _ _ _ => ⟨fun _ => rfl, fun _ => rfl, fun _ => rfl, rfl, rfl, rfl⟩⟩
theorem kp_fr.tr {P : Nat → Prop} {S T U : kp_S} (h : kp_fr P S T) (g : kp_fr (fun b => P b ∨ b ∉ kp_L S) T U) : kp_fr P S U := by
  refine ⟨h.1.tr g.1, fun b hb hp => ?_⟩
  obtain ⟨a1, a2, a3, a4, a5, a6⟩ := h.2 b hb hp
  obtain ⟨b1, b2, b3, b4, b5, b6⟩ := g.2 b (h.1 b hb).1 (fun q => q.elim hp (fun q => q hb))
  exact ⟨fun j => (b1 j).trans (a1 j), fun j => (b2 j).trans (a2 j), fun j => (b3 j).trans (a3 j), b4.trans a4, b5.trans a5, b6.trans a6⟩
theorem kp_fr.mono {P Q : Nat → Prop} {S T : kp_S} (h : kp_fr P S T) (hq : ∀ b, b ∈ kp_L S → P b → Q b) : kp_fr Q S T := ⟨h.1, fun b hb hp => h.2 b hb (fun q => hp (hq b hb q))⟩
theorem kp_fr.sI {P : Nat → Prop} {S : kp_S} {k a : Nat} {v : Int32} (h : P a) : kp_fr P S (kp_sI S k a v) := ⟨fun _ h => ⟨h, rfl, rfl⟩, fun b _ hp => ⟨fun j => by rw [rd_I_sI, if_neg (fun (q : _ ∧ b = a) => hp (q.2.symm ▸ h))], fun _ => rfl, fun _ => rfl, rfl, rfl, rfl⟩⟩
theorem kp_fr.sJ {P : Nat → Prop} {S : kp_S} {k a : Nat} {v : Int64} (h : P a) : kp_fr P S (kp_sJ S k a v) := ⟨fun _ h => ⟨h, rfl, rfl⟩, fun b _ hp => ⟨fun _ => rfl, fun j => by rw [rd_J_sJ, if_neg (fun (q : _ ∧ b = a) => hp (q.2.symm ▸ h))], fun _ => rfl, rfl, rfl, rfl⟩⟩
theorem kp_fr.sR {P : Nat → Prop} {S : kp_S} {k a v : Nat} (h : P a) : kp_fr P S (kp_sR S k a v) := ⟨fun _ h => ⟨h, rfl, rfl⟩, fun b _ hp => ⟨fun _ => rfl, fun _ => rfl, fun j => by rw [rd_R_sR, if_neg (fun (q : _ ∧ b = a) => hp (q.2.symm ▸ h))], rfl, rfl, rfl⟩⟩
theorem kp_fr.sA {P : Nat → Prop} {S : kp_S} {a : Nat} {r : Nat → Int32} (h : P a) : kp_fr P S (kp_sA S a r) := ⟨fun _ h => ⟨h, rfl, rfl⟩, fun b _ hp => ⟨fun _ => rfl, fun _ => rfl, fun _ => rfl, by rw [rd_A_sA, if_neg (fun (q : b = a) => hp (q.symm ▸ h))], rfl, rfl⟩⟩
theorem kp_fr.sB {P : Nat → Prop} {S : kp_S} {a : Nat} {r : Nat → Int64} (h : P a) : kp_fr P S (kp_sB S a r) := ⟨fun _ h => ⟨h, rfl, rfl⟩, fun b _ hp => ⟨fun _ => rfl, fun _ => rfl, fun _ => rfl, rfl, by rw [rd_B_sB, if_neg (fun (q : b = a) => hp (q.symm ▸ h))], rfl⟩⟩
theorem kp_fr.sC {P : Nat → Prop} {S : kp_S} {a : Nat} {r : Nat → Option Nat} (h : P a) : kp_fr P S (kp_sC S a r) := ⟨fun _ h => ⟨h, rfl, rfl⟩, fun b _ hp => ⟨fun _ => rfl, fun _ => rfl, fun _ => rfl, rfl, rfl, by rw [rd_C_sC, if_neg (fun (q : b = a) => hp (q.symm ▸ h))]⟩⟩
theorem kp_fr.new {P : Nat → Prop} {S : kp_S} {q c : Nat} (h : q ∉ kp_L S) : kp_fr P S (kp_new S q c) := ⟨kp_new_le h, fun b hb _ => by
  have hq : b ≠ q := fun e => h (e ▸ hb)
  exact ⟨fun j => by rw [rd_I_new, if_neg hq], fun j => by rw [rd_J_new, if_neg hq], fun j => by rw [rd_R_new, if_neg hq], rfl, rfl, rfl⟩⟩
theorem kp_fr.newA {P : Nat → Prop} {S : kp_S} {q c n : Nat} (h : q ∉ kp_L S) : kp_fr P S (kp_newA S q c n) := ⟨kp_newA_le h, fun b hb _ => by
  have hq : b ≠ q := fun e => h (e ▸ hb)
  exact ⟨fun _ => rfl, fun _ => rfl, fun _ => rfl, by rw [rd_A_newA, if_neg hq], by rw [rd_B_newA, if_neg hq], by rw [rd_C_newA, if_neg hq]⟩⟩
