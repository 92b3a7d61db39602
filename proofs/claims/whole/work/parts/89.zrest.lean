/-! perform and readText behind the setting of their book -/
def wX4_performR (a0 : Nat) (a1 : Nat) (x2 : Int32) (x3 : Int32) (x4 : Int32) (x5 : Int32) (S : kp_S) (post : Int32 → kp_S → Prop) : Prop :=
  ∃ b2 : Nat, kp_R S 801 a0 = some b2 ∧
  wX7_clear b2 S (fun T3 =>
  ∀ T4 : kp_S, T4 = kp_sI T3 803 a0 0 →
  ∀ T5 : kp_S, T5 = kp_sI T4 805 a0 0 →
  ∀ T6 : kp_S, T6 = kp_sI T5 807 a0 0 →
  ∀ T7 : kp_S, T7 = kp_sI T6 812 a0 0 →
  ∀ T8 : kp_S, T8 = kp_sI T7 811 a0 0 →
  ∀ T9 : kp_S, T9 = kp_sI T8 813 a0 x5 →
  ∀ T10 : kp_S, T10 = kp_sI T9 814 a0 (-1) →
  ∃ b11 : Nat, kp_R T10 808 a0 = some b11 ∧
  wX10_become b11 0 0 T10 (fun T12 =>
  ∃ n0 : Nat, wX4_perform_L60 a0 a1 x2 x3 x4 x5  post n0 0 T12))
def wX8_readTextR (a0 : Nat) (a1 : Nat) (x2 : Int32) (S : kp_S) (post : kp_S → Prop) : Prop :=
  ∃ b4 : Nat, kp_R S 1601 a0 = some b4 ∧
  wX5_clear b4 S (fun T5 =>
  ∃ b6 : Nat, kp_R T5 1600 a0 = some b6 ∧
  wX9_start b6 x2 T5 (fun T7 =>
  wX8_collectDuties a0 T7 (fun T8 =>
  ∃ b9 : Nat, kp_R T8 1600 a0 = some b9 ∧
  wX9_start b9 x2 T8 (fun T10 =>
  wX8_readDuty a0 0 T10 (fun T11 =>
  ∃ n0 : Nat, wX8_readText_L47 a0 a1 x2  post n0 1 T11)))))
theorem wX4_perform_of {a0 a1 : Nat} {x2 x3 x4 x5 : Int32} {S : kp_S} {post : Int32 → kp_S → Prop} (h : wX4_performR a0 a1 x2 x3 x4 x5 (kp_sR S 809 a0 a1) post) : wX4_perform a0 a1 x2 x3 x4 x5 S post := by
  intro T e; subst e; exact h
theorem wX8_readText_of {a0 a1 b2 : Nat} {x2 : Int32} {S : kp_S} {post : kp_S → Prop} (h2 : kp_R S 1602 a0 = some b2) (h : wX8_readTextR a0 a1 x2 (kp_sR (kp_sR S 1603 a0 a1) 402 b2 a1) post) : wX8_readText a0 a1 x2 S post := by
  intro T e; subst e
  refine ⟨b2, by rw [rd_R_sR, if_neg (fun q => absurd q.1 (by decide))]; exact h2, ?_⟩
  intro T e; subst e; exact h
