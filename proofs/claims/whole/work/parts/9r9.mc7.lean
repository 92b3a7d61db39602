def ck1 (q : Nat × Nat × Nat × Nat) : Bool := match gx 0 (q.1 / 200) 0, gx q.2.1 q.2.2.1 q.2.2.2 with
  | some i, some j => decide (kp_K mz i < 13 ∧ kp_R mz q.1 i = some j)
  | _, _ => false
def ck2 (q : Nat × Nat) : Bool := match gx 1 q.1 0 with
  | some i => decide (13 ≤ kp_K mz i ∧ kp_N mz i = q.2)
  | _ => false
set_option maxHeartbeats 200000 in
theorem ck_ptr : q_ptr.all ck1 = true := by decide +kernel
set_option maxHeartbeats 200000 in
theorem ck_len : q_len.all ck2 = true := by decide +kernel
