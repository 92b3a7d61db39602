/-- the reference's run with a free number of turns -/
def ru_L82 (N : Nat) (x1 x2 x3 x4 : Int32) : Nat → Int32 → Int32 → q_V → Option (Int32 × q_V)
  | 0, _, _, _ => none
  | n + 1, xn5, xn6, Sn =>
  if xn5 ≤ xn6 then q_bv (fX12_calls x1 xn5 Sn) (fun T => fX12_run_L126 x1 x2 x3 x4 N T)
  else if xn6 = 0 then fX12_run_b110 x1 x2 x3 x4 xn5 xn6 x2 (fun a b S => ru_L82 N x1 x2 x3 x4 n a b S) Sn
  else if xn6 = 1 then fX12_run_b110 x1 x2 x3 x4 xn5 xn6 x3 (fun a b S => ru_L82 N x1 x2 x3 x4 n a b S) Sn
  else fX12_run_b110 x1 x2 x3 x4 xn5 xn6 0 (fun a b S => ru_L82 N x1 x2 x3 x4 n a b S) Sn
/-- the arguments, from the first -/
def ru_ar (x y : Int32) (i : Nat) : Int32 := if i = 0 then x else if i = 1 then y else 0
def ru_as (x y : Int32) (r : Nat → Int32) (i : Nat) : Nat → Int32 := fun j => if j < i then ru_ar x y j else r j
set_option maxHeartbeats 200000 in
theorem ru_as_s {x y : Int32} {r : Nat → Int32} {i : Nat} : upd (ru_as x y r i) i (ru_ar x y i) = ru_as x y r (i + 1) := by
  funext j
  unfold upd ru_as
  by_cases c : j = i
  · rw [if_pos c, if_pos (by omega), c]
  · rw [if_neg c]
    by_cases c2 : j < i
    · rw [if_pos c2, if_pos (by omega)]
    · rw [if_neg c2, if_neg (by omega)]
set_option maxHeartbeats 200000 in
theorem ru_as_0 {x y : Int32} {r : Nat → Int32} : ru_as x y r 0 = r := by
  funext j
  unfold ru_as
  rw [if_neg (by omega)]
section
variable {T : co_T}
set_option maxHeartbeats 200000 in
theorem cs_L60 {v w : q_V} {d k pe qe p f : Nat} {x y z : Int32} (s : ru_S T v w) (hT : T.2.2.2 d = some (k, pe, qe)) : ∀ r i n, i + r = k → r < n → fX4_perform_L60 (nI d) x y z n (nI i) (mC (q_sa v 802 (ru_as x y (q_a v 802) i)) p i f 0 0) = q_bv (fX4_call (nI d) (mC (q_sa v 802 (ru_as x y (q_a v 802) k)) p k f 0 0)) (fun T => fX4_perform_L112 (nI d) x y z q_N 0 T) := by
  have hk := (s.2.2.2.2.choose_spec.2.2 d k pe qe hT).2.1
  have e0 := (s.2.2.2.2.choose_spec.2.2 d k pe qe hT).2.2.1
  have par : ∀ u h, fX0_parameters (nI d) (mC (q_sa v 802 u) p h f 0 0) = some (nI k, mC (q_sa v 802 u) p h f 0 0) := by
    intro u h
    have sb : ru_S T (q_sa v 802 u) w := ru_S_e2 s (by rw [q_a_sa, if_neg (by omega)]) (by rw [q_a_sa, if_neg (by omega)]) (by rw [q_i_sa]) (by rw [q_i_sa]) (by rw [q_n_sa]) (fun _ _ _ => rfl)
    have ef := cs_fact (p := p) (h := h) (f := f) (np := 0) (cl := 0) sb hT (show 0 < 5 by omega)
    unfold fX0_parameters
    rw [show (0 : Int32) = nI 0 from rfl, ef, q_bd_s, q_a_sa, if_neg (by omega), Nat.add_zero, e0]
  intro r
  induction r with
  | zero =>
    intro i n hi hn
    obtain ⟨n, rfl⟩ : ∃ k, n = k + 1 := ⟨n - 1, by omega⟩
    obtain rfl : i = k := by omega
    rw [fX4_perform_L60, par, q_bd_s, if_pos (by rw [ni_le (by omega) (by omega)]; omega)]
  | succ r ih =>
    intro i n hi hn
    obtain ⟨n, rfl⟩ : ∃ k, n = k + 1 := ⟨n - 1, by omega⟩
    have key : ∀ u : Int32, u = ru_ar x y i → fX4_perform_b95 (nI d) x y z (nI i) u (fun xn6_ S_ => fX4_perform_L60 (nI d) x y z n xn6_ S_) (mC (q_sa v 802 (ru_as x y (q_a v 802) i)) p i f 0 0) = q_bv (fX4_call (nI d) (mC (q_sa v 802 (ru_as x y (q_a v 802) k)) p k f 0 0)) (fun T => fX4_perform_L112 (nI d) x y z q_N 0 T) := by
      intro u hu
      unfold fX4_perform_b95
      rw [cs_push (by omega), q_bv_s, q_lt_s, ni_add1, q_a_sa, if_pos rfl, q_sa_sa, hu, ru_as_s]
      exact ih (i + 1) n (by omega) (by omega)
    rw [fX4_perform_L60, par, q_bd_s, if_neg (by rw [ni_le (by omega) (by omega)]; omega)]
    by_cases c0 : i = 0
    · rw [if_pos (show nI i = 0 by rw [c0]; rfl)]
      exact key _ (by unfold ru_ar; rw [if_pos c0])
    · rw [if_neg (show ¬ nI i = 0 by rw [show (0 : Int32) = nI 0 from rfl, ni_eq (by omega) (by omega)]; exact c0)]
      by_cases c1 : i = 1
      · rw [if_pos (show nI i = 1 by rw [c1]; rfl)]
        exact key _ (by unfold ru_ar; rw [if_neg c0, if_pos c1])
      · rw [if_neg (show ¬ nI i = 1 by rw [show (1 : Int32) = nI 1 from rfl, ni_eq (by omega) (by omega)]; exact c1)]
        exact key _ (by unfold ru_ar; rw [if_neg c0, if_neg c1])
end
set_option maxHeartbeats 200000 in
theorem rs_L82 {w : q_V} {N k f : Nat} {x1 x y z : Int32} (hk : k ≤ 8) : ∀ r i n, i + r = k → r < n → ru_L82 N x1 x y z n (nI k) (nI i) (mR (q_sa w 2515 (ru_as x y (q_a w 2515) i)) 0 i f 0 0) = q_bv (fX12_calls x1 (nI k) (mR (q_sa w 2515 (ru_as x y (q_a w 2515) k)) 0 k f 0 0)) (fun T => fX12_run_L126 x1 x y z N T) := by
  intro r
  induction r with
  | zero =>
    intro i n hi hn
    obtain ⟨n, rfl⟩ : ∃ k, n = k + 1 := ⟨n - 1, by omega⟩
    obtain rfl : i = k := by omega
    rw [ru_L82, if_pos (by rw [ni_le (by omega) (by omega)]; omega)]
  | succ r ih =>
    intro i n hi hn
    obtain ⟨n, rfl⟩ : ∃ k, n = k + 1 := ⟨n - 1, by omega⟩
    have key : ∀ u : Int32, u = ru_ar x y i → fX12_run_b110 x1 x y z (nI k) (nI i) u (fun a b S => ru_L82 N x1 x y z n a b S) (mR (q_sa w 2515 (ru_as x y (q_a w 2515) i)) 0 i f 0 0) = q_bv (fX12_calls x1 (nI k) (mR (q_sa w 2515 (ru_as x y (q_a w 2515) k)) 0 k f 0 0)) (fun T => fX12_run_L126 x1 x y z N T) := by
      intro u hu
      unfold fX12_run_b110
      rw [rs_push (by omega), q_bv_s, q_lt_s, ni_add1, q_a_sa, if_pos rfl, q_sa_sa, hu, ru_as_s]
      exact ih (i + 1) n (by omega) (by omega)
    rw [ru_L82, if_neg (by rw [ni_le (by omega) (by omega)]; omega)]
    by_cases c0 : i = 0
    · rw [if_pos (show nI i = 0 by rw [c0]; rfl)]
      exact key _ (by unfold ru_ar; rw [if_pos c0])
    · rw [if_neg (show ¬ nI i = 0 by rw [show (0 : Int32) = nI 0 from rfl, ni_eq (by omega) (by omega)]; exact c0)]
      by_cases c1 : i = 1
      · rw [if_pos (show nI i = 1 by rw [c1]; rfl)]
        exact key _ (by unfold ru_ar; rw [if_neg c0, if_pos c1])
      · rw [if_neg (show ¬ nI i = 1 by rw [show (1 : Int32) = nI 1 from rfl, ni_eq (by omega) (by omega)]; exact c1)]
        exact key _ (by unfold ru_ar; rw [if_neg c0, if_neg c1])
