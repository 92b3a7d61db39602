set_option maxHeartbeats 200000 in
theorem ni_all (x : Int32) : ∃ n, x = nI n := ⟨x.toBitVec.toNat, by
  apply Int32.toBitVec_inj.1
  show x.toBitVec = BitVec.ofNat 32 x.toBitVec.toNat
  rw [BitVec.ofNat_toNat, BitVec.setWidth_eq]⟩
set_option maxHeartbeats 200000 in
theorem mR_self {v : q_V} {q g f t cl : Nat} (h1 : q_i v 2510 = nI q) (h2 : q_i v 2516 = nI g) (h3 : q_i v 2512 = nI f) (h4 : q_i v 2487 = nI t) (h5 : q_i v 2501 = nI cl) : mR v q g f t cl = v := by
  refine q_ext (fun k => ?_) rfl rfl rfl rfl rfl rfl
  show (if k = 2510 then nI q else if k = 2516 then nI g else if k = 2512 then nI f else if k = 2487 then nI t else if k = 2501 then nI cl else q_i v k) = q_i v k
  by_cases c1 : k = 2510
  · rw [if_pos c1, c1, h1]
  by_cases c2 : k = 2516
  · rw [if_neg c1, if_pos c2, c2, h2]
  by_cases c3 : k = 2512
  · rw [if_neg c1, if_neg c2, if_pos c3, c3, h3]
  by_cases c4 : k = 2487
  · rw [if_neg c1, if_neg c2, if_neg c3, if_pos c4, c4, h4]
  by_cases c5 : k = 2501
  · rw [if_neg c1, if_neg c2, if_neg c3, if_neg c4, if_pos c5, c5, h5]
  rw [if_neg c1, if_neg c2, if_neg c3, if_neg c4, if_neg c5]
set_option maxHeartbeats 200000 in
theorem mC_self {v : q_V} {p h f np cl : Nat} (h1 : q_i v 810 = nI p) (h2 : q_i v 803 = nI h) (h3 : q_i v 813 = nI f) (h4 : q_i v 807 = nI np) (h5 : q_i v 805 = nI cl) : mC v p h f np cl = v := by
  refine q_ext (fun k => ?_) rfl rfl rfl rfl rfl rfl
  show (if k = 810 then nI p else if k = 803 then nI h else if k = 813 then nI f else if k = 807 then nI np else if k = 805 then nI cl else q_i v k) = q_i v k
  by_cases c1 : k = 810
  · rw [if_pos c1, c1, h1]
  by_cases c2 : k = 803
  · rw [if_neg c1, if_pos c2, c2, h2]
  by_cases c3 : k = 813
  · rw [if_neg c1, if_neg c2, if_pos c3, c3, h3]
  by_cases c4 : k = 807
  · rw [if_neg c1, if_neg c2, if_neg c3, if_pos c4, c4, h4]
  by_cases c5 : k = 805
  · rw [if_neg c1, if_neg c2, if_neg c3, if_neg c4, if_pos c5, c5, h5]
  rw [if_neg c1, if_neg c2, if_neg c3, if_neg c4, if_neg c5]
/-- the reference, cleared for a run -/
def ru_cl0 (v : q_V) : q_V := q_si (q_si (q_si (q_si (q_si (q_si (q_si (q_si (q_si (q_si (q_si (q_si (q_si (q_si (q_si v 2470 0) 2471 0) 2472 0) 2473 0) 2474 0) 2475 0) 2476 0) 2477 0) 2478 0) 2479 0) 2480 0) 2481 0) 2511 0) 2513 0) 2514 0
set_option maxHeartbeats 200000 in
theorem rs_clear0 {v : q_V} : ∃ f, fX12_clear v = some (mR (ru_cl0 v) 0 0 f 0 0) := by
  obtain ⟨q, hq⟩ := ni_all (q_i v 2510)
  obtain ⟨g, hg⟩ := ni_all (q_i v 2516)
  obtain ⟨f, hf⟩ := ni_all (q_i v 2512)
  obtain ⟨t, ht⟩ := ni_all (q_i v 2487)
  obtain ⟨cl, hcl⟩ := ni_all (q_i v 2501)
  have m87 : ∀ w q g f t cl, q_si (mR w q g f t cl) 2487 0 = mR w q g f 0 cl := fun _ _ _ _ _ _ => mR_s2487
  have m01 : ∀ w q g f t cl, q_si (mR w q g f t cl) 2501 0 = mR w q g f t 0 := fun _ _ _ _ _ _ => mR_s2501
  have m16 : ∀ w q g f t cl, q_si (mR w q g f t cl) 2516 0 = mR w q 0 f t cl := fun _ _ _ _ _ _ => mR_s2516
  have m10 : ∀ w q g f t cl, q_si (mR w q g f t cl) 2510 0 = mR w 0 g f t cl := fun _ _ _ _ _ _ => mR_s2510
  have key : ∀ w, fX12_clear (mR w q g f t cl) = some (mR (ru_cl0 w) 0 0 f 0 0) := by
    intro w
    unfold fX12_clear ru_cl0
    rw [mR_s2470, q_lt_s, mR_s2471, q_lt_s, mR_s2472, q_lt_s, mR_s2473, q_lt_s, mR_s2474, q_lt_s, mR_s2475, q_lt_s, mR_s2476, q_lt_s, mR_s2477, q_lt_s, mR_s2478, q_lt_s, mR_s2479, q_lt_s, mR_s2480, q_lt_s, mR_s2481, q_lt_s, m87, q_lt_s, m01, q_lt_s, m16, q_lt_s, m10, q_lt_s, mR_s2511, q_lt_s, mR_s2513, q_lt_s, mR_s2514, q_lt_s]
  have h := key v
  rw [mR_self hq hg hf ht hcl] at h
  exact ⟨f, h⟩
/-- the class's report, cleared -/
def ru_c7 (v : q_V) (i : Nat) : Nat → Int32 := fun k => if k < i ∧ k ≠ 17 then 0 else q_a v 1400 k
set_option maxHeartbeats 200000 in
theorem cs_c7_L {v : q_V} : ∀ r i n, i + r = 19 → r < n → fX7_clear_L2 n (nI i) (q_sa v 1400 (ru_c7 v i)) = some (q_sa v 1400 (upd (ru_c7 v 19) 4 (-1))) := by
  intro r
  induction r with
  | zero =>
    intro i n hi hn
    obtain ⟨n, rfl⟩ : ∃ k, n = k + 1 := ⟨n - 1, by omega⟩
    obtain rfl : i = 19 := by omega
    rw [fX7_clear_L2, if_pos (by decide), if_neg (by decide), q_lt_s, q_a_sa, if_pos rfl, q_sa_sa]; rfl
  | succ r ih =>
    intro i n hi hn
    obtain ⟨n, rfl⟩ : ∃ k, n = k + 1 := ⟨n - 1, by omega⟩
    have n19 : ¬ 19 ≤ nI i := by rw [show (19 : Int32) = nI 19 from rfl, ni_le (by omega) (by omega)]; omega
    rw [fX7_clear_L2, if_neg n19]
    unfold fX7_clear_b21
    by_cases c17 : i = 17
    · have e : ru_c7 v i = ru_c7 v (i + 1) := by
        funext k
        unfold ru_c7
        by_cases c : k < i ∧ k ≠ 17
        · rw [if_pos c, if_pos (by omega)]
        · rw [if_neg c, if_neg (by omega)]
      rw [if_pos (show nI i = 17 by rw [c17]; rfl), q_lt_s, ni_add1, e]
      exact ih (i + 1) n (by omega) (by omega)
    · have e : upd (ru_c7 v i) i 0 = ru_c7 v (i + 1) := by
        funext k
        unfold upd ru_c7
        by_cases c : k = i
        · rw [if_pos c, if_pos (by omega)]
        · rw [if_neg c]
          by_cases c2 : k < i ∧ k ≠ 17
          · rw [if_pos c2, if_pos (by omega)]
          · rw [if_neg c2, if_neg (by omega)]
      rw [if_neg (show ¬ nI i = 17 by rw [show (17 : Int32) = nI 17 from rfl, ni_eq (by omega) (by omega)]; exact c17), if_neg (by rw [ni_in (show i < 19 by omega) (by omega)]; exact id), q_lt_s, q_lt_s, ni_clamp (by omega), ni_add1, q_a_sa, if_pos rfl, q_sa_sa, e]
      exact ih (i + 1) n (by omega) (by omega)
set_option maxHeartbeats 200000 in
theorem cs_c7 {v : q_V} : fX7_clear v = some (q_sa v 1400 (upd (ru_c7 v 19) 4 (-1))) := by
  unfold fX7_clear
  have h := cs_c7_L (v := v) 19 0 q_N (by omega) (by unfold q_N; omega)
  have e : q_sa v 1400 (ru_c7 v 0) = v := by
    have : ru_c7 v 0 = q_a v 1400 := by funext k; unfold ru_c7; rw [if_neg (by omega)]
    rw [this, q_sa_id]
  rw [e] at h
  exact h
