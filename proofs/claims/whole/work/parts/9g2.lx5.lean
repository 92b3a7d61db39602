section
variable {tp : Nat → Int32} {L : Nat} {kw : Nat → Int64} {v : q_V}
set_option maxHeartbeats 200000 in
theorem tk_mx : ∀ j, j < 40 → tk_m (nI (300 + j)) = nI (tk_x j) := by decide
set_option maxHeartbeats 200000 in
theorem tk_xl {j : Nat} (h : j < 40) : 10 ≤ tk_x j ∧ tk_x j < 50 := by
  unfold tk_x; split
  · omega
  · split <;> omega
set_option maxHeartbeats 200000 in
theorem tk_xi {t : Nat} (h1 : 10 ≤ t) (h2 : t < 50) : ∃ j, j < 40 ∧ tk_x j = t := by
  by_cases c : t < 30
  · exact ⟨t - 10, by omega, by unfold tk_x; rw [if_pos (by omega)]; omega⟩
  · by_cases c2 : t < 44
    · exact ⟨t - 4, by omega, by unfold tk_x; rw [if_neg (by omega), if_neg (by omega)]; omega⟩
    · exact ⟨t - 24, by omega, by unfold tk_x; rw [if_neg (by omega), if_pos (by omega)]; omega⟩
set_option maxHeartbeats 200000 in
/-- which word -/
theorem tk_wA {x1 x2 x5 : Int32} {w : Int64} (h5 : x5 ≠ 2) : ∀ n u N, u + n = 50 → n < N → fX12_scanName_L76 x1 N x2 w x5 (nI u) v = q_bv (fX12_token x5 x1 w v) (fun T => some (x2, T)) := by
  intro n
  induction n with
  | zero =>
    intro u N hu hN
    obtain ⟨N, rfl⟩ : ∃ k, N = k + 1 := ⟨N - 1, by omega⟩
    rw [fX12_scanName_L76, if_pos (show (49 : Int32) < nI u from ni_plt (a := 49) (by omega) (by omega))]
  | succ n ih =>
    intro u N hu hN
    obtain ⟨N, rfl⟩ : ∃ k, N = k + 1 := ⟨N - 1, by omega⟩
    rw [fX12_scanName_L76, if_neg (show ¬ (49 : Int32) < nI u from ni_nlt (a := 49) (by omega) (by omega)), if_neg h5]
    unfold fX12_scanName_b106 fX12_scanName_b108
    rw [q_lt_s, ni_add1]
    exact ih (u + 1) N (by omega) (by omega)
set_option maxHeartbeats 200000 in
theorem tk_wC {x1 x2 : Int32} {w : Int64} {t : Nat} (hm : t < 50 → q_b v 2403 t = w) : ∀ n u N, u + n = 50 → n < N → u ≤ t → (∀ s, u ≤ s → s < 50 → s ≠ t → q_b v 2403 s ≠ w) → 10 ≤ u → fX12_scanName_L76 x1 N x2 w 2 (nI u) v = q_bv (fX12_token (if t < 50 then nI t else 2) x1 w v) (fun T => some (x2, T)) := by
  intro n
  induction n with
  | zero =>
    intro u N hu hN ht hs h10
    obtain ⟨N, rfl⟩ : ∃ k, N = k + 1 := ⟨N - 1, by omega⟩
    rw [fX12_scanName_L76, if_pos (show (49 : Int32) < nI u from ni_plt (a := 49) (by omega) (by omega)), if_neg (show ¬ t < 50 by omega)]
  | succ n ih =>
    intro u N hu hN ht hs h10
    obtain ⟨N, rfl⟩ : ∃ k, N = k + 1 := ⟨N - 1, by omega⟩
    rw [fX12_scanName_L76, if_neg (show ¬ (49 : Int32) < nI u from ni_nlt (a := 49) (by omega) (by omega)), if_pos rfl, if_neg (ni_nin (by omega) (by omega)), ni_clamp (by omega), lg_if]
    unfold fX12_scanName_b106 fX12_scanName_b108
    rw [q_lt_s, ni_add1]
    by_cases c : u = t
    · rw [if_pos (by rw [c]; exact hm (by omega)), if_pos (show t < 50 by omega), ← c]
      exact tk_wA (by rw [show (2 : Int32) = nI 2 from rfl, Ne, ni_eq (by omega) (by omega)]; omega) n (u + 1) N (by omega) (by omega)
    · rw [if_neg (hs u (by omega) (by omega) c)]
      exact ih (u + 1) N (by omega) (by omega) (by omega) (fun s h1 h2 h3 => hs s (by omega) h2 h3) (by omega)
set_option maxHeartbeats 200000 in
theorem lx_kn {w : Int64} : ∀ n i, i + n ≤ 40 → lx_k kw w n i = 259 → ∀ j, i ≤ j → j < i + n → kw j ≠ w := by
  intro n
  induction n with
  | zero => intro i _ _ j h1 h2; omega
  | succ n ih =>
    intro i hi hk j h1 h2
    rw [lx_k] at hk
    by_cases c : kw i = w
    · rw [if_pos c, show (259 : Int32) = nI 259 from rfl, ni_eq (by omega) (by omega)] at hk; omega
    · rw [if_neg c] at hk
      by_cases c2 : j = i
      · rw [c2]; exact c
      · exact ih (i + 1) (by omega) hk j (by omega) (by omega)
set_option maxHeartbeats 200000 in
theorem tk_word (h : tk_v tp L kw v) {x1 x2 : Int32} {w : Int64} : fX12_scanName_b70 x1 x2 w 2 v = q_bv (fX12_token (tk_m (lx_k kw w 40 0)) x1 w v) (fun T => some (x2, T)) := by
  unfold fX12_scanName_b70
  have hw := h.2.2.2.1
  rcases lx_kq (kw := kw) (w := w) 40 0 with g | ⟨j, _, hj, g, hk⟩
  · have hn : ∀ i, i < 40 → kw i ≠ w := fun i hi => lx_kn (kw := kw) 40 0 (by omega) g i (by omega) (by omega)
    rw [g]
    have := tk_wC (v := v) (x1 := x1) (x2 := x2) (w := w) (t := 50) (fun q => absurd q (by omega)) 40 10 q_N (by omega) (by unfold q_N; omega) (by omega) (fun s h1 h2 _ => by
      obtain ⟨i, hi, e⟩ := tk_xi h1 h2
      rw [← e, hw i hi]; exact hn i hi) (by omega)
    exact this
  · rw [g, tk_mx j (by omega)]
    have hx := tk_xl (j := j) (by omega)
    have := tk_wC (v := v) (x1 := x1) (x2 := x2) (w := w) (t := tk_x j) (fun _ => by rw [hw j (by omega)]; exact hk) 40 10 q_N (by omega) (by unfold q_N; omega) (by omega) (fun s h1 h2 h3 => by
      obtain ⟨i, hi, e⟩ := tk_xi h1 h2
      rw [← e, hw i hi]
      intro q
      have := h.2.2.2.2 i j hi (by omega) (q.trans hk.symm)
      rw [this] at e; exact h3 e.symm) (by omega)
    rw [if_pos hx.2] at this
    exact this
set_option maxHeartbeats 200000 in
theorem n64 {n : Nat} (h : n < 2147483648) : (nI n).toInt64 = Int64.ofNat n := by
  apply Int64.toInt_inj.1
  rw [Int32.toInt_toInt64, ni_toInt h, Int64.toInt_ofNat_of_lt (by omega)]
set_option maxHeartbeats 200000 in
theorem lx_dig64 {y : Nat} {x : Int32} (h : lx_d x) : 10 * Int64.ofNat y + x.toInt64 - 48 = Int64.ofNat (10 * y + (x.toNatClampNeg - 48)) := by
  have e := lx_digv h
  have hz : x.toNatClampNeg - 48 < 100 := by
    have h2 := h.2
    have h1 : ¬ x < 0 := by
      intro q
      exact absurd (Int32.lt_of_le_of_lt h.1 q) (by decide)
    obtain ⟨n, hn, e⟩ := ni_ex h1
    subst e
    rw [show (57 : Int32) = nI 57 from rfl, ni_le hn (by omega)] at h2
    rw [ni_clamp hn]; omega
  generalize x.toNatClampNeg - 48 = z at e hz ⊢
  rw [e, n64 (by omega), show (10 : Int64) = Int64.ofNat 10 from rfl, ← Int64.ofNat_mul, ← Int64.ofNat_add, show (48 : Int64) = Int64.ofNat 48 from rfl]
  have : Int64.ofNat (10 * y + (48 + z)) = Int64.ofNat (10 * y + z) + Int64.ofNat 48 := by rw [← Int64.ofNat_add]; congr 1; omega
  rw [this, Int64.add_sub_cancel]
set_option maxHeartbeats 200000 in
theorem lx_n1 : ∀ n p x x', (lx_n tp L n p x).1 = (lx_n tp L n p x').1 := by
  intro n
  induction n with
  | zero => intro p w w'; rfl
  | succ n ih =>
    intro p w w'
    rw [lx_n, lx_n]
    split
    · rfl
    · split
      · exact ih _ _ _
      · rfl
set_option maxHeartbeats 200000 in
theorem tk_cn (h : tk_v tp L kw v) {a : Nat} : ∀ n p x N, n = L - p → a ≤ p → p ≤ L → n < N → ∃ w', fX12_scanNumber_L4 (nI a) N (nI p) (Int64.ofNat x) v = fX12_scanNumber_b65 (nI a) (nI (lx_n tp L n p x).1) w' (if (lx_n tp L n p x).1 - a ≤ 9 then 3 else 1) v ∧ ((lx_n tp L n p x).1 - a ≤ 9 → w' = Int64.ofNat (lx_n tp L n p x).2) := by
  have hL := h.2.1
  intro n
  suffices H : ∀ p x (w : Int64) N, n = L - p → a ≤ p → p ≤ L → n < N → (p - a ≤ 9 → w = Int64.ofNat x) → ∃ w', fX12_scanNumber_L4 (nI a) N (nI p) w v = fX12_scanNumber_b65 (nI a) (nI (lx_n tp L n p x).1) w' (if (lx_n tp L n p x).1 - a ≤ 9 then 3 else 1) v ∧ ((lx_n tp L n p x).1 - a ≤ 9 → w' = Int64.ofNat (lx_n tp L n p x).2) from
    fun p x N h1 h2 h3 h4 => H p x _ N h1 h2 h3 h4 (fun _ => rfl)
  induction n with
  | zero =>
    intro p x w N e ha hp hN hw
    obtain ⟨N, rfl⟩ : ∃ k, N = k + 1 := ⟨N - 1, by omega⟩
    refine ⟨w, ?_, hw⟩
    have e0 : lx_at tp L p = 0 := by unfold lx_at; rw [if_neg (by omega)]
    rw [fX12_scanNumber_L4, tk_at h (by omega), q_bd_s, e0, lx_rdigit, q_bd_s, lx_i0, if_neg lx_0.2, lx_n]
    rw [ni_sub ha, show (9 : Int32) = nI 9 from rfl]
    by_cases c : p - a ≤ 9
    · rw [if_pos (ni_ple c (by omega)), if_pos c]
    · rw [if_neg (ni_nle (by omega) (by omega)), if_neg c]
  | succ n ih =>
    intro p x w N e ha hp hN hw
    obtain ⟨N, rfl⟩ : ∃ k, N = k + 1 := ⟨N - 1, by omega⟩
    have e0 : lx_at tp L p = tp p := lx_at_lt (by omega)
    have eat : fX12_at (nI p) v = some (tp p, v) := by rw [tk_at h (by omega), e0]
    rw [fX12_scanNumber_L4, eat, q_bd_s, lx_rdigit, q_bd_s, lx_i0, lx_n, if_neg (show ¬ L ≤ p by omega), ni_sub ha]
    unfold fX12_scanNumber_b44
    by_cases c2 : lx_d (tp p)
    · rw [if_pos c2, if_pos c2]
      by_cases c : 9 ≤ p - a
      · rw [if_pos (show (9 : Int32) ≤ nI (p - a) from ni_ple (a := 9) c (by omega)), q_lt_s, ni_add1]
        have hx : (lx_n tp L n (p + 1) (10 * x + ((tp p).toNatClampNeg - 48))).1 = (lx_n tp L n (p + 1) x).1 := lx_n1 n (p + 1) _ _
        exact ih (p + 1) _ w N (by omega) (by omega) (by omega) (by omega) (fun q => absurd q (by omega))
      · rw [if_neg (show ¬ (9 : Int32) ≤ nI (p - a) from ni_nle (a := 9) (by omega) (by omega)), if_neg (ni_nin (by omega) (by omega)), q_lt_s, ni_add1, ni_clamp (by omega), (h.2.2.1 p (by omega)).1, hw (by omega), lx_dig64 c2]
        exact ih (p + 1) _ _ N (by omega) (by omega) (by omega) (by omega) (fun _ => rfl)
    · rw [if_neg c2, if_neg c2]
      refine ⟨w, ?_, hw⟩
      rw [show (9 : Int32) = nI 9 from rfl]
      by_cases c : p - a ≤ 9
      · rw [if_pos (ni_ple c (by omega)), if_pos c]
      · rw [if_neg (ni_nle (by omega) (by omega)), if_neg c]
end
