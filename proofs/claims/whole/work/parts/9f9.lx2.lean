section
variable {tp : Nat → Int32} {L : Nat} {kw : Nat → Int64} {v : q_V}
set_option maxHeartbeats 200000 in
theorem q_si_ix {k : Nat} {x : Int32} (h : q_i v k = x) : q_si v k x = v := by rw [← h, q_si_id]
set_option maxHeartbeats 200000 in
theorem lx_at_lt {p : Nat} (h : p < L) : lx_at tp L p = tp p := by unfold lx_at; rw [if_pos h]
set_option maxHeartbeats 200000 in
/-- a word's bytes -/
theorem lx_cw (h : lx_v tp L kw v) : ∀ n p (w : Int64) N, n = L - p → p ≤ L → n < N → fX9_takeWord_L2 N w (q_si v 1803 (nI p)) = fX9_takeWord_b69 (lx_w tp L n p w).2 (q_si v 1803 (nI (lx_w tp L n p w).1)) := by
  have hL := h.2.1
  intro n
  induction n with
  | zero =>
    intro p c N e hp hN
    obtain ⟨N, rfl⟩ : ∃ k, N = k + 1 := ⟨N - 1, by omega⟩
    rw [fX9_takeWord_L2, q_i_ne (by omega), h.1, q_i_at, if_pos (ni_ple (by omega) (by omega)), lx_w]
  | succ n ih =>
    intro p w N e hp hN
    obtain ⟨N, rfl⟩ : ∃ k, N = k + 1 := ⟨N - 1, by omega⟩
    have hb := lx_byte (p := p) (lx_vs (k := 1803) (x := nI p) h (by omega)) (by omega)
    rw [lx_at_lt (show p < L by omega)] at hb
    rw [fX9_takeWord_L2, q_i_ne (by omega), h.1, q_i_at, if_neg (ni_nle (by omega) (by omega)), hb, q_bd_s, lx_letter, q_bd_s, lx_w, if_neg (show ¬ L ≤ p by omega)]
    unfold fX9_takeWord_b41
    simp only [q_lt_s, q_i_si, ↓reduceIte, q_si_si, ni_add1, lx_10, hb, q_bd_s, lx_digit]
    rw [ih (p + 1) _ N (by omega) (by omega) (by omega)]
    by_cases c1 : lx_l (tp p)
    · rw [if_neg (not_not_intro c1), if_pos (Or.inl c1)]
    · rw [if_pos c1]
      by_cases c2 : lx_d (tp p)
      · rw [if_neg (not_not_intro c2), if_pos (Or.inr c2)]
      · rw [if_pos c2, if_neg (by intro q; exact q.elim c1 c2)]
set_option maxHeartbeats 200000 in
theorem lx_ck {w : Int64} (hk : ∀ i, i < 40 → q_b v 1801 i = kw i) (h5 : q_i v 1805 = 259) : ∀ n i N, i + n = 40 → n < N → fX9_takeWord_L105 N w (nI i) v = some (q_si v 1805 (lx_k kw w n i)) := by
  intro n
  induction n with
  | zero =>
    intro i N hi hN
    obtain ⟨N, rfl⟩ : ∃ k, N = k + 1 := ⟨N - 1, by omega⟩
    rw [fX9_takeWord_L105, show (40 : Int32) = nI 40 from rfl, if_pos (ni_ple (by omega) (by omega)), lx_k, q_si_ix h5]
  | succ n ih =>
    intro i N hi hN
    obtain ⟨N, rfl⟩ : ∃ k, N = k + 1 := ⟨N - 1, by omega⟩
    rw [fX9_takeWord_L105, show (40 : Int32) = nI 40 from rfl, if_neg (ni_nle (by omega) (by omega)), if_neg (ni_nin (by omega) (by omega)), ni_clamp (by omega), hk i (by omega), lg_if, lx_k]
    by_cases c : kw i = w
    · rw [if_pos c, if_pos c, q_lt_s, show (300 : Int32) = nI 300 from rfl, ni_add]
    · rw [if_neg c, if_neg c, q_lt_s, ni_add1, ih (i + 1) N (by omega) (by omega)]
set_option maxHeartbeats 200000 in
theorem lx_digv {x : Int32} (h : lx_d x) : x = nI (48 + (x.toNatClampNeg - 48)) := by
  have h1 : ¬ x < 0 := by
    intro q
    exact absurd (Int32.lt_of_le_of_lt h.1 q) (by decide)
  obtain ⟨n, hn, e⟩ := ni_ex h1
  subst e
  have h2 := h.1
  rw [show (48 : Int32) = nI 48 from rfl, ni_le (by omega) hn] at h2
  rw [ni_clamp hn]
  congr 1
  omega
set_option maxHeartbeats 200000 in
theorem lx_dig {y : Nat} {x : Int32} (h : lx_d x) : nI y * 10 + x - 48 = nI (10 * y + (x.toNatClampNeg - 48)) := by
  have e := lx_digv h
  generalize x.toNatClampNeg - 48 = z at e ⊢
  rw [e, show (10 : Int32) = nI 10 from rfl, show nI y * nI 10 = nI (y * 10) from (Int32.ofNat_mul y 10).symm, ni_add, show (48 : Int32) = nI 48 from rfl, ni_sub (by omega)]
  congr 1
  omega
/-- a number's digits -/
def lx_u (v : q_V) (p x : Nat) : q_V := q_si (q_si v 1807 (nI x)) 1803 (nI p)
set_option maxHeartbeats 200000 in
theorem lx_uu {p x p' x' : Nat} : q_si (q_si (lx_u v p x) 1807 (nI x')) 1803 (nI p') = lx_u v p' x' := by
  unfold lx_u
  rw [q_si_sw (k := 1803) (j := 1807) (by omega), q_si_si, q_si_si]
set_option maxHeartbeats 200000 in
theorem lx_cn (h : lx_v tp L kw v) : ∀ n p x N, n = L - p → p ≤ L → n < N → fX9_takeNumber_L5 N (lx_u v p x) = fX9_takeNumber_b66 (lx_u v (lx_n tp L n p x).1 (lx_n tp L n p x).2) := by
  have hL := h.2.1
  intro n
  induction n with
  | zero =>
    intro p x N e hp hN
    obtain ⟨N, rfl⟩ : ∃ k, N = k + 1 := ⟨N - 1, by omega⟩
    rw [fX9_takeNumber_L5, lx_n]
    conv => lhs; unfold lx_u
    rw [q_i_ne (by omega), q_i_ne (by omega), h.1, q_i_at, if_pos (ni_ple (by omega) (by omega))]
    rfl
  | succ n ih =>
    intro p x N e hp hN
    obtain ⟨N, rfl⟩ : ∃ k, N = k + 1 := ⟨N - 1, by omega⟩
    have hb : fX9_byteAt (nI p) (lx_u v p x) = some (tp p, lx_u v p x) := by
      have hb := lx_byte (p := p) (lx_vs (k := 1803) (x := nI p) (lx_vs (k := 1807) (x := nI x) h (by omega)) (by omega)) (by omega)
      rw [lx_at_lt (show p < L by omega)] at hb
      exact hb
    have e1 : q_i (lx_u v p x) 1802 = nI L := by unfold lx_u; rw [q_i_ne (by omega), q_i_ne (by omega), h.1]
    have e2 : q_i (lx_u v p x) 1803 = nI p := by unfold lx_u; rw [q_i_at]
    have e3 : q_i (lx_u v p x) 1807 = nI x := by unfold lx_u; rw [q_i_ne (by omega), q_i_at]
    rw [fX9_takeNumber_L5, e1, e2, if_neg (ni_nle (by omega) (by omega)), hb, q_bd_s, lx_digit, q_bd_s, lx_n, if_neg (show ¬ L ≤ p by omega), lx_i0]
    by_cases c2 : lx_d (tp p)
    · rw [if_pos c2, if_pos c2, e2, hb, q_bd_s, q_lt_s, q_lt_s, q_i_ne (by omega), e2, e3, lx_dig c2, ni_add1, lx_uu, ih (p + 1) _ N (by omega) (by omega) (by omega)]
    · rw [if_neg c2, if_neg c2]
set_option maxHeartbeats 200000 in
theorem lx_kq {w : Int64} : ∀ n i, lx_k kw w n i = 259 ∨ ∃ j, i ≤ j ∧ j < i + n ∧ lx_k kw w n i = nI (300 + j) ∧ kw j = w := by
  intro n
  induction n with
  | zero => intro i; exact Or.inl rfl
  | succ n ih =>
    intro i
    rw [lx_k]
    by_cases c : kw i = w
    · rw [if_pos c]; exact Or.inr ⟨i, Nat.le_refl _, by omega, rfl, c⟩
    · rw [if_neg c]
      rcases ih (i + 1) with h | ⟨j, a, b, c, d⟩
      · exact Or.inl h
      · exact Or.inr ⟨j, by omega, by omega, c, d⟩
/-- all that a step to the next token leaves -/
def lx_fr (v v' : q_V) : Prop := (∀ k, k < 1803 ∨ k = 1804 ∨ 1808 ≤ k → q_i v' k = q_i v k) ∧ (∀ k, k ≠ 1808 → q_j v' k = q_j v k) ∧ q_a v' = q_a v ∧ q_b v' = q_b v ∧ q_f v' = q_f v ∧ q_c v' = q_c v ∧ q_n v' = q_n v
set_option maxHeartbeats 200000 in
theorem lx_fr0 : lx_fr v v := ⟨fun _ _ => rfl, fun _ _ => rfl, rfl, rfl, rfl, rfl, rfl⟩
set_option maxHeartbeats 200000 in
theorem lx_frs {v0 : q_V} {k : Nat} {x : Int32} (h : lx_fr v0 v) (hk : k = 1803 ∨ 1805 ≤ k ∧ k < 1808) : lx_fr v0 (q_si v k x) := by
  refine ⟨fun j hj => ?_, h.2.1, h.2.2.1, h.2.2.2.1, h.2.2.2.2.1, h.2.2.2.2.2.1, h.2.2.2.2.2.2⟩
  rw [q_i_ne (by omega)]; exact h.1 j hj
set_option maxHeartbeats 200000 in
theorem lx_frj {v0 : q_V} {x : Int64} (h : lx_fr v0 v) : lx_fr v0 (q_sj v 1808 x) := by
  refine ⟨h.1, fun j hj => ?_, h.2.2.1, h.2.2.2.1, h.2.2.2.2.1, h.2.2.2.2.2.1, h.2.2.2.2.2.2⟩
  rw [q_j_sj, if_neg (by omega)]; exact h.2.1 j hj
set_option maxHeartbeats 200000 in
theorem lx_fru {v0 : q_V} {p x : Nat} (h : lx_fr v0 v) : lx_fr v0 (lx_u v p x) := lx_frs (lx_frs h (by omega)) (by omega)
set_option maxHeartbeats 200000 in
theorem lx_s9 {c e : Int32} : lx_s c e ≠ 259 ∧ lx_s c e ≠ 260 ∧ lx_s c e ≠ 263 ∧ lx_s c e ≠ 261 := by
  unfold lx_s
  by_cases h : e = 61 ∧ (c = 61 ∨ c = 33 ∨ c = 60)
  · rw [if_pos h]; split
    · decide
    · split <;> decide
  · rw [if_neg h]; split
    · decide
    · rename_i g
      refine ⟨?_, ?_, ?_, ?_⟩ <;> (intro q; subst q; exact g (by decide))
/-- what stands behind a step to the next token -/
def lx_q (tp : Nat → Int32) (L : Nat) (kw : Nat → Int64) (a : Nat) (v v' : q_V) : Prop := q_i v' 1803 = nI (lx_e tp L a) ∧ q_i v' 1806 = nI a ∧ q_i v' 1805 = lx_c tp L kw a ∧ (lx_c tp L kw a = 259 → q_j v' 1808 = (lx_we tp L a).2) ∧ (lx_c tp L kw a = 260 → q_i v' 1807 = nI (lx_ne tp L a).2) ∧ lx_fr v v'
set_option maxHeartbeats 200000 in
theorem lx_ws (hL : L ≤ 3000) : ∀ n p w, n = L - p → p ≤ L → p ≤ (lx_w tp L n p w).1 ∧ (lx_w tp L n p w).1 ≤ L := by
  intro n
  induction n with
  | zero => intro p w e hp; rw [lx_w]; exact ⟨Nat.le_refl _, hp⟩
  | succ n ih =>
    intro p w e hp
    rw [lx_w, if_neg (show ¬ L ≤ p by omega)]
    split
    · have := ih (p + 1) ((w <<< ((8 : Int32).toInt64 &&& 63)) ||| (tp p).toInt64) (by omega) (by omega)
      omega
    · exact ⟨Nat.le_refl _, hp⟩
set_option maxHeartbeats 200000 in
theorem lx_ns (hL : L ≤ 3000) : ∀ n p w, n = L - p → p ≤ L → p ≤ (lx_n tp L n p w).1 ∧ (lx_n tp L n p w).1 ≤ L := by
  intro n
  induction n with
  | zero => intro p w e hp; rw [lx_n]; exact ⟨Nat.le_refl _, hp⟩
  | succ n ih =>
    intro p w e hp
    rw [lx_n, if_neg (show ¬ L ≤ p by omega)]
    split
    · have := ih (p + 1) (10 * w + ((tp p).toNatClampNeg - 48)) (by omega) (by omega)
      omega
    · exact ⟨Nat.le_refl _, hp⟩
set_option maxHeartbeats 200000 in
theorem lx_bs : ∀ n p c, n = L - p → p ≤ L → p ≤ lx_b tp L n p c ∧ lx_b tp L n p c ≤ L := by
  intro n
  induction n with
  | zero => intro p w e hp; rw [lx_b]; exact ⟨Nat.le_refl _, hp⟩
  | succ n ih =>
    intro p w e hp
    have h1 := ih (p + 1) 1 (by omega) (by omega)
    have h2 := ih (p + 1) 0 (by omega) (by omega)
    have h3 := ih (p + 1) w (by omega) (by omega)
    rw [lx_b, if_neg (show ¬ L ≤ p by omega)]
    split
    · omega
    · split
      · omega
      · split
        · omega
        · split <;> omega
end
