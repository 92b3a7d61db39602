/-! THE REFERENCE'S TOKENS -/
def tk_p (tp : Nat → Int32) (L : Nat) : Nat → Nat
  | 0 => 0
  | i + 1 => lx_e tp L (lx_a tp L (tk_p tp L i))
def tk_a (tp : Nat → Int32) (L i : Nat) : Nat := lx_a tp L (tk_p tp L i)
def tk_c (tp : Nat → Int32) (L : Nat) (kw : Nat → Int64) (i : Nat) : Int32 := lx_c tp L kw (tk_a tp L i)
/-- the reference's number of a token -/
def tk_m (c : Int32) : Int32 := if c = 261 then 0 else if c = 262 then 1 else if c = 259 then 2 else if c = 260 then 3 else if c = 256 then 301 else if c = 257 then 302 else if c = 258 then 303 else if c < 256 then c + 100 else if c < 320 then c - 290 else if c < 326 then c - 276 else c - 296
def tk_x (i : Nat) : Nat := if i < 20 then 10 + i else if i < 26 then 24 + i else 4 + i
def tk_R (tp : Nat → Int32) (L : Nat) (kw : Nat → Int64) (n : Nat) (v : q_V) : Prop := ∀ j, j < n → q_a v 2404 j = tk_m (tk_c tp L kw j) ∧ q_a v 2405 j = nI (tk_a tp L j) ∧ (tk_c tp L kw j = 259 → q_b v 2406 j = (lx_we tp L (tk_a tp L j)).2) ∧ (tk_c tp L kw j = 260 → q_b v 2406 j = Int64.ofNat (lx_ne tp L (tk_a tp L j)).2)
/-- what stands in the reference's view -/
def tk_v (tp : Nat → Int32) (L : Nat) (kw : Nat → Int64) (v : q_V) : Prop := q_i v 2402 = nI L ∧ L ≤ 3000 ∧ (∀ j, j < L → q_a v 2401 j = tp j ∧ ∃ b, b < 128 ∧ tp j = nI b) ∧ (∀ i, i < 40 → q_b v 2403 (tk_x i) = kw i) ∧ (∀ i j, i < 40 → j < 40 → kw i = kw j → i = j)
def tk_u (v : q_V) (i : Nat) (k p : Int32) (w : Int64) : q_V := q_si (q_sb (q_sa (q_sa v 2404 (upd (q_a v 2404) i k)) 2405 (upd (q_a v 2405) i p)) 2406 (vp_updL (q_b v 2406) i w)) 2407 (nI (i + 1))
section
variable {tp : Nat → Int32} {L : Nat} {kw : Nat → Int64} {v : q_V}
set_option maxHeartbeats 200000 in
theorem tk_tok {i : Nat} {k p : Int32} {w : Int64} (h : q_i v 2407 = nI i) (hi : i < 3002) : fX12_token k p w v = some (tk_u v i k p w) := by
  unfold fX12_token tk_u
  have gn : (nI i < 0) = False := ni_neg (by omega)
  have gl : (3002 ≤ i) = False := eq_false (by omega)
  simp only [h, q_i_sa, q_i_sb, q_lt_s, gn, gl, or_self, ↓reduceIte, ni_clamp (show i < 2147483648 by omega), q_a_sa, q_b_sa, Nat.reduceEqDiff, ni_add1]
set_option maxHeartbeats 200000 in
theorem tk_at {p : Nat} (h : tk_v tp L kw v) (hp : p < 2147483648) : fX12_at (nI p) v = some (lx_at tp L p, v) := by
  have hL := h.2.1
  unfold fX12_at fX12_at_b18
  by_cases c : p < L
  · rw [if_neg (by rw [h.1]; exact ni_nle c (by omega)), if_neg (ni_nin (by omega) (by omega)), ni_clamp hp, (h.2.2.1 p c).1, lx_at_lt c]
  · rw [if_pos (by rw [h.1]; exact ni_ple (by omega) hp)]; unfold lx_at; rw [if_neg c]
set_option maxHeartbeats 200000 in
theorem tk_cb (h : tk_v tp L kw v) (x : Int32) : ∀ n p (c : Int32) N, n = L - p → p ≤ L → n < N → (c = 0 ∨ c = 1) → fX12_behindBlanks_L4 x N (nI p) c v = some (nI (lx_b tp L n p c), v) := by
  have hL := h.2.1
  intro n
  induction n with
  | zero =>
    intro p c N e hp hN hc
    obtain ⟨N, rfl⟩ : ∃ k, N = k + 1 := ⟨N - 1, by omega⟩
    rw [fX12_behindBlanks_L4, h.1, if_pos (ni_ple (by omega) (by omega)), lx_b]; rfl
  | succ n ih =>
    intro p c N e hp hN hc
    obtain ⟨N, rfl⟩ : ∃ k, N = k + 1 := ⟨N - 1, by omega⟩
    have gn : (nI p < 0) = False := ni_neg (by omega)
    have gl : (3000 ≤ p) = False := eq_false (by omega)
    have ec : (nI p).toNatClampNeg = p := ni_clamp (by omega)
    have et := (h.2.2.1 p (by omega)).1
    have i1 := ih (p + 1) 1 N (by omega) (by omega) (by omega) (Or.inr rfl)
    have i0 := ih (p + 1) 0 N (by omega) (by omega) (by omega) (Or.inl rfl)
    rw [fX12_behindBlanks_L4, h.1, if_neg (ni_nle (by omega) (by omega)), lx_b, if_neg (show ¬ L ≤ p by omega)]
    unfold fX12_behindBlanks_b49 fX12_behindBlanks_b79 fX12_behindBlanks_b75 fX12_behindBlanks_b80 fX12_behindBlanks_b87
    simp only [gn, gl, or_self, ↓reduceIte, ec, et, q_lt_s, ni_add1, i0, i1]
    rcases hc with hc | hc
    · subst hc
      by_cases c1 : tp p = 35
      · simp only [c1, ↓reduceIte, show ¬ (35 : Int32) = 10 by decide, show ¬ (35 : Int32) = 32 by decide]
      · by_cases c2 : tp p = 10
        · simp only [c2, ↓reduceIte, show ¬ (10 : Int32) = 35 by decide]
        · by_cases c3 : tp p = 32
          · simp only [c3, ↓reduceIte, show ¬ (32 : Int32) = 35 by decide, show ¬ (32 : Int32) = 10 by decide]
          · simp only [c1, c2, c3, ↓reduceIte]
    · subst hc
      by_cases c1 : tp p = 35
      · simp only [c1, ↓reduceIte, show ¬ (35 : Int32) = 10 by decide, show ¬ (1 : Int32) = 0 by decide]
      · by_cases c2 : tp p = 10
        · simp only [c2, ↓reduceIte, show ¬ (10 : Int32) = 35 by decide, show ¬ (1 : Int32) = 0 by decide]
        · simp only [c1, c2, ↓reduceIte, show ¬ (1 : Int32) = 0 by decide, ite_self]
set_option maxHeartbeats 200000 in
theorem tk_blank (h : tk_v tp L kw v) {p : Nat} (hp : p ≤ L) : fX12_behindBlanks (nI p) v = some (nI (lx_a tp L p), v) := by
  have hL := h.2.1
  exact tk_cb h (nI p) (L - p) p 0 q_N rfl hp (by unfold q_N; omega) (Or.inl rfl)
set_option maxHeartbeats 200000 in
theorem tk_blankO (h : tk_v tp L kw v) {p : Nat} (hp : L ≤ p) (hp2 : p < 2147483648) : fX12_behindBlanks (nI p) v = some (nI p, v) := by
  have hL := h.2.1
  unfold fX12_behindBlanks q_N
  rw [fX12_behindBlanks_L4, h.1, if_pos (ni_ple hp hp2)]; rfl
set_option maxHeartbeats 200000 in
theorem lx_0 : ¬ lx_l 0 ∧ ¬ lx_d 0 := by decide
set_option maxHeartbeats 200000 in
theorem lx_w1 : ∀ n p (w w' : Int64), (lx_w tp L n p w).1 = (lx_w tp L n p w').1 := by
  intro n
  induction n with
  | zero => intro p w w'; rfl
  | succ n ih =>
    intro p w w'
    rw [lx_w, lx_w]
    split
    · rfl
    · split
      · exact ih _ _ _
      · rfl
set_option maxHeartbeats 200000 in
/-- a word's bytes -/
theorem tk_cw (h : tk_v tp L kw v) {a : Nat} : ∀ n p (w : Int64) N, n = L - p → a ≤ p → p ≤ L → n < N → ∃ w', fX12_scanName_L4 (nI a) N (nI p) w v = fX12_scanName_b70 (nI a) (nI (lx_w tp L n p w).1) w' (if (lx_w tp L n p w).1 - a ≤ 8 then 2 else 1) v ∧ ((lx_w tp L n p w).1 - a ≤ 8 → w' = (lx_w tp L n p w).2) := by
  have hL := h.2.1
  intro n
  induction n with
  | zero =>
    intro p w N e ha hp hN
    obtain ⟨N, rfl⟩ : ∃ k, N = k + 1 := ⟨N - 1, by omega⟩
    refine ⟨w, ?_, fun _ => rfl⟩
    have e0 : lx_at tp L p = 0 := by unfold lx_at; rw [if_neg (by omega)]
    rw [fX12_scanName_L4, tk_at h (by omega), q_bd_s, e0, lx_rletter, q_bd_s, lx_i0, if_neg lx_0.1, tk_at h (by omega), q_bd_s, e0, lx_rdigit, q_bd_s, lx_i0, if_neg lx_0.2, lx_w]
    rw [ni_sub ha, show (8 : Int32) = nI 8 from rfl]
    by_cases c : p - a ≤ 8
    · rw [if_pos (ni_ple c (by omega)), if_pos c]
    · rw [if_neg (ni_nle (by omega) (by omega)), if_neg c]
  | succ n ih =>
    intro p w N e ha hp hN
    obtain ⟨N, rfl⟩ : ∃ k, N = k + 1 := ⟨N - 1, by omega⟩
    have e0 : lx_at tp L p = tp p := lx_at_lt (by omega)
    have eat : fX12_at (nI p) v = some (tp p, v) := by rw [tk_at h (by omega), e0]
    have key : ∃ w', fX12_scanName_b26 (nI a) (nI p) w (fun xn2_ wn3_ S_ => fX12_scanName_L4 (nI a) N xn2_ wn3_ S_) v = fX12_scanName_b70 (nI a) (nI (lx_w tp L n (p + 1) ((w <<< ((8 : Int32).toInt64 &&& 63)) ||| (tp p).toInt64)).1) w' (if (lx_w tp L n (p + 1) ((w <<< ((8 : Int32).toInt64 &&& 63)) ||| (tp p).toInt64)).1 - a ≤ 8 then 2 else 1) v ∧ ((lx_w tp L n (p + 1) ((w <<< ((8 : Int32).toInt64 &&& 63)) ||| (tp p).toInt64)).1 - a ≤ 8 → w' = (lx_w tp L n (p + 1) ((w <<< ((8 : Int32).toInt64 &&& 63)) ||| (tp p).toInt64)).2) := by
      unfold fX12_scanName_b26 fX12_scanName_b50
      rw [ni_sub ha]
      by_cases c : 8 ≤ p - a
      · rw [if_pos (show (8 : Int32) ≤ nI (p - a) from ni_ple (a := 8) c (by omega)), q_lt_s, ni_add1]
        obtain ⟨w', h1, h2⟩ := ih (p + 1) w N (by omega) (by omega) (by omega) (by omega)
        have hs := lx_ws (tp := tp) hL n (p + 1) w (by omega) (by omega)
        have hx : (lx_w tp L n (p + 1) ((w <<< ((8 : Int32).toInt64 &&& 63)) ||| (tp p).toInt64)).1 = (lx_w tp L n (p + 1) w).1 := lx_w1 n (p + 1) _ _
        rw [hx]
        exact ⟨w', h1, fun q => absurd q (by omega)⟩
      · rw [if_neg (show ¬ (8 : Int32) ≤ nI (p - a) from ni_nle (a := 8) (by omega) (by omega)), if_neg (ni_nin (by omega) (by omega)), q_lt_s, ni_add1, ni_clamp (by omega), (h.2.2.1 p (by omega)).1]
        exact ih (p + 1) _ N (by omega) (by omega) (by omega) (by omega)
    rw [fX12_scanName_L4, eat, q_bd_s, lx_rletter, q_bd_s, lx_i0, lx_w, if_neg (show ¬ L ≤ p by omega)]
    by_cases c1 : lx_l (tp p)
    · rw [if_pos c1, if_pos (Or.inl c1)]; exact key
    · rw [if_neg c1, eat, q_bd_s, lx_rdigit, q_bd_s, lx_i0]
      by_cases c2 : lx_d (tp p)
      · rw [if_pos c2, if_pos (Or.inr c2)]; exact key
      · rw [if_neg c2, if_neg (show ¬ (lx_l (tp p) ∨ lx_d (tp p)) by intro q; exact q.elim c1 c2)]
        refine ⟨w, ?_, fun _ => rfl⟩
        rw [ni_sub ha, show (8 : Int32) = nI 8 from rfl]
        by_cases c : p - a ≤ 8
        · rw [if_pos (ni_ple c (by omega)), if_pos c]
        · rw [if_neg (ni_nle (by omega) (by omega)), if_neg c]
end
