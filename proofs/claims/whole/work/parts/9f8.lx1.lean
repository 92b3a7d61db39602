/-! THE TOKENS OF A TEXT. `tp` its bytes, `L` how many; `kw` the forty words of the language. -/
def lx_b (tp : Nat → Int32) (L : Nat) : Nat → Nat → Int32 → Nat
  | 0, p, _ => p
  | n + 1, p, c => if L ≤ p then p else if tp p = 35 then lx_b tp L n (p + 1) 1 else if tp p = 10 then lx_b tp L n (p + 1) 0 else if tp p = 32 then lx_b tp L n (p + 1) c else if c = 0 then p else lx_b tp L n (p + 1) c
abbrev lx_l (x : Int32) : Prop := 97 ≤ x ∧ x ≤ 122
abbrev lx_d (x : Int32) : Prop := 48 ≤ x ∧ x ≤ 57
def lx_w (tp : Nat → Int32) (L : Nat) : Nat → Nat → Int64 → Nat × Int64
  | 0, p, w => (p, w)
  | n + 1, p, w => if L ≤ p then (p, w) else if lx_l (tp p) ∨ lx_d (tp p) then lx_w tp L n (p + 1) ((w <<< ((8 : Int32).toInt64 &&& 63)) ||| (tp p).toInt64) else (p, w)
def lx_n (tp : Nat → Int32) (L : Nat) : Nat → Nat → Nat → Nat × Nat
  | 0, p, x => (p, x)
  | n + 1, p, x => if L ≤ p then (p, x) else if lx_d (tp p) then lx_n tp L n (p + 1) (10 * x + ((tp p).toNatClampNeg - 48)) else (p, x)
def lx_k (kw : Nat → Int64) (w : Int64) : Nat → Nat → Int32
  | 0, _ => 259
  | n + 1, i => if kw i = w then nI (300 + i) else lx_k kw w n (i + 1)
def lx_s (c e : Int32) : Int32 := if e = 61 ∧ (c = 61 ∨ c = 33 ∨ c = 60) then (if c = 61 then 256 else if c = 33 then 257 else 258) else if q_ix ((c.toUInt32 % 65536).toInt32) < 0 then 262 else c
def lx_at (tp : Nat → Int32) (L p : Nat) : Int32 := if p < L then tp p else 0
/-- the token behind place p: where it begins, where the next is looked for, what it is, a word's bytes, a number -/
def lx_a (tp : Nat → Int32) (L p : Nat) : Nat := lx_b tp L (L - p) p 0
def lx_we (tp : Nat → Int32) (L a : Nat) : Nat × Int64 := lx_w tp L (L - a) a 0
def lx_ne (tp : Nat → Int32) (L a : Nat) : Nat × Nat := lx_n tp L (L - a) a 0
def lx_e (tp : Nat → Int32) (L a : Nat) : Nat :=
  if L ≤ a then a else if lx_l (tp a) then (lx_we tp L a).1 else if lx_d (tp a) then (lx_ne tp L a).1 else if lx_at tp L (a + 1) = 61 ∧ (tp a = 61 ∨ tp a = 33 ∨ tp a = 60) then a + 2 else a + 1
def lx_c (tp : Nat → Int32) (L : Nat) (kw : Nat → Int64) (a : Nat) : Int32 :=
  if L ≤ a then 261 else if lx_l (tp a) then (if (lx_we tp L a).1 - a ≤ 8 then lx_k kw (lx_we tp L a).2 40 0 else 262) else if lx_d (tp a) then (if (lx_ne tp L a).1 - a ≤ 9 then 260 else 262) else lx_s (tp a) (lx_at tp L (a + 1))
/-- what stands in the class's view -/
def lx_v (tp : Nat → Int32) (L : Nat) (kw : Nat → Int64) (v : q_V) : Prop := q_i v 1802 = nI L ∧ L ≤ 3000 ∧ (∀ j, j < L → q_a v 2200 j = tp j) ∧ (∀ i, i < 40 → q_b v 1801 i = kw i)
set_option maxHeartbeats 200000 in
theorem ni_ple {a b : Nat} (h : a ≤ b) (hb : b < 2147483648) : nI a ≤ nI b := by rw [ni_le (by omega) hb]; exact h
set_option maxHeartbeats 200000 in
theorem ni_nle {a b : Nat} (h : b < a) (ha : a < 2147483648) : ¬ nI a ≤ nI b := by rw [ni_le ha (by omega)]; omega
set_option maxHeartbeats 200000 in
theorem ni_plt {a b : Nat} (h : a < b) (hb : b < 2147483648) : nI a < nI b := by rw [ni_lt (by omega) hb]; exact h
set_option maxHeartbeats 200000 in
theorem ni_nlt {a b : Nat} (h : b ≤ a) (ha : a < 2147483648) : ¬ nI a < nI b := by rw [ni_lt ha (by omega)]; omega
set_option maxHeartbeats 200000 in
theorem ni_nin {a L : Nat} (h : a < L) (hL : L < 2147483648) : ¬ (nI a < 0 ∨ L ≤ (nI a).toNatClampNeg) := by rw [ni_in h hL]; exact not_false
section
variable {tp : Nat → Int32} {L : Nat} {kw : Nat → Int64} {v : q_V}
set_option maxHeartbeats 200000 in
theorem lx_vs {k : Nat} {x : Int32} (h : lx_v tp L kw v) (hk : k ≠ 1802) : lx_v tp L kw (q_si v k x) := by
  unfold lx_v at h ⊢
  rw [q_i_ne (by omega), q_a_si, q_b_si]; exact h
set_option maxHeartbeats 200000 in
theorem lx_vj {k : Nat} {x : Int64} (h : lx_v tp L kw v) : lx_v tp L kw (q_sj v k x) := h
set_option maxHeartbeats 200000 in
theorem lg_eq {x y : Int64} : (lg_cmp x y = 0) = (x = y) := by
  unfold lg_cmp
  apply propext
  constructor
  · intro h
    by_cases c : y < x
    · rw [if_pos c] at h; exact absurd h (by decide)
    · rw [if_neg c] at h
      by_cases c2 : x = y
      · exact c2
      · rw [if_neg c2] at h; exact absurd h (by decide)
  · intro h; subst h
    rw [if_neg (Int64.lt_irrefl), if_pos rfl]
set_option maxHeartbeats 200000 in
theorem lx_byte {p : Nat} (h : lx_v tp L kw v) (hp : p < 2147483648) : fX9_byteAt (nI p) v = some (lx_at tp L p, v) := by
  unfold fX9_byteAt fX9_byteAt_b30 fX9_byteAt_b31 lx_at
  have hL := h.2.1
  have e1 : (nI L ≤ nI p) = (L ≤ p) := ni_le (by omega) hp
  have e2 : ((3000 : Int32) ≤ nI p) = (3000 ≤ p) := ni_le (a := 3000) (by omega) hp
  rw [h.1]
  by_cases c : L ≤ p
  · simp only [ni_neg hp, e1, c, ↓reduceIte, show ¬ p < L by omega]
  · simp only [ni_neg hp, e1, e2, c, ↓reduceIte, show p < L by omega, show ¬ 3000 ≤ p by omega, ni_clamp hp, or_self, h.2.2.1 p (by omega)]
set_option maxHeartbeats 200000 in
theorem lx_letter {x : Int32} : fX9_isLetter x v = some (if lx_l x then 1 else 0, v) := by
  unfold fX9_isLetter fX9_isLetter_b16 fX9_isLetter_b17 lx_l
  by_cases c : x < 97
  · rw [if_pos c, if_neg (by decide), if_neg (by intro q; exact Int32.not_lt.2 q.1 c)]
  · rw [if_neg c]
    by_cases c2 : 122 < x
    · rw [if_pos c2, if_neg (by decide), if_neg (by intro q; exact Int32.not_lt.2 q.2 c2)]
    · rw [if_neg c2, if_neg (by decide), if_pos ⟨Int32.not_lt.1 c, Int32.not_lt.1 c2⟩]
set_option maxHeartbeats 200000 in
theorem lx_digit {x : Int32} : fX9_isDigit x v = some (if lx_d x then 1 else 0, v) := by
  unfold fX9_isDigit fX9_isDigit_b16 fX9_isDigit_b17 lx_d
  by_cases c : x < 48
  · rw [if_pos c, if_neg (by decide), if_neg (by intro q; exact Int32.not_lt.2 q.1 c)]
  · rw [if_neg c]
    by_cases c2 : 57 < x
    · rw [if_pos c2, if_neg (by decide), if_neg (by intro q; exact Int32.not_lt.2 q.2 c2)]
    · rw [if_neg c2, if_neg (by decide), if_pos ⟨Int32.not_lt.1 c, Int32.not_lt.1 c2⟩]
set_option maxHeartbeats 200000 in
theorem lx_rletter {x : Int32} : fX12_isLetter x v = some (if lx_l x then 1 else 0, v) := by
  unfold fX12_isLetter fX12_isLetter_b16 fX12_isLetter_b17 lx_l
  by_cases c : x < 97
  · rw [if_pos c, if_neg (by decide), if_neg (by intro q; exact Int32.not_lt.2 q.1 c)]
  · rw [if_neg c]
    by_cases c2 : 122 < x
    · rw [if_pos c2, if_neg (by decide), if_neg (by intro q; exact Int32.not_lt.2 q.2 c2)]
    · rw [if_neg c2, if_neg (by decide), if_pos ⟨Int32.not_lt.1 c, Int32.not_lt.1 c2⟩]
set_option maxHeartbeats 200000 in
theorem lx_rdigit {x : Int32} : fX12_isDigit x v = some (if lx_d x then 1 else 0, v) := by
  unfold fX12_isDigit fX12_isDigit_b16 fX12_isDigit_b17 lx_d
  by_cases c : x < 48
  · rw [if_pos c, if_neg (by decide), if_neg (by intro q; exact Int32.not_lt.2 q.1 c)]
  · rw [if_neg c]
    by_cases c2 : 57 < x
    · rw [if_pos c2, if_neg (by decide), if_neg (by intro q; exact Int32.not_lt.2 q.2 c2)]
    · rw [if_neg c2, if_neg (by decide), if_pos ⟨Int32.not_lt.1 c, Int32.not_lt.1 c2⟩]
set_option maxHeartbeats 200000 in
theorem lx_10 {c : Prop} [Decidable c] : ((if c then (1 : Int32) else 0) = 0) = ¬ c := by
  by_cases h : c <;> simp [h]
set_option maxHeartbeats 200000 in
theorem lx_i0 {c : Prop} [Decidable c] {α : Type} {x y : α} : (if (if c then (1 : Int32) else 0) = 0 then x else y) = (if c then y else x) := by
  by_cases h : c
  · rw [if_pos h, if_pos h, if_neg (by decide)]
  · rw [if_neg h, if_neg h, if_pos rfl]
set_option maxHeartbeats 200000 in
theorem lg_if {a b : Int64} {α : Type} {x y : α} : (if lg_cmp a b = 0 then x else y) = (if a = b then x else y) := by
  by_cases h : a = b
  · rw [if_pos h, if_pos (by rw [lg_eq]; exact h)]
  · rw [if_neg h, if_neg (by rw [lg_eq]; exact h)]
set_option maxHeartbeats 200000 in
/-- blanks -/
theorem lx_cb (h : lx_v tp L kw v) : ∀ n p (c : Int32) N, n = L - p → p ≤ L → n < N → fX9_passBlanks_L2 N c (q_si v 1803 (nI p)) = some (q_si v 1803 (nI (lx_b tp L n p c))) := by
  have hL := h.2.1
  intro n
  induction n with
  | zero =>
    intro p c N e hp hN
    obtain ⟨N, rfl⟩ : ∃ k, N = k + 1 := ⟨N - 1, by omega⟩
    rw [fX9_passBlanks_L2, q_i_ne (by omega), h.1, q_i_at, if_pos (ni_ple (by omega) (by omega)), lx_b]
  | succ n ih =>
    intro p c N e hp hN
    obtain ⟨N, rfl⟩ : ∃ k, N = k + 1 := ⟨N - 1, by omega⟩
    rw [fX9_passBlanks_L2, q_i_ne (by omega), h.1, q_i_at, if_neg (ni_nle (by omega) (by omega)), lx_byte (lx_vs h (by omega)) (by omega), q_bd_s, lx_b, if_neg (show ¬ L ≤ p by omega)]
    unfold lx_at fX9_passBlanks_b55
    rw [if_pos (show p < L by omega)]
    simp only [q_lt_s, q_i_si, ↓reduceIte, q_si_si, ni_add1]
    rw [ih (p + 1) 1 N (by omega) (by omega) (by omega), ih (p + 1) 0 N (by omega) (by omega) (by omega), ih (p + 1) c N (by omega) (by omega) (by omega)]
    split
    · rfl
    · split
      · rfl
      · split
        · rfl
        · split <;> rfl
end
