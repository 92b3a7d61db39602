/-- the forty words -/
def kw_l : List Int64 := [1685419129, 7758194, 1852798053, 26982, 1701606245, 512852847717, 1700881256, 1718775661, 29807, 465557354085, 418346264942, 107127011501426, 1717660012, 1752132708, 7631481, 1835363940, 6385273, 107118487239027, 465491486066, 1937010544, 111525057884773, 125780002955636, 504364296556, 109300197323621, 2003330414, 478694368626, 28530, 6385252, 7237492, 1869636974, 1936225652, 126909663503205, 1935763820, 465558725996, 491327153000, 1734440037, 1936222576, 1751477348, 1802071652, 426836849509]
def kw_c (i : Nat) : Int64 := kw_l.getD i 0
set_option maxHeartbeats 200000 in
theorem kw_inj : ∀ i, i < 40 → ∀ j, j < 40 → kw_c i = kw_c j → i = j := by decide +kernel
set_option maxHeartbeats 200000 in
theorem kw_len : ∀ j, j < 40 → 256 ≤ (kw_c j).toBitVec.toNat ∧ (j = 0 ∨ j = 5 ∨ j = 6 ∨ j = 18 ∨ j = 20 ∨ j = 21 → 16777216 ≤ (kw_c j).toBitVec.toNat) ∧ (j = 14 → 65536 ≤ (kw_c j).toBitVec.toNat) := by decide +kernel
section
variable {tp : Nat → Int32} {L : Nat} {kw : Nat → Int64} {v : q_V}
set_option maxHeartbeats 200000 in
theorem lx_pb {w : Int64} {b k : Nat} (hw : w.toBitVec.toNat < 2 ^ (8 * k)) (hb : b < 128) : ((w <<< ((8 : Int32).toInt64 &&& 63)) ||| (nI b).toInt64).toBitVec.toNat < 2 ^ (8 * (k + 1)) := by
  rw [n64 (by omega), Int64.toBitVec_or, BitVec.toNat_or]
  apply Nat.or_lt_two_pow
  · have e : (w <<< ((8 : Int32).toInt64 &&& 63)).toBitVec = w.toBitVec <<< 8 := rfl
    rw [e, BitVec.toNat_shiftLeft, Nat.shiftLeft_eq]
    refine Nat.lt_of_le_of_lt (Nat.mod_le _ _) ?_
    rw [show 8 * (k + 1) = 8 * k + 8 by omega, Nat.pow_add]
    exact Nat.mul_lt_mul_of_pos_right hw (by decide)
  · have e : (Int64.ofNat b).toBitVec.toNat = b := by
      rw [show (Int64.ofNat b).toBitVec = BitVec.ofNat 64 b from rfl, BitVec.toNat_ofNat, Nat.mod_eq_of_lt (by omega)]
    rw [e]
    refine Nat.lt_of_lt_of_le (show b < 2 ^ 8 by omega) ?_
    exact Nat.pow_le_pow_right (by decide) (by omega)
set_option maxHeartbeats 200000 in
theorem lx_wv (hb : ∀ j, j < L → ∃ b, b < 128 ∧ tp j = nI b) : ∀ n p (w : Int64) k, n = L - p → p ≤ L → w.toBitVec.toNat < 2 ^ (8 * k) → (lx_w tp L n p w).2.toBitVec.toNat < 2 ^ (8 * (k + ((lx_w tp L n p w).1 - p))) := by
  intro n
  induction n with
  | zero => intro p w k _ _ hw; rw [lx_w]; simpa using hw
  | succ n ih =>
    intro p w k e hp hw
    rw [lx_w, if_neg (show ¬ L ≤ p by omega)]
    split
    · obtain ⟨b, h1, h2⟩ := hb p (by omega)
      have h3 := ih (p + 1) ((w <<< ((8 : Int32).toInt64 &&& 63)) ||| (tp p).toInt64) (k + 1) (by omega) (by omega) (by rw [h2]; exact lx_pb hw h1)
      have h4 := lx_wl (tp := tp) (L := L) n (p + 1) ((w <<< ((8 : Int32).toInt64 &&& 63)) ||| (tp p).toInt64)
      refine Nat.lt_of_lt_of_le h3 (Nat.pow_le_pow_right (by decide) ?_)
      omega
    · simpa using hw
set_option maxHeartbeats 200000 in
/-- a word is as long as its bytes say -/
theorem tk_kl {i j k : Nat} (hb : ∀ j, j < L → ∃ b, b < 128 ∧ tp j = nI b) (hL : L ≤ 3000) (hj : j < 40) (h : tk_c tp L kw i = nI (300 + j)) (hk : 2 ^ (8 * k) ≤ (kw j).toBitVec.toNat) : tk_a tp L i + k + 1 ≤ tk_p tp L (i + 1) ∧ lx_l (tp (tk_a tp L i)) := by
  have hal := tk_al (tp := tp) hL i
  have ep : tk_p tp L (i + 1) = lx_e tp L (tk_a tp L i) := rfl
  rw [ep]
  unfold tk_c lx_c at h
  unfold lx_e
  generalize tk_a tp L i = a at *
  by_cases c : L ≤ a
  · rw [if_pos c, show (261 : Int32) = nI 261 from rfl, ni_eq (by omega) (by omega)] at h; omega
  · rw [if_neg c] at h ⊢
    by_cases c1 : lx_l (tp a)
    · rw [if_pos c1] at h ⊢
      refine ⟨?_, c1⟩
      split at h
      · rcases lx_kq (kw := kw) (w := (lx_we tp L a).2) 40 0 with g | ⟨j', _, hj', g, ek⟩
        · rw [g, show (259 : Int32) = nI 259 from rfl, ni_eq (by omega) (by omega)] at h; omega
        · rw [g, ni_eq (by omega) (by omega)] at h
          have ej : j' = j := by omega
          subst ej
          have hv := lx_wv hb (L - a) a 0 0 rfl (by omega) (by decide)
          have ew : lx_w tp L (L - a) a 0 = lx_we tp L a := rfl
          rw [ew, ← ek, Nat.zero_add] at hv
          have h5 := Nat.lt_of_le_of_lt hk hv
          have h6 := (Nat.pow_lt_pow_iff_right (show 1 < 2 by decide)).1 h5
          omega
      · rw [show (262 : Int32) = nI 262 from rfl, ni_eq (by omega) (by omega)] at h; omega
    · rw [if_neg c1] at h
      split at h
      · split at h
        · rw [show (260 : Int32) = nI 260 from rfl, ni_eq (by omega) (by omega)] at h; omega
        · rw [show (262 : Int32) = nI 262 from rfl, ni_eq (by omega) (by omega)] at h; omega
      · exfalso
        obtain ⟨b, h1, h2⟩ := hb a (by omega)
        rw [h2] at h
        have : ∀ n, n < 128 → ∀ j, j < 40 → lx_s (nI n) 61 ≠ nI (300 + j) ∧ lx_s (nI n) 0 ≠ nI (300 + j) := by decide +kernel
        by_cases c : lx_at tp L (a + 1) = 61
        · rw [c] at h; exact (this b h1 j hj).1 h
        · rw [lx_s0 c] at h; exact (this b h1 j hj).2 h
set_option maxHeartbeats 200000 in
theorem tk_nx {i : Nat} (hL : L ≤ 3000) (hb : ∀ j, j < L → ∃ b, b < 128 ∧ tp j = nI b) (h : tk_c tp L kw i ≠ 261) : tk_a tp L i < tk_p tp L (i + 1) ∧ tk_p tp L (i + 1) ≤ tk_a tp L (i + 1) ∧ tk_a tp L (i + 1) ≤ L := by
  have hal := tk_al (tp := tp) hL i
  have hal2 := tk_al (tp := tp) hL (i + 1)
  have c : tk_a tp L i < L := by
    rcases Nat.lt_or_ge (tk_a tp L i) L with q | q
    · exact q
    · exact absurd ((tk_e261 hb).2 q) h
  have := lx_eb (tp := tp) hL c
  have ep : tk_p tp L (i + 1) = lx_e tp L (tk_a tp L i) := rfl
  omega
set_option maxHeartbeats 200000 in
theorem lx_we_end (hL : L ≤ 3000) : ∀ n p (w : Int64), n = L - p → p ≤ L → (lx_w tp L n p w).1 < L → ¬ lx_l (tp (lx_w tp L n p w).1) ∧ ¬ lx_d (tp (lx_w tp L n p w).1) := by
  intro n
  induction n with
  | zero => intro p w e hp h; rw [lx_w] at h; simp only at h; omega
  | succ n ih =>
    intro p w e hp
    rw [lx_w, if_neg (show ¬ L ≤ p by omega)]
    split
    · exact ih _ _ (by omega) (by omega)
    · rename_i c
      intro _
      exact ⟨fun q => c (Or.inl q), fun q => c (Or.inr q)⟩
set_option maxHeartbeats 200000 in
/-- between two words there is a blank -/
theorem tk_gap {i : Nat} (hL : L ≤ 3000) (hb : ∀ j, j < L → ∃ b, b < 128 ∧ tp j = nI b) (h1 : lx_l (tp (tk_a tp L i))) (h0 : tk_a tp L i < L) (h2 : tk_c tp L kw (i + 1) = 259) : tk_p tp L (i + 1) < tk_a tp L (i + 1) := by
  have hal2 := tk_al (tp := tp) hL (i + 1)
  have ep : tk_p tp L (i + 1) = lx_e tp L (tk_a tp L i) := rfl
  have ee : lx_e tp L (tk_a tp L i) = (lx_we tp L (tk_a tp L i)).1 := by unfold lx_e; rw [if_neg (by omega), if_pos h1]
  rcases Nat.lt_or_ge (tk_p tp L (i + 1)) (tk_a tp L (i + 1)) with q | q
  · exact q
  · exfalso
    have e : tk_a tp L (i + 1) = (lx_we tp L (tk_a tp L i)).1 := by omega
    have hlt : tk_a tp L (i + 1) < L := by
      rcases Nat.lt_or_ge (tk_a tp L (i + 1)) L with q | q
      · exact q
      · have := (tk_e261 (kw := kw) hb).2 q
        rw [h2] at this; exact absurd this (by decide)
    have hn := lx_we_end (tp := tp) hL (L - tk_a tp L i) (tk_a tp L i) 0 rfl (by omega) (show (lx_we tp L (tk_a tp L i)).1 < L by omega)
    have ew : lx_w tp L (L - tk_a tp L i) (tk_a tp L i) 0 = lx_we tp L (tk_a tp L i) := rfl
    rw [ew, ← e] at hn
    unfold tk_c lx_c at h2
    rw [if_neg (by omega), if_neg hn.1, if_neg hn.2] at h2
    exact lx_s9.1 h2
end
