/-- a number above 0, in brackets or not: from token i to token j -/
def pln (g : rd_G) (i j : Nat) : Prop := ∃ k, j = i + 2 * k + 1 ∧ (∀ m, m < k → tkc g (i + m) = 40) ∧ tkc g (i + k) = 260 ∧ 0 < tkn g (i + k) ∧ (∀ m, m < k → tkc g (i + k + 1 + m) = 41)
section
variable {g : rd_G} {i n p i' n' q d k s l b e e' : Nat} {C : Nat → Int32} {r : Int32} {R : Nat → Nat → Int32} {K : rd_K} {A : rd_A} {v w : q_V}
set_option maxHeartbeats 200000 in
theorem pln_1 {a : Nat} : pln g a (a + 1) ↔ tkc g a = 260 ∧ 0 < tkn g a := by
  constructor
  · rintro ⟨k, h1, h2, h3, h4, h5⟩
    have : k = 0 := by omega
    subst this; exact ⟨h3, h4⟩
  · rintro ⟨h1, h2⟩
    exact ⟨0, by omega, fun m hm => absurd hm (by omega), h1, h2, fun m hm => absurd hm (by omega)⟩
set_option maxHeartbeats 200000 in
theorem pln_s {a c : Nat} (h : a < c) : pln g a (c + 1) ↔ tkc g a = 40 ∧ tkc g c = 41 ∧ pln g (a + 1) c := by
  constructor
  · rintro ⟨k, h1, h2, h3, h4, h5⟩
    obtain ⟨k, rfl⟩ : ∃ m, k = m + 1 := ⟨k - 1, by omega⟩
    refine ⟨h2 0 (by omega), ?_, k, by omega, fun m hm => ?_, ?_, ?_, fun m hm => ?_⟩
    · have := h5 k (by omega)
      rw [show a + (k + 1) + 1 + k = c by omega] at this; exact this
    · have := h2 (m + 1) (by omega)
      rw [show a + (m + 1) = a + 1 + m by omega] at this; exact this
    · rw [show a + 1 + k = a + (k + 1) by omega]; exact h3
    · rw [show a + 1 + k = a + (k + 1) by omega]; exact h4
    · have := h5 m (by omega)
      rw [show a + (k + 1) + 1 + m = a + 1 + k + 1 + m by omega] at this; exact this
  · rintro ⟨h1, h2, k, h3, h4, h5, h6, h7⟩
    refine ⟨k + 1, by omega, fun m hm => ?_, ?_, ?_, fun m hm => ?_⟩
    · by_cases c : m = 0
      · rw [c]; exact h1
      · have := h4 (m - 1) (by omega)
        rw [show a + 1 + (m - 1) = a + m by omega] at this; exact this
    · rw [show a + (k + 1) = a + 1 + k by omega]; exact h5
    · rw [show a + (k + 1) = a + 1 + k by omega]; exact h6
    · by_cases z : m = k
      · rw [z, show a + (k + 1) + 1 + k = c by omega]; exact h2
      · have := h7 m (by omega)
        rw [show a + (k + 1) + 1 + m = a + 1 + k + 1 + m by omega]; exact this
set_option maxHeartbeats 200000 in
theorem pln_k {a c : Nat} (h : pln g a c) : ∀ m, a ≤ m → m < c → tkc g m = 40 ∨ tkc g m = 260 ∨ tkc g m = 41 := by
  obtain ⟨k, h1, h2, h3, h4, h5⟩ := h
  intro m hm hm2
  rcases Nat.lt_trichotomy m (a + k) with z | z | z
  · have := h2 (m - a) (by omega)
    rw [show a + (m - a) = m by omega] at this; exact Or.inl this
  · rw [z]; exact Or.inr (Or.inl h3)
  · have := h5 (m - a - k - 1) (by omega)
    rw [show a + k + 1 + (m - a - k - 1) = m by omega] at this; exact Or.inr (Or.inr this)
set_option maxHeartbeats 200000 in
theorem lx_nv {tp : Nat → Int32} {L : Nat} : ∀ n p x, (lx_n tp L n p x).2 < (x + 1) * 10 ^ ((lx_n tp L n p x).1 - p) := by
  intro n
  induction n with
  | zero => intro p x; rw [lx_n]; simp only [Nat.sub_self, Nat.pow_zero]; omega
  | succ n ih =>
    intro p x
    rw [lx_n]
    split
    · simp only [Nat.sub_self, Nat.pow_zero]; omega
    · split
      · rename_i c
        have h1 := ih (p + 1) (10 * x + ((tp p).toNatClampNeg - 48))
        have h2 := lx_nl (tp := tp) (L := L) n (p + 1) (10 * x + ((tp p).toNatClampNeg - 48))
        have hz : (tp p).toNatClampNeg - 48 ≤ 9 := by
          have h2 := c.2
          have h1 : ¬ tp p < 0 := by
            intro q
            exact absurd (Int32.lt_of_le_of_lt c.1 q) (by decide)
          obtain ⟨n, hn, e⟩ := ni_ex h1
          rw [e] at h2 ⊢
          rw [show (57 : Int32) = nI 57 from rfl, ni_le hn (by omega)] at h2
          rw [ni_clamp hn]; omega
        generalize (lx_n tp L n (p + 1) (10 * x + ((tp p).toNatClampNeg - 48))).1 = u at *
        have e : u - p = (u - (p + 1)) + 1 := by omega
        rw [e, Nat.pow_succ]
        refine Nat.lt_of_lt_of_le h1 ?_
        calc (10 * x + ((tp p).toNatClampNeg - 48) + 1) * 10 ^ (u - (p + 1)) ≤ ((x + 1) * 10) * 10 ^ (u - (p + 1)) := Nat.mul_le_mul_right _ (by omega)
          _ = (x + 1) * (10 ^ (u - (p + 1)) * 10) := by rw [Nat.mul_assoc, Nat.mul_comm 10]
      · simp only [Nat.sub_self, Nat.pow_zero]; omega
set_option maxHeartbeats 200000 in
theorem tkn_b (h : tkc g i = 260) (hb : ∀ j, j < gL g → ∃ b, b < 128 ∧ g.1 j = nI b) : tkn g i < 1000000000 := by
  have h1 := lx_nv (tp := g.1) (L := gL g) (gL g - tka g i) (tka g i) 0
  have e : lx_n g.1 (gL g) (gL g - tka g i) (tka g i) 0 = lx_ne g.1 (gL g) (tka g i) := rfl
  rw [e] at h1
  have h2 : (lx_ne g.1 (gL g) (tka g i)).1 - tka g i ≤ 9 := by
    unfold tkc tk_c lx_c at h
    rw [show tk_a g.1 (gL g) i = tka g i from rfl] at h
    split at h
    · exact absurd h (by decide)
    · split at h
      · split at h
        · rcases lx_kq (kw := kw_c) (w := (lx_we g.1 (gL g) (tka g i)).2) 40 0 with z | ⟨j, _, hj, z, _⟩
          · rw [z] at h; exact absurd h (by decide)
          · rw [z, show (260 : Int32) = nI 260 from rfl, ni_eq (by omega) (by omega)] at h; omega
        · exact absurd h (by decide)
      · split at h
        · split at h
          · assumption
          · exact absurd h (by decide)
        · exact absurd h lx_s9.2.1
  unfold tkn
  refine Nat.lt_of_lt_of_le h1 ?_
  calc (0 + 1) * 10 ^ ((lx_ne g.1 (gL g) (tka g i)).1 - tka g i) ≤ 1 * 10 ^ 9 := Nat.mul_le_mul (by omega) (Nat.pow_le_pow_right (by decide) h2)
    _ = 1000000000 := by decide
set_option maxHeartbeats 200000 in
theorem r_plainL (ok : rd_ok g) (h : rdF (gw g) w) {x : Int32} : ∀ u a c N, c + 1 - a = u → c ≤ gm g → a ≤ gm g → a ≤ c + 1 → u < N → ∃ y, fX12_isPlain_L9 x N (nI a) (nI c) w = some (y, w) ∧ (y = 0 ∨ y = 1) ∧ (y = 1 ↔ pln g a (c + 1)) := by
  have hm := ok.2.2.1.2.2
  have tk := rd_tk ok h
  intro u
  induction u using Nat.strongRecOn with
  | ind u ih =>
    intro a c N hu hc ha hac hN
    obtain ⟨N, rfl⟩ : ∃ k, N = k + 1 := ⟨N - 1, by omega⟩
    have ka : ∀ t y, t ≤ gm g → y ∈ tk_V → (q_a w 2404 t = tk_m y) = (tkc g t = y) := by
      intro t y ht hy
      rw [(tk t (by omega)).1]
      exact propext ⟨fun z => tk_Vi _ (tk_cV ok.2.1) _ hy z, fun z => by rw [show tk_c g.1 (gL g) kw_c t = tkc g t from rfl, z]⟩
    have ia : ¬ (nI a < 0 ∨ 3002 ≤ (nI a).toNatClampNeg) := ni_nin (by omega) (by omega)
    have ic : ¬ (nI c < 0 ∨ 3002 ≤ (nI c).toNatClampNeg) := ni_nin (by omega) (by omega)
    have b47 : ∃ y, fX12_isPlain_b47 x (nI a) (nI c) w = some (y, w) ∧ (y = 0 ∨ y = 1) ∧ (y = 1 ↔ (a = c ∧ tkc g a = 260 ∧ 0 < tkn g a)) := by
      unfold fX12_isPlain_b47 fX12_isPlain_b77 fX12_isPlain_b78
      rw [if_neg ia, if_neg ia, if_neg (show ¬ ¬ ((0 : Int32) = 0 ∨ (0 : Int32) = 1) by decide), if_neg (show ¬ ¬ ((1 : Int32) = 0 ∨ (1 : Int32) = 1) by decide), ni_clamp (by omega)]
      by_cases z : a = c
      · rw [if_pos (by rw [z])]
        by_cases z2 : tkc g a = 260
        · rw [if_pos (show q_a w 2404 a = 3 by rw [show (3 : Int32) = tk_m 260 from rfl, ka a 260 ha (by decide)]; exact z2)]
          have e1 : q_b w 2406 a = Int64.ofNat (tkn g a) := (tk a (by omega)).2.2.2 z2
          have hb := tkn_b z2 ok.2.1
          have e2 : (lg_cmp (q_b w 2406 a) 0 ≤ 0) = ¬ 0 < tkn g a := by
            rw [← Int32.not_lt, lg_pos, e1]
            congr 1
            rw [Int64.lt_iff_toInt_lt, Int64.toInt_ofNat_of_lt (by omega)]
            have : (0 : Int64).toInt = 0 := rfl
            rw [this]; simp
          by_cases z3 : 0 < tkn g a
          · rw [if_neg (by rw [e2]; exact not_not_intro z3)]; exact ⟨1, rfl, Or.inr rfl, fun _ => ⟨z, z2, z3⟩, fun _ => rfl⟩
          · rw [if_pos (by rw [e2]; exact z3)]; exact ⟨0, rfl, Or.inl rfl, fun q => absurd q (by decide), fun q => absurd q.2.2 z3⟩
        · rw [if_neg (show ¬ q_a w 2404 a = 3 by rw [show (3 : Int32) = tk_m 260 from rfl, ka a 260 ha (by decide)]; exact z2)]
          exact ⟨0, rfl, Or.inl rfl, fun q => absurd q (by decide), fun q => absurd q.2.1 z2⟩
      · rw [if_neg (by rw [ni_eq (by omega) (by omega)]; exact z)]
        exact ⟨0, rfl, Or.inl rfl, fun q => absurd q (by decide), fun q => absurd q.1 z⟩
    rw [fX12_isPlain_L9]
    by_cases z : c ≤ a
    · rw [if_pos (ni_ple z (by omega))]
      obtain ⟨y, y1, y2, y3⟩ := b47
      refine ⟨y, y1, y2, y3.trans ?_⟩
      by_cases z2 : a = c
      · subst z2; rw [pln_1]; exact ⟨fun q => q.2, fun q => ⟨rfl, q⟩⟩
      · constructor
        · intro q; exact absurd q.1 z2
        · rintro ⟨k, h1, _⟩; omega
    · rw [if_neg (ni_nle (by omega) (by omega)), if_neg ia, if_neg ic, ni_clamp (by omega), ni_clamp (by omega)]
      have no : ¬ (tkc g a = 40 ∧ tkc g c = 41) → ∃ y, fX12_isPlain_b47 x (nI a) (nI c) w = some (y, w) ∧ (y = 0 ∨ y = 1) ∧ (y = 1 ↔ pln g a (c + 1)) := by
        intro hno
        obtain ⟨y, y1, y2, y3⟩ := b47
        refine ⟨y, y1, y2, y3.trans ⟨fun q => absurd q.1 (by omega), fun q => ?_⟩⟩
        have := (pln_s (g := g) (show a < c by omega)).1 q
        exact absurd ⟨this.1, this.2.1⟩ hno
      by_cases z2 : tkc g a = 40
      · rw [if_pos (show q_a w 2404 a = 140 by rw [show (140 : Int32) = tk_m 40 from rfl, ka a 40 ha (by decide)]; exact z2)]
        by_cases z3 : tkc g c = 41
        · rw [if_pos (show q_a w 2404 c = 141 by rw [show (141 : Int32) = tk_m 41 from rfl, ka c 41 hc (by decide)]; exact z3), q_lt_s, q_lt_s, ni_add1]
          obtain ⟨c, rfl⟩ : ∃ m, c = m + 1 := ⟨c - 1, by omega⟩
          rw [show nI (c + 1) + -1 = nI c from by rw [← Int32.sub_eq_add_neg]; exact ni_pred]
          obtain ⟨y, y1, y2, y3⟩ := ih (c + 1 - (a + 1)) (by omega) (a + 1) c N rfl (by omega) (by omega) (by omega) (by omega)
          refine ⟨y, y1, y2, y3.trans ?_⟩
          rw [pln_s (show a < c + 1 by omega)]
          exact ⟨fun q => ⟨z2, z3, q⟩, fun q => q.2.2⟩
        · rw [if_neg (show ¬ q_a w 2404 c = 141 by rw [show (141 : Int32) = tk_m 41 from rfl, ka c 41 hc (by decide)]; exact z3)]
          exact no (fun q => z3 q.2)
      · rw [if_neg (show ¬ q_a w 2404 a = 140 by rw [show (140 : Int32) = tk_m 40 from rfl, ka a 40 ha (by decide)]; exact z2)]
        exact no (fun q => z2 q.1)
set_option maxHeartbeats 200000 in
theorem r_plain {a : Nat} (ok : rd_ok g) (h : St g i n p C (i' + 1) n' q d r R K k s l b A e e' v w) (ha : a ≤ i') : ∃ y, fX12_isPlain (nI a) w = some (y, w) ∧ (y = 0 ∨ y = 1) ∧ (y = 1 ↔ pln g a (i' + 1)) := by
  have hi := h.2.2.2.2.1.2.2.2.1
  have hm := ok.2.2.1.2.2
  unfold fX12_isPlain
  rw [q_lt_s, r_i h, ni_pred]
  exact r_plainL ok h.2.1 (i' + 1 - a) a i' q_N rfl (by omega) (by omega) (by omega) (by unfold q_N; omega)
end
