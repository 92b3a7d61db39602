def tk_V : List Int32 := [261, 262, 259, 260, 256, 257, 258, 40, 41, 123, 125, 44, 59, 58, 61, 60, 43, 45, 42, 47, 37, 300, 301, 302, 303, 304, 305, 306, 307, 308, 309, 310, 311, 312, 313, 314, 315, 316, 317, 318, 319, 320, 321, 322, 323, 324, 325, 326, 327, 328, 329, 330, 331, 332, 333, 334, 335, 336, 337, 338, 339]
set_option maxHeartbeats 200000 in
theorem tk_Vi : ∀ x ∈ tk_V, ∀ y ∈ tk_V, tk_m x = tk_m y → x = y := by decide +kernel
set_option maxHeartbeats 200000 in
theorem tk_Vs : ∀ n, n < 128 → lx_s (nI n) 61 ∈ tk_V ∧ lx_s (nI n) 0 ∈ tk_V := by decide +kernel
set_option maxHeartbeats 200000 in
theorem tk_Vk : ∀ j, j < 40 → nI (300 + j) ∈ tk_V := by decide +kernel
section
variable {tp : Nat → Int32} {L : Nat} {kw : Nat → Int64} {v : q_V}
set_option maxHeartbeats 200000 in
theorem lx_cV {a : Nat} (hb : ∀ j, j < L → ∃ b, b < 128 ∧ tp j = nI b) : lx_c tp L kw a ∈ tk_V := by
  unfold lx_c
  by_cases c : L ≤ a
  · rw [if_pos c]; decide
  · rw [if_neg c]
    split
    · split
      · rcases lx_kq (kw := kw) (w := (lx_we tp L a).2) 40 0 with g | ⟨j, _, hj, g, _⟩
        · rw [g]; decide
        · rw [g]; exact tk_Vk j (by omega)
      · decide
    · split
      · split <;> decide
      · obtain ⟨b, h1, h2⟩ := hb a (by omega)
        rw [h2]
        by_cases c : lx_at tp L (a + 1) = 61
        · rw [c]; exact (tk_Vs b h1).1
        · rw [lx_s0 c]; exact (tk_Vs b h1).2
set_option maxHeartbeats 200000 in
theorem tk_cV {i : Nat} (hb : ∀ j, j < L → ∃ b, b < 128 ∧ tp j = nI b) : tk_c tp L kw i ∈ tk_V := lx_cV hb
set_option maxHeartbeats 200000 in
theorem tk_mi {i : Nat} {c : Int32} (hb : ∀ j, j < L → ∃ b, b < 128 ∧ tp j = nI b) (hc : c ∈ tk_V) : (tk_m (tk_c tp L kw i) = tk_m c) = (tk_c tp L kw i = c) := by
  apply propext
  exact ⟨tk_Vi _ (tk_cV hb) _ hc, fun h => by rw [h]⟩
set_option maxHeartbeats 200000 in
theorem lx_eb {a : Nat} (hL : L ≤ 3000) (ha : a < L) : a < lx_e tp L a ∧ lx_e tp L a ≤ L := by
  unfold lx_e
  rw [if_neg (by omega)]
  split
  · rename_i c
    exact ⟨lx_wg ha c, (lx_ws (tp := tp) hL (L - a) a 0 rfl (by omega)).2⟩
  · split
    · rename_i c
      exact ⟨lx_ng ha c, (lx_ns (tp := tp) hL (L - a) a 0 rfl (by omega)).2⟩
    · split
      · rename_i c
        have h1 := c.1
        unfold lx_at at h1
        by_cases q : a + 1 < L
        · omega
        · rw [if_neg q] at h1; exact absurd h1 (by decide)
      · omega
set_option maxHeartbeats 200000 in
theorem tk_pl (hL : L ≤ 3000) : ∀ i, tk_p tp L i ≤ L := by
  intro i
  induction i with
  | zero => exact Nat.zero_le _
  | succ i ih =>
    rw [tk_p]
    have hb : lx_a tp L (tk_p tp L i) ≤ L := (lx_bs (tp := tp) (L := L) (L - tk_p tp L i) (tk_p tp L i) 0 rfl ih).2
    by_cases c : lx_a tp L (tk_p tp L i) < L
    · exact (lx_eb hL c).2
    · unfold lx_e; rw [if_pos (by omega)]; exact hb
set_option maxHeartbeats 200000 in
theorem tk_al (hL : L ≤ 3000) (i : Nat) : tk_p tp L i ≤ tk_a tp L i ∧ tk_a tp L i ≤ L := lx_bs (tp := tp) (L := L) (L - tk_p tp L i) (tk_p tp L i) 0 rfl (tk_pl hL i)
set_option maxHeartbeats 200000 in
theorem tk_e261 {i : Nat} (hb : ∀ j, j < L → ∃ b, b < 128 ∧ tp j = nI b) : (tk_c tp L kw i = 261) ↔ L ≤ tk_a tp L i := by
  constructor
  · intro h
    rcases Nat.lt_or_ge (tk_a tp L i) L with c | c
    · exfalso
      unfold tk_c lx_c at h
      rw [if_neg (by omega)] at h
      split at h
      · split at h
        · rcases lx_kq (kw := kw) (w := (lx_we tp L (tk_a tp L i)).2) 40 0 with g | ⟨j, _, hj, g, _⟩
          · rw [g] at h; exact absurd h (by decide)
          · rw [g, show (261 : Int32) = nI 261 from rfl, ni_eq (by omega) (by omega)] at h; omega
        · exact absurd h (by decide)
      · split at h
        · split at h <;> exact absurd h (by decide)
        · exact lx_s9.2.2.2 h
    · exact c
  · intro h; unfold tk_c lx_c; rw [if_pos h]
set_option maxHeartbeats 200000 in
theorem tk_b108 {i : Nat} (h : tk_v tp L kw v) (hi : q_i v 2407 = nI i) (h3 : i < 3002) : fX12_scan_b108 v = some (tk_u v i 0 (nI L) 0) := by
  unfold fX12_scan_b108
  rw [h.1, tk_tok hi h3, q_bv_s]
set_option maxHeartbeats 200000 in
theorem tk_fr0 : tk_fr v v := ⟨fun _ _ => rfl, rfl, fun _ _ _ => rfl, fun _ _ => rfl, rfl, rfl, rfl⟩
set_option maxHeartbeats 200000 in
theorem tk_frt {v1 v2 : q_V} (f : tk_fr v v1) (g : tk_fr v1 v2) : tk_fr v v2 := ⟨fun k h => (g.1 k h).trans (f.1 k h), g.2.1.trans f.2.1, fun k h h2 => (g.2.2.1 k h h2).trans (f.2.2.1 k h h2), fun k h => (g.2.2.2.1 k h).trans (f.2.2.2.1 k h), g.2.2.2.2.1.trans f.2.2.2.2.1, g.2.2.2.2.2.1.trans f.2.2.2.2.2.1, g.2.2.2.2.2.2.trans f.2.2.2.2.2.2⟩
set_option maxHeartbeats 200000 in
theorem tk_Rk {i n : Nat} {k p : Int32} {w : Int64} (h : tk_R tp L kw n v) (hn : n ≤ i) : tk_R tp L kw n (tk_u v i k p w) := by
  unfold tk_u
  intro j hj
  rw [q_a_si, q_a_sb, q_a_sa, if_neg (by omega), q_a_sa, if_pos rfl, q_a_sa, if_pos rfl, q_b_si, q_b_sb, if_pos rfl]
  unfold upd vp_updL
  rw [if_neg (show ¬ j = i by omega), if_neg (show ¬ j = i by omega), if_neg (show ¬ j = i by omega)]
  exact h j hj
/-- how the reference's row of tokens stands -/
def tk_E (tp : Nat → Int32) (L : Nat) (kw : Nat → Int64) (m : Nat) : Prop := (∀ j, j < m → tk_c tp L kw j ≠ 261 ∧ tk_c tp L kw j ≠ 262) ∧ (tk_c tp L kw m = 261 ∨ tk_c tp L kw m = 262) ∧ m ≤ 3000
set_option maxHeartbeats 200000 in
theorem tk_loop : ∀ n i N (v : q_V), tk_v tp L kw v → q_i v 2407 = nI i → tk_R tp L kw i v → (∀ j, j < i → tk_c tp L kw j ≠ 261 ∧ tk_c tp L kw j ≠ 262) → i ≤ tk_a tp L i → L - tk_a tp L i = n → n + 2 < N → ∃ m v', fX12_scan_L11 N (nI (tk_a tp L i)) v = some v' ∧ tk_R tp L kw (m + 1) v' ∧ tk_E tp L kw m ∧ tk_fr v v' := by
  intro n
  induction n using Nat.strongRecOn with
  | ind n ih =>
    intro i N v h hi hR hj hia en hN
    obtain ⟨N, rfl⟩ : ∃ k, N = k + 2 := ⟨N - 2, by omega⟩
    have hL := h.2.1
    have hbb : ∀ j, j < L → ∃ b, b < 128 ∧ tp j = nI b := fun j q => (h.2.2.1 j q).2
    have hal := tk_al (tp := tp) hL i
    rw [fX12_scan_L11, h.1]
    by_cases c : L ≤ tk_a tp L i
    · have e1 : tk_c tp L kw i = 261 := (tk_e261 hbb).2 c
      rw [if_pos (ni_ple c (by omega)), tk_b108 h hi (by omega)]
      refine ⟨i, _, rfl, tk_Ru hR ?_ ?_ ?_ ?_, ⟨hj, Or.inl e1, by omega⟩, tk_fru tk_fr0⟩
      · rw [e1]; rfl
      · congr 1; omega
      · rw [e1]; exact fun q => absurd q (by decide)
      · rw [e1]; exact fun q => absurd q (by decide)
    · rw [if_neg (ni_nle (by omega) (by omega)), hi]
      have one : ∃ m v', fX12_scan_b41 (nI (tk_a tp L i)) (fun xn1_ S_ => fX12_scan_L11 (N + 1) xn1_ S_) v = some v' ∧ tk_R tp L kw (m + 1) v' ∧ tk_E tp L kw m ∧ tk_fr v v' := by
        obtain ⟨w, p', e1, e2, e3, e4, e5⟩ := tk_one h hi (by omega) (by omega) rfl (K := fun xn1_ S_ => fX12_scan_L11 (N + 1) xn1_ S_)
        rw [e1]
        have hR' : tk_R tp L kw (i + 1) (tk_u v i (tk_m (tk_c tp L kw i)) (nI (tk_a tp L i)) w) := tk_Ru hR rfl rfl e2 e3
        have hv' : tk_v tp L kw (tk_u v i (tk_m (tk_c tp L kw i)) (nI (tk_a tp L i)) w) := tk_vu h
        have hf' : tk_fr v (tk_u v i (tk_m (tk_c tp L kw i)) (nI (tk_a tp L i)) w) := tk_fru tk_fr0
        have hi' : q_i (tk_u v i (tk_m (tk_c tp L kw i)) (nI (tk_a tp L i)) w) 2407 = nI (i + 1) := tk_iu
        generalize tk_u v i (tk_m (tk_c tp L kw i)) (nI (tk_a tp L i)) w = v1 at *
        have e261 : tk_c tp L kw i ≠ 261 := fun q => c ((tk_e261 hbb).1 q)
        by_cases c2 : tk_c tp L kw i = 262
        · obtain ⟨p3, hp3, ep3⟩ : ∃ p3, p3 < 2147483648 ∧ fX12_behindBlanks (nI p') v1 = some (nI p3, v1) := by
            by_cases cc : p' ≤ L
            · exact ⟨_, by have : lx_a tp L p' ≤ L := (lx_bs (tp := tp) (L := L) (L - p') p' 0 rfl cc).2
                           omega, tk_blank hv' cc⟩
            · exact ⟨p', by omega, tk_blankO hv' (by omega) (by omega)⟩
          rw [ep3, q_bd_s]
          have hk : q_a v1 2404 i = 1 := by rw [(hR' i (by omega)).1, c2]; rfl
          have e9 : fX12_scan_L11 (N + 1) (nI p3) v1 = fX12_scan_b108 v1 := by
            rw [fX12_scan_L11, hv'.1]
            split
            · rfl
            · rw [hi', if_neg (by rw [ni_e0 (by omega)]; exact not_false), ni_pred, if_neg (ni_nin (by omega) (by omega)), ni_clamp (by omega), if_pos hk]
          show ∃ m v', fX12_scan_L11 (N + 1) (nI p3) v1 = some v' ∧ _
          rw [e9, tk_b108 hv' hi' (by omega)]
          exact ⟨i, _, rfl, tk_Rk hR' (by omega), ⟨hj, Or.inr c2, by omega⟩, tk_fru hf'⟩
        · have he := e5 c2
          have hlb := lx_eb (tp := tp) hL (show tk_a tp L i < L by omega)
          have hal2 := tk_al (tp := tp) hL (i + 1)
          have hpp : tk_p tp L (i + 1) = p' := by rw [he]; rfl
          have ha2 : lx_a tp L p' = tk_a tp L (i + 1) := by unfold tk_a; rw [hpp]
          rw [tk_blank hv' (by omega), q_bd_s, ha2]
          obtain ⟨m, v', x1, x2, x3, x4⟩ := ih (L - tk_a tp L (i + 1)) (by omega) (i + 1) (N + 1) v1 hv' hi' hR' (fun j q => by
            by_cases cj : j = i
            · rw [cj]; exact ⟨e261, c2⟩
            · exact hj j (by omega)) (by omega) rfl (by omega)
          exact ⟨m, v', x1, x2, x3, tk_frt hf' x4⟩
      by_cases c0 : i = 0
      · rw [if_pos (by rw [c0]; rfl)]; exact one
      · obtain ⟨i', rfl⟩ : ∃ k, i = k + 1 := ⟨i - 1, by omega⟩
        rw [if_neg (by rw [ni_e0 (by omega)]; exact not_false), ni_pred, if_neg (ni_nin (by omega) (by omega)), ni_clamp (by omega), if_neg]
        · exact one
        · rw [(hR i' (by omega)).1, show (1 : Int32) = tk_m 262 from rfl, tk_mi hbb (by decide)]
          exact (hj i' (by omega)).2
set_option maxHeartbeats 200000 in
/-- the reference's row of tokens -/
theorem tk_scan (h : tk_v tp L kw v) : ∃ m v', fX12_scan v = some v' ∧ tk_R tp L kw (m + 1) v' ∧ tk_E tp L kw m ∧ tk_fr v v' := by
  have hL := h.2.1
  unfold fX12_scan
  have h1 : tk_v tp L kw (q_si v 2407 (nI 0)) := ⟨by rw [q_i_ne (by omega)]; exact h.1, h.2⟩
  rw [q_lt_s, show (0 : Int32) = nI 0 from rfl, tk_blank h1 (Nat.zero_le _), q_bd_s]
  have ha := tk_al (tp := tp) hL 0
  obtain ⟨m, v', x1, x2, x3, x4⟩ := tk_loop (tp := tp) (L := L) (kw := kw) (L - tk_a tp L 0) 0 q_N (q_si v 2407 (nI 0)) h1 q_i_at (fun j q => absurd q (by omega)) (fun j q => absurd q (by omega)) (by omega) rfl (by unfold q_N; omega)
  exact ⟨m, v', x1, x2, x3, tk_frt (v1 := q_si v 2407 (nI 0)) ⟨fun k hk => by rw [q_i_ne hk], rfl, fun _ _ _ => rfl, fun _ _ => rfl, rfl, rfl, rfl⟩ x4⟩
end
