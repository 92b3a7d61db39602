/-! THE REFERENCE'S SIGNS, AND ITS ROW OF TOKENS -/
def tk_s (c t : Int32) : Int32 × Int32 := if c = 33 then (if t = 0 then 1 else 302, t) else if c = 37 then (100 + c, 0) else if c = 40 then (100 + c, 0) else if c = 41 then (100 + c, 0) else if c = 42 then (100 + c, 0) else if c = 43 then (100 + c, 0) else if c = 44 then (100 + c, 0) else if c = 45 then (100 + c, 0) else if c = 47 then (100 + c, 0) else if c = 58 then (100 + c, 0) else if c = 59 then (100 + c, 0) else if c = 60 then (if t = 0 then 100 + c else 303, t) else if c = 61 then (if t = 0 then 100 + c else 301, t) else if c = 123 then (100 + c, 0) else if c = 125 then (100 + c, 0) else (1, t)
set_option maxHeartbeats 200000 in
theorem tk_sg {x1 c t : Int32} {v : q_V} : fX12_scanSign_b24 x1 c t v = fX12_scanSign_b225 x1 (tk_s c t).2 (tk_s c t).1 v := by
  unfold fX12_scanSign_b24 tk_s fX12_scanSign_b220 fX12_scanSign_b160 fX12_scanSign_b204 fX12_scanSign_b185
  by_cases c33 : c = 33
  · rw [if_pos c33, if_pos c33]; split <;> rfl
  rw [if_neg c33, if_neg c33]
  by_cases c37 : c = 37
  · rw [if_pos c37, if_pos c37]; rfl
  rw [if_neg c37, if_neg c37]
  by_cases c40 : c = 40
  · rw [if_pos c40, if_pos c40]; rfl
  rw [if_neg c40, if_neg c40]
  by_cases c41 : c = 41
  · rw [if_pos c41, if_pos c41]; rfl
  rw [if_neg c41, if_neg c41]
  by_cases c42 : c = 42
  · rw [if_pos c42, if_pos c42]; rfl
  rw [if_neg c42, if_neg c42]
  by_cases c43 : c = 43
  · rw [if_pos c43, if_pos c43]; rfl
  rw [if_neg c43, if_neg c43]
  by_cases c44 : c = 44
  · rw [if_pos c44, if_pos c44]; rfl
  rw [if_neg c44, if_neg c44]
  by_cases c45 : c = 45
  · rw [if_pos c45, if_pos c45]; rfl
  rw [if_neg c45, if_neg c45]
  by_cases c47 : c = 47
  · rw [if_pos c47, if_pos c47]; rfl
  rw [if_neg c47, if_neg c47]
  by_cases c58 : c = 58
  · rw [if_pos c58, if_pos c58]; rfl
  rw [if_neg c58, if_neg c58]
  by_cases c59 : c = 59
  · rw [if_pos c59, if_pos c59]; rfl
  rw [if_neg c59, if_neg c59]
  by_cases c60 : c = 60
  · rw [if_pos c60, if_pos c60]; split <;> rfl
  rw [if_neg c60, if_neg c60]
  by_cases c61 : c = 61
  · rw [if_pos c61, if_pos c61]; split <;> rfl
  rw [if_neg c61, if_neg c61]
  by_cases c123 : c = 123
  · rw [if_pos c123, if_pos c123]; rfl
  rw [if_neg c123, if_neg c123]
  by_cases c125 : c = 125
  · rw [if_pos c125, if_pos c125]; rfl
  rw [if_neg c125, if_neg c125]
set_option maxHeartbeats 200000 in
theorem tk_sv : ∀ n, n < 128 → tk_m (lx_s (nI n) 61) = (tk_s (nI n) 1).1 ∧ tk_m (lx_s (nI n) 0) = (tk_s (nI n) 0).1 ∧ ((tk_s (nI n) 1).1 ≠ 1 → (tk_s (nI n) 1).2 = (if nI n = 61 ∨ nI n = 33 ∨ nI n = 60 then 1 else 0)) ∧ ((tk_s (nI n) 0).2 = 0) ∧ ((tk_s (nI n) 1).2 = 0 ∨ (tk_s (nI n) 1).2 = 1) ∧ ((lx_s (nI n) 61) ≠ 262 → (tk_s (nI n) 1).1 ≠ 1) := by decide +kernel
set_option maxHeartbeats 200000 in
theorem lx_s0 {c e : Int32} (h : e ≠ 61) : lx_s c e = lx_s c 0 := by
  unfold lx_s
  rw [if_neg (fun q => h q.1), if_neg (show ¬ ((0 : Int32) = 61 ∧ (c = 61 ∨ c = 33 ∨ c = 60)) from fun q => absurd q.1 (by decide))]
section
variable {tp : Nat → Int32} {L : Nat} {kw : Nat → Int64} {v : q_V}
/-- all that the row of tokens leaves -/
def tk_fr (v v' : q_V) : Prop := (∀ k, k ≠ 2407 → q_i v' k = q_i v k) ∧ q_j v' = q_j v ∧ (∀ k, k ≠ 2404 → k ≠ 2405 → q_a v' k = q_a v k) ∧ (∀ k, k ≠ 2406 → q_b v' k = q_b v k) ∧ q_f v' = q_f v ∧ q_c v' = q_c v ∧ q_n v' = q_n v
set_option maxHeartbeats 200000 in
theorem tk_fru {v0 : q_V} {i : Nat} {k p : Int32} {w : Int64} (f : tk_fr v0 v) : tk_fr v0 (tk_u v i k p w) := by
  unfold tk_u
  refine ⟨fun j hj => ?_, f.2.1, fun j h1 h2 => ?_, fun j h1 => ?_, f.2.2.2.2.1, f.2.2.2.2.2.1, f.2.2.2.2.2.2⟩
  · rw [q_i_ne hj]; exact f.1 j hj
  · rw [q_a_si, q_a_sb, q_a_sa, if_neg h2, q_a_sa, if_neg h1]; exact f.2.2.1 j h1 h2
  · rw [q_b_si, q_b_sb, if_neg h1]; exact f.2.2.2.1 j h1
set_option maxHeartbeats 200000 in
theorem tk_vu {i : Nat} {k p : Int32} {w : Int64} (h : tk_v tp L kw v) : tk_v tp L kw (tk_u v i k p w) := by
  unfold tk_u
  refine ⟨?_, h.2.1, fun j hj => ?_, fun j hj => ?_, h.2.2.2.2⟩
  · rw [q_i_ne (by omega)]; exact h.1
  · rw [q_a_si, q_a_sb, q_a_sa, if_neg (by omega), q_a_sa, if_neg (by omega)]; exact h.2.2.1 j hj
  · rw [q_b_si, q_b_sb, if_neg (by omega)]; exact h.2.2.2.1 j hj
set_option maxHeartbeats 200000 in
theorem tk_Ru {i : Nat} {k p : Int32} {w : Int64} (h : tk_R tp L kw i v) (hk : k = tk_m (tk_c tp L kw i)) (hp : p = nI (tk_a tp L i)) (h9 : tk_c tp L kw i = 259 → w = (lx_we tp L (tk_a tp L i)).2) (h6 : tk_c tp L kw i = 260 → w = Int64.ofNat (lx_ne tp L (tk_a tp L i)).2) : tk_R tp L kw (i + 1) (tk_u v i k p w) := by
  unfold tk_u
  intro j hj
  rw [q_a_si, q_a_sb, q_a_sa, if_neg (by omega), q_a_sa, if_pos rfl, q_a_sa, if_pos rfl, q_b_si, q_b_sb, if_pos rfl]
  unfold upd vp_updL
  by_cases c : j = i
  · subst c
    rw [if_pos rfl, if_pos rfl, if_pos rfl]
    exact ⟨hk, hp, h9, h6⟩
  · rw [if_neg c, if_neg c, if_neg c]
    exact h j (by omega)
set_option maxHeartbeats 200000 in
theorem tk_iu {i : Nat} {k p : Int32} {w : Int64} : q_i (tk_u v i k p w) 2407 = nI (i + 1) := by unfold tk_u; rw [q_i_at]
set_option maxHeartbeats 200000 in
theorem lx_wl : ∀ n p w, p ≤ (lx_w tp L n p w).1 := by
  intro n
  induction n with
  | zero => intro p w; rw [lx_w]; exact Nat.le_refl _
  | succ n ih =>
    intro p w
    rw [lx_w]
    split
    · exact Nat.le_refl _
    · split
      · exact Nat.le_trans (Nat.le_succ p) (ih _ _)
      · exact Nat.le_refl _
set_option maxHeartbeats 200000 in
theorem lx_nl : ∀ n p w, p ≤ (lx_n tp L n p w).1 := by
  intro n
  induction n with
  | zero => intro p w; rw [lx_n]; exact Nat.le_refl _
  | succ n ih =>
    intro p w
    rw [lx_n]
    split
    · exact Nat.le_refl _
    · split
      · exact Nat.le_trans (Nat.le_succ p) (ih _ _)
      · exact Nat.le_refl _
set_option maxHeartbeats 200000 in
theorem lx_wg {a : Nat} {w : Int64} (ha : a < L) (c : lx_l (tp a)) : a < (lx_w tp L (L - a) a w).1 := by
  obtain ⟨n, hn⟩ : ∃ n, L - a = n + 1 := ⟨L - a - 1, by omega⟩
  rw [hn, lx_w, if_neg (by omega), if_pos (Or.inl c)]
  have := lx_wl (tp := tp) (L := L) n (a + 1) ((w <<< ((8 : Int32).toInt64 &&& 63)) ||| (tp a).toInt64)
  omega
set_option maxHeartbeats 200000 in
theorem lx_ng {a w : Nat} (ha : a < L) (c : lx_d (tp a)) : a < (lx_n tp L (L - a) a w).1 := by
  obtain ⟨n, hn⟩ : ∃ n, L - a = n + 1 := ⟨L - a - 1, by omega⟩
  rw [hn, lx_n, if_neg (by omega), if_pos c]
  have := lx_nl (tp := tp) (L := L) n (a + 1) (10 * w + ((tp a).toNatClampNeg - 48))
  omega
set_option maxHeartbeats 200000 in
/-- one token -/
theorem tk_one {i a : Nat} (h : tk_v tp L kw v) (hi : q_i v 2407 = nI i) (h3 : i < 3002) (ha : a < L) (ea : a = tk_a tp L i) {K : Int32 → q_V → Option q_V} : ∃ w p', fX12_scan_b41 (nI a) K v = q_bd (fX12_behindBlanks (nI p') (tk_u v i (tk_m (tk_c tp L kw i)) (nI a) w)) (fun y T => K y T) ∧ (tk_c tp L kw i = 259 → w = (lx_we tp L a).2) ∧ (tk_c tp L kw i = 260 → w = Int64.ofNat (lx_ne tp L a).2) ∧ p' < 5000 ∧ (tk_c tp L kw i ≠ 262 → p' = lx_e tp L a) := by
  have hL := h.2.1
  have hc : tk_c tp L kw i = lx_c tp L kw a := by rw [ea]; rfl
  obtain ⟨b, hb, eb⟩ := (h.2.2.1 a ha).2
  have nL : ¬ L ≤ a := by omega
  unfold fX12_scan_b41 fX12_scan_b88 fX12_scan_b101
  rw [if_neg (ni_nin (by omega) (by omega)), ni_clamp (by omega), (h.2.2.1 a ha).1, q_lt_s, lx_rletter, q_bd_s, lx_i0]
  by_cases c1 : lx_l (tp a)
  · rw [if_pos c1]
    obtain ⟨w, e1, e2⟩ := tk_cw h (a := a) (L - a) a 0 q_N rfl (Nat.le_refl _) (by omega) (by unfold q_N; omega)
    have hws := lx_ws (tp := tp) hL (L - a) a 0 rfl (by omega)
    have hg := lx_wg (tp := tp) (w := 0) (by omega) c1
    have ew : lx_w tp L (L - a) a 0 = lx_we tp L a := rfl
    rw [ew] at e1 e2 hws hg
    have ec : lx_c tp L kw a = (if (lx_we tp L a).1 - a ≤ 8 then lx_k kw (lx_we tp L a).2 40 0 else 262) := by unfold lx_c; rw [if_neg nL, if_pos c1]
    have ee : lx_e tp L a = (lx_we tp L a).1 := by unfold lx_e; rw [if_neg nL, if_pos c1]
    refine ⟨w, (lx_we tp L a).1, ?_, ?_, ?_, by omega, fun _ => ee.symm⟩
    · unfold fX12_scanName
      rw [e1, hc, ec]
      by_cases c8 : (lx_we tp L a).1 - a ≤ 8
      · rw [if_pos c8, if_pos c8, tk_word h, e2 c8, tk_tok hi h3, q_bv_s, q_bd_s, if_neg (ni_nle hg (by omega))]
      · rw [if_neg c8, if_neg c8]
        unfold fX12_scanName_b70
        rw [show (10 : Int32) = nI 10 from rfl, tk_wA (by decide) 40 10 q_N (by omega) (by unfold q_N; omega), tk_tok hi h3, q_bv_s, q_bd_s, if_neg (ni_nle hg (by omega))]
        rfl
    · rw [hc, ec]; intro q
      by_cases c8 : (lx_we tp L a).1 - a ≤ 8
      · exact e2 c8
      · rw [if_neg c8] at q; exact absurd q (by decide)
    · rw [hc, ec]; intro q
      by_cases c8 : (lx_we tp L a).1 - a ≤ 8
      · rw [if_pos c8] at q
        rcases lx_kq (kw := kw) (w := (lx_we tp L a).2) 40 0 with g | ⟨j, _, hj, g, _⟩
        · rw [g] at q; exact absurd q (by decide)
        · rw [g, show (260 : Int32) = nI 260 from rfl, ni_eq (by omega) (by omega)] at q; omega
      · rw [if_neg c8] at q; exact absurd q (by decide)
  · rw [if_neg c1, lx_rdigit, q_bd_s, lx_i0]
    by_cases c2 : lx_d (tp a)
    · rw [if_pos c2]
      obtain ⟨w, e1, e2⟩ := tk_cn h (a := a) (L - a) a 0 q_N rfl (Nat.le_refl _) (by omega) (by unfold q_N; omega)
      have hws := lx_ns (tp := tp) hL (L - a) a 0 rfl (by omega)
      have hg := lx_ng (tp := tp) (w := 0) (by omega) c2
      have ew : lx_n tp L (L - a) a 0 = lx_ne tp L a := rfl
      rw [ew] at e1 e2 hws hg
      have ec : lx_c tp L kw a = (if (lx_ne tp L a).1 - a ≤ 9 then 260 else 262) := by unfold lx_c; rw [if_neg nL, if_neg c1, if_pos c2]
      have ee : lx_e tp L a = (lx_ne tp L a).1 := by unfold lx_e; rw [if_neg nL, if_neg c1, if_pos c2]
      refine ⟨w, (lx_ne tp L a).1, ?_, ?_, ?_, by omega, fun _ => ee.symm⟩
      · unfold fX12_scanNumber
        rw [show (0 : Int64) = Int64.ofNat 0 from rfl, e1, hc, ec]
        unfold fX12_scanNumber_b65
        by_cases c9 : (lx_ne tp L a).1 - a ≤ 9
        · rw [if_pos c9, if_pos c9, tk_tok hi h3, q_bv_s, q_bd_s, if_neg (ni_nle hg (by omega))]
          rfl
        · rw [if_neg c9, if_neg c9, tk_tok hi h3, q_bv_s, q_bd_s, if_neg (ni_nle hg (by omega))]
          rfl
      · rw [hc, ec]; intro q
        split at q <;> exact absurd q (by decide)
      · rw [hc, ec]; intro q
        by_cases c9 : (lx_ne tp L a).1 - a ≤ 9
        · exact e2 c9
        · rw [if_neg c9] at q; exact absurd q (by decide)
    · rw [if_neg c2]
      have ec : lx_c tp L kw a = lx_s (tp a) (lx_at tp L (a + 1)) := by unfold lx_c; rw [if_neg nL, if_neg c1, if_neg c2]
      have ee : lx_e tp L a = (if lx_at tp L (a + 1) = 61 ∧ (tp a = 61 ∨ tp a = 33 ∨ tp a = 60) then a + 2 else a + 1) := by unfold lx_e; rw [if_neg nL, if_neg c1, if_neg c2]
      have sv := tk_sv b hb
      rw [← eb] at sv
      unfold fX12_scanSign
      rw [if_neg (ni_nin (by omega) (by omega)), ni_clamp (by omega), (h.2.2.1 a ha).1, q_lt_s, ni_add1, tk_at h (by omega), q_bd_s]
      by_cases c : lx_at tp L (a + 1) = 61
      · rw [c] at ec
        rw [if_pos c, tk_sg]
        unfold fX12_scanSign_b225 fX12_scanSign_b243
        rw [tk_tok hi h3, q_bv_s]
        rcases sv.2.2.2.2.1 with z | z
        · refine ⟨0, a + 1, ?_, ?_, ?_, by omega, ?_⟩
          · rw [z, if_pos rfl, q_bd_s, ni_add1, if_neg (ni_nle (by omega) (by omega)), hc, ec, sv.1]
          · rw [hc, ec]; exact fun q => absurd q lx_s9.1
          · rw [hc, ec]; exact fun q => absurd q lx_s9.2.1
          · rw [hc, ec]; intro q
            have g := sv.2.2.1 (sv.2.2.2.2.2 q)
            rw [z] at g
            by_cases cc : tp a = 61 ∨ tp a = 33 ∨ tp a = 60
            · rw [if_pos cc] at g; exact absurd g (by decide)
            · rw [ee, if_neg (fun q => cc q.2)]
        · refine ⟨0, a + 2, ?_, ?_, ?_, by omega, ?_⟩
          · rw [z, if_neg (by decide), q_bd_s, show nI a + 2 = nI (a + 2) from ni_add (b := 2), if_neg (ni_nle (by omega) (by omega)), hc, ec, sv.1]
          · rw [hc, ec]; exact fun q => absurd q lx_s9.1
          · rw [hc, ec]; exact fun q => absurd q lx_s9.2.1
          · rw [hc, ec]; intro q
            have g := sv.2.2.1 (sv.2.2.2.2.2 q)
            rw [z] at g
            by_cases cc : tp a = 61 ∨ tp a = 33 ∨ tp a = 60
            · rw [ee, if_pos ⟨c, cc⟩]
            · rw [if_neg cc] at g; exact absurd g (by decide)
      · rw [lx_s0 c] at ec
        rw [if_neg c, tk_sg]
        unfold fX12_scanSign_b225 fX12_scanSign_b243
        rw [tk_tok hi h3, q_bv_s, if_pos sv.2.2.2.1]
        refine ⟨0, a + 1, ?_, ?_, ?_, by omega, ?_⟩
        · rw [q_bd_s, ni_add1, if_neg (ni_nle (by omega) (by omega)), hc, ec, sv.2.1]
        · rw [hc, ec]; exact fun q => absurd q lx_s9.1
        · rw [hc, ec]; exact fun q => absurd q lx_s9.2.1
        · intro _; rw [ee, if_neg (fun q => c q.1)]
end
