section
variable {tp : Nat → Int32} {L : Nat} {kw : Nat → Int64} {v : q_V}
set_option maxHeartbeats 200000 in
theorem lx_sg {a : Nat} {v0 : q_V} (h : lx_v tp L kw v) (h3 : q_i v 1803 = nI a) (h6 : q_i v 1806 = nI a) (ha : a < L) (f : lx_fr v0 v) : ∃ v', fX9_takeSign (tp a) v = some v' ∧ q_i v' 1803 = nI (if lx_at tp L (a + 1) = 61 ∧ (tp a = 61 ∨ tp a = 33 ∨ tp a = 60) then a + 2 else a + 1) ∧ q_i v' 1806 = nI a ∧ q_i v' 1805 = lx_s (tp a) (lx_at tp L (a + 1)) ∧ lx_fr v0 v' := by
  have hL := h.2.1
  have hb := lx_byte (p := a + 1) (lx_vs (k := 1803) (x := nI (a + 1)) h (by omega)) (by omega)
  unfold fX9_takeSign
  rw [h3, ni_add1, q_lt_s, q_i_at, hb, q_bd_s]
  have key : ¬ (lx_at tp L (a + 1) = 61 ∧ (tp a = 61 ∨ tp a = 33 ∨ tp a = 60)) → ∃ v', fX9_takeSign_b95 (tp a) (q_si v 1803 (nI (a + 1))) = some v' ∧ q_i v' 1803 = nI (a + 1) ∧ q_i v' 1806 = nI a ∧ q_i v' 1805 = lx_s (tp a) (lx_at tp L (a + 1)) ∧ lx_fr v0 v' := by
    intro hn
    unfold fX9_takeSign_b95 fJ0_indexOf_0f7a4 fX9_takeSign_b113 fX9_takeSign_b116 lx_s
    rw [q_bd_s, if_neg hn]
    split
    · exact ⟨_, rfl, by rw [q_i_ne (by omega), q_i_at], by rw [q_i_ne (by omega), q_i_ne (by omega), h6], by rw [q_i_at], lx_frs (lx_frs f (by omega)) (by omega)⟩
    · exact ⟨_, rfl, by rw [q_i_ne (by omega), q_i_at], by rw [q_i_ne (by omega), q_i_ne (by omega), h6], by rw [q_i_at], lx_frs (lx_frs f (by omega)) (by omega)⟩
  have two : (lx_at tp L (a + 1) = 61 ∧ (tp a = 61 ∨ tp a = 33 ∨ tp a = 60)) → ∃ v', fX9_takeSign_b51 (tp a) (q_si v 1803 (nI (a + 1))) = some v' ∧ q_i v' 1803 = nI (a + 2) ∧ q_i v' 1806 = nI a ∧ q_i v' 1805 = lx_s (tp a) (lx_at tp L (a + 1)) ∧ lx_fr v0 v' := by
    intro hn
    unfold fX9_takeSign_b51 fX9_takeSign_b89 fX9_takeSign_b116 lx_s
    rw [if_pos hn, q_i_at, q_lt_s, ni_add1, q_si_si]
    split
    · exact ⟨_, rfl, by rw [q_i_ne (by omega), q_i_at], by rw [q_i_ne (by omega), q_i_ne (by omega), h6], by rw [q_i_at], lx_frs (lx_frs f (by omega)) (by omega)⟩
    · split
      · exact ⟨_, rfl, by rw [q_i_ne (by omega), q_i_at], by rw [q_i_ne (by omega), q_i_ne (by omega), h6], by rw [q_i_at], lx_frs (lx_frs f (by omega)) (by omega)⟩
      · exact ⟨_, rfl, by rw [q_i_ne (by omega), q_i_at], by rw [q_i_ne (by omega), q_i_ne (by omega), h6], by rw [q_i_at], lx_frs (lx_frs f (by omega)) (by omega)⟩
  by_cases c : lx_at tp L (a + 1) = 61
  · rw [if_pos c]
    unfold fX9_takeSign_b28
    rw [if_neg (by decide)]
    by_cases c1 : tp a = 61
    · rw [if_pos c1, if_pos ⟨c, Or.inl c1⟩]; exact two ⟨c, Or.inl c1⟩
    · rw [if_neg c1]
      by_cases c2 : tp a = 33
      · rw [if_pos c2, if_pos ⟨c, Or.inr (Or.inl c2)⟩]; exact two ⟨c, Or.inr (Or.inl c2)⟩
      · rw [if_neg c2]
        by_cases c3 : tp a = 60
        · rw [if_pos c3, if_pos ⟨c, Or.inr (Or.inr c3)⟩]; exact two ⟨c, Or.inr (Or.inr c3)⟩
        · have hn : ¬ (lx_at tp L (a + 1) = 61 ∧ (tp a = 61 ∨ tp a = 33 ∨ tp a = 60)) := by
            intro q; rcases q.2 with q | q | q
            · exact c1 q
            · exact c2 q
            · exact c3 q
          rw [if_neg c3, if_neg hn]; exact key hn
  · have hn : ¬ (lx_at tp L (a + 1) = 61 ∧ (tp a = 61 ∨ tp a = 33 ∨ tp a = 60)) := fun q => c q.1
    rw [if_neg c, if_neg hn]
    unfold fX9_takeSign_b28
    rw [if_pos rfl]
    exact key hn
set_option maxHeartbeats 200000 in
/-- the next token -/
theorem lx_adv {p : Nat} (h : lx_v tp L kw v) (hp : q_i v 1803 = nI p) (hpL : p ≤ L) (h5 : q_i v 1805 ≠ 263) : ∃ v', fX9_advance v = some v' ∧ lx_q tp L kw (lx_a tp L p) v v' := by
  have hL := h.2.1
  have e0 : fX9_passBlanks v = some (q_si v 1803 (nI (lx_a tp L p))) := by
    unfold fX9_passBlanks
    have := lx_cb h (L - p) p 0 q_N rfl hpL (by unfold q_N; omega)
    rw [q_si_ix hp] at this
    exact this
  have ba := lx_bs (tp := tp) (L := L) (L - p) p 0 rfl hpL
  have hba : p ≤ lx_a tp L p ∧ lx_a tp L p ≤ L := ba
  generalize ea : lx_a tp L p = a at *
  have f1 : lx_fr v (q_si (q_si v 1803 (nI a)) 1806 (nI a)) := lx_frs (lx_frs lx_fr0 (by omega)) (by omega)
  have hv : lx_v tp L kw (q_si (q_si v 1803 (nI a)) 1806 (nI a)) := lx_vs (lx_vs h (by omega)) (by omega)
  have hv6 : lx_v tp L kw (q_si v 1806 (nI a)) := lx_vs h (by omega)
  have e3 : q_i (q_si (q_si v 1803 (nI a)) 1806 (nI a)) 1803 = nI a := by rw [q_i_ne (by omega), q_i_at]
  have e6 : q_i (q_si (q_si v 1803 (nI a)) 1806 (nI a)) 1806 = nI a := by rw [q_i_at]
  have hb := lx_byte (p := a) hv (by omega)
  unfold fX9_advance
  rw [if_neg h5, e0, q_bv_s, q_i_at, q_lt_s, e3, hb, q_bd_s, e3, hv.1]
  unfold lx_q
  by_cases c : L ≤ a
  · rw [if_neg (ni_nlt (by omega) (by omega)), q_lt_s]
    have ec : lx_c tp L kw a = 261 := by unfold lx_c; rw [if_pos c]
    refine ⟨_, rfl, ?_, ?_, ?_, ?_, ?_, lx_frs f1 (by omega)⟩
    · rw [q_i_ne (by omega), e3]; unfold lx_e; rw [if_pos c]
    · rw [q_i_ne (by omega), e6]
    · rw [q_i_at, ec]
    · intro q; rw [ec] at q; exact absurd q (by decide)
    · intro q; rw [ec] at q; exact absurd q (by decide)
  · rw [if_pos (ni_plt (by omega) (by omega)), lx_at_lt (show a < L by omega), lx_letter, q_bd_s, lx_i0]
    by_cases c1 : lx_l (tp a)
    · rw [if_pos c1]
      have hw := lx_cw hv6 (L - a) a 0 q_N rfl (by omega) (by unfold q_N; omega)
      have hws := lx_ws (tp := tp) hL (L - a) a 0 rfl (by omega)
      have ew : lx_w tp L (L - a) a 0 = lx_we tp L a := rfl
      have ee : lx_e tp L a = (lx_we tp L a).1 := by unfold lx_e; rw [if_neg c, if_pos c1]
      have ec : lx_c tp L kw a = (if (lx_we tp L a).1 - a ≤ 8 then lx_k kw (lx_we tp L a).2 40 0 else 262) := by unfold lx_c; rw [if_neg c, if_pos c1]
      rw [ew] at hw hws
      unfold fX9_takeWord fX9_advance_b86
      rw [q_si_sw (by omega), hw]
      unfold fX9_takeWord_b69
      rw [q_i_at, q_i_ne (by omega), q_i_at, ni_sub hws.1, show (8 : Int32) = nI 8 from rfl]
      have fw : lx_fr v (q_si (q_si v 1806 (nI a)) 1803 (nI (lx_we tp L a).1)) := lx_frs (lx_frs lx_fr0 (by omega)) (by omega)
      by_cases c8 : (lx_we tp L a).1 - a ≤ 8
      · rw [if_pos c8] at ec
        rw [if_pos (ni_ple c8 (by omega)), q_lt_s, q_lt_s, show (0 : Int32) = nI 0 from rfl, lx_ck (n := 40) (by intro i hi; exact h.2.2.2 i hi) (by rw [q_i_at]) 0 q_N (by omega) (by unfold q_N; omega), q_bv_s, q_si_si]
        refine ⟨_, rfl, ?_, ?_, ?_, ?_, ?_, lx_frs (lx_frj fw) (by omega)⟩
        · rw [q_i_ne (by omega), q_i_sj, q_i_at, ee]
        · rw [q_i_ne (by omega), q_i_sj, q_i_ne (by omega), q_i_at]
        · rw [q_i_at, ec]
        · intro _; rw [q_j_si, q_j_sj, if_pos rfl]
        · intro q
          rw [ec] at q
          rcases lx_kq (kw := kw) (w := (lx_we tp L a).2) 40 0 with g | ⟨j, _, hj, g, _⟩
          · rw [g] at q; exact absurd q (by decide)
          · rw [g, show (260 : Int32) = nI 260 from rfl, ni_eq (by omega) (by omega)] at q; omega
      · rw [if_neg c8] at ec
        rw [if_neg (ni_nle (by omega) (by omega)), q_lt_s, q_bv_s]
        refine ⟨_, rfl, ?_, ?_, ?_, ?_, ?_, lx_frs fw (by omega)⟩
        · rw [q_i_ne (by omega), q_i_at, ee]
        · rw [q_i_ne (by omega), q_i_ne (by omega), q_i_at]
        · rw [q_i_at, ec]
        · intro q; rw [ec] at q; exact absurd q (by decide)
        · intro q; rw [ec] at q; exact absurd q (by decide)
    · rw [if_neg c1, lx_digit, q_bd_s, lx_i0]
      by_cases c2 : lx_d (tp a)
      · rw [if_pos c2]
        have hw := lx_cn hv6 (L - a) a 0 q_N rfl (by omega) (by unfold q_N; omega)
        have hws := lx_ns (tp := tp) hL (L - a) a 0 rfl (by omega)
        have ew : lx_n tp L (L - a) a 0 = lx_ne tp L a := rfl
        have ee : lx_e tp L a = (lx_ne tp L a).1 := by unfold lx_e; rw [if_neg c, if_neg c1, if_pos c2]
        have ec : lx_c tp L kw a = (if (lx_ne tp L a).1 - a ≤ 9 then 260 else 262) := by unfold lx_c; rw [if_neg c, if_neg c1, if_pos c2]
        rw [ew] at hw hws
        have ev : q_si (q_si (q_si v 1803 (nI a)) 1806 (nI a)) 1807 0 = lx_u (q_si v 1806 (nI a)) a 0 := by
          unfold lx_u
          rw [q_si_sw (k := 1803) (j := 1806) (by omega), q_si_sw (k := 1803) (j := 1807) (by omega)]
          rfl
        have fw : lx_fr v (lx_u (q_si v 1806 (nI a)) (lx_ne tp L a).1 (lx_ne tp L a).2) := lx_fru (lx_frs lx_fr0 (by omega))
        unfold fX9_takeNumber fX9_advance_b86
        rw [q_lt_s, ev, hw]
        have g3 : q_i (lx_u (q_si v 1806 (nI a)) (lx_ne tp L a).1 (lx_ne tp L a).2) 1803 = nI (lx_ne tp L a).1 := by unfold lx_u; rw [q_i_at]
        have g6 : q_i (lx_u (q_si v 1806 (nI a)) (lx_ne tp L a).1 (lx_ne tp L a).2) 1806 = nI a := by unfold lx_u; rw [q_i_ne (by omega), q_i_ne (by omega), q_i_at]
        have g7 : q_i (lx_u (q_si v 1806 (nI a)) (lx_ne tp L a).1 (lx_ne tp L a).2) 1807 = nI (lx_ne tp L a).2 := by unfold lx_u; rw [q_i_ne (by omega), q_i_at]
        generalize lx_u (q_si v 1806 (nI a)) (lx_ne tp L a).1 (lx_ne tp L a).2 = V at *
        unfold fX9_takeNumber_b66 fX9_takeNumber_b90
        rw [g3, g6, ni_sub hws.1, show (9 : Int32) = nI 9 from rfl]
        by_cases c9 : (lx_ne tp L a).1 - a ≤ 9
        · rw [if_pos c9] at ec
          rw [if_pos (ni_ple c9 (by omega)), q_lt_s, q_bv_s]
          refine ⟨_, rfl, ?_, ?_, ?_, ?_, ?_, lx_frs fw (by omega)⟩
          · rw [q_i_ne (by omega), g3, ee]
          · rw [q_i_ne (by omega), g6]
          · rw [q_i_at, ec]
          · intro q; rw [ec] at q; exact absurd q (by decide)
          · intro _; rw [q_i_ne (by omega), g7]
        · rw [if_neg c9] at ec
          rw [if_neg (ni_nle (by omega) (by omega)), q_lt_s, q_bv_s]
          refine ⟨_, rfl, ?_, ?_, ?_, ?_, ?_, lx_frs fw (by omega)⟩
          · rw [q_i_ne (by omega), g3, ee]
          · rw [q_i_ne (by omega), g6]
          · rw [q_i_at, ec]
          · intro q; rw [ec] at q; exact absurd q (by decide)
          · intro q; rw [ec] at q; exact absurd q (by decide)
      · rw [if_neg c2]
        obtain ⟨v', s1, s2, s3, s4, s5⟩ := lx_sg hv e3 e6 (by omega) f1
        unfold fX9_advance_b86
        have ec : lx_c tp L kw a = lx_s (tp a) (lx_at tp L (a + 1)) := by unfold lx_c; rw [if_neg c, if_neg c1, if_neg c2]
        rw [s1, q_bv_s]
        refine ⟨_, rfl, ?_, s3, by rw [s4, ec], ?_, ?_, s5⟩
        · rw [s2]; unfold lx_e; rw [if_neg c, if_neg c1, if_neg c2]
        · intro q; rw [ec] at q; exact absurd q lx_s9.1
        · intro q; rw [ec] at q; exact absurd q lx_s9.2.1
end
