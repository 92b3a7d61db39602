def fr9 (v v' : q_V) : Prop := (∀ k, (k < 1802 ∨ 1811 ≤ k) → q_i v' k = q_i v k) ∧ (∀ k, k ≠ 1808 → q_j v' k = q_j v k) ∧ q_a v' = q_a v ∧ q_b v' = q_b v ∧ q_f v' = q_f v ∧ q_c v' = q_c v ∧ q_n v' = q_n v
section
variable {g g1 g2 : rd_G} {v w v0 w0 v1 w1 : q_V} {f x : Int32}
set_option maxHeartbeats 200000 in
/-- the class begins with a text -/
theorem k_start (ok : tO g) (h1 : ∀ j, j < gL g → q_a v 2200 j = g.1 j) (h2 : ∀ j, j < 40 → q_b v 1801 j = kw_c j) : ∃ v', fX9_start (nI (gL g)) v = some v' ∧ kT g 0 v' ∧ fr9 v v' ∧ q_i v' 1804 = 0 ∧ q_i v' 1809 = 0 := by
  have hL := ok.1
  unfold fX9_start
  rw [q_lt_s, q_lt_s, q_lt_s, q_lt_s, q_lt_s, q_lt_s, if_neg (show ¬ (3000 : Int32) < nI (gL g) from ni_nlt (a := 3000) (by omega) (by omega))]
  have lv : lx_v g.1 (gL g) kw_c (q_si (q_si (q_si (q_si (q_si (q_si v 1802 (nI (gL g))) 1803 0) 1804 0) 1809 0) 1810 (-1)) 1805 261) := ⟨rfl, hL, h1, h2⟩
  obtain ⟨v', a1, q1, q2, q3, q4, q5, fr⟩ := lx_adv lv (p := 0) rfl (Nat.zero_le _) (by rw [q_i_at]; decide)
  rw [a1, q_bv_s]
  refine ⟨v', rfl, ⟨⟨(fr.1 1802 (by omega)).trans rfl, hL, fun j hj => by rw [fr.2.2.1]; exact h1 j hj, fun j hj => by rw [fr.2.2.2.1]; exact h2 j hj⟩, q1, q3, q2, q4, q5⟩, ⟨fun k hk => ?_, fun k hk => ?_, ?_, ?_, ?_, ?_, ?_⟩, ?_, ?_⟩
  · rw [fr.1 k (by omega), q_i_ne (by omega), q_i_ne (by omega), q_i_ne (by omega), q_i_ne (by omega), q_i_ne (by omega), q_i_ne (by omega)]
  · rw [fr.2.1 k hk]; rfl
  · rw [fr.2.2.1]; rfl
  · rw [fr.2.2.2.1]; rfl
  · rw [fr.2.2.2.2.1]; rfl
  · rw [fr.2.2.2.2.2.1]; rfl
  · rw [fr.2.2.2.2.2.2]; rfl
  · exact fr.1 1804 (by omega)
  · exact fr.1 1809 (by omega)
set_option maxHeartbeats 200000 in
theorem rdk_9 (h : rdk v0 v) (f : fr9 v v1) : rdk v0 v1 := ⟨fun k hk => (f.1 k (by omega)).trans (h.1 k hk), fun k hk => (f.2.1 k hk).trans (h.2.1 k hk), fun k hk => by rw [f.2.2.1, f.2.2.2.1]; exact h.2.2.1 k hk, f.2.2.2.2.1.trans h.2.2.2.1, f.2.2.2.2.2.1.trans h.2.2.2.2.1, f.2.2.2.2.2.2.trans h.2.2.2.2.2⟩
set_option maxHeartbeats 200000 in
theorem rdk_c (h : rdk v0 v) (f : cfr v v1) : rdk v0 v1 := ⟨fun k hk => (f.1 k (by omega)).trans (h.1 k hk), fun k hk => (f.2.1 k hk).trans (h.2.1 k hk), fun k hk => ⟨(f.2.2.1 k (by omega)).trans (h.2.2.1 k hk).1, (f.2.2.2.1 k (by omega)).trans (h.2.2.1 k hk).2⟩, f.2.2.2.2.1.trans h.2.2.2.1, f.2.2.2.2.2.1.trans h.2.2.2.2.1, f.2.2.2.2.2.2.trans h.2.2.2.2.2⟩
set_option maxHeartbeats 200000 in
theorem CR_eq (h1 : tkc g1 = tkc g2) (h2 : tkw g1 = tkw g2) : ∀ n i ls j, CR g1 n i ls j → CR g2 n i ls j := by
  have hh : ∀ n j c h, HR g1 n j c h → HR g2 n j c h := by
    intro n
    induction n with
    | zero => intro j c h hq; obtain ⟨a, b, c⟩ := hq; exact ⟨a, b, by rw [← h1]; exact c⟩
    | succ n ih =>
      intro j c h hq
      obtain ⟨a, c', b, d⟩ := hq
      exact ⟨by rw [← h1]; exact a, c', by rw [← h1]; exact b, ih _ _ _ d⟩
  intro n
  induction n with
  | zero => intro i ls j h; exact h
  | succ n ih =>
    intro i ls j h
    unfold CR at h ⊢
    rw [← h1, ← h2]
    rcases h with ⟨a, b, c⟩ | ⟨a, b, c⟩ | ⟨a, b, m, c, k, l, d, e, f⟩
    · exact Or.inl ⟨a, b, ih _ _ _ c⟩
    · exact Or.inr (Or.inl ⟨a, b, ih _ _ _ c⟩)
    · exact Or.inr (Or.inr ⟨a, b, m, c, k, l, hh _ _ _ _ d, e, ih _ _ _ f⟩)
set_option maxHeartbeats 200000 in
theorem xR_23 (h : xR w0 f x w) : fX12_text_b23 w = some w := by
  unfold fX12_text_b23
  rw [q_N1, fX12_text_L25, xR_fine h, q_bd_s, if_pos rfl]
  unfold fX12_text_b115
  rw [ite_self]
set_option maxHeartbeats 200000 in
/-- at the text's end: every duty that was looked for is read -/
theorem TX_end {dl : List (Int64 × Nat)} {n i : Nat} (G : GT g) (h : CR g n 0 dl i) (c : tkc g i = 261) (hD : dl.length ≤ 300) : gd g = dl.length ∧ ∀ j r, dl[j]? = some r → gn g j = r.1 ∧ gp g j = nI r.2 := by
  obtain ⟨ls, m, rest, E, e1, e2, e3, e4, e5⟩ := GT_pre G h
  have hr : rest = [] := by
    cases m with
    | zero => exact e2.1
    | succ m =>
      rcases e2 with ⟨a, _⟩ | ⟨a, _⟩ | ⟨a, _⟩
      · exact absurd c a
      · rw [c] at a; exact absurd a (by decide)
      · rw [c] at a; exact absurd a (by decide)
  rw [hr, List.append_nil] at e1
  subst e1
  have eg : gd g = ls.length := by omega
  refine ⟨eg, fun j r hj => ?_⟩
  have hj2 : j < ls.length := by
    rcases Nat.lt_or_ge j ls.length with z | z
    · exact z
    · rw [List.getElem?_eq_none z] at hj; cases hj
  obtain ⟨y, y1, y2⟩ := e5 j (by omega)
  rw [hj] at y1
  have := Option.some.inj y1
  rw [this]; exact ⟨rfl, y2⟩
end
