def tO (g : rd_G) : Prop := gL g ≤ 3000 ∧ ∀ j, j < gL g → ∃ b, b < 128 ∧ g.1 j = nI b
/-- the class stands at a token -/
def kT (g : rd_G) (i : Nat) (v : q_V) : Prop := lx_v g.1 (gL g) kw_c v ∧ q_i v 1803 = nI (tkp g (i + 1)) ∧ q_i v 1805 = tkc g i ∧ q_i v 1806 = nI (tka g i) ∧ (tkc g i = 259 → q_j v 1808 = tkw g i) ∧ (tkc g i = 260 → q_i v 1807 = nI (tkn g i))
def cfr (v v' : q_V) : Prop := (∀ k, (k < 1002 ∨ 1003 ≤ k ∧ k < 1803 ∨ k = 1804 ∨ 1808 ≤ k) → q_i v' k = q_i v k) ∧ (∀ k, k ≠ 1808 → q_j v' k = q_j v k) ∧ (∀ k, k ≠ 1001 → q_a v' k = q_a v k) ∧ (∀ k, k ≠ 1000 → q_b v' k = q_b v k) ∧ q_f v' = q_f v ∧ q_c v' = q_c v ∧ q_n v' = q_n v
/-- the duties that were looked for ahead -/
def tbl (ls : List (Int64 × Nat)) (v : q_V) : Prop := q_i v 1002 = nI (min 300 ls.length) ∧ ∀ j, j < min 300 ls.length → ∃ y, ls[j]? = some (q_b v 1000 j, y) ∧ q_a v 1001 j = nI y
section
variable {g : rd_G} {i : Nat} {v v1 v2 : q_V}
set_option maxHeartbeats 200000 in
theorem cfr_0 : cfr v v := ⟨fun _ _ => rfl, fun _ _ => rfl, fun _ _ => rfl, fun _ _ => rfl, rfl, rfl, rfl⟩
set_option maxHeartbeats 200000 in
theorem cfr_t (f : cfr v v1) (h : cfr v1 v2) : cfr v v2 := ⟨fun k hk => (h.1 k hk).trans (f.1 k hk), fun k hk => (h.2.1 k hk).trans (f.2.1 k hk), fun k hk => (h.2.2.1 k hk).trans (f.2.2.1 k hk), fun k hk => (h.2.2.2.1 k hk).trans (f.2.2.2.1 k hk), h.2.2.2.2.1.trans f.2.2.2.2.1, h.2.2.2.2.2.1.trans f.2.2.2.2.2.1, h.2.2.2.2.2.2.trans f.2.2.2.2.2.2⟩
set_option maxHeartbeats 200000 in
theorem cfr_l (f : lx_fr v v1) : cfr v v1 := ⟨fun k hk => f.1 k (by omega), f.2.1, fun k _ => by rw [f.2.2.1], fun k _ => by rw [f.2.2.2.1], f.2.2.2.2.1, f.2.2.2.2.2.1, f.2.2.2.2.2.2⟩
set_option maxHeartbeats 200000 in
theorem k_263 (ok : tO g) : tkc g i ≠ 263 := by
  intro z
  have := tk_cV (kw := kw_c) (i := i) ok.2
  rw [show tk_c g.1 (gL g) kw_c i = tkc g i from rfl, z] at this
  exact absurd this (by decide)
set_option maxHeartbeats 200000 in
theorem k_adv (ok : tO g) (h : kT g i v) : ∃ v', fX9_advance v = some v' ∧ kT g (i + 1) v' ∧ lx_fr v v' := by
  obtain ⟨h0, h1, h2, _⟩ := h
  have hp : tkp g (i + 1) ≤ gL g := tk_pl ok.1 (i + 1)
  obtain ⟨v', a1, q1, q2, q3, q4, q5, fr⟩ := lx_adv h0 h1 hp (by rw [h2]; exact k_263 ok)
  refine ⟨v', a1, ⟨⟨(fr.1 1802 (by omega)).trans h0.1, h0.2.1, fun j hj => by rw [fr.2.2.1]; exact h0.2.2.1 j hj, fun j hj => by rw [fr.2.2.2.1]; exact h0.2.2.2 j hj⟩, q1, q3, q2, q4, q5⟩, fr⟩
set_option maxHeartbeats 200000 in
theorem k_tbl {ls : List (Int64 × Nat)} (f : lx_fr v v1) (h : tbl ls v) : tbl ls v1 := by
  unfold tbl at h ⊢
  rw [f.1 1002 (by omega), f.2.2.1, f.2.2.2.1]; exact h
set_option maxHeartbeats 200000 in
theorem k_nx (ok : tO g) (h : tkc g i ≠ 261) : tka g i < tka g (i + 1) ∧ tka g (i + 1) ≤ gL g := by
  have := tk_nx (kw := kw_c) (i := i) ok.1 ok.2 h
  unfold tka; omega
set_option maxHeartbeats 200000 in
/-- a duty is told -/
theorem k_tell {x : Int64} {y : Nat} {ls : List (Int64 × Nat)} (h : kT g i v) (ht : tbl ls v) : ∃ v', fX5_tellDuty x (nI y) v = some v' ∧ tbl (ls ++ [(x, y)]) v' ∧ kT g i v' ∧ cfr v v' := by
  obtain ⟨t1, t2⟩ := ht
  unfold fX5_tellDuty fX5_tellDuty_b40
  by_cases c : 300 ≤ ls.length
  · have e : min 300 ls.length = 300 := by omega
    have e' : min 300 (ls ++ [(x, y)]).length = 300 := by rw [List.length_append]; omega
    rw [if_pos (by rw [t1, e]; decide)]
    refine ⟨v, rfl, ⟨by rw [t1, e, e'], fun j hj => ?_⟩, h, cfr_0⟩
    obtain ⟨z, z1, z2⟩ := t2 j (by omega)
    exact ⟨z, by rw [List.getElem?_append_left (by omega)]; exact z1, z2⟩
  · have e : min 300 ls.length = ls.length := by omega
    have e' : min 300 (ls ++ [(x, y)]).length = ls.length + 1 := by rw [List.length_append, List.length_singleton]; omega
    have hin : ¬ (nI ls.length < 0 ∨ 300 ≤ (nI ls.length).toNatClampNeg) := ni_nin (by omega) (by omega)
    rw [e] at t1 t2
    rw [t1, if_neg (show ¬ (300 : Int32) ≤ nI ls.length from ni_nle (a := 300) (by omega) (by omega)), if_neg hin, q_lt_s, q_i_sb, t1, if_neg hin, q_lt_s, q_lt_s, q_i_sa, q_i_sb, t1, ni_add1, ni_clamp (by omega), q_a_sb]
    refine ⟨_, rfl, ⟨by rw [q_i_at, e'], fun j hj => ?_⟩, ?_, ?_⟩
    · rw [e'] at hj
      rw [q_b_si, q_b_sa, q_b_sb, if_pos rfl, q_a_si, q_a_sa, if_pos rfl]
      unfold vp_updL upd
      by_cases cj : j = ls.length
      · refine ⟨y, ?_, by rw [if_pos cj]⟩
        rw [cj, List.getElem?_append_right (Nat.le_refl _), Nat.sub_self, if_pos rfl]; rfl
      · obtain ⟨z, z1, z2⟩ := t2 j (by omega)
        refine ⟨z, ?_, by rw [if_neg cj]; exact z2⟩
        rw [List.getElem?_append_left (by omega), if_neg cj]; exact z1
    · obtain ⟨h0, h1, h2, h3, h4, h5⟩ := h
      refine ⟨⟨?_, h0.2.1, fun j hj => ?_, fun j hj => ?_⟩, ?_, ?_, ?_, h4, ?_⟩
      · rw [q_i_ne (by omega), q_i_sa, q_i_sb]; exact h0.1
      · rw [q_a_si, q_a_sa, if_neg (by omega), q_a_sb]; exact h0.2.2.1 j hj
      · rw [q_b_si, q_b_sa, q_b_sb, if_neg (by omega)]; exact h0.2.2.2 j hj
      · rw [q_i_ne (by omega), q_i_sa, q_i_sb]; exact h1
      · rw [q_i_ne (by omega), q_i_sa, q_i_sb]; exact h2
      · rw [q_i_ne (by omega), q_i_sa, q_i_sb]; exact h3
      · rw [q_i_ne (by omega), q_i_sa, q_i_sb]; exact h5
    · refine ⟨fun k hk => ?_, fun k hk => rfl, fun k hk => ?_, fun k hk => ?_, rfl, rfl, rfl⟩
      · rw [q_i_ne (by omega), q_i_sa, q_i_sb]
      · rw [q_a_si, q_a_sa, if_neg hk, q_a_sb]
      · rw [q_b_si, q_b_sa, q_b_sb, if_neg hk]
set_option maxHeartbeats 200000 in
/-- the head of a duty, looked through -/
theorem k_head {x : Int64} (ok : tO g) : ∀ t i c m N v, gL g - tka g i = t → m ≤ tka g i → t + 1 < N → kT g i v → ∃ n c' h v', fX8_collectDuty_L41 N x (nI c) (nI m) v = q_bv (fX5_tellDuty x (nI (c + c')) v') (fun T => some T) ∧ HR g n i c' h ∧ kT g h v' ∧ lx_fr v v' ∧ i ≤ h ∧ tka g i ≤ tka g h := by
  intro t
  induction t using Nat.strongRecOn with
  | ind t ih =>
    intro i c m N v ht hm hN h
    obtain ⟨N, rfl⟩ : ∃ y, N = y + 1 := ⟨N - 1, by omega⟩
    have hL := ok.1
    have hle : tka g i ≤ gL g := (tk_al ok.1 i).2
    by_cases hk : hdk (tkc g i)
    · have n261 : tkc g i ≠ 261 := by rcases hk with z | z | z <;> (rw [z]; decide)
      have hx := k_nx ok n261
      obtain ⟨v1, a1, s1, f1⟩ := k_adv ok h
      have hh : fX8_isHeadToken (tkc g i) v = some (1, v) := by
        unfold fX8_isHeadToken fX8_isHeadToken_b19 fX8_isHeadToken_b24
        rw [if_neg (show ¬ ¬ ((1 : Int32) = 0 ∨ (1 : Int32) = 1) by decide)]
        rcases hk with z | z | z
        · rw [if_pos z]
        · rw [z, if_neg (by decide), if_pos rfl]
        · rw [z, if_neg (by decide), if_neg (by decide), if_pos rfl]
      obtain ⟨n, c', h', v', b1, b2, b3, b4, b5, b6⟩ := ih (gL g - tka g (i + 1)) (by omega) (i + 1) (c + if tkc g i = 259 then 1 else 0) (m + 1) N v1 rfl (by omega) (by omega) s1
      refine ⟨n + 1, c' + (if tkc g i = 259 then 1 else 0), h', v', ?_, ⟨hk, c', rfl, b2⟩, b3, ⟨fun k hk => (b4.1 k hk).trans (f1.1 k hk), fun k hk => (b4.2.1 k hk).trans (f1.2.1 k hk), b4.2.2.1.trans f1.2.2.1, b4.2.2.2.1.trans f1.2.2.2.1, b4.2.2.2.2.1.trans f1.2.2.2.2.1, b4.2.2.2.2.2.1.trans f1.2.2.2.2.2.1, b4.2.2.2.2.2.2.trans f1.2.2.2.2.2.2⟩, by omega, by omega⟩
      rw [fX8_collectDuty_L41, if_neg (show ¬ (3000 : Int32) ≤ nI m from ni_nle (a := 3000) (by omega) (by omega)), h.2.2.1, hh, q_bd_s, if_neg (by decide), h.2.2.1]
      unfold fX8_collectDuty_b78
      rw [a1, q_bv_s, q_lt_s, ni_add1, q_lt_s, ni_add1, q_bv_s, q_lt_s]
      by_cases c9 : tkc g i = 259
      · rw [if_pos c9] at b1 ⊢
        rw [show c + 1 + c' = c + (c' + 1) by omega] at b1
        rw [if_pos c9]; exact b1
      · rw [if_neg c9] at b1 ⊢
        rw [if_neg c9, Nat.add_zero] at *
        exact b1
    · refine ⟨0, 0, i, v, ?_, ⟨rfl, rfl, hk⟩, h, lx_fr0, Nat.le_refl _, Nat.le_refl _⟩
      have hh : fX8_isHeadToken (tkc g i) v = some (0, v) := by
        unfold fX8_isHeadToken fX8_isHeadToken_b24
        rw [if_neg (fun z => hk (Or.inl z)), if_neg (fun z => hk (Or.inr (Or.inl z))), if_neg (fun z => hk (Or.inr (Or.inr z))), if_neg (by decide)]
      rw [fX8_collectDuty_L41, h.2.2.1, hh, q_bd_s, if_pos rfl, Nat.add_zero]
      unfold fX8_collectDuty_b91
      split <;> rfl
set_option maxHeartbeats 200000 in
/-- all duties, looked for -/
theorem k_coll (ok : tO g) : ∀ t i ls m N v, gL g - tka g i = t → m ≤ tka g i → t < N → kT g i v → tbl ls v → ∃ v' n ls' E, fX8_collectDuties_L2 N (nI m) v = some v' ∧ CR g n i ls' E ∧ tkc g E = 261 ∧ tbl (ls ++ ls') v' ∧ cfr v v' := by
  intro t
  induction t using Nat.strongRecOn with
  | ind t ih =>
    intro i ls m N v ht hm hN h hb
    obtain ⟨N, rfl⟩ : ∃ y, N = y + 1 := ⟨N - 1, by omega⟩
    have hL := ok.1
    have hle : tka g i ≤ gL g := (tk_al ok.1 i).2
    rw [fX8_collectDuties_L2, if_neg (show ¬ (3000 : Int32) < nI m from ni_nlt (a := 3000) (by omega) (by omega)), h.2.2.1]
    unfold fX8_collectDuties_b49 fX8_collectDuties_b55
    by_cases c261 : tkc g i = 261
    · rw [if_pos c261]
      exact ⟨v, 0, [], i, rfl, ⟨rfl, rfl⟩, c261, by rw [List.append_nil]; exact hb, cfr_0⟩
    · rw [if_neg c261]
      have hx := k_nx ok c261
      obtain ⟨v1, a1, s1, f1⟩ := k_adv ok h
      by_cases c300 : tkc g i = 300
      · rw [if_pos c300]
        unfold fX8_collectDuty
        rw [a1, q_bv_s, s1.2.2.1]
        by_cases c259 : tkc g (i + 1) = 259
        · have hx2 := k_nx ok (show tkc g (i + 1) ≠ 261 by rw [c259]; decide)
          obtain ⟨v2, a2, s2, f2⟩ := k_adv ok s1
          obtain ⟨n, c', h', v3, b1, b2, b3, b4, b5, b6⟩ := k_head (x := tkw g (i + 1)) ok (gL g - tka g (i + 2)) (i + 2) 0 0 q_N v2 rfl (by omega) (by unfold q_N; omega) s2
          obtain ⟨v4, d1, d2, d3, d4⟩ := k_tell (x := tkw g (i + 1)) (y := 0 + c') b3 (k_tbl b4 (k_tbl f2 (k_tbl f1 hb)))
          have ht2 : tka g (i + 1 + 1) = tka g (i + 2) := rfl
          obtain ⟨v5, n5, ls5, E, e1, e2, e3, e4, e5⟩ := ih (gL g - tka g h') (by omega) h' _ (m + 1) N v4 rfl (by omega) (by omega) d3 d2
          rw [if_pos c259, q_lt_s, s1.2.2.2.2.1 c259, a2, q_bv_s]
          have b1' : fX8_collectDuty_L41 q_N (tkw g (i + 1)) 0 0 v2 = q_bv (fX5_tellDuty (tkw g (i + 1)) (nI (0 + c')) v3) (fun T => some T) := b1
          rw [b1', d1, q_bv_s, q_bv_s, q_lt_s, ni_add1]
          refine ⟨v5, n5 + 1, (tkw g (i + 1), 0 + c') :: ls5, E, e1, Or.inr (Or.inr ⟨c300, c259, n, 0 + c', h', ls5, by rw [Nat.zero_add]; exact b2, rfl, e2⟩), e3, ?_, cfr_t (cfr_t (cfr_t (cfr_t (cfr_l f1) (cfr_l f2)) (cfr_l b4)) d4) e5⟩
          rw [List.append_assoc] at e4; exact e4
        · obtain ⟨v5, n5, ls5, E, e1, e2, e3, e4, e5⟩ := ih (gL g - tka g (i + 1)) (by omega) (i + 1) ls (m + 1) N v1 rfl (by omega) (by omega) s1 (k_tbl f1 hb)
          rw [if_neg c259, q_bv_s, q_lt_s, ni_add1]
          exact ⟨v5, n5 + 1, ls5, E, e1, Or.inr (Or.inl ⟨c300, c259, e2⟩), e3, e4, cfr_t (cfr_l f1) e5⟩
      · obtain ⟨v5, n5, ls5, E, e1, e2, e3, e4, e5⟩ := ih (gL g - tka g (i + 1)) (by omega) (i + 1) ls (m + 1) N v1 rfl (by omega) (by omega) s1 (k_tbl f1 hb)
        rw [if_neg c300, a1, q_bv_s, q_lt_s, ni_add1]
        exact ⟨v5, n5 + 1, ls5, E, e1, Or.inl ⟨c261, c300, e2⟩, e3, e4, cfr_t (cfr_l f1) e5⟩
end
