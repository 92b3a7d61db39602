/-! the meaning of names: what is blamed, variables, duties -/
section
variable {g : rd_G} {i n p i' n' q d k s l b e e' : Nat} {C : Nat → Int32} {r : Int32} {R : Nat → Nat → Int32} {K : rd_K} {A : rd_A} {v w : q_V}
set_option maxHeartbeats 200000 in
/-- the class blames -/
theorem c_blm {x y : Nat} (h : bl 1011 1012 e v) (hx : 0 < x) (hx2 : x < 16) (hy : 16 * y + x < rd_N) : ∃ v', fX5_blame (nI x) (nI y) v = some v' ∧ bl 1011 1012 (min e (16 * y + x)) v' ∧ (v' = v ∨ v' = q_si (q_si v 1011 (nI x)) 1012 (nI y)) := by
  have hN : rd_N = 1000000 := rfl
  unfold fX5_blame fX5_blame_b24 fX5_blame_b28 fX5_blame_b29 fX5_blame_b41 fX5_blame_b51
  simp only [q_lt_s]
  have new : bl 1011 1012 (16 * y + x) (q_si (q_si v 1011 (nI x)) 1012 (nI y)) := by
    refine Or.inr ⟨hy, by omega, ?_, ?_⟩
    · rw [q_i_ne (by omega), q_i_at]; congr 1; omega
    · rw [q_i_at]; congr 1; omega
  rcases h with ⟨h1, h2, _⟩ | ⟨h1, h2, h3, h4⟩
  · have e1 : min e (16 * y + x) = 16 * y + x := by omega
    rw [e1]
    simp only [h2, ↓reduceIte]
    refine ⟨q_si (q_si v 1011 (nI x)) 1012 (nI y), ?_, new, Or.inr rfl⟩
    split
    · rfl
    · split
      · split <;> rfl
      · rfl
  · have n0 : ¬ q_i v 1011 = 0 := by rw [h3, show (0 : Int32) = nI 0 from rfl, ni_eq (by omega) (by omega)]; omega
    simp only [n0, ↓reduceIte]
    rw [h3, h4]
    have old : bl 1011 1012 e v := Or.inr ⟨h1, h2, h3, h4⟩
    by_cases c1 : y < e / 16
    · rw [if_pos (ni_plt c1 (by omega)), if_neg (by decide), show min e (16 * y + x) = 16 * y + x by omega]
      exact ⟨_, rfl, new, Or.inr rfl⟩
    · rw [if_neg (ni_nlt (by omega) (by omega))]
      by_cases c2 : y = e / 16
      · rw [if_pos (by rw [c2])]
        by_cases c3 : e % 16 ≤ x
        · rw [if_pos (ni_ple c3 (by omega)), show min e (16 * y + x) = e by omega]
          exact ⟨v, rfl, old, Or.inl rfl⟩
        · rw [if_neg (ni_nle (by omega) (by omega)), if_neg (by decide), show min e (16 * y + x) = 16 * y + x by omega]
          exact ⟨_, rfl, new, Or.inr rfl⟩
      · rw [if_neg (by rw [ni_eq (by omega) (by omega)]; exact c2), show min e (16 * y + x) = e by omega]
        exact ⟨v, rfl, old, Or.inl rfl⟩
set_option maxHeartbeats 200000 in
/-- the reference blames -/
theorem r_blm {x t : Nat} (h : br e v) (h0 : q_i v 2408 = 0) (ht : t < 3002) (hp : q_a v 2405 t = nI (tka g t)) (hx : 0 < x) (hx2 : x < 16) (hy : 16 * tka g t + x < rd_N) : ∃ v', fX12_bad (nI x) (nI t) v = some v' ∧ br (min e (16 * tka g t + x)) v' ∧ (v' = v ∨ v' = q_si (q_si v 2412 (nI x)) 2413 (nI (tka g t))) := by
  have hN : rd_N = 1000000 := rfl
  generalize tka g t = y at *
  unfold fX12_bad fX12_bad_b48 fX12_bad_b49
  have new : br (16 * y + x) (q_si (q_si v 2412 (nI x)) 2413 (nI y)) := by
    refine Or.inr ⟨hy, by omega, ?_, ?_⟩
    · rw [q_i_ne (by omega), q_i_at]; congr 1; omega
    · rw [q_i_at]; congr 1; omega
  rw [if_neg (by rw [h0]; decide)]
  have ht2 : ¬ (nI t < 0 ∨ 3002 ≤ (nI t).toNatClampNeg) := ni_nin ht (by omega)
  have ht3 : (nI t).toNatClampNeg = t := ni_clamp (by omega)
  have wr : (q_lt (q_si v 2412 (nI x)) fun T2001 => if nI t < 0 ∨ 3002 ≤ (nI t).toNatClampNeg then none else q_lt (q_si T2001 2413 (q_a T2001 2405 (nI t).toNatClampNeg)) fun T2003 => some T2003) = some (q_si (q_si v 2412 (nI x)) 2413 (nI y)) := by
    rw [q_lt_s, if_neg ht2, ht3, q_a_si, hp, q_lt_s]
  rcases h with ⟨h1, h2, _⟩ | ⟨h1, h2, h3, h4⟩
  · have e1 : min e (16 * y + x) = 16 * y + x := by omega
    rw [e1, if_pos (by rw [h2]; decide), wr]
    exact ⟨_, rfl, new, Or.inr rfl⟩
  · have n0 : ¬ q_i v 2412 ≤ 0 := by rw [h3, show (0 : Int32) = nI 0 from rfl, ni_le (by omega) (by omega)]; omega
    have old : br e v := Or.inr ⟨h1, h2, h3, h4⟩
    rw [if_neg n0, if_neg ht2, if_neg ht2, wr, ht3, hp, h3, h4]
    by_cases c1 : e / 16 < y
    · rw [if_pos (ni_plt c1 (by omega)), show min e (16 * y + x) = e by omega]
      exact ⟨_, rfl, old, Or.inl rfl⟩
    · rw [if_neg (ni_nlt (by omega) (by omega))]
      by_cases c2 : y = e / 16
      · rw [if_pos (by rw [c2])]
        by_cases c3 : x < e % 16
        · rw [if_pos (ni_plt c3 (by omega)), show min e (16 * y + x) = 16 * y + x by omega]
          exact ⟨_, rfl, new, Or.inr rfl⟩
        · rw [if_neg (ni_nlt (by omega) (by omega)), show min e (16 * y + x) = e by omega]
          exact ⟨v, rfl, old, Or.inl rfl⟩
      · rw [if_neg (by rw [ni_eq (by omega) (by omega)]; exact c2), show min e (16 * y + x) = 16 * y + x by omega]
        exact ⟨_, rfl, new, Or.inr rfl⟩
set_option maxHeartbeats 200000 in
theorem c_B {x y : Int32} {v' : q_V} (h : St g i n p C i' n' q d r R K k s l b A e e' v w) (hv : v' = v ∨ v' = q_si (q_si v 1011 x) 1012 y) : rdf (gv g) v' ∧ sT g i n v' ∧ sB p C v' ∧ sN k s l b e A v' w := by
  obtain ⟨f, F, t, B, Y, N, M⟩ := h
  rcases hv with hv | hv
  · subst hv; exact ⟨f, t, B, N⟩
  · subst hv; exact ⟨rdf_i (rdf_i f (by omega)) (by omega), sT_ci (sT_ci t (by omega)) (by omega), sB_ci (sB_ci B (by omega)) (by omega), sN_ci (sN_ci N (by omega)) (by omega)⟩
set_option maxHeartbeats 200000 in
theorem r_B {x y : Int32} {w' : q_V} (F : rdF (gw g) w) (Y : sR g i' n' q d r R K w) (N : sN k s l b e A v w) (hv : w' = w ∨ w' = q_si (q_si w 2412 x) 2413 y) : rdF (gw g) w' ∧ sR g i' n' q d r R K w' ∧ sN k s l b e A v w' := by
  rcases hv with hv | hv
  · subst hv; exact ⟨F, Y, N⟩
  · subst hv; exact ⟨rdF_i (rdF_i F (by omega)) (by omega), sR_i (sR_i Y (by omega)) (by omega), sN_ri (sN_ri N (by omega)) (by omega)⟩
set_option maxHeartbeats 200000 in
theorem tka_L (ok : rd_ok g) (t : Nat) : tka g t ≤ gL g := (tk_al ok.1 t).2
set_option maxHeartbeats 200000 in
theorem br_le (h : br e v) : e ≤ rd_N := by rcases h with h | h <;> omega
set_option maxHeartbeats 200000 in
theorem bl_le {k1 k2 : Nat} (h : bl k1 k2 e v) : e ≤ rd_N := by rcases h with h | h <;> omega
set_option maxHeartbeats 200000 in
theorem sN_m {e1 : Nat} (h : sN k s l b e A v w) (h1 : e1 ≤ e) (h2 : e ≤ rd_N) : sN k s l b e1 A v w := ⟨h.1, h.2.1, fun z => h.2.2.1 (by omega), h.2.2.2⟩
set_option maxHeartbeats 200000 in
/-- both blame the same place -/
theorem j_blame {x t : Nat} (ok : rd_ok g) (h : St g i n p C i' n' q d r R K k s l b A e e' v w) (ht : t ≤ gm g) (hx : 0 < x) (hx2 : x < 16) : ∃ v' w', fX5_blame (nI x) (nI (tka g t)) v = some v' ∧ fX12_bad (nI x) (nI t) w = some w' ∧ St g i n p C i' n' q d r R K k s l b A (min e (16 * tka g t + x)) (min e' (16 * tka g t + x)) v' w' := by
  have hL := ok.1
  have ha := tka_L ok t
  have hm := ok.2.2.1.2.2
  have hN : rd_N = 1000000 := rfl
  obtain ⟨v', a1, a2, a3⟩ := c_blm h.2.2.2.2.2.2.1 hx hx2 (y := tka g t) (by omega)
  obtain ⟨w', b1, b2, b3⟩ := r_blm (g := g) h.2.2.2.2.2.2.2.1 h.2.2.2.2.1.1.1 (t := t) (by omega) (r_place ok h ht) hx hx2 (by omega)
  have c := c_B h a3
  have r := r_B h.2.1 h.2.2.2.2.1 c.2.2.2 b3
  refine ⟨v', w', a1, b1, c.1, r.1, c.2.1, c.2.2.1, r.2.1, sN_m r.2.2 (by omega) (bl_le h.2.2.2.2.2.2.1), a2, b2, ?_⟩
  have := h.2.2.2.2.2.2.2.2
  omega
set_option maxHeartbeats 200000 in
/-- one side alone blames, where it changes nothing any more -/
theorem c_blame0 {x t : Nat} (ok : rd_ok g) (h : St g i n p C i' n' q d r R K k s l b A e e' v w) (hx : 0 < x) (hx2 : x < 16) (he : e ≤ 16 * tka g t + x) : ∃ v', fX5_blame (nI x) (nI (tka g t)) v = some v' ∧ St g i n p C i' n' q d r R K k s l b A e e' v' w := by
  have hL := ok.1
  have ha := tka_L ok t
  have hN : rd_N = 1000000 := rfl
  obtain ⟨v', a1, a2, a3⟩ := c_blm h.2.2.2.2.2.2.1 hx hx2 (y := tka g t) (by omega)
  have c := c_B h a3
  rw [show min e (16 * tka g t + x) = e by omega] at a2
  exact ⟨v', a1, c.1, h.2.1, c.2.1, c.2.2.1, h.2.2.2.2.1, c.2.2.2, a2, h.2.2.2.2.2.2.2⟩
set_option maxHeartbeats 200000 in
theorem r_blame0 {x t : Nat} (ok : rd_ok g) (h : St g i n p C i' n' q d r R K k s l b A e e' v w) (ht : t ≤ gm g) (hx : 0 < x) (hx2 : x < 16) (he : e' ≤ 16 * tka g t + x) : ∃ w', fX12_bad (nI x) (nI t) w = some w' ∧ St g i n p C i' n' q d r R K k s l b A e e' v w' := by
  have hL := ok.1
  have ha := tka_L ok t
  have hm := ok.2.2.1.2.2
  have hN : rd_N = 1000000 := rfl
  obtain ⟨w', b1, b2, b3⟩ := r_blm (g := g) h.2.2.2.2.2.2.2.1 h.2.2.2.2.1.1.1 (t := t) (by omega) (r_place ok h ht) hx hx2 (by omega)
  have r := r_B h.2.1 h.2.2.2.2.1 h.2.2.2.2.2.1 b3
  rw [show min e' (16 * tka g t + x) = e' by omega] at b2
  exact ⟨w', b1, h.1, r.1, h.2.2.1, h.2.2.2.1, r.2.1, r.2.2, h.2.2.2.2.2.2.1, b2, h.2.2.2.2.2.2.2.2⟩
set_option maxHeartbeats 200000 in
/-- the class looks a variable up -/
theorem c_find {x : Int64} {c : Nat} (h5 : q_i v 1005 = nI c) (hc : c ≤ 24) : ∃ y, fX5_findVariable x v = some (y, v) ∧ ((y = -1 ∧ ∀ j, j < c → q_b v 1003 j ≠ x) ∨ ∃ j, j < c ∧ q_b v 1003 j = x ∧ y = q_a v 1004 j) := by
  suffices H : ∀ n j N, j + n = c → n < N → (∀ m, m < j → q_b v 1003 m ≠ x) → ∃ y, fX5_findVariable_L2 x N (nI j) v = some (y, v) ∧ ((y = -1 ∧ ∀ j, j < c → q_b v 1003 j ≠ x) ∨ ∃ j, j < c ∧ q_b v 1003 j = x ∧ y = q_a v 1004 j) from
    H c 0 q_N (by omega) (by unfold q_N; omega) (fun m hm => absurd hm (by omega))
  intro n
  induction n with
  | zero =>
    intro j N hj hN hm
    obtain ⟨N, rfl⟩ : ∃ k, N = k + 1 := ⟨N - 1, by omega⟩
    rw [fX5_findVariable_L2, h5, if_pos (ni_ple (by omega) (by omega))]
    exact ⟨-1, rfl, Or.inl ⟨rfl, fun m hm2 => hm m (by omega)⟩⟩
  | succ n ih =>
    intro j N hj hN hm
    obtain ⟨N, rfl⟩ : ∃ k, N = k + 1 := ⟨N - 1, by omega⟩
    rw [fX5_findVariable_L2, h5, if_neg (ni_nle (by omega) (by omega)), if_neg (show ¬ (24 : Int32) ≤ nI j from ni_nle (a := 24) (by omega) (by omega)), if_neg (ni_nin (by omega) (by omega)), if_neg (ni_nin (by omega) (by omega)), ni_clamp (by omega), lg_if, q_lt_s, ni_add1]
    by_cases z : q_b v 1003 j = x
    · rw [if_pos z]; exact ⟨_, rfl, Or.inr ⟨j, by omega, z, rfl⟩⟩
    · rw [if_neg z]
      exact ih (j + 1) N (by omega) (by omega) (fun m hm2 => by
        by_cases y : m = j
        · rw [y]; exact z
        · exact hm m (by omega))
set_option maxHeartbeats 200000 in
/-- the reference looks a variable up -/
theorem r_find {x : Int64} (h5 : q_i w 2441 = nI k) (hc : k ≤ 1600) : ∃ y, fX12_known x w = some (y, w) ∧ ((y = -1 ∧ ∀ j, j < k → q_b w 2439 j ≠ x) ∨ ∃ j, j < k ∧ q_b w 2439 j = x ∧ y = q_a w 2440 j ∧ ∀ m, j < m → m < k → q_b w 2439 m ≠ x) := by
  unfold fX12_known
  rw [q_lt_s, h5]
  suffices H : ∀ n N, n ≤ k → n < N → (∀ m, n ≤ m → m < k → q_b w 2439 m ≠ x) → ∃ y, fX12_known_L7 x N (nI n - 1) w = some (y, w) ∧ ((y = -1 ∧ ∀ j, j < k → q_b w 2439 j ≠ x) ∨ ∃ j, j < k ∧ q_b w 2439 j = x ∧ y = q_a w 2440 j ∧ ∀ m, j < m → m < k → q_b w 2439 m ≠ x) from
    H k q_N (Nat.le_refl _) (by unfold q_N; omega) (fun m h1 h2 => absurd h1 (by omega))
  intro n
  induction n with
  | zero =>
    intro N hj hN hm
    obtain ⟨N, rfl⟩ : ∃ k, N = k + 1 := ⟨N - 1, by omega⟩
    rw [fX12_known_L7, if_pos (by decide)]
    exact ⟨-1, rfl, Or.inl ⟨rfl, fun m hm2 => hm m (by omega) hm2⟩⟩
  | succ n ih =>
    intro N hj hN hm
    obtain ⟨N, rfl⟩ : ∃ k, N = k + 1 := ⟨N - 1, by omega⟩
    rw [ni_pred, fX12_known_L7, if_neg (by rw [ni_neg (by omega)]; exact not_false), if_neg (ni_nin (by omega) (by omega)), if_neg (ni_nin (by omega) (by omega)), ni_clamp (by omega), lg_if, q_lt_s]
    by_cases z : q_b w 2439 n = x
    · rw [if_pos z]; exact ⟨_, rfl, Or.inr ⟨n, by omega, z, rfl, fun m h1 h2 => hm m (by omega) h2⟩⟩
    · rw [if_neg z, show nI n + -1 = nI n - 1 from (Int32.sub_eq_add_neg _ _).symm]
      exact ih N (by omega) (by omega) (fun m h1 h2 => by
        by_cases y : m = n
        · rw [y]; exact z
        · exact hm m (by omega) h2)
set_option maxHeartbeats 200000 in
theorem r_find1 {x : Int64} {y y2 : Int32} (b : (y = -1 ∧ ∀ j, j < k → q_b w 2439 j ≠ x) ∨ ∃ j, j < k ∧ q_b w 2439 j = x ∧ y = q_a w 2440 j ∧ ∀ m, j < m → m < k → q_b w 2439 m ≠ x) (d : (y2 = -1 ∧ ∀ j, j < k → q_b w 2439 j ≠ x) ∨ ∃ j, j < k ∧ q_b w 2439 j = x ∧ y2 = q_a w 2440 j ∧ ∀ m, j < m → m < k → q_b w 2439 m ≠ x) : y2 = y := by
  rcases b with ⟨b1, b2⟩ | ⟨j, b1, b2, b3, b4⟩
  · rcases d with ⟨d1, d2⟩ | ⟨m, d1, d2, d3, d4⟩
    · rw [b1, d1]
    · exact absurd d2 (b2 m d1)
  · rcases d with ⟨d1, d2⟩ | ⟨m, d1, d2, d3, d4⟩
    · exact absurd b2 (d2 j b1)
    · have : j = m := by
        rcases Nat.lt_trichotomy j m with c | c | c
        · exact absurd d2 (b4 m c d1)
        · exact c
        · exact absurd b2 (d4 j c b1)
      rw [b3, d3, this]
/-- a variable too many was told, and what is blamed stands -/
def ov (g : rd_G) (t s e e' : Nat) : Prop := 24 < s → ∃ o, o < tka g t ∧ e ≤ 16 * o + 8 ∧ e' ≤ 16 * o + 8
set_option maxHeartbeats 200000 in
/-- a variable's place in both -/
theorem j_slot {t : Nat} (ok : rd_ok g) (h : St g i n p C i' n' q d r R K k s l b A e e' v w) (ht : t ≤ gm g) (o : ov g t s e e') : ∃ y y' v' w' e1 e1', fX5_slotOf (tkw g t) (nI (tka g t)) v = some (y, v') ∧ fX12_known (tkw g t) w = some (y', w) ∧ fX12_known (tkw g t) w' = some (y', w') ∧ (y' = -1 → fX12_bad 5 (nI t) w = some w') ∧ (y' ≠ -1 → w' = w) ∧ St g i n p C i' n' q d r R K k s l b A e1 e1' v' w' ∧ e1 ≤ e ∧ e1' ≤ e' ∧ (e1 = rd_N → ∃ a, a < 24 ∧ y = nI a ∧ y' = nI a) := by
  have N := h.2.2.2.2.2.1
  have hk16 : k ≤ 1600 := by have := N.1.2.2.2.1; have := N.1.2.2.2.2; omega
  obtain ⟨c, c1, c2, c3⟩ := N.2.1
  obtain ⟨y, a1, a2⟩ := c_find (x := tkw g t) c1 c2
  obtain ⟨y', b1, b2⟩ := r_find (x := tkw g t) N.1.2.2.1 hk16
  have hm := ok.2.2.1.2.2
  have hN : rd_N = 1000000 := rfl
  have kn : ∀ u : q_V, q_i u 2441 = q_i w 2441 → q_b u 2439 = q_b w 2439 → q_a u 2440 = q_a w 2440 → fX12_known (tkw g t) u = some (y', u) := by
    intro u e1 e2 e3
    obtain ⟨y2, d1, d2⟩ := r_find (w := u) (x := tkw g t) (k := k) (by rw [e1]; exact N.1.2.2.1) hk16
    rw [d1]
    rw [e2, e3] at d2
    rw [r_find1 b2 d2]
  have sl : ∀ u : Option q_V, (y = -1 → fX5_blame 5 (nI (tka g t)) v = u) → (y ≠ -1 → u = some v) → fX5_slotOf (tkw g t) (nI (tka g t)) v = q_bv u (fun T => some (y, T)) := by
    intro u u1 u2
    unfold fX5_slotOf fX5_slotOf_b19
    rw [a1, q_bd_s]
    by_cases z : y = -1
    · rw [if_pos z, u1 z]
    · rw [if_neg z, u2 z, q_bv_s]
  by_cases hs : s ≤ 24
  · obtain ⟨ck, kk⟩ := c3 hs
    subst ck
    rcases a2 with ⟨a2, a3⟩ | ⟨j, a2, a3, a4⟩
    · have y1 : y' = -1 := by
        rcases b2 with ⟨b2, _⟩ | ⟨m, b2, b3, _, _⟩
        · exact b2
        · exact absurd ((kk m b2).1.trans b3) (a3 m b2)
      obtain ⟨v', w', x1, x2, x3⟩ := j_blame (x := 5) (t := t) ok h ht (by omega) (by omega)
      have x2' := x2
      refine ⟨y, y', v', w', _, _, ?_, b1, ?_, fun _ => x2, fun z => absurd y1 z, x3, by omega, by omega, ?_⟩
      · rw [sl (some v') (fun _ => x1) (fun z => absurd a2 z), q_bv_s]
      · have R := r_blm (g := g) h.2.2.2.2.2.2.2.1 h.2.2.2.2.1.1.1 (t := t) (x := 5) (by omega) (r_place ok h ht) (by omega) (by omega) (by have := tka_L ok t; have := ok.1; omega)
        obtain ⟨w2, r1, _, r3⟩ := R
        have : w2 = w' := by
          have := r1.symm.trans x2
          exact Option.some.inj this
        subst this
        rcases r3 with r3 | r3
        · rw [r3]; exact b1
        · rw [r3]; exact kn _ (by rw [q_i_ne (by omega), q_i_ne (by omega)]) rfl rfl
      · have := tka_L ok t
        have := ok.1
        intro z; omega
    · obtain ⟨k1, k2, y1, k3, k4⟩ := kk j a2
      have yn : y ≠ -1 := by
        rw [a4, k2, k4, show (-1 : Int32) = Int32.ofInt (-1) from rfl]
        intro z
        have := congrArg Int32.toInt z
        rw [ni_toInt (by omega)] at this
        have e : (Int32.ofInt (-1)).toInt = -1 := by decide
        rw [e] at this; omega
      obtain ⟨m, m1, m2, m3⟩ : ∃ m, m < c ∧ q_b w 2439 m = tkw g t ∧ y' = q_a w 2440 m := by
        rcases b2 with ⟨b2, b3⟩ | ⟨m, b2, b3, b4, _⟩
        · exact absurd (k1.symm.trans a3) (b3 j a2)
        · exact ⟨m, b2, b3, b4⟩
      obtain ⟨_, _, ym, l3, l4⟩ := kk m m1
      have yn' : y' ≠ -1 := by
        rw [m3, l4, show (-1 : Int32) = Int32.ofInt (-1) from rfl]
        intro z
        have := congrArg Int32.toInt z
        rw [ni_toInt (by omega)] at this
        have e : (Int32.ofInt (-1)).toInt = -1 := by decide
        rw [e] at this; omega
      refine ⟨y, y', v, w, e, e', ?_, b1, b1, fun z => absurd z yn', fun _ => rfl, h, Nat.le_refl _, Nat.le_refl _, fun z => ⟨y1, k3, by rw [a4, k2, k4], ?_⟩⟩
      · rw [sl (some v) (fun z => absurd z yn) (fun _ => rfl), q_bv_s]
      · have := N.2.2.1 z j m a2 m1 ((k1.symm.trans a3).trans m2.symm)
        rw [m3, ← this, k4]
  · obtain ⟨o1, o2, o3, o4⟩ := o (by omega)
    obtain ⟨v', x1, x2⟩ : ∃ v', fX5_slotOf (tkw g t) (nI (tka g t)) v = some (y, v') ∧ St g i n p C i' n' q d r R K k s l b A e e' v' w := by
      by_cases z : y = -1
      · obtain ⟨v', x1, x2⟩ := c_blame0 (x := 5) (t := t) ok h (by omega) (by omega) (by omega)
        exact ⟨v', by rw [sl (some v') (fun _ => x1) (fun q => absurd z q), q_bv_s], x2⟩
      · exact ⟨v, by rw [sl (some v) (fun q => absurd q z) (fun _ => rfl), q_bv_s], h⟩
    have ne : e ≠ rd_N := by have := tka_L ok t; have := ok.1; omega
    by_cases z : y' = -1
    · obtain ⟨w', r1, r2, r3⟩ := r_blm (g := g) h.2.2.2.2.2.2.2.1 h.2.2.2.2.1.1.1 (t := t) (x := 5) (by omega) (r_place ok h ht) (by omega) (by omega) (by have := tka_L ok t; have := ok.1; omega)
      obtain ⟨w2, z1, z2⟩ := r_blame0 (x := 5) (t := t) ok x2 ht (by omega) (by omega) (by omega)
      have : w2 = w' := Option.some.inj (z1.symm.trans r1)
      subst this
      refine ⟨y, y', v', w2, e, e', x1, b1, ?_, fun _ => r1, fun q => absurd z q, z2, Nat.le_refl _, Nat.le_refl _, fun q => absurd q ne⟩
      rcases r3 with r3 | r3
      · rw [r3]; exact b1
      · rw [r3]; exact kn _ (by rw [q_i_ne (by omega), q_i_ne (by omega)]) rfl rfl
    · exact ⟨y, y', v', w, e, e', x1, b1, b1, fun q => absurd q z, fun _ => rfl, x2, Nat.le_refl _, Nat.le_refl _, fun q => absurd q ne⟩
end
