section
variable {g : rd_G} {i n p i' n' q d k s l b e e' : Nat} {C : Nat → Int32} {r : Int32} {R : Nat → Nat → Int32} {K : rd_K} {A : rd_A} {v w : q_V}
set_option maxHeartbeats 200000 in
theorem sT_ci {j : Nat} {x : Int32} (h : sT g i n v) (hj : j < 1803 ∨ 1809 < j) : sT g i n (q_si v j x) := by
  unfold sT at h ⊢
  rw [q_i_ne (by omega), q_i_ne (by omega), q_i_ne (by omega), q_i_ne (by omega), q_i_ne (by omega), q_i_ne (by omega), q_j_si]; exact h
set_option maxHeartbeats 200000 in
theorem sB_ci {j : Nat} {x : Int32} (h : sB p C v) (hj : j ≠ 1) : sB p C (q_si v j x) := by
  unfold sB at h ⊢
  rw [q_i_ne (by omega), q_a_si]; exact h
set_option maxHeartbeats 200000 in
theorem sN_ci {j : Nat} {x : Int32} (h : sN k s l b e A v w) (hj : j < 1005 ∨ 1010 < j ∧ j ≠ 1604) : sN k s l b e A (q_si v j x) w := by
  unfold sN at h ⊢
  rw [q_i_ne (by omega), q_i_ne (by omega), q_i_ne (by omega), q_i_ne (by omega), q_i_ne (by omega), q_a_si, q_b_si]; exact h
set_option maxHeartbeats 200000 in
theorem sM_ci {j : Nat} {x : Int32} (h : sM g e e' K v w) (hj : j < 1011 ∨ 1012 < j) : sM g e e' K (q_si v j x) w := by
  unfold sM bl at h ⊢
  rw [q_i_ne (by omega), q_i_ne (by omega)]; exact h
set_option maxHeartbeats 200000 in
theorem sN_ri {j : Nat} {x : Int32} (h : sN k s l b e A v w) (hj : j < 2441 ∨ j = 2443 ∨ j = 2444 ∨ 2446 < j) : sN k s l b e A v (q_si w j x) := by
  unfold sN at h ⊢
  rw [q_i_ne (by omega), q_i_ne (by omega), q_i_ne (by omega), q_i_ne (by omega), q_a_si, q_b_si]; exact h
set_option maxHeartbeats 200000 in
theorem sM_ri {j : Nat} {x : Int32} (h : sM g e e' K v w) (hj : j < 2409 ∨ 2409 < j ∧ j < 2412 ∨ 2413 < j) : sM g e e' K v (q_si w j x) := by
  unfold sM br at h ⊢
  rw [q_i_ne (k := j) (by omega), q_i_ne (k := j) (by omega), q_i_ne (k := j) (by omega)]; exact h
set_option maxHeartbeats 200000 in
theorem sK_e {R0 : Nat → Int32} {w' : q_V} (h1 : q_b w' 2434 = q_b w 2434) (h2 : q_a w' 2435 = q_a w 2435) (h3 : q_a w' 2436 = q_a w 2436) (h4 : q_a w' 2437 = q_a w 2437) : ∀ {K : rd_K}, sK g q R0 w K → sK g q R0 w' K := by
  intro K
  induction K with
  | nil => exact fun _ => trivial
  | cons e t ih =>
    intro h
    refine ⟨?_, ih h.2⟩
    rw [h1, h2, h3, h4]; exact h.1
set_option maxHeartbeats 200000 in
/-- the class's order -/
theorem c_kind (h : St g i n p C i' n' q d r R K k s l b A e e' v w) : q_i v 1805 = tkc g i := h.2.2.1.2.2.1
set_option maxHeartbeats 200000 in
theorem c_place (h : St g i n p C i' n' q d r R K k s l b A e e' v w) : q_i v 1806 = nI (tka g i) := h.2.2.1.2.2.2.1
set_option maxHeartbeats 200000 in
theorem c_name (h : St g i n p C i' n' q d r R K k s l b A e e' v w) (z : tkc g i = 259) : q_j v 1808 = tkw g i := h.2.2.1.2.2.2.2.1 z
set_option maxHeartbeats 200000 in
theorem c_number (h : St g i n p C i' n' q d r R K k s l b A e e' v w) (z : tkc g i = 260) : q_i v 1807 = nI (tkn g i) := h.2.2.1.2.2.2.2.2.1 z
set_option maxHeartbeats 200000 in
theorem tkc_V (ok : rd_ok g) : tkc g i ∈ tk_V := tk_cV ok.2.1
set_option maxHeartbeats 200000 in
theorem tkc_263 (ok : rd_ok g) : tkc g i ≠ 263 := by
  intro z
  have := tkc_V (i := i) ok
  rw [z] at this; exact absurd this (by decide)
set_option maxHeartbeats 200000 in
theorem c_stop (ok : rd_ok g) (h : St g i n p C i' n' q d r R K k s l b A e e' v w) : fX9_isStopped v = some (0, v) := by
  unfold fX9_isStopped fX9_isStopped_b15
  rw [c_kind h, if_neg (tkc_263 ok), if_neg (by decide)]
set_option maxHeartbeats 200000 in
theorem c_end (h : St g i (n + 1) p C i' n' q d r R K k s l b A e e' v w) : ∃ v', fX9_endNest v = some v' ∧ St g i n p C i' n' q d r R K k s l b A e e' v' w := by
  obtain ⟨f, F, t, B, Y, N, M⟩ := h
  unfold fX9_endNest
  rw [q_lt_s, t.2.1, ni_pred]
  refine ⟨_, rfl, rdf_i f (by omega), F, ?_, sB_ci B (by omega), Y, sN_ci N (by omega), sM_ci M (by omega)⟩
  unfold sT at t ⊢
  rw [q_i_ne (by omega), q_i_at, q_i_ne (by omega), q_i_ne (by omega), q_i_ne (by omega), q_i_ne (by omega), q_j_si]
  exact ⟨t.1, rfl, t.2.2.1, t.2.2.2.1, t.2.2.2.2.1, t.2.2.2.2.2.1, t.2.2.2.2.2.2.1, t.2.2.2.2.2.2.2.1, by omega⟩
set_option maxHeartbeats 200000 in
theorem c_nest (h : St g i n p C i' n' q d r R K k s l b A e e' v w) (hn : n < 14) : St g i (n + 1) p C i' n' q d r R K k s l b A e e' (q_si v 1804 (q_i v 1804 + 1)) w := by
  obtain ⟨f, F, t, B, Y, N, M⟩ := h
  rw [t.2.1, ni_add1]
  refine ⟨rdf_i f (by omega), F, ?_, sB_ci B (by omega), Y, sN_ci N (by omega), sM_ci M (by omega)⟩
  unfold sT at t ⊢
  rw [q_i_ne (by omega), q_i_at, q_i_ne (by omega), q_i_ne (by omega), q_i_ne (by omega), q_i_ne (by omega), q_j_si]
  exact ⟨t.1, rfl, t.2.2.1, t.2.2.2.1, t.2.2.2.2.1, t.2.2.2.2.2.1, t.2.2.2.2.2.2.1, t.2.2.2.2.2.2.2.1, by omega⟩
/-- the token's fault where it can't stand -/
def rf (g : rd_G) (i : Nat) : Int32 := if tkc g i = 262 then 1 else 2
set_option maxHeartbeats 200000 in
theorem rf_pos : 0 < rf g i := by unfold rf; split <;> decide
set_option maxHeartbeats 200000 in
theorem c_stopW {x : Int32} (h : St g i n p C i' n' q d r R K k s l b A e e' v w) (hx : 0 < x) : ∃ v', fX9_stopWith x v = some v' ∧ xc g x (nI (tka g i)) l v' := by
  obtain ⟨f, F, t, B, Y, N, M⟩ := h
  unfold fX9_stopWith fX9_stopWith_b20
  rw [if_pos t.2.2.2.2.2.2.1, q_lt_s, q_lt_s, q_lt_s]
  refine ⟨_, rfl, rdf_i (rdf_i (rdf_i f (by omega)) (by omega)) (by omega), q_i_at, ?_, ?_, hx, ?_⟩
  · rw [q_i_ne (by omega), q_i_ne (by omega), q_i_at]
  · rw [q_i_ne (by omega), q_i_at, q_i_ne (by omega), t.2.2.2.1]
  · rw [q_i_ne (by omega), q_i_ne (by omega), q_i_ne (by omega)]; exact N.2.2.2.1.1
set_option maxHeartbeats 200000 in
theorem c_refuse (h : St g i n p C i' n' q d r R K k s l b A e e' v w) : ∃ v', fX9_refuse v = some v' ∧ xc g (rf g i) (nI (tka g i)) l v' := by
  obtain ⟨v', a1, a2⟩ := c_stopW h (rf_pos (g := g) (i := i))
  unfold fX9_refuse fX9_refuse_b16
  unfold rf at a1 a2 ⊢
  rw [c_kind h]
  by_cases c : tkc g i = 262
  · rw [if_pos c] at a1 a2 ⊢
    rw [if_pos c, a1, q_bv_s]; exact ⟨v', rfl, a2⟩
  · rw [if_neg c] at a1 a2 ⊢
    rw [if_neg c, a1, q_bv_s]; exact ⟨v', rfl, a2⟩
set_option maxHeartbeats 200000 in
theorem c_exp {y : Int32} (ok : rd_ok g) (h : St g i n p C i' n' q d r R K k s l b A e e' v w) (hy : tkc g i = y) (h1 : y ≠ 261) (h2 : y ≠ 262) : ∃ v', fX9_expect y v = some v' ∧ St g (i + 1) n p C i' n' q d r R K k s l b A e e' v' w := by
  obtain ⟨v', a1, a2⟩ := c_adv ok h (by rw [hy]; exact h1) (by rw [hy]; exact h2)
  unfold fX9_expect fX9_expect_b19
  rw [c_kind h, if_pos hy, a1, q_bv_s]; exact ⟨v', rfl, a2⟩
set_option maxHeartbeats 200000 in
theorem c_expX {y : Int32} (h : St g i n p C i' n' q d r R K k s l b A e e' v w) (hy : tkc g i ≠ y) : ∃ v', fX9_expect y v = some v' ∧ xc g (rf g i) (nI (tka g i)) l v' := by
  obtain ⟨v', a1, a2⟩ := c_refuse h
  unfold fX9_expect fX9_expect_b19
  rw [c_kind h, if_neg hy, a1, q_bv_s]; exact ⟨v', rfl, a2⟩
set_option maxHeartbeats 200000 in
theorem c_expN {y : Int32} (ok : rd_ok g) (h : St g i n p C i' n' q d r R K k s l b A e e' v w) (hy : tkc g i = y) (h1 : y ≠ 261) (h2 : y ≠ 262) (hn : n < 14) : ∃ v', fX9_expectNest y v = some v' ∧ St g (i + 1) (n + 1) p C i' n' q d r R K k s l b A e e' v' w := by
  obtain ⟨v', a1, a2⟩ := c_adv ok (c_nest h hn) (by rw [hy]; exact h1) (by rw [hy]; exact h2)
  unfold fX9_expectNest fX9_expectNest_b46
  rw [c_kind h, if_pos hy, if_pos (show q_i v 1804 < 14 by rw [h.2.2.1.2.1]; exact ni_plt (b := 14) hn (by omega)), q_lt_s, a1, q_bv_s]; exact ⟨v', rfl, a2⟩
set_option maxHeartbeats 200000 in
theorem c_expN3 {y : Int32} (h : St g i 14 p C i' n' q d r R K k s l b A e e' v w) (hy : tkc g i = y) : ∃ v', fX9_expectNest y v = some v' ∧ xc g 3 (nI (tka g i)) l v' := by
  obtain ⟨v', a1, a2⟩ := c_stopW h (x := 3) (by decide)
  unfold fX9_expectNest fX9_expectNest_b46
  rw [c_kind h, if_pos hy, if_neg (show ¬ q_i v 1804 < 14 by rw [h.2.2.1.2.1]; decide), a1, q_bv_s]; exact ⟨v', rfl, a2⟩
set_option maxHeartbeats 200000 in
theorem c_expNX {y : Int32} (h : St g i n p C i' n' q d r R K k s l b A e e' v w) (hy : tkc g i ≠ y) : ∃ v', fX9_expectNest y v = some v' ∧ xc g (rf g i) (nI (tka g i)) l v' := by
  obtain ⟨v', a1, a2⟩ := c_refuse h
  unfold fX9_expectNest fX9_expectNest_b46
  rw [c_kind h, if_neg hy, a1, q_bv_s]; exact ⟨v', rfl, a2⟩
set_option maxHeartbeats 200000 in
/-- an order of the class -/
theorem c_add {y : Int32} (ok : rd_ok g) (h : St g i n p C i' n' q d r R K k s l b A e e' v w) (hp : p < 2 * gL g + 16) : ∃ v', fX0_add y v = some (nI p, v') ∧ St g i n (p + 1) (upd C p y) i' n' q d r R K k s l b A e e' v' w := by
  obtain ⟨f, F, t, B, Y, N, M⟩ := h
  have hL := ok.1
  have hn := rd_n0 ok f
  unfold fX0_add fX0_add_b35
  rw [B.1, q_lt_s, if_neg (by rw [ni_neg (by omega)]; exact not_false), hn, if_neg (ni_nle hp (by omega)), if_neg (ni_nin hp (by omega)), q_lt_s, q_lt_s, q_i_sa, B.1, ni_add1, ni_clamp (by omega), B.2]
  refine ⟨_, rfl, rdf_i (rdf_a f (by omega)) (by omega), F, sT_ci t (by omega), ⟨q_i_at, by rw [q_a_si, q_a_sa, if_pos rfl]⟩, Y, ?_, ?_⟩
  · refine sN_ci ?_ (by omega)
    unfold sN at N ⊢
    rw [q_i_sa, q_b_sa, q_a_sa, if_neg (by omega), q_a_sa, if_neg (by omega)]; exact N
  · exact sM_ci M (by omega)
set_option maxHeartbeats 200000 in
theorem c_add2 {x y : Int32} (ok : rd_ok g) (h : St g i n p C i' n' q d r R K k s l b A e e' v w) (hp : p + 1 < 2 * gL g + 16) : ∃ v', fX0_add_ x y v = some (nI p, v') ∧ St g i n (p + 2) (upd (upd C p x) (p + 1) y) i' n' q d r R K k s l b A e e' v' w := by
  obtain ⟨v1, a1, a2⟩ := c_add (y := x) ok h (by omega)
  obtain ⟨v2, b1, b2⟩ := c_add (y := y) ok a2 (by omega)
  unfold fX0_add_
  rw [a1, q_bd_s, b1, q_bd_s]
  exact ⟨v2, rfl, b2⟩
set_option maxHeartbeats 200000 in
theorem c_size (h : St g i n p C i' n' q d r R K k s l b A e e' v w) : fX0_size v = some (nI p, v) := by
  unfold fX0_size; rw [h.2.2.2.1.1]
set_option maxHeartbeats 200000 in
theorem c_set {a : Nat} {y : Int32} (ok : rd_ok g) (h : St g i n p C i' n' q d r R K k s l b A e e' v w) (ha : a < 2 * gL g + 16) : ∃ v', fX0_set (nI a) y v = some v' ∧ St g i n p (upd C a y) i' n' q d r R K k s l b A e e' v' w := by
  obtain ⟨f, F, t, B, Y, N, M⟩ := h
  have hL := ok.1
  have hn := rd_n0 ok f
  unfold fX0_set fX0_set_b20
  rw [if_neg (by rw [ni_neg (by omega)]; exact not_false), hn, if_neg (ni_nle ha (by omega)), if_neg (ni_nin ha (by omega)), q_lt_s, ni_clamp (by omega), B.2]
  refine ⟨_, rfl, rdf_a f (by omega), F, t, ⟨B.1, by rw [q_a_sa, if_pos rfl]⟩, Y, ?_, M⟩
  unfold sN at N ⊢
  rw [q_i_sa, q_b_sa, q_a_sa, if_neg (by omega), q_a_sa, if_neg (by omega)]; exact N
end
