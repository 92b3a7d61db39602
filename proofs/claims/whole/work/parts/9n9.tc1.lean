/-! tokens, of one side alone -/
section
variable {g : rd_G} {i n p q d k s l b e e' D Bd : Nat} {C : Nat → Int32} {r : Int32} {R : Nat → Nat → Int32} {K : rd_K} {v w v0 w0 v1 w1 : q_V} {f x : Int32}
set_option maxHeartbeats 200000 in
theorem xC_mk (h : sT g i n v) (hk : rdk v0 v) : xC v0 (rf g i) (nI (tka g i)) (q_si (q_si (q_si v 1809 (rf g i)) 1810 (q_i (q_si v 1809 (rf g i)) 1806)) 1805 263) := by
  refine ⟨rdk_i (rdk_i (rdk_i hk (by omega)) (by omega)) (by omega), q_i_at, ?_, ?_, rf_pos⟩
  · rw [q_i_ne (by omega), q_i_ne (by omega), q_i_at]
  · rw [q_i_ne (by omega), q_i_at, q_i_ne (by omega)]; exact h.2.2.2.1
set_option maxHeartbeats 200000 in
theorem e_refuse (h : sT g i n v) (hk : rdk v0 v) : ∃ v', fX9_refuse v = some v' ∧ xC v0 (rf g i) (nI (tka g i)) v' := by
  have hx := xC_mk h hk
  unfold fX9_refuse fX9_refuse_b16 fX9_stopWith fX9_stopWith_b20
  unfold rf at hx ⊢
  rw [h.2.2.1, if_pos h.2.2.2.2.2.2.1]
  by_cases c : tkc g i = 262
  · rw [if_pos c] at hx ⊢
    rw [if_pos c, q_lt_s, q_lt_s, q_lt_s, q_bv_s]; exact ⟨_, rfl, hx⟩
  · rw [if_neg c] at hx ⊢
    rw [if_neg c, if_pos h.2.2.2.2.2.2.1, q_lt_s, q_lt_s, q_lt_s, q_bv_s]; exact ⟨_, rfl, hx⟩
set_option maxHeartbeats 200000 in
theorem e_exp {y : Int32} (ok : rd_ok (reb g v w)) (h : sT g i n v) (hy : tkc g i = y) (h1 : y ≠ 261) (h2 : y ≠ 262) : ∃ v', fX9_expect y v = some v' ∧ sT g (i + 1) n v' ∧ lx_fr v v' := by
  have hT : tO g := ⟨ok.1, ok.2.1⟩
  obtain ⟨v', a1, s1, f1⟩ := k_adv (g := g) (i := i) (v := v) hT ⟨ok.2.2.2.2.1, h.1, h.2.2.1, h.2.2.2.1, h.2.2.2.2.1, h.2.2.2.2.2.1⟩
  refine ⟨v', ?_, ⟨s1.2.1, (f1.1 1804 (by omega)).trans h.2.1, s1.2.2.1, s1.2.2.2.1, s1.2.2.2.2.1, s1.2.2.2.2.2, (f1.1 1809 (by omega)).trans h.2.2.2.2.2.2.1, ?_, h.2.2.2.2.2.2.2.2⟩, f1⟩
  · unfold fX9_expect fX9_expect_b19
    rw [h.2.2.1, if_pos hy, a1, q_bv_s]
  · have hi := h.2.2.2.2.2.2.2.1
    have E : tk_E g.1 (gL g) kw_c (gm g) := ok.2.2.1
    rcases Nat.lt_or_ge i (gm g) with z | z
    · exact z
    · have e : i = gm g := by omega
      rcases E.2.1 with y1 | y1
      · rw [← e] at y1; rw [show tk_c g.1 (gL g) kw_c i = tkc g i from rfl, hy] at y1; exact absurd y1 h1
      · rw [← e] at y1; rw [show tk_c g.1 (gL g) kw_c i = tkc g i from rfl, hy] at y1; exact absurd y1 h2
set_option maxHeartbeats 200000 in
theorem e_expX {y : Int32} (h : sT g i n v) (hk : rdk v0 v) (hy : tkc g i ≠ y) : ∃ v', fX9_expect y v = some v' ∧ xC v0 (rf g i) (nI (tka g i)) v' := by
  obtain ⟨v', a1, a2⟩ := e_refuse h hk
  unfold fX9_expect fX9_expect_b19
  rw [h.2.2.1, if_neg hy, a1, q_bv_s]; exact ⟨v', rfl, a2⟩
set_option maxHeartbeats 200000 in
theorem xC_ref (h : xC v0 f x v) : fX9_refuse v = some v := by
  obtain ⟨h1, h2, h3, h4, h5⟩ := h
  have ne : ¬ q_i v 1809 = 0 := by
    intro z; rw [← h3, z] at h5; exact absurd h5 (by decide)
  unfold fX9_refuse fX9_refuse_b16 fX9_stopWith fX9_stopWith_b20
  rw [if_neg (show ¬ q_i v 1805 = 262 by rw [h2]; decide), if_neg ne, q_lt_s, q_si_ix h2, q_bv_s]
set_option maxHeartbeats 200000 in
theorem xC_exp {y : Int32} (h : xC v0 f x v) (hy : y ≠ 263) : fX9_expect y v = some v := by
  unfold fX9_expect fX9_expect_b19
  rw [if_neg (by rw [h.2.1]; exact Ne.symm hy), xC_ref h, q_bv_s]
set_option maxHeartbeats 200000 in
theorem xC_stop (h : xC v0 f x v) : fX9_isStopped v = some (1, v) := by
  unfold fX9_isStopped fX9_isStopped_b15
  rw [if_pos h.2.1, if_neg (by decide)]
set_option maxHeartbeats 200000 in
theorem e_stop (ok : rd_ok (reb g v w)) (h : sT g i n v) : fX9_isStopped v = some (0, v) := by
  unfold fX9_isStopped fX9_isStopped_b15
  rw [h.2.2.1, if_neg (show ¬ tkc g i = 263 from k_263 (g := g) ⟨ok.1, ok.2.1⟩), if_neg (by decide)]
set_option maxHeartbeats 200000 in
theorem xR_fine (h : xR w0 f x w) : fX12_fine w = some (0, w) := by
  unfold fX12_fine fX12_fine_b12
  rw [if_neg (fun z => by have := h.2.2.2; rw [← h.2.1, z] at this; exact absurd this (by decide)), if_neg (by decide)]
set_option maxHeartbeats 200000 in
theorem xR_is {y : Int32} (h : xR w0 f x w) : fX12_is y w = some (0, w) := by
  unfold fX12_is fX12_is_b24 fX12_is_b25
  rw [if_neg (fun z => by have := h.2.2.2; rw [← h.2.1, z] at this; exact absurd this (by decide)), if_neg (by decide)]
set_option maxHeartbeats 200000 in
theorem xR_take {y : Int32} (h : xR w0 f x w) : fX12_take y w = some w := by
  unfold fX12_take fX12_take_b25 fX12_wrong
  rw [xR_is h, q_bd_s, if_pos rfl, if_neg (by rw [h.2.1]; exact Int32.not_le.2 h.2.2.2), q_bv_s]
set_option maxHeartbeats 200000 in
theorem f_fine (h : sR g i n q d r R K w) : fX12_fine w = some (1, w) := by
  unfold fX12_fine fX12_fine_b12
  rw [if_pos h.1.1, if_neg (by decide)]
set_option maxHeartbeats 200000 in
theorem f_in (ok : rd_ok (reb g v w)) (h : sR g i n q d r R K w) : ¬ (nI i < 0 ∨ 3002 ≤ (nI i).toNatClampNeg) ∧ (nI i).toNatClampNeg = i ∧ q_a w 2404 i = tk_m (tkc g i) ∧ q_a w 2405 i = nI (tka g i) := by
  have h1 := h.2.2.2.1
  have h2 : gm g ≤ 3000 := ok.2.2.1.2.2
  have tk := ok.2.2.2.2.2.2.2 i (by show i < gm g + 1; omega)
  exact ⟨ni_nin (by omega) (by omega), ni_clamp (by omega), tk.1, tk.2.1⟩
set_option maxHeartbeats 200000 in
theorem f_is {c y : Int32} (ok : rd_ok (reb g v w)) (h : sR g i n q d r R K w) (hx : y = tk_m c) (hc : c ∈ tk_V) : fX12_is y w = some (if tkc g i = c then 1 else 0, w) := by
  obtain ⟨h1, h2, h3, _⟩ := f_in ok h
  unfold fX12_is fX12_is_b24 fX12_is_b25
  rw [if_pos h.1.1, h.1.2.1, if_neg h1, h2, h3, hx]
  by_cases z : tkc g i = c
  · rw [if_pos (by rw [z]), if_pos z, if_neg (by decide)]
  · rw [if_neg (show ¬ tk_m (tkc g i) = tk_m c from fun y => z (tk_Vi _ (tk_cV (kw := kw_c) (i := i) ok.2.1) _ hc y)), if_neg z, if_neg (by decide)]
set_option maxHeartbeats 200000 in
theorem f_take {c y : Int32} (ok : rd_ok (reb g v w)) (h : sR g i n q d r R K w) (hx : y = tk_m c) (hc : c ∈ tk_V) (hy : tkc g i = c) (h1 : c ≠ 261) (h2 : c ≠ 262) : fX12_take y w = some (q_si w 2410 (nI (i + 1))) ∧ sR g (i + 1) n q d r R K (q_si w 2410 (nI (i + 1))) := by
  refine ⟨?_, ?_⟩
  · unfold fX12_take fX12_take_b25
    rw [f_is ok h hx hc, q_bd_s, if_pos hy, if_neg (by decide), q_lt_s, h.1.2.1, ni_add1]
  · unfold sR at h ⊢
    rw [q_i_ne (by omega), q_i_at, q_i_ne (by omega), q_i_ne (by omega), q_i_ne (by omega), q_i_ne (by omega), q_i_ne (by omega), q_a_si]
    refine ⟨⟨h.1.1, rfl, h.1.2.2⟩, h.2.1, sK_i h.2.2.1, ?_, h.2.2.2.2⟩
    have hi := h.2.2.2.1
    have E : tk_E g.1 (gL g) kw_c (gm g) := ok.2.2.1
    rcases Nat.lt_or_ge i (gm g) with z | z
    · exact z
    · have e : i = gm g := by omega
      rcases E.2.1 with y1 | y1
      · rw [← e] at y1; rw [show tk_c g.1 (gL g) kw_c i = tkc g i from rfl, hy] at y1; exact absurd y1 h1
      · rw [← e] at y1; rw [show tk_c g.1 (gL g) kw_c i = tkc g i from rfl, hy] at y1; exact absurd y1 h2
set_option maxHeartbeats 200000 in
theorem f_takeX {c y : Int32} (ok : rd_ok (reb g v w)) (h : sR g i n q d r R K w) (hk : rdK w0 w) (hx : y = tk_m c) (hc : c ∈ tk_V) (hy : tkc g i ≠ c) : ∃ w', fX12_take y w = some w' ∧ xR w0 (rf g i) (nI (tka g i)) w' := by
  obtain ⟨h1, h2, h3, h4⟩ := f_in ok h
  have key : ∀ z : Int32, 0 < z → xR w0 z (nI (tka g i)) (q_si (q_si w 2408 z) 2409 (nI (tka g i))) := fun z hz => ⟨rdK_i (rdK_i hk (by omega)) (by omega), by rw [q_i_ne (by omega), q_i_at], q_i_at, hz⟩
  have e1 := h.1.1
  have hkk : (q_a w 2404 i = 1) = (tkc g i = 262) := by
    rw [h3, show (1 : Int32) = tk_m 262 from rfl]
    exact propext ⟨fun y => tk_Vi _ (tk_cV (kw := kw_c) (i := i) ok.2.1) _ (by decide) y, fun y => by rw [y]⟩
  have cont : ∀ z : Int32, (q_lt (q_si w 2408 z) fun T1001 => if q_i T1001 2410 < 0 ∨ 3002 ≤ (q_i T1001 2410).toNatClampNeg then none else q_lt (q_si T1001 2409 (q_a T1001 2405 (q_i T1001 2410).toNatClampNeg)) fun T1003 => some T1003) = some (q_si (q_si w 2408 z) 2409 (nI (tka g i))) := by
    intro z
    rw [q_lt_s, q_i_ne (by omega), h.1.2.1, if_neg h1, h2, q_a_si, h4, q_lt_s]
  unfold fX12_take fX12_take_b25 fX12_wrong fX12_wrong_b27
  rw [f_is ok h hx hc, q_bd_s, if_neg hy, if_pos rfl, if_pos (by rw [e1]; decide), h.1.2.1, if_neg h1, h2]
  by_cases z : tkc g i = 262
  · rw [if_pos (by rw [hkk]; exact z), cont, q_bv_s]
    refine ⟨_, rfl, ?_⟩
    unfold rf; rw [if_pos z]; exact key 1 (by decide)
  · rw [if_neg (by rw [hkk]; exact z), cont, q_bv_s]
    refine ⟨_, rfl, ?_⟩
    unfold rf; rw [if_neg z]; exact key 2 (by decide)
end
