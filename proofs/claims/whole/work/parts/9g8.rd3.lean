/-- a row of the reference, and where it goes -/
def rE (R : Nat → Nat → Int32) (q : Nat) (o a b : Int32) : Nat → Nat → Int32 := fun j => if j = 0 then upd (R 0) q o else if j = 1 then upd (R 1) q a else if j = 2 then upd (R 2) q b else R j
def rO (R : Nat → Nat → Int32) (j x : Nat) (y : Int32) : Nat → Nat → Int32 := fun m => if m = j then upd (R j) x y else R m
section
variable {g : rd_G} {i n p i' n' q d k s l b e e' : Nat} {C : Nat → Int32} {r : Int32} {R : Nat → Nat → Int32} {K : rd_K} {A : rd_A} {v w : q_V}
set_option maxHeartbeats 200000 in
theorem rdj_b {j : Nat} (h : j < 9) : 2414 ≤ rdj j ∧ rdj j ≤ 2423 ∧ rdj j ≠ 2417 := by unfold rdj; split <;> omega
set_option maxHeartbeats 200000 in
theorem sK_q {q' : Nat} {R0 R1 : Nat → Int32} (hq : q ≤ q') (hR : ∀ x, x < q → R1 x = R0 x) : ∀ {K : rd_K}, sK g q R0 w K → sK g q' R1 w K := by
  intro K
  induction K with
  | nil => exact fun _ => trivial
  | cons e t ih =>
    intro h
    exact ⟨⟨h.1.1, h.1.2.1, by have := h.1.2.2.1; omega, by rw [hR _ h.1.2.2.1]; exact h.1.2.2.2.1, h.1.2.2.2.2⟩, ih h.2⟩
set_option maxHeartbeats 200000 in
theorem sK_lt {R0 : Nat → Int32} : ∀ {K : rd_K}, sK g q R0 w K → ∀ c, c ∈ K → c.2.2.2 < q ∧ c.2.1 ≤ gm g ∧ R0 c.2.2.2 = 19 := by
  intro K
  induction K with
  | nil => exact fun _ c hc => absurd hc (by simp)
  | cons e t ih =>
    intro h c hc
    rcases List.mem_cons.1 hc with z | z
    · rw [z]; exact ⟨h.1.2.2.1, h.1.2.1, h.1.2.2.2.1⟩
    · exact ih h.2 c z
set_option maxHeartbeats 200000 in
theorem sK_i {R0 : Nat → Int32} {j : Nat} {x : Int32} (h : sK g q R0 w K) : sK g q R0 (q_si w j x) K := sK_e (w := w) (w' := q_si w j x) rfl rfl rfl rfl h
set_option maxHeartbeats 200000 in
theorem sR_i {j : Nat} {x : Int32} (h : sR g i n q d r R K w) (hj : j < 2408 ∨ j = 2409 ∨ j = 2412 ∨ j = 2413 ∨ 2426 ≤ j ∧ j < 2438 ∨ 2438 < j) : sR g i n q d r R K (q_si w j x) := by
  unfold sR at h ⊢
  rw [q_i_ne (by omega), q_i_ne (by omega), q_i_ne (by omega), q_i_ne (by omega), q_i_ne (by omega), q_i_ne (by omega), q_i_ne (by omega), q_a_si]
  exact ⟨h.1, h.2.1, sK_i h.2.2.1, h.2.2.2⟩
set_option maxHeartbeats 200000 in
theorem r_now (ok : rd_ok g) (h : St g i n p C i' n' q d r R K k s l b A e e' v w) (h1 : tkc g i' ≠ 261) (h2 : tkc g i' ≠ 262) : St g i n p C (i' + 1) n' q d r R K k s l b A e e' v (q_si w 2410 (q_i w 2410 + 1)) := by
  obtain ⟨f, F, t, B, Y, N, M⟩ := h
  rw [Y.1.2.1, ni_add1]
  refine ⟨f, rdF_i F (by omega), t, B, ?_, sN_ri N (by omega), sM_ri M (by omega)⟩
  unfold sR at Y ⊢
  rw [q_i_ne (by omega), q_i_at, q_i_ne (by omega), q_i_ne (by omega), q_i_ne (by omega), q_i_ne (by omega), q_i_ne (by omega), q_a_si]
  refine ⟨⟨Y.1.1, rfl, Y.1.2.2⟩, Y.2.1, sK_i Y.2.2.1, ?_, Y.2.2.2.2⟩
  have := Y.2.2.2.1
  have E := ok.2.2.1
  rcases Nat.lt_or_ge i' (gm g) with z | z
  · exact z
  · have : i' = gm g := by omega
    rcases E.2.1 with y | y
    · rw [← this] at y; exact absurd y h1
    · rw [← this] at y; exact absurd y h2
set_option maxHeartbeats 200000 in
theorem r_i (h : St g i n p C i' n' q d r R K k s l b A e e' v w) : q_i w 2410 = nI i' := h.2.2.2.2.1.1.2.1
set_option maxHeartbeats 200000 in
theorem r_in (ok : rd_ok g) (h : St g i n p C i' n' q d r R K k s l b A e e' v w) : i' < 3002 ∧ ¬ (nI i' < 0 ∨ 3002 ≤ (nI i').toNatClampNeg) ∧ (nI i').toNatClampNeg = i' := by
  have := h.2.2.2.2.1.2.2.2.1
  have := ok.2.2.1.2.2
  exact ⟨by omega, ni_nin (by omega) (by omega), ni_clamp (by omega)⟩
set_option maxHeartbeats 200000 in
theorem r_kind (ok : rd_ok g) (h : St g i n p C i' n' q d r R K k s l b A e e' v w) : q_a w 2404 i' = tk_m (tkc g i') := (rd_tk ok h.2.1 i' (by have := h.2.2.2.2.1.2.2.2.1; omega)).1
set_option maxHeartbeats 200000 in
theorem r_place {t : Nat} (ok : rd_ok g) (h : St g i n p C i' n' q d r R K k s l b A e e' v w) (ht : t ≤ gm g) : q_a w 2405 t = nI (tka g t) := (rd_tk ok h.2.1 t (by omega)).2.1
set_option maxHeartbeats 200000 in
theorem r_name {t : Nat} (ok : rd_ok g) (h : St g i n p C i' n' q d r R K k s l b A e e' v w) (ht : t ≤ gm g) (z : tkc g t = 259) : q_b w 2406 t = tkw g t := (rd_tk ok h.2.1 t (by omega)).2.2.1 z
set_option maxHeartbeats 200000 in
theorem r_number {t : Nat} (ok : rd_ok g) (h : St g i n p C i' n' q d r R K k s l b A e e' v w) (ht : t ≤ gm g) (z : tkc g t = 260) : q_b w 2406 t = Int64.ofNat (tkn g t) := (rd_tk ok h.2.1 t (by omega)).2.2.2 z
set_option maxHeartbeats 200000 in
theorem r_fine (h : St g i n p C i' n' q d r R K k s l b A e e' v w) : fX12_fine w = some (1, w) := by
  unfold fX12_fine fX12_fine_b12
  rw [if_pos h.2.2.2.2.1.1.1, if_neg (by decide)]
set_option maxHeartbeats 200000 in
theorem r_is {c x : Int32} (ok : rd_ok g) (h : St g i n p C i' n' q d r R K k s l b A e e' v w) (hx : x = tk_m c) (hc : c ∈ tk_V) : fX12_is x w = some (if tkc g i' = c then 1 else 0, w) := by
  have hi := r_in ok h
  unfold fX12_is fX12_is_b24 fX12_is_b25
  rw [if_pos h.2.2.2.2.1.1.1, r_i h, if_neg hi.2.1, hi.2.2, r_kind ok h, hx]
  by_cases z : tkc g i' = c
  · rw [if_pos (by rw [z]), if_pos z, if_neg (by decide)]
  · rw [if_neg (fun y => z (tk_Vi _ (tkc_V ok) _ hc y)), if_neg z, if_neg (by decide)]
set_option maxHeartbeats 200000 in
theorem r_sign {c : Int32} (ok : rd_ok g) (h : St g i n p C i' n' q d r R K k s l b A e e' v w) (hx : 100 + c = tk_m c) (hc : c ∈ tk_V) : fX12_isSign c w = some (if tkc g i' = c then 1 else 0, w) := by
  unfold fX12_isSign
  rw [r_is ok h hx hc, q_bd_s]
  split
  · rw [if_neg (by decide)]
  · rw [if_neg (by decide)]
set_option maxHeartbeats 200000 in
theorem r_wrong (ok : rd_ok g) {Bd : Nat} (h : St g i n p C i' n' q d r R K k s l b A e e' v w) (hB : q ≤ Bd) : ∃ w', fX12_wrong w = some w' ∧ xr g (rf g i') (nI (tka g i')) Bd w' := by
  have hi := r_in ok h
  have hk : (q_a w 2404 i' = 1) = (tkc g i' = 262) := by
    rw [r_kind ok h, show (1 : Int32) = tk_m 262 from rfl]
    exact propext ⟨fun y => tk_Vi _ (tkc_V ok) _ (by decide) y, fun y => by rw [y]⟩
  have hp : q_a w 2405 i' = nI (tka g i') := r_place ok h h.2.2.2.2.1.2.2.2.1
  unfold fX12_wrong fX12_wrong_b27
  have e1 := h.2.2.2.2.1.1.1
  have key : ∀ x : Int32, 0 < x → xr g x (nI (tka g i')) Bd (q_si (q_si w 2408 x) 2409 (nI (tka g i'))) := fun x hx =>
    ⟨⟨rdF_i (rdF_i h.2.1 (by omega)) (by omega), ⟨i', h.2.2.2.2.1.2.2.2.1, by rw [q_i_ne (by omega), q_i_ne (by omega)]; exact r_i h⟩, k, by have := h.2.2.2.2.2.1.1; omega, by rw [q_i_ne (by omega), q_i_ne (by omega)]; exact h.2.2.2.2.2.1.1.2.2.1⟩, by rw [q_i_ne (by omega), q_i_at], q_i_at, hx, q, hB, by rw [q_i_ne (by omega), q_i_ne (by omega)]; exact h.2.2.2.2.1.1.2.2.2.1⟩
  rw [if_pos (by rw [e1]; decide), r_i h, if_neg hi.2.1, hi.2.2]
  have cont : ∀ x : Int32, (q_lt (q_si w 2408 x) fun T1001 => if q_i T1001 2410 < 0 ∨ 3002 ≤ (q_i T1001 2410).toNatClampNeg then none else q_lt (q_si T1001 2409 (q_a T1001 2405 (q_i T1001 2410).toNatClampNeg)) fun T1003 => some T1003) = some (q_si (q_si w 2408 x) 2409 (nI (tka g i'))) := by
    intro x
    rw [q_lt_s, q_i_ne (by omega), r_i h, if_neg hi.2.1, hi.2.2, q_a_si, hp, q_lt_s]
  by_cases z : tkc g i' = 262
  · rw [if_pos (by rw [hk]; exact z), cont]
    refine ⟨_, rfl, ?_⟩
    unfold rf; rw [if_pos z]; exact key 1 (by decide)
  · rw [if_neg (by rw [hk]; exact z), cont]
    refine ⟨_, rfl, ?_⟩
    unfold rf; rw [if_neg z]; exact key 2 (by decide)
set_option maxHeartbeats 200000 in
theorem r_take {c x : Int32} (ok : rd_ok g) (h : St g i n p C i' n' q d r R K k s l b A e e' v w) (hx : x = tk_m c) (hc : c ∈ tk_V) (hy : tkc g i' = c) (h1 : c ≠ 261) (h2 : c ≠ 262) : ∃ w', fX12_take x w = some w' ∧ St g i n p C (i' + 1) n' q d r R K k s l b A e e' v w' := by
  unfold fX12_take fX12_take_b25
  rw [r_is ok h hx hc, q_bd_s, if_pos hy, if_neg (by decide), q_lt_s]
  exact ⟨_, rfl, r_now ok h (by rw [hy]; exact h1) (by rw [hy]; exact h2)⟩
set_option maxHeartbeats 200000 in
theorem r_takeX {c x : Int32} {Bd : Nat} (ok : rd_ok g) (h : St g i n p C i' n' q d r R K k s l b A e e' v w) (hx : x = tk_m c) (hc : c ∈ tk_V) (hy : tkc g i' ≠ c) (hB : q ≤ Bd) : ∃ w', fX12_take x w = some w' ∧ xr g (rf g i') (nI (tka g i')) Bd w' := by
  obtain ⟨w', a1, a2⟩ := r_wrong ok h hB
  unfold fX12_take fX12_take_b25
  rw [r_is ok h hx hc, q_bd_s, if_neg hy, if_pos rfl, a1, q_bv_s]
  exact ⟨_, rfl, a2⟩
set_option maxHeartbeats 200000 in
theorem r_takeS {c : Int32} (ok : rd_ok g) (h : St g i n p C i' n' q d r R K k s l b A e e' v w) (hx : 100 + c = tk_m c) (hc : c ∈ tk_V) (hy : tkc g i' = c) (h1 : c ≠ 261) (h2 : c ≠ 262) : ∃ w', fX12_takeSign c w = some w' ∧ St g i n p C (i' + 1) n' q d r R K k s l b A e e' v w' := by
  obtain ⟨w', a1, a2⟩ := r_take ok h hx hc hy h1 h2
  unfold fX12_takeSign
  rw [a1, q_bv_s]; exact ⟨_, rfl, a2⟩
set_option maxHeartbeats 200000 in
theorem r_takeSX {c : Int32} {Bd : Nat} (ok : rd_ok g) (h : St g i n p C i' n' q d r R K k s l b A e e' v w) (hx : 100 + c = tk_m c) (hc : c ∈ tk_V) (hy : tkc g i' ≠ c) (hB : q ≤ Bd) : ∃ w', fX12_takeSign c w = some w' ∧ xr g (rf g i') (nI (tka g i')) Bd w' := by
  obtain ⟨w', a1, a2⟩ := r_takeX ok h hx hc hy hB
  unfold fX12_takeSign
  rw [a1, q_bv_s]; exact ⟨_, rfl, a2⟩
set_option maxHeartbeats 200000 in
theorem r_skip {c x : Int32} (ok : rd_ok g) (h : St g i n p C i' n' q d r R K k s l b A e e' v w) (hx : x = tk_m c) (hc : c ∈ tk_V) (hy : tkc g i' = c) (h1 : c ≠ 261) (h2 : c ≠ 262) : ∃ w', fX12_skip x w = some (1, w') ∧ St g i n p C (i' + 1) n' q d r R K k s l b A e e' v w' := by
  unfold fX12_skip fX12_skip_b20
  rw [r_is ok h hx hc, q_bd_s, if_pos hy, if_neg (by decide), q_lt_s, if_neg (by decide)]
  exact ⟨_, rfl, r_now ok h (by rw [hy]; exact h1) (by rw [hy]; exact h2)⟩
set_option maxHeartbeats 200000 in
theorem r_skipN {c x : Int32} (ok : rd_ok g) (h : St g i n p C i' n' q d r R K k s l b A e e' v w) (hx : x = tk_m c) (hc : c ∈ tk_V) (hy : tkc g i' ≠ c) : fX12_skip x w = some (0, w) := by
  unfold fX12_skip fX12_skip_b20
  rw [r_is ok h hx hc, q_bd_s, if_neg hy, if_pos rfl, q_lt_s, if_neg (by decide), Int32.add_zero, q_si_id]
set_option maxHeartbeats 200000 in
theorem r_nest (ok : rd_ok g) (h : St g i n p C i' n' q d r R K k s l b A e e' v w) (hn : n' < 14) (h1 : tkc g i' ≠ 261) (h2 : tkc g i' ≠ 262) : ∃ w', fX12_nest w = some w' ∧ St g i n p C (i' + 1) (n' + 1) q d r R K k s l b A e e' v w' := by
  unfold fX12_nest
  rw [if_pos (by rw [h.2.2.2.2.1.1.1]; decide), if_neg (by rw [h.2.2.2.2.1.1.2.2.1, show (14 : Int32) = nI 14 from rfl, ni_eq (by omega) (by omega)]; omega), q_lt_s, q_lt_s]
  refine ⟨_, rfl, r_now ok ?_ h1 h2⟩
  obtain ⟨f, F, t, B, Y, N, M⟩ := h
  rw [Y.1.2.2.1, ni_add1]
  refine ⟨f, rdF_i F (by omega), t, B, ?_, sN_ri N (by omega), sM_ri M (by omega)⟩
  unfold sR at Y ⊢
  rw [q_i_ne (by omega), q_i_ne (by omega), q_i_at, q_i_ne (by omega), q_i_ne (by omega), q_i_ne (by omega), q_i_ne (by omega), q_a_si]
  exact ⟨⟨Y.1.1, Y.1.2.1, rfl, Y.1.2.2.2⟩, Y.2.1, sK_i Y.2.2.1, Y.2.2.2.1, by omega⟩
set_option maxHeartbeats 200000 in
theorem r_nest3 (ok : rd_ok g) {Bd : Nat} (h : St g i n p C i' 14 q d r R K k s l b A e e' v w) (hB : q ≤ Bd) : ∃ w', fX12_nest w = some w' ∧ xr g 3 (nI (tka g i')) Bd w' := by
  have hi := r_in ok h
  have hp : q_a w 2405 i' = nI (tka g i') := r_place ok h h.2.2.2.2.1.2.2.2.1
  unfold fX12_nest
  rw [if_pos (by rw [h.2.2.2.2.1.1.1]; decide), if_pos (by rw [h.2.2.2.2.1.1.2.2.1]; rfl), q_lt_s, q_i_ne (by omega), r_i h, if_neg hi.2.1, hi.2.2, q_a_si, hp, q_lt_s]
  exact ⟨_, rfl, ⟨rdF_i (rdF_i h.2.1 (by omega)) (by omega), ⟨i', h.2.2.2.2.1.2.2.2.1, by rw [q_i_ne (by omega), q_i_ne (by omega)]; exact r_i h⟩, k, by have := h.2.2.2.2.2.1.1; omega, by rw [q_i_ne (by omega), q_i_ne (by omega)]; exact h.2.2.2.2.2.1.1.2.2.1⟩, by rw [q_i_ne (by omega), q_i_at], q_i_at, by decide, q, hB, by rw [q_i_ne (by omega), q_i_ne (by omega)]; exact h.2.2.2.2.1.1.2.2.2.1⟩
set_option maxHeartbeats 200000 in
theorem r_un (h : St g i n p C i' (n' + 1) q d r R K k s l b A e e' v w) : St g i n p C i' n' q d r R K k s l b A e e' v (q_si w 2411 (q_i w 2411 - 1)) := by
  obtain ⟨f, F, t, B, Y, N, M⟩ := h
  rw [Y.1.2.2.1, ni_pred]
  refine ⟨f, rdF_i F (by omega), t, B, ?_, sN_ri N (by omega), sM_ri M (by omega)⟩
  unfold sR at Y ⊢
  rw [q_i_ne (by omega), q_i_ne (by omega), q_i_at, q_i_ne (by omega), q_i_ne (by omega), q_i_ne (by omega), q_i_ne (by omega), q_a_si]
  exact ⟨⟨Y.1.1, Y.1.2.1, rfl, Y.1.2.2.2⟩, Y.2.1, sK_i Y.2.2.1, Y.2.2.2.1, by omega⟩
set_option maxHeartbeats 200000 in
theorem r_risk {x : Int32} (h : St g i n p C i' n' q d r R K k s l b A e e' v w) : St g i n p C i' n' q d x R K k s l b A e e' v (q_si w 2425 x) := by
  obtain ⟨f, F, t, B, Y, N, M⟩ := h
  refine ⟨f, rdF_i F (by omega), t, B, ?_, sN_ri N (by omega), sM_ri M (by omega)⟩
  unfold sR at Y ⊢
  rw [q_i_ne (by omega), q_i_ne (by omega), q_i_ne (by omega), q_i_ne (by omega), q_i_ne (by omega), q_i_ne (by omega), q_i_at, q_a_si]
  exact ⟨⟨Y.1.1, Y.1.2.1, Y.1.2.2.1, Y.1.2.2.2.1, Y.1.2.2.2.2.1, Y.1.2.2.2.2.2.1, rfl⟩, Y.2.1, sK_i Y.2.2.1, Y.2.2.2⟩
set_option maxHeartbeats 200000 in
theorem sN_ra {j : Nat} {x : Nat → Int32} (h : sN k s l b e A v w) (hj : j ≠ 2440) (hj2 : j ≠ 2444) : sN k s l b e A v (q_sa w j x) := by
  unfold sN at h ⊢
  rw [q_i_sa, q_b_sa, q_a_sa, if_neg (Ne.symm hj), q_a_sa, if_neg (Ne.symm hj2)]; exact h
set_option maxHeartbeats 200000 in
theorem r_emit {o a c : Int32} (h : St g i n p C i' n' q d r R K k s l b A e e' v w) (hq : q < 4000) : ∃ w', fX12_emit o a c w = some (nI q, w') ∧ St g i n p C i' n' (q + 1) d r (rE R q o a c) K k s l b A e e' v w' := by
  obtain ⟨f, F, t, B, Y, N, M⟩ := h
  have gn : (nI q < 0) = False := ni_neg (by omega)
  have gl : (4000 ≤ q) = False := eq_false (by omega)
  have e4 := Y.1.2.2.2.1
  unfold fX12_emit
  simp only [e4, q_i_sa, q_lt_s, gn, gl, or_self, ↓reduceIte, ni_clamp (show q < 2147483648 by omega), q_a_sa, Nat.reduceEqDiff, ni_add1, q_i_at, ni_pred]
  refine ⟨_, rfl, f, rdF_i (rdF_a (rdF_a (rdF_a F (by omega)) (by omega)) (by omega)) (by omega), t, B, ?_, sN_ri (sN_ra (sN_ra (sN_ra N (by omega) (by omega)) (by omega) (by omega)) (by omega) (by omega)) (by omega), sM_ri M (by omega)⟩
  unfold sR at Y ⊢
  rw [q_i_ne (by omega), q_i_ne (by omega), q_i_ne (by omega), q_i_at, q_i_ne (by omega), q_i_ne (by omega), q_i_ne (by omega), q_a_si, q_i_sa, q_i_sa, q_i_sa]
  refine ⟨⟨Y.1.1, Y.1.2.1, Y.1.2.2.1, rfl, Y.1.2.2.2.2⟩, ?_, sK_e (w := w) ?_ ?_ ?_ ?_ (sK_q (Nat.le_succ _) (fun x hx => show upd (R 0) q o x = R 0 x from upd_ne (by omega)) Y.2.2.1), Y.2.2.2⟩
  · intro j hj
    have h0 := Y.2.1 0 (by omega)
    have h1 := Y.2.1 1 (by omega)
    have h2 := Y.2.1 2 (by omega)
    unfold rE
    rw [show rdj 0 = 2414 from rfl] at h0
    rw [show rdj 1 = 2415 from rfl] at h1
    rw [show rdj 2 = 2416 from rfl] at h2
    rw [q_a_sa, q_a_sa, q_a_sa]
    by_cases c0 : j = 0
    · subst c0; rw [show rdj 0 = 2414 from rfl, if_neg (by omega), if_neg (by omega), if_pos rfl, if_pos rfl, h0]
    · by_cases c1 : j = 1
      · subst c1; rw [show rdj 1 = 2415 from rfl, if_neg (by omega), if_pos rfl, if_neg (by omega), if_pos rfl, h1]
      · by_cases c2 : j = 2
        · subst c2; rw [show rdj 2 = 2416 from rfl, if_pos rfl, if_neg (by omega), if_neg (by omega), if_pos rfl, h2]
        · have : rdj j ≠ 2414 ∧ rdj j ≠ 2415 ∧ rdj j ≠ 2416 := by unfold rdj; rw [if_neg (by omega)]; omega
          rw [if_neg this.2.2, if_neg this.2.1, if_neg this.1, if_neg c0, if_neg c1, if_neg c2]; exact Y.2.1 j hj
  · rfl
  · rw [q_a_si, q_a_sa, if_neg (by omega), q_a_sa, if_neg (by omega), q_a_sa, if_neg (by omega)]
  · rw [q_a_si, q_a_sa, if_neg (by omega), q_a_sa, if_neg (by omega), q_a_sa, if_neg (by omega)]
  · rw [q_a_si, q_a_sa, if_neg (by omega), q_a_sa, if_neg (by omega), q_a_sa, if_neg (by omega)]
set_option maxHeartbeats 200000 in
/-- a number of the reference's rows is set -/
theorem r_set {j a : Nat} {y : Int32} (h : St g i n p C i' n' q d r R K k s l b A e e' v w) (hj : j < 9) (hj0 : j ≠ 0 := by decide) : St g i n p C i' n' q d r (rO R j a y) K k s l b A e e' v (q_sa w (rdj j) (upd (q_a w (rdj j)) a y)) := by
  obtain ⟨f, F, t, B, Y, N, M⟩ := h
  have hb := rdj_b hj
  refine ⟨f, rdF_a F (by omega), t, B, ?_, sN_ra N (by omega) (by omega), M⟩
  unfold sR at Y ⊢
  rw [q_i_sa]
  refine ⟨Y.1, ?_, sK_e (w := w) ?_ ?_ ?_ ?_ (sK_q (Nat.le_refl _) (fun x hx => by show rO R j a y 0 x = R 0 x; unfold rO; rw [if_neg (Ne.symm hj0)]) Y.2.2.1), Y.2.2.2⟩
  · intro m hm
    unfold rO
    rw [q_a_sa]
    by_cases c : m = j
    · subst c; rw [if_pos rfl, if_pos rfl, Y.2.1 m hm]
    · have : rdj m ≠ rdj j := by
        unfold rdj
        split <;> split <;> omega
      rw [if_neg this, if_neg c]; exact Y.2.1 m hm
  · rfl
  · rw [q_a_sa, if_neg (by omega)]
  · rw [q_a_sa, if_neg (by omega)]
  · rw [q_a_sa, if_neg (by omega)]
end
