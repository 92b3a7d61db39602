section
variable {g : rd_G} {i j n p i' n' q d k s l b e e' : Nat} {C : Nat → Int32} {r : Int32} {R : Nat → Nat → Int32} {K : rd_K} {A : rd_A} {v w : q_V} {T : co_T} {XL : Int32 → Int32 → Int32 → Prop}
variable {B : q_V → Option (Int32 × q_V)} {B' : q_V → Option (Int64 × q_V)}
set_option maxHeartbeats 200000 in
/-- a loop of any kind -/
theorem t_loop {x : Int64} (ok : rd_ok g) (hn : 1 ≤ n) (hn2 : n ≤ 14) (hB : BS g n B B') (hxB : ∀ f p l v, xc g f p l v → cG g f p l (B v)) (hij : i ≤ j) (hj : tkc g j = 305 ∨ tkc g j = 306 ∨ tkc g j = 321) (hk : ∀ m, i ≤ m → m < j → tkc g m ≠ 300) (h : St g j n p C j n q d 0 R K k s l b A e e' v w) (z : z1 g n i p q K.length d s) (o : ov g i s e e') (hln : l + 1 ≤ n ∧ LB A l p d) :
    jn g l (3300 + 20 * (15 - n)) (SPT g n i p C q d R K k s l b A e e') (fX8_loop B x (nI (tka g i)) v) (fX12_loop B' (nI i) x w) := by
  unfold fX8_loop
  rw [q_lt_s, c_kind h]
  rcases hj with hj | hj | hj
  · rw [if_pos hj, q_bd_eta]; exact t_while ok hn hn2 hB hxB hij hj hk h z o hln
  · rw [if_neg (by rw [hj]; decide), if_pos hj, q_bd_eta]; exact t_each ok hn hn2 hB hxB hij hj hk h z o hln
  · rw [if_neg (by rw [hj]; decide), if_neg (by rw [hj]; decide), if_pos hj, q_bd_eta]; exact t_repeat ok hn hn2 hB hxB hij hj hk h z o hln
/-- behind a label -/
def rlT (B : q_V → Option (Int64 × q_V)) (x1 : Int32) (Sn : q_V) : Option (Int64 × q_V) :=
  q_bd (fX12_is 15 Sn) (fun y4002 T4001 =>
  if y4002 = 0 then
  q_bd (fX12_is 16 T4001) (fun y4004 T4003 =>
  if y4004 = 0 then
  q_bd (fX12_is 45 T4003) (fun y4006 T4005 =>
  if y4006 = 0 then
  q_bv (fX12_wrong T4005) (fun T4007 =>
  some (0, T4007))
  else
  fX12_named_b120 B x1 T4005)
  else
  fX12_named_b120 B x1 T4003)
  else
  fX12_named_b120 B x1 T4001)
set_option maxHeartbeats 200000 in
theorem r_labB {t : Nat} (ok : rd_ok g) (ht : t ≤ gm g) (he : e' ≤ 16 * tka g t + 4) : ∀ t' m N w, St g i n p C i' n' q d r R K k s l b A e e' v w → m + t' = l → t' < N → ∃ w', fX12_named_L57 B' (nI t) N (nI m) w = rlT B' (nI t) w' ∧ St g i n p C i' n' q d r R K k s l b A e e' v w' := by
  have hm3 := ok.2.2.1.2.2
  intro t'
  induction t' with
  | zero =>
    intro m N w h hm hN
    have e9 := h.2.2.2.2.2.1.2.2.2.1.2.1
    have hl14 := h.2.2.2.2.2.1.2.2.2.1.2.2.1
    obtain ⟨N, rfl⟩ : ∃ N', N = N' + 1 := ⟨N - 1, by omega⟩
    refine ⟨w, ?_, h⟩
    rw [fX12_named_L57, e9, if_pos (ni_ple (by omega) (by omega))]; rfl
  | succ t' ih =>
    intro m N w h hm hN
    have e9 := h.2.2.2.2.2.1.2.2.2.1.2.1
    have hl14 := h.2.2.2.2.2.1.2.2.2.1.2.2.1
    obtain ⟨N, rfl⟩ : ∃ N', N = N' + 1 := ⟨N - 1, by omega⟩
    rw [fX12_named_L57, e9, if_neg (ni_nle (by omega) (by omega)), if_neg (ni_nin (by omega) (by omega)), if_neg (ni_nin (by omega) (by omega)), lg_if]
    unfold fX12_named_b87
    by_cases c : q_b w 2443 (nI m).toNatClampNeg = q_b w 2406 (nI t).toNatClampNeg
    · obtain ⟨w1, b1, s1⟩ := r_blame0 (x := 4) (t := t) ok h ht (by omega) (by omega) he
      rw [if_pos c, show (4 : Int32) = nI 4 from rfl, b1, q_bv_s, q_lt_s, ni_add1]
      exact ih (m + 1) N w1 s1 (by omega) (by omega)
    · rw [if_neg c, q_lt_s, ni_add1]
      exact ih (m + 1) N w h (by omega) (by omega)
set_option maxHeartbeats 200000 in
theorem r_labA {t : Nat} (ok : rd_ok g) (ht : t ≤ gm g) (h : St g i n p C i' n' q d r R K k s l b A e e' v w) : ∀ t' m N, m + t' = l → t' < N → (fX12_named_L57 B' (nI t) N (nI m) w = rlT B' (nI t) w ∧ ∀ j, m ≤ j → j < l → q_b w 2443 j ≠ q_b w 2406 t) ∨ ((∃ j, m ≤ j ∧ j < l ∧ q_b w 2443 j = q_b w 2406 t) ∧ ∃ v' w', fX5_blame 4 (nI (tka g t)) v = some v' ∧ fX12_named_L57 B' (nI t) N (nI m) w = rlT B' (nI t) w' ∧ St g i n p C i' n' q d r R K k s l b A (min e (16 * tka g t + 4)) (min e' (16 * tka g t + 4)) v' w') := by
  have hm3 := ok.2.2.1.2.2
  have e9 := h.2.2.2.2.2.1.2.2.2.1.2.1
  have hl14 := h.2.2.2.2.2.1.2.2.2.1.2.2.1
  have tc : (nI t).toNatClampNeg = t := ni_clamp (by omega)
  intro t'
  induction t' with
  | zero =>
    intro m N hm hN
    obtain ⟨N, rfl⟩ : ∃ N', N = N' + 1 := ⟨N - 1, by omega⟩
    refine Or.inl ⟨?_, fun j h1 h2 => absurd h1 (by omega)⟩
    rw [fX12_named_L57, e9, if_pos (ni_ple (by omega) (by omega))]; rfl
  | succ t' ih =>
    intro m N hm hN
    obtain ⟨N, rfl⟩ : ∃ N', N = N' + 1 := ⟨N - 1, by omega⟩
    have mc : (nI m).toNatClampNeg = m := ni_clamp (by omega)
    rw [fX12_named_L57, e9, if_neg (ni_nle (by omega) (by omega)), if_neg (ni_nin (by omega) (by omega)), if_neg (ni_nin (by omega) (by omega)), lg_if, mc, tc]
    unfold fX12_named_b87
    by_cases c : q_b w 2443 m = q_b w 2406 t
    · obtain ⟨v1, w1, a1, b1, s1⟩ := j_blame (x := 4) (t := t) ok h ht (by omega) (by omega)
      obtain ⟨w2, b2, s2⟩ := r_labB (B' := B') (t := t) ok ht (Nat.min_le_right _ _) t' (m + 1) N w1 s1 (by omega) (by omega)
      refine Or.inr ⟨⟨m, by omega, by omega, c⟩, v1, w2, a1, ?_, s2⟩
      rw [if_pos c, show (4 : Int32) = nI 4 from rfl, b1, q_bv_s, q_lt_s, ni_add1]
      exact b2
    · rw [if_neg c, q_lt_s, ni_add1]
      rcases ih (m + 1) N (by omega) (by omega) with ⟨y1, y2⟩ | ⟨⟨j, y1, y2, y3⟩, y4⟩
      · refine Or.inl ⟨y1, fun j h1 h2 => ?_⟩
        by_cases cj : j = m
        · rw [cj]; exact c
        · exact y2 j (by omega) h2
      · exact Or.inr ⟨⟨j, by omega, y2, y3⟩, y4⟩
set_option maxHeartbeats 200000 in
/-- a label is told -/
theorem j_label {t : Nat} (ok : rd_ok g) (ht : t ≤ gm g) (hc : tkc g t = 259) (h : St g i n p C i' n' q d r R K k s l b A e e' v w) : ∃ v' w' e1 e1', fX5_tellLabel (tkw g t) (nI (tka g t)) v = some v' ∧ fX12_named_L57 B' (nI t) q_N (q_i w 2446) w = rlT B' (nI t) w' ∧ St g i n p C i' n' q d r R K k s l b A e1 e1' v' w' ∧ e1 ≤ e ∧ e1' ≤ e' := by
  have N := h.2.2.2.2.2.1
  have L := N.2.2.2.1
  have f7 := N.2.2.2.2.2
  have hnm := r_name ok h ht hc
  obtain ⟨y, a1, a2⟩ := c_loop (x := tkw g t) L.1 L.2.2.2.1 L.2.2.1 L.2.2.2.2.2
  have hl14 := L.2.2.1
  have hbl := L.2.2.2.2.2
  unfold fX5_tellLabel fX5_tellLabel_b15
  rw [a1, q_bd_s, L.2.2.2.2.1]
  rcases r_labA (B' := B') ok ht h (l - b) b q_N (by omega) (by unfold q_N; omega) with ⟨y1, y2⟩ | ⟨⟨j, y1, y2, y3⟩, v', w', y4, y5, y6⟩
  · have hy : y = -1 := by
      rcases a2 with ⟨c1, _⟩ | ⟨j, c0, c1, c2, _, _⟩
      · exact c1
      · exact absurd (((f7 j c1).1.symm.trans c2).trans hnm.symm) (y2 j c0 c1)
    exact ⟨v, w, e, e', by rw [if_pos hy], y1, h, Nat.le_refl _, Nat.le_refl _⟩
  · have hy : ¬ y = -1 := by
      rcases a2 with ⟨_, c1⟩ | ⟨j, c0, c1, c2, c3, _⟩
      · exact absurd (((f7 j y2).1.trans y3).trans hnm) (c1 j y1 y2)
      · rw [c3]; exact m1_n (by omega)
    exact ⟨v', w', _, _, by rw [if_neg hy, y4, q_bv_s], y5, y6, Nat.min_le_left _ _, Nat.min_le_left _ _⟩
end
