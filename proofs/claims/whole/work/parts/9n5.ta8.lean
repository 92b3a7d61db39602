section
variable {g : rd_G} {i n p i' n' q d k s l b e e' D Bd : Nat} {C : Nat → Int32} {r : Int32} {R : Nat → Nat → Int32} {K : rd_K} {A : rd_A} {v w v0 w0 v1 w1 : q_V} {f x : Int32}
set_option maxHeartbeats 200000 in
/-- parameters -/
theorem par_loop {j0 : Nat} {Q : q_V → q_V → Prop} {Fc : q_V → Option q_V} (ok : rd_ok g) (hq : q ≤ Bd) (hFx : ∀ f x v, xc g f x l v → ∃ v', Fc v = some v' ∧ xC v0 f x v') (hRx : ∀ f x w, xr g f x Bd w → ∃ w', fX12_duty_b148 (nI D) w = some w' ∧ xR w0 f x w')
    (hE : ∀ i1 k1 s1 A1 e1 e1' v w, j0 < i1 → St g i1 n p C i1 n q d r R K k1 s1 l b A1 e1 e1' v w → (∀ m c h, HR g m i1 c h → ∃ m', HR g m' j0 (c + s1) h) → 2 * s1 + tka g j0 ≤ tka g i1 → e1 ≤ e → e1' ≤ e' → (e1 = rd_N → s1 ≤ 8) → ov g i1 s1 e1 e1' → jd v0 w0 Q (Fc v) (fX12_duty_b148 (nI D) w)) :
    ∀ t m i k1 s1 A1 e1 e1' v w N1 N2, gm g - i = t → t + 1 < N1 → t + 1 < N2 → m + j0 < i → St g i n p C i n q d r R K k1 s1 l b A1 e1 e1' v w → (∀ m c h, HR g m i c h → ∃ m', HR g m' j0 (c + s1) h) → 2 * s1 + tka g j0 + 1 ≤ tka g i → e1 ≤ e → e1' ≤ e' → (e1 = rd_N → s1 ≤ 8) → ov g i s1 e1 e1' → jd v0 w0 Q (q_bv (fX8_readParameters_L2 N1 (nI m) v) Fc) (fX12_duty_L134 N2 (nI D) w) := by
  have hm3 := ok.2.2.1.2.2
  have hL := ok.1
  intro t
  induction t using Nat.strongRecOn with
  | ind t ih =>
    intro m i k1 s1 A1 e1 e1' v w N1 N2 ht hN1 hN2 hmi S H hs he he' h8 o
    obtain ⟨N1, rfl⟩ : ∃ y, N1 = y + 1 := ⟨N1 - 1, by omega⟩
    obtain ⟨N2, rfl⟩ : ∃ y, N2 = y + 1 := ⟨N2 - 1, by omega⟩
    have ta := tka_L ok i
    have him := (St_im S).1
    rw [fX12_duty_L134, p_rd_L, if_neg (show ¬ (3000 : Int32) ≤ nI m from ni_nle (a := 3000) (by omega) (by omega)), q_bv_bv]
    rcases p_one ok S o (by omega) hq with ⟨c, v1, w1, A2, e2, e2', a1, b1, s2, d1, d2, d3, d4⟩ | ⟨v1, w1, f, x, a1, b1, x1, y1⟩
    · have hi2 := (St_im s2).1
      have t2 := tka_lt ok (show i < i + 1 by omega) hi2
      have H2 : ∀ m c h, HR g m (i + 1) c h → ∃ m', HR g m' j0 (c + (s1 + 1)) h := fun m cc h hh => by
        obtain ⟨m', q1⟩ := H (m + 1) (cc + 1) h ⟨Or.inr (Or.inr c), cc, by rw [if_pos c], hh⟩
        exact ⟨m', by rw [show cc + (s1 + 1) = cc + 1 + s1 by omega]; exact q1⟩
      rw [a1, q_bv_s, b1, q_bv_s]
      unfold fX8_readParameters_b56 fX8_readParameters_b84
      rw [c_kind s2]
      by_cases c44 : tkc g (i + 1) = 44
      · obtain ⟨v3, a3, s3⟩ := c_adv ok s2 (by rw [c44]; decide) (by rw [c44]; decide)
        obtain ⟨w4, b4, s4⟩ := r_skip (c := 44) (x := 144) ok s3 rfl (by decide) c44 (by decide) (by decide)
        have hi4 := (St_im s4).1
        have t4 := tka_lt ok (show i + 1 < i + 1 + 1 by omega) hi4
        rw [if_pos c44, a3, q_bv_s, b4, q_bd_s, if_neg (show ¬ (1 : Int32) = 0 by decide)]
        simp only [q_lt_s, ni_add1]
        refine ih (gm g - (i + 1 + 1)) (by omega) (m + 1) (i + 1 + 1) (k1 + 1) (s1 + 1) A2 e2 e2' v3 w4 N1 N2 rfl (by omega) (by omega) (by omega) s4 (fun m cc h hh => H2 (m + 1) cc h ⟨Or.inr (Or.inl c44), cc, by rw [if_neg (by rw [c44]; decide)]; rfl, hh⟩) (by omega) (by omega) (by omega) (fun z => by have := d3 z; omega) (ov_m ok d4 (by omega) hi4 (Nat.le_refl _) (Nat.le_refl _))
      · rw [if_neg c44, q_bv_s, r_skipN (c := 44) (x := 144) ok s2 rfl (by decide) c44, q_bd_s, if_pos rfl]
        exact hE (i + 1) (k1 + 1) (s1 + 1) A2 e2 e2' v1 w1 (by omega) s2 H2 (by omega) (by omega) (by omega) (fun z => by have := d3 z; omega) d4
    · obtain ⟨w2, b2, y2⟩ := y_skip (x := 144) y1
      rw [a1, q_bv_s, b1, q_bv_s, b2, q_bd_s, if_pos rfl]
      unfold fX8_readParameters_b56 fX8_readParameters_b84
      rw [if_neg (show ¬ q_i v1 1805 = 44 by rw [x1.2.1]; decide), q_bv_s]
      exact jd_xx (hFx f x v1 x1) (hRx f x w2 y2)
end
