section
variable {g : rd_G} {i j n p i' n' q d k s l b e e' : Nat} {C : Nat → Int32} {r : Int32} {R : Nat → Nat → Int32} {K : rd_K} {A : rd_A} {v w : q_V} {T : co_T} {XL : Int32 → Int32 → Int32 → Prop}
variable {B : q_V → Option (Int32 × q_V)} {B' : q_V → Option (Int64 × q_V)}
set_option maxHeartbeats 200000 in
theorem jn_im {α β : Type} {Bd : Nat} {Q Q' : α → q_V → β → q_V → Prop} {X : Option (α × q_V)} {Y : Option (β × q_V)} (h : jn g l Bd Q X Y) (hq : ∀ a v b w, Q a v b w → Q' a v b w) : jn g l Bd Q' X Y := by
  obtain ⟨a, v, b, w, e1, e2, h⟩ := h
  exact ⟨a, v, b, w, e1, e2, h.imp id (hq a v b w)⟩
set_option maxHeartbeats 200000 in
theorem SPT_m {e1 e1' : Nat} {o : Int32} {z : Int64} (h1 : e1 ≤ e) (h2 : e1' ≤ e') (h : SPT g n i p C q d R K k s l b A e1 e1' o v z w) : SPT g n i p C q d R K k s l b A e e' o v z w := by
  obtain ⟨i1, p1, C1, q1, d1, r1, R1, K1, k1, s1, A1, x1, x1', Y, ⟨F0, F1, F2, F3, F4, F5, F6⟩, F7⟩ := h
  exact ⟨i1, p1, C1, q1, d1, r1, R1, K1, k1, s1, A1, x1, x1', Y, ⟨F0, F1, F2, F3, F4, ⟨Nat.le_trans F5.1 h1, Nat.le_trans F5.2 h2⟩, F6⟩, F7⟩
set_option maxHeartbeats 200000 in
/-- a statement that begins with a name -/
theorem t_named (ok : rd_ok g) (hn : 1 ≤ n) (hn2 : n ≤ 14) (hB : BS g n B B') (hxB : ∀ f p l v, xc g f p l v → cG g f p l (B v)) (hc : tkc g i = 259) : TS g n i (fX8_named B (nI (tka g i))) (fX12_named B' (nI i)) := by
  intro p C q d R K k s l b A e e' v w h z o hln
  have zp := z0_p ok z.1
  have hm3 := ok.2.2.1.2.2
  have hL := ok.1
  have hi := (St_im h).1
  have hq : q ≤ 3011 := by omega
  obtain ⟨v1, a1, s1⟩ := c_adv ok h (by rw [hc]; decide) (by rw [hc]; decide)
  have s2 := r_now ok s1 (by rw [hc]; decide) (by rw [hc]; decide)
  have ii : ¬ (nI i < 0 ∨ 3002 ≤ (nI i).toNatClampNeg) := ni_nin (by omega) (by omega)
  have ic : (nI i).toNatClampNeg = i := ni_clamp (by omega)
  unfold fX8_named fX12_named
  rw [q_lt_e (c_name h hc), a1, q_bv_s, q_lt_e (c_kind s1), q_lt_s, r_sign (c := 40) ok s2 rfl (by decide), q_bd_s, lx_i0]
  by_cases c40 : tkc g (i + 1) = 40
  · rw [if_pos c40, if_pos c40]
    exact t_call ok hn hn2 hc c40 h s2 z o
  · rw [if_neg c40, if_neg c40]
    by_cases c58 : tkc g (i + 1) = 58
    · obtain ⟨w3, b3, s3⟩ := r_skip (c := 58) (x := 158) ok s2 rfl (by decide) c58 (by decide) (by decide)
      obtain ⟨v4, w4, e1, e1', a4, b4, s4, h1, h2⟩ := j_label (B' := B') (t := i) ok hi hc s3
      obtain ⟨v5, a5, s5⟩ := c_adv ok s4 (by rw [c58]; decide) (by rw [c58]; decide)
      have hi5 := (St_im s5).1
      rw [if_pos c58, a4, q_bv_s, a5, q_bv_s, q_bd_eta, b3, q_bd_s, if_neg (show ¬ (1 : Int32) = 0 by decide), q_lt_s, b4]
      unfold rlT fX12_named_b120
      rw [r_is (c := 305) (x := 15) ok s5 rfl (by decide), q_bd_s, lx_i0]
      have go : (tkc g (i + 2) = 305 ∨ tkc g (i + 2) = 306 ∨ tkc g (i + 2) = 321) → jn g l (3300 + 20 * (15 - n)) (SPT g n i p C q d R K k s l b A e e') (fX8_loop B (tkw g i) (nI (tka g i)) v5) (if nI i < 0 ∨ 3002 ≤ (nI i).toNatClampNeg then none else q_bd (fX12_loop B' (nI i) (q_b w4 2406 (nI i).toNatClampNeg) w4) (fun z2003 T2002 => some (z2003, T2002))) := by
        intro hj
        rw [if_neg ii, ic, r_name ok s5 hi hc, q_bd_eta]
        exact jn_im (t_loop (j := i + 2) ok hn hn2 hB hxB (by omega) hj (fun u x1 x2 => by
          by_cases u1 : u = i
          · rw [u1, hc]; decide
          · rw [show u = i + 1 by omega, c58]; decide) s5 z (ov_m ok o (Nat.le_refl _) hi h1 h2) hln) (fun a v b w X => SPT_m h1 h2 X)
      by_cases k5 : tkc g (i + 2) = 305
      · rw [if_pos k5]; exact go (Or.inl k5)
      · rw [if_neg k5, r_is (c := 306) (x := 16) ok s5 rfl (by decide), q_bd_s, lx_i0]
        by_cases k6 : tkc g (i + 2) = 306
        · rw [if_pos k6]; exact go (Or.inr (Or.inl k6))
        · rw [if_neg k6, r_is (c := 321) (x := 45) ok s5 rfl (by decide), q_bd_s, lx_i0]
          by_cases k7 : tkc g (i + 2) = 321
          · rw [if_pos k7]; exact go (Or.inr (Or.inr k7))
          · obtain ⟨v6, a6, x6⟩ := c_refuse s5
            obtain ⟨w6, b6, y6⟩ := r_wrong (Bd := 3011) ok s5 hq
            unfold fX8_loop
            rw [if_neg k7, q_lt_s, c_kind s5, if_neg k5, if_neg k6, if_neg k7, a6, q_bv_s, b6, q_bv_s]
            exact jn_xx (cG_s x6) (rG_s (xr_le y6 (by omega)))
    · rw [if_neg c58, r_skipN (c := 58) (x := 158) ok s2 rfl (by decide) c58, q_bd_s, if_pos rfl]
      by_cases c61 : tkc g (i + 1) = 61
      · rw [if_pos c61]
        exact t_assign ok hn hn2 hc c61 h s2 z o
      · obtain ⟨v3, a3, x3⟩ := c_refuse s2
        obtain ⟨w3, b3, y3⟩ := r_takeSX (c := 61) (Bd := 3111) ok s2 rfl (by decide) c61 (by omega)
        rw [if_neg c61, a3, q_bv_s, b3, q_bv_s, y_fine y3, q_bd_s, if_pos rfl]
        unfold fX12_named_b171
        refine jn_xx (cG_s x3) (rG_v (y_E y3) (fun w h => rG_v (y_takeS h) (fun w h => ?_)))
        obtain ⟨y9, e9⟩ := y_known (x := q_b w 2406 (nI i).toNatClampNeg) h
        rw [if_neg ii, e9, q_bd_s]
        exact rG_d (y_emit (by omega) h) (fun a w h => rG_le (rG_d (y_risky h) (fun a w h => rG_s h)) (by omega))
end
