/-- both readings of a list: at a fault the reference's answer is a row all the same -/
def jl {α : Type} (g : rd_G) (l B : Nat) (Q : α → q_V → Int32 → q_V → Prop) (X : Option (α × q_V)) (Y : Option (Int32 × q_V)) : Prop := ∃ a v b w, X = some (a, v) ∧ Y = some (b, w) ∧ (xx g l B v w ∧ (∃ m, m < 4000 ∧ b = nI m) ∨ Q a v b w)
def rV (g : rd_G) (f p : Int32) (B : Nat) (Y : Option (Int32 × q_V)) : Prop := ∃ m w, m < 4000 ∧ Y = some (nI m, w) ∧ xr g f p B w
section
variable {g : rd_G} {l B B1 : Nat} {v w : q_V}
set_option maxHeartbeats 200000 in
theorem jl_dv {α β : Type} {Q : β → q_V → Int32 → q_V → Prop} {Q1 : α → q_V → Unit → q_V → Prop} {X : Option (α × q_V)} {Y : Option q_V} {k : α → q_V → Option (β × q_V)} {m : q_V → Option (Int32 × q_V)} (h : jn g l B1 Q1 X (vu Y)) (hc : ∀ f p a v, xc g f p l v → cG g f p l (k a v)) (hr : ∀ f p w, xr g f p B1 w → rV g f p B (m w)) (hq : ∀ a v w, Q1 a v () w → jl g l B Q (k a v) (m w)) : jl g l B Q (q_bd X k) (q_bv Y m) := by
  obtain ⟨a, v, b, w, e1, e2, h | h⟩ := h
  · obtain ⟨f, p, h1, h2⟩ := h
    obtain ⟨a', v', e3, h3⟩ := hc f p a v h1
    obtain ⟨m', w', hm, e4, h4⟩ := hr f p w h2
    rw [e1, vu_ex e2, q_bd_s, q_bv_s, e3, e4]; exact ⟨_, _, _, _, rfl, rfl, Or.inl ⟨⟨f, p, h3, h4⟩, m', hm, rfl⟩⟩
  · rw [e1, vu_ex e2, q_bd_s, q_bv_s]; exact hq a v w h
set_option maxHeartbeats 200000 in
theorem jl_qq {α : Type} {Q : α → q_V → Int32 → q_V → Prop} {a : α} {b : Int32} (h : Q a v b w) : jl g l B Q (some (a, v)) (some (b, w)) := ⟨a, v, b, w, rfl, rfl, Or.inr h⟩
set_option maxHeartbeats 200000 in
theorem jl_dd {α β δ : Type} {Q : β → q_V → δ → q_V → Prop} {Q1 : α → q_V → Int32 → q_V → Prop} {X : Option (α × q_V)} {Y : Option (Int32 × q_V)} {k : α → q_V → Option (β × q_V)} {m : Int32 → q_V → Option (δ × q_V)} (h : jl g l B1 Q1 X Y) (hc : ∀ f p a v, xc g f p l v → cG g f p l (k a v)) (hr : ∀ f p y w, y < 4000 → xr g f p B1 w → rG g f p B (m (nI y) w)) (hq : ∀ a v b w, Q1 a v b w → jn g l B Q (k a v) (m b w)) : jn g l B Q (q_bd X k) (q_bd Y m) := by
  obtain ⟨a, v, b, w, e1, e2, ⟨⟨f, p, h1, h2⟩, y, hy, hb⟩ | h⟩ := h
  · rw [e1, e2, q_bd_s, q_bd_s, hb]; exact jn_xx (hc f p a v h1) (hr f p y w hy h2)
  · rw [e1, e2, q_bd_s, q_bd_s]; exact hq a v b w h
set_option maxHeartbeats 200000 in
theorem l60_v {x1 x2 y a : Int32} : ∀ N m w w', fX12_list_L60 x1 x2 N y m w = some (a, w') → a = y := by
  intro N
  induction N with
  | zero => intro m w w' h; cases h
  | succ N ih =>
    intro m w w' h
    have b113 : ∀ S, fX12_list_b113 x1 x2 y m (fun a b S => fX12_list_L60 x1 x2 N a b S) S = some (a, w') → a = y := fun S h => ih _ _ _ h
    have b91 : fX12_list_b91 x1 x2 y m (fun a b S => fX12_list_L60 x1 x2 N a b S) w = some (a, w') → a = y := by
      intro h
      unfold fX12_list_b91 at h
      split at h
      · cases h
      · split at h
        · exact b113 _ h
        · exact b113 _ h
    rw [fX12_list_L60] at h
    split at h
    · exact ((Prod.mk.inj (Option.some.inj h)).1).symm
    · split at h
      · cases h
      · split at h
        · exact b91 h
        · split at h
          · exact b91 h
          · exact b113 _ h
set_option maxHeartbeats 200000 in
theorem y_emitV {x y z f p : Int32} (hB : B < 4000) (h : xr g f p B w) : rV g f p (B + 1) (fX12_emit x y z w) := by
  obtain ⟨a, w', e1, h1⟩ := y_emit (x := x) (y := y) (z := z) hB h
  obtain ⟨_, _, _, _, q, h5, h6⟩ := h
  refine ⟨q, w', by omega, ?_, h1⟩
  have gn : (nI q < 0) = False := ni_neg (by omega)
  have gl : (4000 ≤ q) = False := eq_false (by omega)
  have e2 := e1
  unfold fX12_emit at e2
  simp only [h6, q_i_sa, q_lt_s, gn, gl, or_self, ↓reduceIte, ni_clamp (show q < 2147483648 by omega), q_a_sa, Nat.reduceEqDiff, ni_add1, q_i_at, ni_pred] at e2
  rw [e1, (Prod.mk.inj (Option.some.inj e2)).1]
set_option maxHeartbeats 200000 in
theorem y_l47v {x1 x2 f p : Int32} {m Bd : Nat} (hm : m < 4000) (hB : Bd + 1 < 4000) (h : xr g f p Bd w) : rV g f p (Bd + 1) (fX12_list_b47 x1 x2 (nI m) w) := by
  obtain ⟨y, w1, hy, e1, h1⟩ := y_emitV (x := 41) (y := 0) (z := 0) (by omega) h
  unfold fX12_list_b47
  rw [e1, q_bd_s]
  obtain ⟨q, h2, h3⟩ := h1.2.2.2.2
  obtain ⟨a, w2, e2, h4⟩ := y_patL (x1 := x1) (x2 := x2) (y := nI y) h2 hB (q - m) m q_N w1 h1 h3 (by omega) rfl (by unfold q_N; omega)
  have := l60_v _ _ _ _ e2
  rw [e2, this]; exact ⟨y, w2, hy, rfl, h4⟩
end
section
variable {g : rd_G} {i n p q d k s l b e e' : Nat} {C : Nat → Int32} {R : Nat → Nat → Int32} {K : rd_K} {A : rd_A} {v w : q_V} {M : rd_M} {x1 x2 c1 : Int32}
set_option maxHeartbeats 200000 in
/-- the loop of a list -/
theorem l_loop (ok : rd_ok g) (hn2 : n ≤ 14) (hx1 : ¬ x1 < 30) (hx2 : ¬ x2 < 30) (hx3 : x2 ≠ 19) (h41 : x1 ≠ 41 ∧ x2 ≠ 41) (H1 : ∀ T XL pt qt p p1 q q1, dv_A T XL 1 (10 * (14 - n) + 4) p p1 q q1 → co_c T p1 c1 → co_c T (p1 + 1) (nI pt) → co_r T 0 q1 x2 → co_r T 1 q1 (nI qt) → M T XL pt qt p (p1 + 2) q (q1 + 1)) (H2 : ∀ T XL pt qt p p1 p2 q q1 q2, M T XL pt qt p p1 q q1 → M T XL pt qt p1 p2 q1 q2 → M T XL pt qt p p2 q q2) (z : z0 g i p q K.length) (o : ov g i s e e') : ∀ t ch x nt m i1 p1 C1 q1 r1 R1 K1 e1 e1' v w N1 N2, gm g - i1 = t → LQ M x2 g i n p C q d R K k s l b A e e' 0 ch x nt m i1 p1 C1 q1 r1 R1 K1 e1 e1' v w → t < N1 → t < N2 → jl g l (3111 + 10 * (14 - n)) (LsP M g i n p C q d R K k s l b A e e') (fX8_list_L7 c1 N1 nt x (nI m) v) (fX12_list_L25 x1 x2 N2 (nI q) w) := by
  have hL := ok.1
  have hm3 := ok.2.2.1.2.2
  intro t
  induction t using Nat.strongRecOn with
  | ind t ih =>
    intro ch x nt m i1 p1 C1 q1 r1 R1 K1 e1 e1' v w N1 N2 ht X hN1 hN2
    obtain ⟨N1, rfl⟩ : ∃ y, N1 = y + 1 := ⟨N1 - 1, by omega⟩
    obtain ⟨N2, rfl⟩ : ∃ y, N2 = y + 1 := ⟨N2 - 1, by omega⟩
    have X' := X
    obtain ⟨X0, ⟨X1, X2, X3, X4, X5, X6⟩, _, _, ⟨X12, X13⟩, ⟨X14, X15⟩, _⟩ := X'
    obtain ⟨z1, z2, z3⟩ := z
    have hi1 := (St_im X0).1
    have ta1 := tka_L ok i1
    have J := US_E ok hn2 i1 p1 C1 q1 d r1 R1 K1 k s l b A e1 e1' v w X0 ⟨by omega, by omega, by omega⟩ (ov_m ok o (by omega) hi1 X14 X15) X13
    have hq4 : q < 4000 := by omega
    rw [fX8_list_L7, if_neg (show ¬ (3000 : Int32) ≤ nI m from ni_nle (a := 3000) (by omega) (by omega)), fX12_list_L25]
    refine jl_dv J (fun f p a v h => ?_) (fun f p w h => ?_) ?_
    · rw [q_lt_s]
      refine cG_d (x_add2 ok h) (fun a v h => ?_)
      rw [q_lt_s, if_neg (by rw [h.2.1]; decide)]
      exact x_l65 ok h
    · obtain ⟨a, w0, e0, h⟩ := y_emit (x := x2) (y := -1) (z := 0) (by omega) h
      obtain ⟨w1, e1, h1⟩ := y_skip (x := 144) h
      rw [e0, q_bd_s, e1, q_bd_s, if_pos rfl]
      obtain ⟨y, w2, hy, e2, h2⟩ := y_l47v (x1 := x1) (x2 := x2) hq4 (by omega) h1
      exact ⟨y, w2, hy, e2, xr_le h2 (by omega)⟩
    · intro a v3 w3 E
      obtain ⟨i3, p3, C3, q3, r3, R3, K3, e3, e3', E⟩ := E
      have S := E.1
      obtain ⟨E1, E2, E3, E4, E5, E6⟩ := E.2.1
      have hi3 := (St_im S).1
      have ta3 := tka_L ok i3
      obtain ⟨v4, a4, s4⟩ := c_add2 (x := c1) (y := x) ok S (by omega)
      obtain ⟨w5, b5, s5⟩ := r_emit (o := x2) (a := -1) (c := 0) s4 (by omega)
      have Y := l_E hx2 hx3 H1 H2 X E s5
      rw [q_lt_s, a4, q_bd_s, ni_add1, q_lt_s, c_kind s4, b5, q_bd_s]
      by_cases c44 : tkc g i3 = 44
      · obtain ⟨v6, a6, s6⟩ := c_adv ok s5 (by rw [c44]; decide) (by rw [c44]; decide)
        obtain ⟨w7, b7, s7⟩ := r_skip (c := 44) (x := 144) ok s6 rfl (by decide) c44 (by decide) (by decide)
        have hi4 := (St_im s7).1
        have t4 := tka_lt ok (show i3 < i3 + 1 by omega) hi4
        rw [if_pos c44, a6, q_bv_s, q_lt_s, ni_add1, b7, q_bd_s, if_neg (show ¬ (1 : Int32) = 0 by decide)]
        obtain ⟨Y0, ⟨Y1, Y2, Y3, Y4, Y5, Y6⟩, Y7, Y8, Y9, Y10, Y11, Y12, Y13⟩ := Y
        refine ih (gm g - (i3 + 1)) (by omega) _ _ _ (m + 1) (i3 + 1) _ _ _ _ _ _ _ _ _ _ N1 N2 rfl ⟨s7, ⟨by omega, by omega, by omega, by omega, Y5, Y6⟩, Y7, fun u h1 h2 => ?_, Y9, Y10, Y11, Y12, Y13⟩ (by omega) (by omega)
        by_cases c : u = i3
        · rw [c, c44]; decide
        · exact Y8 u h1 (by omega)
      · rw [if_neg c44, r_skipN (c := 44) (x := 144) ok s5 rfl (by decide) c44, q_bd_s, if_pos rfl]
        obtain ⟨v6, y6, w6, f1, f2, f3⟩ := l_end (c1 := c1) ok hx1 h41 ⟨by omega, by omega⟩ Y
        rw [f1, f2]
        exact jl_qq f3
set_option maxHeartbeats 200000 in
/-- a list -/
theorem l_list {r : Int32} (ok : rd_ok g) (hn2 : n ≤ 14) (hx1 : ¬ x1 < 30) (hx2 : ¬ x2 < 30) (hx3 : x2 ≠ 19) (h41 : x1 ≠ 41 ∧ x2 ≠ 41) (H0 : ∀ T XL pt qt p q, M T XL pt qt p p q q) (H1 : ∀ T XL pt qt p p1 q q1, dv_A T XL 1 (10 * (14 - n) + 4) p p1 q q1 → co_c T p1 c1 → co_c T (p1 + 1) (nI pt) → co_r T 0 q1 x2 → co_r T 1 q1 (nI qt) → M T XL pt qt p (p1 + 2) q (q1 + 1)) (H2 : ∀ T XL pt qt p p1 p2 q q1 q2, M T XL pt qt p p1 q q1 → M T XL pt qt p1 p2 q1 q2 → M T XL pt qt p p2 q q2) (z : z0 g i p q K.length) (o : ov g i s e e') (h : St g i n p C i n q d 0 R K k s l b A e e' v w) (hc : tkc g i ≠ 316) : jl g l (3111 + 10 * (14 - n)) (LsP M g i n p C q d R K k s l b A e e') (fX8_list c1 v) (fX12_list x1 x2 w) := by
  have hm3 := ok.2.2.1.2.2
  unfold fX8_list fX12_list
  rw [q_lt_e h.2.2.2.2.1.1.2.2.2.1, r_skipN (c := 316) (x := 26) ok h rfl (by decide) hc, q_bd_s, if_pos rfl]
  exact l_loop ok hn2 hx1 hx2 hx3 h41 H1 H2 z o (gm g - i) [] 0 0 0 i p C q 0 R K e e' v w q_N q_N rfl ⟨h, ⟨by omega, by omega, by omega, by omega, Nat.le_refl _, Nat.le_refl _⟩, ⟨fun _ _ => rfl, fun _ _ _ _ => rfl, fun _ _ => rfl, [], rfl⟩, fun u h1 h2 => absurd h1 (by omega), ⟨⟨fun _ => rfl, fun _ => by decide⟩, Or.inl rfl⟩, ⟨Nat.le_refl _, Nat.le_refl _⟩, fun y h1 h2 => absurd h1 (by omega), ⟨rfl, fun a ha => absurd ha (by simp), by simp⟩, fun pt qt T XL _ _ _ => H0 T XL pt qt p q⟩ (by unfold q_N; omega) (by unfold q_N; omega)
set_option maxHeartbeats 200000 in
/-- the reference's list of any -/
theorem r_any {i' n' : Nat} {r : Int32} (ok : rd_ok g) (h41 : x1 ≠ 41 ∧ x2 ≠ 41) (h : St g i n p C i' n' q d r R K k s l b A e e' v w) (hc : tkc g i' = 316) (hq : q + 2 < 4000) : ∃ w', fX12_list x1 x2 w = some (nI (q + 1), w') ∧ St g i n p C (i' + 1) n' (q + 2) d r (rO (rE (rE R q x1 (-1) 0) (q + 1) 41 0 0) 1 q (nI (q + 2))) K k s l b A e e' v w' := by
  obtain ⟨w1, b1, s1⟩ := r_skip (c := 316) (x := 26) ok h rfl (by decide) hc (by decide) (by decide)
  obtain ⟨w2, b2, s2⟩ := r_emit (o := x1) (a := -1) (c := 0) s1 (by omega)
  obtain ⟨w3, b3, s3⟩ := r_emit (o := 41) (a := 0) (c := 0) s2 (by omega)
  obtain ⟨w4, b4, s4⟩ := r_pat (x1 := x1) (x2 := x2) (y := nI (q + 1)) 2 q q_N _ w3 s3 (by omega) (by omega) (by unfold q_N; omega)
  have ee : pat x1 x2 q (q + 1 + 1) (rE (rE R q x1 (-1) 0) (q + 1) 41 0 0) = rO (rE (rE R q x1 (-1) 0) (q + 1) 41 0 0) 1 q (nI (q + 2)) := by
    rw [← pat_yes (by omega) ⟨Or.inl (by rw [rE_x (by omega), rE_0, upd_at]), by rw [rE_x (by omega), rE_1, upd_at]⟩, ← pat_no, pat_q]
    intro u
    have := u.1
    rw [rO_x (by omega), rE_0, upd_at] at this
    rcases this with y | y
    · exact h41.1 y.symm
    · exact h41.2 y.symm
  rw [ee] at s4
  refine ⟨w4, ?_, s4⟩
  unfold fX12_list fX12_list_b47
  rw [q_lt_e h.2.2.2.2.1.1.2.2.2.1, b1, q_bd_s, if_neg (show ¬ (1 : Int32) = 0 by decide), b2, q_bd_s, b3, q_bd_s, b4]
end
