section
variable {g : rd_G} {i j n p i' n' q d k s l b e e' : Nat} {C : Nat → Int32} {r : Int32} {R : Nat → Nat → Int32} {K : rd_K} {A : rd_A} {v w : q_V} {T : co_T} {XL : Int32 → Int32 → Int32 → Prop}
variable {B : q_V → Option (Int32 × q_V)} {B' : q_V → Option (Int64 × q_V)}
set_option maxHeartbeats 200000 in
/-- a statement with its own order -/
theorem SPQ_S {o : Int32} {z : Int64} (h : SPQ g n i (p + 2) (upd (upd C p 30) (p + 1) (nI (tka g i))) (q + 1) d (rE R q 30 (nI (tka g i)) 0) K k s l b A e e' o v z w) : SP dv_S g n i n p C q d R K k s l b A e e' o v z w := by
  obtain ⟨i1, p1, C1, q1, d1, r1, R1, K1, k1, s1, A1, e1, e1', Y, ⟨F0, ⟨F1, F2, F3, F4, F5, F6, F7, F8, F9, F10, F11⟩, ⟨G1, G2, G3, G4⟩, H1, H2, H3, H4, H5, H6⟩, X1, X2⟩ := h
  refine ⟨i1, p1, C1, q1, d1, r1, R1, K1, k1, s1, A1, e1, e1', Y, F0, ⟨F1, by omega, by omega, F4, F5, F6, by omega, by omega, F9, F10, F11⟩, ⟨fun x hx => by rw [G1 x (by omega), upd_ne (by omega), upd_ne (by omega)], fun j x hj hx => by rw [G2 j x hj (by omega), rE_x (by omega)], fun j x hj hx => by rw [G3 j x hj hx, rE_j hj], G4⟩, H1, H2, H3, H4, fun x h1 h2 => ?_, fun T XL x1 x2 x3 x4 => ?_⟩
  · by_cases c : x = q
    · rw [c, G2 0 q (by omega) (by omega), rE_0, upd_at]; exact fun z => absurd z (by decide)
    · exact H5 x (by omega) h2
  · have d0 : R1 0 q = 30 := by rw [G2 0 q (by omega) (by omega), rE_0, upd_at]
    have c0 := ag_c x2 (Nat.le_refl p) (by omega)
    have c1 := ag_c x2 (show p ≤ p + 1 by omega) (by omega)
    have r0 := ag_r0 x2 (Nat.le_refl q) (by omega)
    have r1' := ag_r1 x2 (Nat.le_refl q) (by omega) (by rw [d0]; decide)
    rw [G1 p (by omega), upd_ne (by omega), upd_at] at c0
    rw [G1 (p + 1) (by omega), upd_at] at c1
    rw [d0] at r0
    rw [G2 1 q (by omega) (by omega), rE_1, upd_at] at r1'
    have y := H6 T XL x1 (ag_S x2 (by omega) (Nat.le_refl _) (by omega) (Nat.le_refl _) (Nat.le_refl _) (Nat.le_refl _) (fun x _ _ => rfl) (fun j x _ _ _ => rfl) (fun j x _ _ _ => rfl) (fun y hy => hy)) x3 x4
    exact ⟨y.1 p q rfl rfl c0 c1 r0 r1', y.2⟩
set_option maxHeartbeats 200000 in
/-- a block as a statement -/
theorem s_blk (ok : rd_ok g) (hn : 1 ≤ n) (hn2 : n ≤ 14) (hB : BS g n B B') (h : St g i n p C i n q d r R K k s l b A e e' v w) (z : zS g n i p q K.length d s) (o : ov g i s e e') (hln : l + 1 ≤ n ∧ LB A l p d) : jn g l (3300 + 20 * (15 - n)) (SP dv_S g n i n p C q d R K k s l b A e e') (B v) (B' w) := by
  obtain ⟨⟨z1, z2, z3⟩, zd, zs⟩ := z
  refine jn_le (jn_im (hB i p C q d r R K k s l b A e e' v w h ⟨⟨by omega, by omega, z3⟩, by omega, zs⟩ o ⟨by omega, hln.2⟩) (fun a v b w X => ?_)) (by omega)
  obtain ⟨i2, p2, C2, q2, d2, r2, R2, K2, s2', A2, e2, e2', Y, ⟨F0, F1, F2, F3, F4, F5, F6, F7, F8⟩, cB, n14, _⟩ := X
  refine ⟨i2, p2, C2, q2, d2, r2, R2, K2, k, s2', A2, e2, e2', Y, F0, F1, F2, F3, F4, F5, F6, F7, fun T XL x1 x2 x3 x4 => ⟨fun Fin a S f0 H => ru_NEST n14 ((F8 T XL x1 x2 x3 x4).1 Fin a S f0 H), (F8 T XL x1 x2 x3 x4).2⟩⟩
end
