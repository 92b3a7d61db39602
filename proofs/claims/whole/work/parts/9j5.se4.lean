/-- some statements, one behind the other -/
def SZ (g : rd_G) (nu i n p : Nat) (C : Nat → Int32) (q d : Nat) (R : Nat → Nat → Int32) (K : rd_K) (k s l b : Nat) (A : rd_A) (e e' : Nat) (o : Int32) (z : Int64) (i1 p1 : Nat) (C1 : Nat → Int32) (q1 d1 : Nat) (r1 : Int32) (R1 : Nat → Nat → Int32) (K1 : rd_K) (k1 s1 : Nat) (A1 : rd_A) (e1 e1' : Nat) (Y : rd_Y) (v w : q_V) : Prop :=
  St g i1 n p1 C1 i1 n q1 d1 r1 R1 K1 k1 s1 l b A1 e1 e1' v w ∧ (i ≤ i1 ∧ p1 + 2 * tka g i ≤ p + 2 * tka g i1 ∧ q1 + tka g i ≤ q + tka g i1 ∧ 3 * K1.length + tka g i ≤ 3 * K.length + tka g i1 ∧ 5 * d1 + tka g i ≤ 5 * d + tka g i1 ∧ 2 * s1 + tka g i ≤ 2 * s + tka g i1 ∧ p ≤ p1 ∧ q ≤ q1 ∧ d ≤ d1 ∧ s ≤ s1 ∧ k ≤ k1) ∧ ((∀ x, x < p → C1 x = C x) ∧ (∀ j x, j < 3 → x < q → R1 j x = R j x) ∧ (∀ j x, 3 ≤ j → x < d → R1 j x = R j x) ∧ ∃ t, K1 = t ++ K) ∧ (∀ m, i ≤ m → m < i1 → tkc g m ≠ 300) ∧ (A1.1 = A.1 ∧ wy l o z ∧ (wl A → wl A1)) ∧ (e1 ≤ e ∧ e1' ≤ e') ∧ ov g i1 s1 e1 e1' ∧ (∀ x, q ≤ x → x < q1 → R1 0 x = 41 → R1 1 x ≠ -1) ∧ ∀ T XL, hT g T → ag g T C1 R1 K1 p p1 q q1 d d1 → e1 = rd_N → (∀ y, y ∈ Y → XL (nI y.1) (nI y.2.1) y.2.2.1) → dv_S T XL nu (lsO A.1 b (l - b)) p p1 q q1 ∧ ∀ y, y ∈ Y → lok T XL y
/-- room ahead of a statement -/
def zS (g : rd_G) (n i p q c d s : Nat) : Prop := (p ≤ 2 * tka g i + 8 ∧ q ≤ tka g i + 9 ∧ 3 * c ≤ tka g i + 10) ∧ 5 * d ≤ tka g i + 10 + n ∧ 2 * s ≤ tka g i + 10
/-- a statement's reading -/
def SS (g : rd_G) (n : Nat) (F : q_V → Option (Int32 × q_V)) (F' : q_V → Option (Int64 × q_V)) : Prop := ∀ i p C q d r R K k s l b A e e' v w, St g i n p C i n q d r R K k s l b A e e' v w → zS g n i p q K.length d s → ov g i s e e' → (l + 1 ≤ n ∧ LB A l p d) → jn g l (3300 + 20 * (15 - n)) (SP dv_S g n i n p C q d R K k s l b A e e') (F v) (F' w)
section
variable {g : rd_G} {i n p i' n' q d k s l b e e' : Nat} {C : Nat → Int32} {r : Int32} {R : Nat → Nat → Int32} {K : rd_K} {A : rd_A} {v w : q_V} {T : co_T} {XL : Int32 → Int32 → Int32 → Prop}
variable {B : q_V → Option (Int32 × q_V)} {B' : q_V → Option (Int64 × q_V)}
set_option maxHeartbeats 200000 in
theorem SZ_0 {nu : Nat} {o : Int32} {z : Int64} (h : St g i n p C i n q d r R K k s l b A e e' v w) (ho : ov g i s e e') (hw : wy l o z) : SZ g nu i n p C q d R K k s l b A e e' o z i p C q d r R K k s A e e' [] v w :=
  ⟨h, ⟨Nat.le_refl _, Nat.le_refl _, Nat.le_refl _, Nat.le_refl _, Nat.le_refl _, Nat.le_refl _, Nat.le_refl _, Nat.le_refl _, Nat.le_refl _, Nat.le_refl _, Nat.le_refl _⟩, ⟨fun _ _ => rfl, fun _ _ _ _ => rfl, fun _ _ _ _ => rfl, [], rfl⟩, fun m h1 h2 => absurd h1 (by omega), ⟨rfl, hw, fun z => z⟩, ⟨Nat.le_refl _, Nat.le_refl _⟩, ho, fun x h1 h2 => absurd h1 (by omega), fun T XL _ _ _ _ => ⟨fun Fin a S f0 H => ru_BN, fun y hy => absurd hy (by simp)⟩⟩
set_option maxHeartbeats 200000 in
theorem SZ_s {nu : Nat} {o o2 o3 : Int32} {z z2 z3 : Int64} {i1 p1 q1 d1 k1 s1 e1 e1' i2 p2 q2 d2 k2 s2 e2 e2' : Nat} {C1 C2 : Nat → Int32} {r1 r2 : Int32} {R1 R2 : Nat → Nat → Int32} {K1 K2 : rd_K} {A1 A2 : rd_A} {Y Y2 : rd_Y} {v1 w1 : q_V} (X : SZ g nu i n p C q d R K k s l b A e e' o z i1 p1 C1 q1 d1 r1 R1 K1 k1 s1 A1 e1 e1' Y v1 w1) (X2 : SQ dv_S g nu i1 n p1 C1 q1 d1 R1 K1 k1 s1 l b A1 e1 e1' o2 z2 i2 p2 C2 q2 d2 r2 R2 K2 k2 s2 A2 e2 e2' Y2 v w) (hw : wy l o3 z3) : SZ g nu i n p C q d R K k s l b A e e' o3 z3 i2 p2 C2 q2 d2 r2 R2 K2 k2 s2 A2 e2 e2' (Y2 ++ Y) v w := by
  obtain ⟨X0, ⟨Xa, Xb, Xc, Xd, Xe, Xf, Xg, Xh, Xi, Xj, Xk⟩, ⟨x1, x2, x3, t1, x4⟩, x5, ⟨x6, x7, x8⟩, ⟨x9, x9'⟩, x10, x11, x12⟩ := X
  obtain ⟨Y0, ⟨Ya, Yb, Yc, Yd, Ye, Yf, Yg, Yh, Yi, Yj, Yk⟩, ⟨y1, y2, y3, t2, y4⟩, y5, ⟨y6, y7, y8⟩, ⟨y9, y9'⟩, y10, y11, y12⟩ := X2
  refine ⟨Y0, ⟨by omega, by omega, by omega, by omega, by omega, by omega, by omega, by omega, by omega, by omega, by omega⟩, ⟨fun x hx => by rw [y1 x (by omega)]; exact x1 x hx, fun j x hj hx => by rw [y2 j x hj (by omega)]; exact x2 j x hj hx, fun j x hj hx => by rw [y3 j x hj (by omega)]; exact x3 j x hj hx, t2 ++ t1, by rw [y4, x4, List.append_assoc]⟩, fun m h1 h2 => ?_, ⟨y6.trans x6, hw, fun z => y8 (x8 z)⟩, ⟨by omega, by omega⟩, y10, fun x h1 h2 => ?_, fun T XL g1 g2 g3 g4 => ?_⟩
  · by_cases c : m < i1
    · exact x5 m h1 c
    · exact y5 m (by omega) h2
  · by_cases c : x < q1
    · rw [y2 0 x (by omega) c, y2 1 x (by omega) c]; exact x11 x h1 c
    · exact y11 x (by omega) h2
  · have a1 := x12 T XL g1 (ag_S g2 (Nat.le_refl _) Yg (Nat.le_refl _) Yh (Nat.le_refl _) Yi (fun x _ hx => y1 x hx) (fun j x hj _ hx => y2 j x hj hx) (fun j x hj _ hx => y3 j x hj hx) (fun y hy => by rw [y4]; exact List.mem_append_right _ hy)) (by have := bl_le X0.2.2.2.2.2.2.1; omega) (fun y hy => g4 y (List.mem_append_right _ hy))
    have a2 := y12 T XL g1 (ag_S g2 Xg (Nat.le_refl _) Xh (Nat.le_refl _) Xi (Nat.le_refl _) (fun x _ _ => rfl) (fun j x _ _ _ => rfl) (fun j x _ _ _ => rfl) (fun y hy => hy)) g3 (fun y hy => g4 y (List.mem_append_left _ hy))
    rw [x6] at a2
    refine ⟨fun Fin a S f0 H => ru_BC (a1.1 Fin a S f0 H) (a2.1 Fin a S f0 H), fun y hy => ?_⟩
    rcases List.mem_append.1 hy with hy | hy
    · exact a2.2 y hy
    · exact a1.2 y hy
set_option maxHeartbeats 200000 in
/-- the variables of a block are forgotten -/
theorem j_forget {k0 c0 : Nat} (h : St g i n p C i' n' q d r R K k s l b A e e' v w) (hk : k0 ≤ k) (hc : c0 ≤ 24) (hs : s ≤ 24 → c0 = k0) : St g i n p C i' n' q d r R K k0 s l b A e e' (q_si v 1005 (nI c0)) (q_si w 2441 (nI k0)) := by
  obtain ⟨f, F, t, B, Y, N, M⟩ := h
  refine ⟨rdf_i f (by omega), rdF_i F (by omega), sT_ci t (by omega), sB_ci B (by omega), sR_i Y (by omega), ?_, sM_ri (sM_ci M (by omega)) (by omega)⟩
  unfold sN at N ⊢
  rw [q_i_ne (by omega), q_i_ne (by omega), q_i_at, q_i_at, q_i_ne (by omega), q_i_ne (by omega), q_i_ne (by omega), q_i_ne (by omega), q_i_ne (by omega)]
  obtain ⟨N1, ⟨c, c1, c2, c3⟩, N3, N4, N5, N6⟩ := N
  refine ⟨⟨N1.1, N1.2.1, rfl, by have := N1.2.2.2; omega, N1.2.2.2.2⟩, ⟨c0, rfl, hc, fun h => ⟨hs h, fun j hj => (c3 h).2 j (by omega)⟩⟩, fun z j j' h1 h2 => N3 z j j' (by omega) (by omega), N4, ⟨N5.1, fun j hj => N5.2 j (by omega)⟩, N6⟩
set_option maxHeartbeats 200000 in
theorem xr_k {f p : Int32} {Bd k0 : Nat} (h : xr g f p Bd w) (hk : k0 ≤ 1600) : xr g f p Bd (q_si w 2441 (nI k0)) := by
  obtain ⟨⟨h1, ⟨j, hj, h1'⟩, _⟩, h2, h3, h4, q, h5, h6⟩ := h
  exact ⟨⟨rdF_i h1 (by omega), ⟨j, hj, by rw [q_i_ne (by omega)]; exact h1'⟩, k0, hk, q_i_at⟩, by rw [q_i_ne (by omega)]; exact h2, by rw [q_i_ne (by omega)]; exact h3, h4, q, h5, by rw [q_i_ne (by omega)]; exact h6⟩
set_option maxHeartbeats 200000 in
theorem x_b76 {f p : Int32} {x y : Int32} (h : xc g f p l v) : cG g f p l (fX8_block_b76 B x y v) := by
  unfold fX8_block_b76 fX5_forgetBehind
  rw [q_lt_s, q_bv_s]
  exact cG_v (x_end (xc_i h (by omega))) (fun v h => cG_v (x_exp h) (fun v h => cG_s h))
set_option maxHeartbeats 200000 in
theorem x_bL {f p : Int32} {x y z : Int32} {m : Nat} (h : xc g f p l v) : cG g f p l (fX8_block_L21 B (m + 1) x y z v) := by
  rw [fX8_block_L21, x_stop h, q_bd_s, if_neg (show ¬ (1 : Int32) = 0 by decide)]
  exact cG_i (fun _ => x_b76 h) (fun _ => cG_i (fun _ => x_b76 h) (fun _ => x_b76 h))
set_option maxHeartbeats 200000 in
theorem x_block {f p : Int32} (h : xc g f p l v) : cG g f p l (fX8_block B v) := by
  unfold fX8_block fX5_knownNow
  refine cG_v (x_expN (by decide) h) (fun v h => ?_)
  rw [q_bd_s]; exact x_bL h
set_option maxHeartbeats 200000 in
theorem y_b72 {f p : Int32} {Bd k0 : Nat} {y : Int64} (h : xr g f p Bd w) (hk : k0 ≤ 1600) : rG g f p Bd (fX12_block_b72 B' (nI k0) y w) := by
  unfold fX12_block_b72
  refine rG_v (y_takeS h) (fun w h => ?_)
  rw [q_lt_s, q_lt_s]
  exact rG_s (xr_k (xr_i h (by omega)) hk)
set_option maxHeartbeats 200000 in
theorem y_bL {f p : Int32} {Bd k0 m : Nat} {y : Int64} (h : xr g f p Bd w) (hk : k0 ≤ 1600) : rG g f p Bd (fX12_block_L26 B' (m + 1) (nI k0) y w) := by
  rw [fX12_block_L26, y_fine h, q_bd_s, if_pos rfl]; exact y_b72 h hk
set_option maxHeartbeats 200000 in
theorem y_block {f p : Int32} {Bd : Nat} (h : xr g f p Bd w) : rG g f p Bd (fX12_block B' w) := by
  unfold fX12_block
  rw [y_sign h, q_bd_s, if_pos rfl, y_wrong h, q_bv_s]; exact rG_s h
set_option maxHeartbeats 200000 in
theorem lg_z {a : Int64} {α : Type} {x y : α} {c : Prop} [Decidable c] (h : c ↔ a = 0) : (if lg_cmp a 0 = 0 then x else y) = (if c then x else y) := by
  rw [lg_if]
  by_cases q : c
  · rw [if_pos q, if_pos (h.1 q)]
  · rw [if_neg q, if_neg (fun z => q (h.2 z))]
set_option maxHeartbeats 200000 in
/-- the statements of a block -/
theorem b_loop {nu n0 i0 k0 c0 p0 q0 d0 s0 e0 e0' : Nat} {C0 : Nat → Int32} {R0 : Nat → Nat → Int32} {K0 : rd_K} {A0 : rd_A} (ok : rd_ok g) (hS : SS g (n + 1) (fX8_statement B) (fX12_statement B')) (hn : n < 14) (hln : l ≤ n ∧ LB A0 l p0 d0) (z : zS g (n + 1) i0 p0 q0 K0.length d0 s0) (hk0 : k0 ≤ 1600) (hc0 : c0 ≤ 24) (hsc : s0 ≤ 24 → c0 = k0) {Q : Int32 → q_V → Int64 → q_V → Prop}
    (hQ : ∀ o z i1 p1 C1 q1 d1 r1 R1 K1 k1 s1 A1 e1 e1' Y v w, tkc g i1 = 125 → SZ g (n + 1) i0 (n + 1) p0 C0 q0 d0 R0 K0 k0 s0 l b A0 e0 e0' o z i1 p1 C1 q1 d1 r1 R1 K1 k1 s1 A1 e1 e1' Y v w → jn g l (3300 + 20 * (14 - n)) Q (fX8_block_b76 B (nI c0) o v) (fX12_block_b72 B' (nI k0) z w)) :
    ∀ u c i1 p1 C1 q1 d1 r1 R1 K1 k1 s1 A1 e1 e1' Y o z v w N1 N2, gm g - i1 = u → u + 1 < N1 → u + 1 < N2 → c + i0 ≤ i1 → 1 ≤ i0 → SZ g (n + 1) i0 (n + 1) p0 C0 q0 d0 R0 K0 k0 s0 l b A0 e0 e0' o z i1 p1 C1 q1 d1 r1 R1 K1 k1 s1 A1 e1 e1' Y v w → jn g l (3300 + 20 * (14 - n)) Q (fX8_block_L21 B N1 (nI c0) o (nI c) v) (fX12_block_L26 B' N2 (nI k0) z w) := by
  have hm3 := ok.2.2.1.2.2
  intro u
  induction u using Nat.strongRecOn with
  | ind u ih =>
    intro c i1 p1 C1 q1 d1 r1 R1 K1 k1 s1 A1 e1 e1' Y o z2 v w N1 N2 hu hN1 hN2 hc hi0 X
    obtain ⟨N1, rfl⟩ : ∃ x, N1 = x + 1 := ⟨N1 - 1, by omega⟩
    obtain ⟨N2, rfl⟩ : ∃ x, N2 = x + 1 := ⟨N2 - 1, by omega⟩
    have S := X.1
    have hi1 := (St_im S).1
    rw [fX8_block_L21, if_neg (show ¬ (3000 : Int32) ≤ nI c from ni_nle (a := 3000) (by omega) (by omega)), c_kind S, fX12_block_L26, r_fine S, q_bd_s, if_neg (show ¬ (1 : Int32) = 0 by decide), r_sign (c := 125) ok S rfl (by decide), q_bd_s, lx_i0]
    by_cases c125 : tkc g i1 = 125
    · rw [if_pos c125, if_pos c125]
      exact hQ _ _ _ _ _ _ _ _ _ _ _ _ _ _ _ _ _ _ c125 X
    · rw [if_neg c125, if_neg c125, c_stop ok S, q_bd_s, if_pos rfl]
      have zE : zS g (n + 1) i1 p1 q1 K1.length d1 s1 := by
        obtain ⟨⟨z1, z2, z3⟩, z4, z5⟩ := z
        obtain ⟨_, Xb, Xc, Xd, Xe, Xf, _⟩ := X.2.1
        exact ⟨⟨by omega, by omega, by omega⟩, by omega, by omega⟩
      have J := hS i1 p1 C1 q1 d1 r1 R1 K1 k1 s1 l b A1 e1 e1' v w S zE X.2.2.2.2.2.2.1 ⟨by have := hln.1; omega, LB_m hln.2 X.2.2.2.2.1.1 (by obtain ⟨_, _, _, _, _, _, Xg, _⟩ := X.2.1; exact Xg) (by obtain ⟨_, _, _, _, _, _, _, _, Xi, _⟩ := X.2.1; exact Xi)⟩
      have J := jn_le J (show 3300 + 20 * (15 - (n + 1)) ≤ 3300 + 20 * (14 - n) by omega)
      have hwy := X.2.2.2.2.1.2.1
      obtain ⟨M1, rfl⟩ : ∃ x, N1 = x + 1 := ⟨N1 - 1, by omega⟩
      obtain ⟨M2, rfl⟩ : ∃ x, N2 = x + 1 := ⟨N2 - 1, by omega⟩
      refine jn_dd J (fun f p a v h => ?_) (fun f p a w h => ?_) ?_
      · unfold fX8_block_b70
        rw [q_lt_s]
        exact cG_i (fun _ => x_bL h) (fun _ => x_bL h)
      · unfold fX12_block_b68
        exact rG_i (fun _ => y_bL h hk0) (fun _ => y_bL h hk0)
      · intro o3 v3 z3 w3 E
        obtain ⟨i2, p2, C2, q2, d2, r2, R2, K2, k2, s2, A2, e2, e2', Y2, E⟩ := E
        have hi2 := (St_im E.1).1
        have hlt := E.2.1.1
        have hwy2 := E.2.2.2.2.1.2.1
        unfold fX8_block_b70 fX12_block_b68
        rw [lg_z (wy_0 hwy), q_lt_s, q_lt_s, ni_add1]
        by_cases co : o &&& 1 = 0
        · rw [if_pos co, if_pos co]
          exact ih (gm g - i2) (by omega) (c + 1) i2 p2 C2 q2 d2 r2 R2 K2 k2 s2 A2 e2 e2' _ o z2 v3 w3 _ _ rfl (by omega) (by omega) (by omega) hi0 (SZ_s X E hwy)
        · rw [if_neg co, if_neg co]
          exact ih (gm g - i2) (by omega) (c + 1) i2 p2 C2 q2 d2 r2 R2 K2 k2 s2 A2 e2 e2' _ _ _ v3 w3 _ _ rfl (by omega) (by omega) (by omega) hi0 (SZ_s X E (wy_or (wy_n2 hwy) hwy2))
set_option maxHeartbeats 200000 in
/-- a block -/
theorem BS_block (ok : rd_ok g) (hS : n < 14 → SS g (n + 1) (fX8_statement B) (fX12_statement B')) : BS g n (fX8_block B) (fX12_block B') := by
  intro i p C q d r R K k s l b A e e' v w h z o hln
  have hm3 := ok.2.2.1.2.2
  have hn := St_n h
  have hL := ok.1
  have zp := z0_p ok z.1
  unfold fX8_block fX12_block fX5_knownNow
  rw [r_sign (c := 123) ok h rfl (by decide), q_bd_s, lx_i0]
  by_cases c123 : tkc g i = 123
  · rw [if_pos c123]
    by_cases h14 : n = 14
    · subst h14
      obtain ⟨v1, a1, x1⟩ := c_expN3 h c123
      obtain ⟨w1, b1, y1⟩ := r_nest3 (Bd := 3010) ok h (by omega)
      obtain ⟨kk, hk1, hk2⟩ := y1.1.2.2
      rw [a1, q_bv_s, b1, q_bv_s, q_bd_s, q_N1, hk2, q_lt_s]
      exact jn_xx (x_bL x1) (rG_le (y_bL y1 hk1) (by omega))
    · obtain ⟨v1, a1, s1⟩ := c_expN ok h c123 (by decide) (by decide) (by omega)
      obtain ⟨w1, b1, s2⟩ := r_nest ok s1 (by omega) (by rw [c123]; decide) (by rw [c123]; decide)
      have him := (St_im s2).1
      have t0 := tka_lt ok (show i < i + 1 by omega) him
      have N2 := s2.2.2.2.2.2.1
      obtain ⟨c0, c1, c2, c3⟩ := N2.2.1
      have hk0 : k ≤ 1600 := by have := N2.1.2.2.2; omega
      have zI : zS g (n + 1) (i + 1) p q K.length d s := by
        obtain ⟨⟨z1, z2, z3⟩, z4, z5⟩ := z
        exact ⟨⟨by omega, by omega, by omega⟩, by omega, by omega⟩
      have X0 := SZ_0 (nu := n + 1) (o := 1) (z := 1) s2 (ov_m ok o (by omega) him (Nat.le_refl _) (Nat.le_refl _)) (wy_k (l := l)).2.1
      rw [a1, q_bv_s, b1, q_bv_s, q_bd_s, c1, N2.1.2.2.1, q_lt_s]
      refine b_loop (nu := n) (n0 := n) (i0 := i + 1) ok (hS (by omega)) (by omega) hln zI hk0 c2 (fun q => (c3 q).1) ?_ (gm g - (i + 1)) 0 (i + 1) p C q d r R K k s A e e' [] 1 1 v1 w1 q_N q_N rfl (by unfold q_N; omega) (by unfold q_N; omega) (by omega) (by omega) X0
      intro o2 z2 i1 p1 C1 q1 d1 r1 R1 K1 k1 s1' A1 e1 e1' Y v3 w3 c125 X
      obtain ⟨F0, ⟨Xa, Xb, Xc, Xd, Xe, Xf, Xg, Xh, Xi, Xj, Xk⟩, x1, x5, x6, x9, x10, x11, x12⟩ := X
      obtain ⟨w5, b5, s5⟩ := r_takeS (c := 125) ok F0 rfl (by decide) c125 (by decide) (by decide)
      have sF := j_forget (k0 := k) (c0 := c0) (r_un s5) Xk c2 (fun q => (c3 (by omega)).1)
      obtain ⟨v6, a6, s6⟩ := c_end sF
      obtain ⟨v7, a7, s7⟩ := c_exp ok s6 c125 (by decide) (by decide)
      have hi1 := (St_im s7).1
      have t1 := tka_lt ok (show i1 < i1 + 1 by omega) hi1
      unfold fX8_block_b76 fX5_forgetBehind fX12_block_b72
      rw [q_lt_s, q_bv_s, a6, q_bv_s, a7, q_bv_s, b5, q_bv_s, q_lt_s, q_lt_s]
      refine jn_qq ⟨i1 + 1, p1, C1, q1, d1, r1, R1, K1, s1', A1, e1, e1', Y, ⟨s7, ⟨by omega, by omega, by omega, by omega, by omega, by omega, by omega, by omega, by omega, by omega, by omega⟩, x1, fun m h1 h2 => ?_, x6, x9, ov_m ok x10 (by omega) hi1 (Nat.le_refl _) (Nat.le_refl _), x11, x12⟩, c123, by omega, by omega, by omega, by omega, by omega, by omega⟩
      by_cases m1 : m = i
      · rw [m1, c123]; decide
      · by_cases m2 : m = i1
        · rw [m2, c125]; decide
        · exact x5 m (by omega) (by omega)
  · rw [if_neg c123]
    obtain ⟨v1, a1, x1⟩ := c_expNX h c123
    obtain ⟨w1, b1, y1⟩ := r_wrong (Bd := 3010) ok h (by omega)
    rw [a1, q_bv_s, b1, q_bv_s, q_bd_s, q_N1]
    exact jn_xx (x_bL x1) (rG_s (xr_le y1 (by omega)))
end
