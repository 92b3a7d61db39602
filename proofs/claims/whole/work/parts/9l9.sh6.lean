/-- some mends, one behind the other -/
def ZQ (g : rd_G) (i n p : Nat) (C : Nat → Int32) (q d : Nat) (R : Nat → Nat → Int32) (K : rd_K) (k s l b : Nat) (A : rd_A) (e e' : Nat) (i1 p1 : Nat) (C1 : Nat → Int32) (q1 d1 : Nat) (r1 : Int32) (R1 : Nat → Nat → Int32) (K1 : rd_K) (s1 : Nat) (A1 : rd_A) (e1 e1' : Nat) (Y : rd_Y) (v w : q_V) : Prop :=
  St g i1 n p1 C1 i1 n q1 d1 r1 R1 K1 k s1 l b A1 e1 e1' v w ∧ (i ≤ i1 ∧ p1 + 2 * tka g i ≤ p + 2 * tka g i1 ∧ q1 + tka g i ≤ q + tka g i1 ∧ 3 * K1.length + tka g i ≤ 3 * K.length + tka g i1 ∧ 5 * d1 + tka g i ≤ 5 * d + tka g i1 ∧ 2 * s1 + tka g i ≤ 2 * s + tka g i1 ∧ p ≤ p1 ∧ q ≤ q1 ∧ d ≤ d1 ∧ s ≤ s1) ∧ ((∀ x, x < p → C1 x = C x) ∧ (∀ j x, j < 3 → x < q → R1 j x = R j x) ∧ (∀ j x, 3 ≤ j → x < d → R1 j x = R j x) ∧ ∃ t, K1 = t ++ K) ∧ (∀ m, i ≤ m → m < i1 → tkc g m ≠ 300) ∧ (A1.1 = A.1 ∧ (wl A → wl A1)) ∧ (e1 ≤ e ∧ e1' ≤ e') ∧ ov g i1 s1 e1 e1' ∧ (∀ x, q ≤ x → x < q1 → R1 0 x = 41 → R1 1 x ≠ -1) ∧ ∀ T XL, hT g T → ag g T C1 R1 K1 p p1 q q1 d d1 → e1 = rd_N → (∀ y, y ∈ Y → XL (nI y.1) (nI y.2.1) y.2.2.1) → dv_6 T XL n (lsO A.1 b (l - b)) p p1 q q1 ∧ ∀ y, y ∈ Y → lok T XL y
section
variable {g : rd_G} {i n p i' n' q d k s l b e e' : Nat} {C : Nat → Int32} {r : Int32} {R : Nat → Nat → Int32} {K : rd_K} {A : rd_A} {v w : q_V} {T : co_T} {XL : Int32 → Int32 → Int32 → Prop}
variable {B : q_V → Option (Int32 × q_V)} {B' : q_V → Option (Int64 × q_V)}
set_option maxHeartbeats 200000 in
theorem ZQ_0 (h : St g i n p C i n q d r R K k s l b A e e' v w) (ho : ov g i s e e') : ZQ g i n p C q d R K k s l b A e e' i p C q d r R K s A e e' [] v w :=
  ⟨h, ⟨Nat.le_refl _, Nat.le_refl _, Nat.le_refl _, Nat.le_refl _, Nat.le_refl _, Nat.le_refl _, Nat.le_refl _, Nat.le_refl _, Nat.le_refl _, Nat.le_refl _⟩, ⟨fun _ _ => rfl, fun _ _ _ _ => rfl, fun _ _ _ _ => rfl, [], rfl⟩, fun m h1 h2 => absurd h1 (by omega), ⟨rfl, fun z => z⟩, ⟨Nat.le_refl _, Nat.le_refl _⟩, ho, fun x h1 h2 => absurd h1 (by omega), fun T XL _ _ _ _ => ⟨fun Fin a S f0 H => ru_M6N, fun y hy => absurd hy (by simp)⟩⟩
set_option maxHeartbeats 200000 in
theorem ZQ_s {o2 : Int32} {z2 : Int64} {i1 p1 q1 d1 s1 e1 e1' i2 p2 q2 d2 s2 e2 e2' : Nat} {C1 C2 : Nat → Int32} {r1 r2 : Int32} {R1 R2 : Nat → Nat → Int32} {K1 K2 : rd_K} {A1 A2 : rd_A} {Y Y2 : rd_Y} {v1 w1 : q_V} (X : ZQ g i n p C q d R K k s l b A e e' i1 p1 C1 q1 d1 r1 R1 K1 s1 A1 e1 e1' Y v1 w1) (X2 : SQ dv_6 g n i1 n p1 C1 q1 d1 R1 K1 k s1 l b A1 e1 e1' o2 z2 i2 p2 C2 q2 d2 r2 R2 K2 k s2 A2 e2 e2' Y2 v w) : ZQ g i n p C q d R K k s l b A e e' i2 p2 C2 q2 d2 r2 R2 K2 s2 A2 e2 e2' (Y2 ++ Y) v w := by
  obtain ⟨X0, ⟨Xa, Xb, Xc, Xd, Xe, Xf, Xg, Xh, Xi, Xj⟩, ⟨x1, x2, x3, t1, x4⟩, x5, ⟨x6, x8⟩, ⟨x9, x9'⟩, x10, x11, x12⟩ := X
  obtain ⟨Y0, ⟨Ya, Yb, Yc, Yd, Ye, Yf, Yg, Yh, Yi, Yj, Yk⟩, ⟨y1, y2, y3, t2, y4⟩, y5, ⟨y6, y7, y8⟩, ⟨y9, y9'⟩, y10, y11, y12⟩ := X2
  refine ⟨Y0, ⟨by omega, by omega, by omega, by omega, by omega, by omega, by omega, by omega, by omega, by omega⟩, ⟨fun x hx => by rw [y1 x (by omega)]; exact x1 x hx, fun j x hj hx => by rw [y2 j x hj (by omega)]; exact x2 j x hj hx, fun j x hj hx => by rw [y3 j x hj (by omega)]; exact x3 j x hj hx, t2 ++ t1, by rw [y4, x4, List.append_assoc]⟩, fun m h1 h2 => ?_, ⟨y6.trans x6, fun z => y8 (x8 z)⟩, ⟨by omega, by omega⟩, y10, fun x h1 h2 => ?_, fun T XL g1 g2 g3 g4 => ?_⟩
  · by_cases c : m < i1
    · exact x5 m h1 c
    · exact y5 m (by omega) h2
  · by_cases c : x < q1
    · rw [y2 0 x (by omega) c, y2 1 x (by omega) c]; exact x11 x h1 c
    · exact y11 x (by omega) h2
  · have a1 := x12 T XL g1 (ag_S g2 (Nat.le_refl _) Yg (Nat.le_refl _) Yh (Nat.le_refl _) Yi (fun x _ hx => y1 x hx) (fun j x hj _ hx => y2 j x hj hx) (fun j x hj _ hx => y3 j x hj hx) (fun y hy => by rw [y4]; exact List.mem_append_right _ hy)) (by have := bl_le X0.2.2.2.2.2.2.1; omega) (fun y hy => g4 y (List.mem_append_right _ hy))
    have a2 := y12 T XL g1 (ag_S g2 Xg (Nat.le_refl _) Xh (Nat.le_refl _) Xi (Nat.le_refl _) (fun x _ _ => rfl) (fun j x _ _ _ => rfl) (fun j x _ _ _ => rfl) (fun y hy => hy)) g3 (fun y hy => g4 y (List.mem_append_left _ hy))
    rw [x6] at a2
    refine ⟨fun Fin a S f0 H => ru_M6A (a1.1 Fin a S f0 H) (a2.1 Fin a S f0 H), fun y hy => ?_⟩
    rcases List.mem_append.1 hy with hy | hy
    · exact a2.2 y hy
    · exact a1.2 y hy
set_option maxHeartbeats 200000 in
theorem q_bd_if {α β : Type} {c : Prop} [Decidable c] {X Y : Option (α × q_V)} {f : α → q_V → Option (β × q_V)} : q_bd (if c then X else Y) f = if c then q_bd X f else q_bd Y f := by split <;> rfl
set_option maxHeartbeats 200000 in
theorem m_push {x1 x2 a3 a4 a5 a6 t : Int32} {Kc : Int32 → Int32 → Int32 → Int32 → q_V → Option (Int32 × q_V)} {F : Int32 → q_V → Option (Int32 × q_V)} : q_bd (fX8_mends_b74 B x1 x2 a3 a4 a5 a6 t Kc v) F = fX8_mends_b74 B x1 x2 a3 a4 a5 a6 t (fun a b c d S => q_bd (Kc a b c d S) F) v := by
  simp only [fX8_mends_b74, fX8_mends_b88, fX8_mends_b103, fX8_mends_b123, fX8_mends_b180, fX8_mends_b198, q_bd_d, q_bd_v, q_bd_if, q_lt_s]
set_option maxHeartbeats 200000 in
/-- the mends, and their end -/
theorem m_loop {d0 Bd : Nat} {x0 x1 x2 : Int32} {wn3 : Int64} {F : Int32 → q_V → Option (Int32 × q_V)} {Q : Int32 → q_V → Int64 → q_V → Prop} (ok : rd_ok g) (hn : 1 ≤ n) (hn2 : n ≤ 14) (hi : 1 ≤ i) (hB : BS g n B B') (hxB : ∀ f p l v, xc g f p l v → cG g f p l (B v)) (hyB : ∀ f p Bd w, xr g f p Bd w → rG g f p Bd (B' w))
    (z : (p ≤ 2 * tka g i + 8 ∧ q ≤ tka g i + 9 ∧ 3 * K.length ≤ tka g i + 10) ∧ 5 * d ≤ tka g i + 10 + n ∧ 2 * s ≤ tka g i + 10) (hln : l ≤ n ∧ LB A l p d) (hd : d0 < 640) (h2 : wy l x2 wn3) (hBd : 3302 + 20 * (14 - n) ≤ Bd) (hF : ∀ f p a v, xc g f p l v → cG g f p l (F a v))
    (hE : ∀ o2 z2 i1 p1 C1 q1 d1 r1 R1 K1 s1 A1 e1 e1' Y v1 w1 v w, wy l o2 z2 → ZQ g i n p C q d R K k s l b A e e' i1 p1 C1 q1 d1 r1 R1 K1 s1 A1 e1 e1' Y v1 w1 → St g i1 n (p1 + 1) (upd C1 p1 49) i1 n (q1 + 1) d1 r1 (rE R1 q1 53 0 0) K1 k s1 l b A1 e1 e1' v w → jn g l Bd Q (F o2 v) (fX12_trial_b256 B' x0 (nI d0) z2 w)) :
    ∀ t c a3 a4 a5 t6 w7 i1 p1 C1 q1 d1 r1 R1 K1 s1 A1 e1 e1' Y v w N1 N2, gm g - i1 = t → t < N1 → t < N2 → c + i ≤ i1 → (a5 = 0 ∨ a5 = 1) → (t6 = 0 ∨ t6 = 1) → (a3 = if t6 = 0 then 0 else 4) → wy l a4 w7 → ZQ g i n p C q d R K k s l b A e e' i1 p1 C1 q1 d1 r1 R1 K1 s1 A1 e1 e1' Y v w → jn g l Bd Q (q_bd (fX8_mends_L28 B x1 x2 N1 a3 a4 a5 (nI c) v) F) (fX12_trial_L91 B' x0 N2 (nI d0) wn3 a5 t6 w7 w) := by
  have hL := ok.1
  have hm3 := ok.2.2.1.2.2
  intro t
  induction t using Nat.strongRecOn with
  | ind t ih =>
    intro c a3 a4 a5 t6 w7 i1 p1 C1 q1 d1 r1 R1 K1 s1 A1 e1 e1' Y v w N1 N2 ht hN1 hN2 hc h5 h6 h3 hw X
    obtain ⟨N1, rfl⟩ : ∃ y, N1 = y + 1 := ⟨N1 - 1, by omega⟩
    obtain ⟨N2, rfl⟩ : ∃ y, N2 = y + 1 := ⟨N2 - 1, by omega⟩
    have X' := X
    obtain ⟨S, ⟨Xa, Xb, Xc, Xd, Xe, Xf, Xg, Xh, Xi, Xj⟩, _, _, ⟨X6, _⟩, ⟨X9, X9'⟩, X10, _, _⟩ := X'
    have hi1 := (St_im S).1
    have ta := tka_L ok i1
    obtain ⟨⟨z1, z2, z3⟩, zd, zs⟩ := z
    rw [fX8_mends_L28, if_neg (show ¬ (3000 : Int32) ≤ nI c from ni_nle (a := 3000) (by omega) (by omega)), c_kind S, fX12_trial_L91]
    by_cases c315 : tkc g i1 = 315
    · obtain ⟨v1, a1, s1'⟩ := c_adv ok S (by rw [c315]; decide) (by rw [c315]; decide)
      obtain ⟨w2, b2, s2⟩ := r_skip (c := 315) (x := 25) ok s1' rfl (by decide) c315 (by decide) (by decide)
      have hi2 := (St_im s2).1
      obtain ⟨M1, rfl⟩ : ∃ y, N1 = y + 1 := ⟨N1 - 1, by omega⟩
      obtain ⟨M2, rfl⟩ : ∃ y, N2 = y + 1 := ⟨N2 - 1, by omega⟩
      rw [if_pos c315, a1, q_bv_s, b2, q_bd_s, if_neg (show ¬ (1 : Int32) = 0 by decide), q_bd_if, m_push, m_push]
      refine t_mend (i := i1) ok hn hn2 hB hxB hyB s2 c315 ⟨⟨by omega, by omega, by omega⟩, by omega, by omega⟩ X10 ⟨hln.1, LB_m hln.2 X6 Xg Xi⟩ h5 h6 h3 hw (by omega) (fun f p a b c d v h => cG_d (x_mL ok h) (fun a v h => hF _ _ _ _ h)) (fun f p a b c w h => rG_le (y_L91 hd (by omega) h) (by omega)) (fun a3 a4 a5 t6 w7 o2 z2 i2 p2 C2 q2 d2 r2 R2 K2 s2 A2 e2 e2' Y v w k5 k6 k3 kw X2 _ _ => ?_)
      have hi2 := (St_im X2.1).1
      have := X2.2.1.1
      exact ih (gm g - i2) (by omega) (c + 1) a3 a4 a5 t6 w7 i2 p2 C2 q2 d2 r2 R2 K2 s2 A2 e2 e2' _ v w (M1 + 1) (M2 + 1) rfl (by omega) (by omega) (by omega) k5 k6 k3 kw (ZQ_s X X2)
    · rw [if_neg c315, r_skipN (c := 315) (x := 25) ok S rfl (by decide) c315, q_bd_s, if_pos rfl]
      obtain ⟨v1, a1, s1'⟩ := c_add (y := 49) ok S (by omega)
      obtain ⟨w2, b2, s2⟩ := r_emit (o := 53) (a := 0) (c := 0) s1' (by omega)
      unfold fX8_mends_b213 fX8_mends_b250 fX12_trial_b247 fX12_trial_b254
      simp only [q_lt_s]
      rw [q_bd_d, a1, q_bd_s, b2, q_bd_s, lg_z (wy_2 h2)]
      by_cases c4 : x2 &&& 4 = 0
      · rw [if_pos c4, if_pos c4, q_bd_s]
        exact hE _ _ _ _ _ _ _ _ _ _ _ _ _ _ _ _ _ _ _ h2 X s2
      · rw [if_neg c4, if_neg c4]
        have ww := wy_or (wy_n5 h2) hw
        have fin : ∀ (o3 : Int32) (z3 : Int64), wy l o3 z3 → jn g l Bd Q (F o3 v1) (fX12_trial_b256 B' x0 (nI d0) z3 w2) := fun o3 z3 hh => hE _ _ _ _ _ _ _ _ _ _ _ _ _ _ _ _ _ _ _ hh X s2
        by_cases c5 : a5 = 0
        · rw [if_pos c5, if_pos c5, q_bd_s]
          refine fin _ _ ?_
          rw [show (x2 &&& -5 ||| a4 ||| a3) ||| 4 = (x2 &&& -5 ||| a4) ||| 4 by
            rw [Int32.or_assoc (x2 &&& -5 ||| a4), h3]
            congr 1
            split <;> decide]
          exact wy_or ww wy_k.2.2.2.1
        · rw [if_neg c5, if_neg c5, q_bd_s, Int32.or_zero]
          by_cases c6 : t6 = 0
          · rw [if_pos c6] at h3 ⊢
            subst h3
            rw [Int32.or_zero, Int64.or_zero]; exact fin _ _ ww
          · rw [if_neg c6] at h3 ⊢
            subst h3
            exact fin _ _ (wy_or ww wy_k.2.2.2.1)
end
