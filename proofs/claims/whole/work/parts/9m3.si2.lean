def dv_4 (T : co_T) (XL : Int32 → Int32 → Int32 → Prop) (nu : Nat) (L : List (Nat × Nat)) (px qx p p' q q' : Nat) : Prop := ∀ Fin a S f0, dv_H Fin a S T XL f0 → ru_SC4 Fin (ru_at a S) T XL f0 nu L px qx p p' q q'
/-- some whens, one behind the other -/
def CQ (g : rd_G) (i n p : Nat) (C : Nat → Int32) (q d : Nat) (R : Nat → Nat → Int32) (K : rd_K) (k s l b : Nat) (A : rd_A) (e e' : Nat) (ch : List Nat) (x : Int32) (i1 p1 : Nat) (C1 : Nat → Int32) (q1 d1 : Nat) (r1 : Int32) (R1 : Nat → Nat → Int32) (K1 : rd_K) (s1 : Nat) (A1 : rd_A) (e1 e1' : Nat) (Y : rd_Y) (v w : q_V) : Prop :=
  St g i1 (n + 1) p1 C1 i1 (n + 1) q1 d1 r1 R1 K1 k s1 l b A1 e1 e1' v w ∧ (i ≤ i1 ∧ p1 + 2 * tka g i ≤ p + 2 * tka g i1 ∧ q1 + tka g i ≤ q + tka g i1 ∧ 3 * K1.length + tka g i ≤ 3 * K.length + tka g i1 ∧ 5 * d1 + tka g i ≤ 5 * d + tka g i1 ∧ 2 * s1 + tka g i ≤ 2 * s + tka g i1 ∧ p ≤ p1 ∧ q ≤ q1 ∧ d ≤ d1 ∧ s ≤ s1) ∧ ((∀ x, x < p → C1 x = C x) ∧ (∀ j x, j < 3 → x < q → R1 j x = R j x) ∧ (∀ j x, 3 ≤ j → x < d → R1 j x = R j x) ∧ ∃ t, K1 = t ++ K) ∧ (∀ m, i ≤ m → m < i1 → tkc g m ≠ 300) ∧ (A1.1 = A.1 ∧ (wl A → wl A1)) ∧ (e1 ≤ e ∧ e1' ≤ e') ∧ ov g i1 s1 e1 e1' ∧ (∀ x, q ≤ x → x < q1 → R1 0 x = 41 → R1 1 x = -1 → R1 2 x = nI q) ∧ (chn C1 ch x ∧ (∀ a ∈ ch, p ≤ a ∧ a < p1) ∧ 2 * ch.length + p ≤ p1) ∧ ∀ px qx T XL, hT g T → ag g T (ups (nI px) C1 ch) (paw (nI q) (nI qx) R1) K1 p p1 q q1 d d1 → e1 = rd_N → (∀ y, y ∈ Y → XL (nI y.1) (nI y.2.1) y.2.2.1) → dv_4 T XL n (lsO A.1 b (l - b)) px qx p p1 q q1 ∧ ∀ y, y ∈ Y → lok T XL y
section
variable {g : rd_G} {i n p i' n' q d k s l b e e' : Nat} {C : Nat → Int32} {r : Int32} {R : Nat → Nat → Int32} {K : rd_K} {A : rd_A} {v w : q_V} {T : co_T} {XL : Int32 → Int32 → Int32 → Prop}
variable {B : q_V → Option (Int32 × q_V)} {B' : q_V → Option (Int64 × q_V)} {ax : Option Nat} {xt0 : Int32}
set_option maxHeartbeats 200000 in
theorem CQ_0 (h : St g i (n + 1) p C i (n + 1) q d r R K k s l b A e e' v w) (ho : ov g i s e e') : CQ g i n p C q d R K k s l b A e e' [] 0 i p C q d r R K s A e e' [] v w :=
  ⟨h, ⟨Nat.le_refl _, Nat.le_refl _, Nat.le_refl _, Nat.le_refl _, Nat.le_refl _, Nat.le_refl _, Nat.le_refl _, Nat.le_refl _, Nat.le_refl _, Nat.le_refl _⟩, ⟨fun _ _ => rfl, fun _ _ _ _ => rfl, fun _ _ _ _ => rfl, [], rfl⟩, fun m h1 h2 => absurd h1 (by omega), ⟨rfl, fun z => z⟩, ⟨Nat.le_refl _, Nat.le_refl _⟩, ho, fun x h1 h2 => absurd h1 (by omega), ⟨rfl, fun a ha => absurd ha (by simp), by simp⟩, fun px qx T XL _ _ _ _ => ⟨fun Fin a S f0 H => ru_C4N, fun y hy => absurd hy (by simp)⟩⟩
set_option maxHeartbeats 200000 in
theorem paw_n {k y : Int32} {j x : Nat} (h : ¬ (j = 1 ∧ R 0 x = 41 ∧ R 1 x = -1)) : paw k y R j x = R j x := if_neg (fun z => h ⟨z.1, z.2.1, z.2.2.1⟩)
set_option maxHeartbeats 200000 in
theorem paw_c {k y : Int32} {R' : Nat → Nat → Int32} {j x : Nat} (hj : j < 3) (h : ∀ j, j < 3 → R' j x = R j x) : paw k y R' j x = paw k y R j x := by
  unfold paw; rw [h 0 (by omega), h 1 (by omega), h 2 (by omega), h j hj]
set_option maxHeartbeats 200000 in
/-- the block of a when -/
theorem t_wb {i1 p1 q1 d1 s1 e1 e1' i3 p3 q3 e3 e3' qj Bd : Nat} {C1 C3 : Nat → Int32} {r1 r3 x : Int32} {R1 R3 : Nat → Nat → Int32} {K1 K3 : rd_K} {A1 : rd_A} {Y : rd_Y} {ch : List Nat} {v1 w1 : q_V} {α β : Type} {Fc : Int32 → Int32 → q_V → Option (α × q_V)} {Fr : Int64 → q_V → Option (β × q_V)} {Q : α → q_V → β → q_V → Prop} (ok : rd_ok g) (hn2 : n + 1 ≤ 14) (hB : BS g (n + 1) B B')
    (z : (p ≤ 2 * tka g i + 8 ∧ q ≤ tka g i + 9 ∧ 3 * K.length ≤ tka g i + 10) ∧ 5 * d ≤ tka g i + 10 + n ∧ 2 * s ≤ tka g i + 10) (hln : l ≤ n ∧ LB A l p d) (X : CQ g i n p C q d R K k s l b A e e' ch x i1 p1 C1 q1 d1 r1 R1 K1 s1 A1 e1 e1' Y v1 w1)
    (S : St g i3 (n + 1) p3 C3 i3 (n + 1) q3 d1 r3 R3 K3 k s1 l b A1 e3 e3' v w) (E : i1 < i3 ∧ p3 + 2 * tka g i1 ≤ p1 + 2 * tka g i3 ∧ q3 + tka g i1 ≤ q1 + tka g i3 ∧ 3 * K3.length + tka g i1 ≤ 3 * K1.length + tka g i3 ∧ p1 ≤ p3 ∧ q1 ≤ q3) (E2 : (∀ x, x < p1 → C3 x = C1 x) ∧ (∀ j x, j < 3 → x < q1 → R3 j x = R1 j x) ∧ (∀ j, 3 ≤ j → R3 j = R1 j) ∧ ∃ t, K3 = t ++ K1) (E3 : ∀ u, i1 ≤ u → u < i3 → tkc g u ≠ 300) (E4 : e3 ≤ e1 ∧ e3' ≤ e1') (E5 : ∀ y, q1 ≤ y → y < q3 → y ≠ qj → R3 0 y ≠ 41) (hqj : q1 ≤ qj ∧ qj < q3) (ha : aO ax xt0 p3) (hap : ∀ m, ax = some m → p1 ≤ m)
    (HV : ∀ T XL px qx p2 q2, hT g T → e3 = rd_N → n + 2 ≤ 14 → ag g T (uA ax C3 (nI (p2 + 2))) (rO R3 1 qj (nI (q2 + 1))) K3 p1 p3 q1 q3 d1 d1 → dv_S T XL (n + 2) (lsO A.1 b (l - b)) p3 p2 q3 q2 → co_c T p2 22 → co_c T (p2 + 1) (nI px) → co_r T 0 q2 41 → co_r T 1 q2 (nI qx) → dv_4 T XL n (lsO A.1 b (l - b)) px qx p1 (p2 + 2) q1 (q2 + 1))
    (hBd : 3301 + 20 * (14 - n) ≤ Bd) (hFc : ∀ f p a c v, xc g f p l v → cG g f p l (Fc a c v)) (hFr : ∀ f p a w, xr g f p (3301 + 20 * (14 - (n + 1))) w → rG g f p Bd (Fr a w)) (hF : ∀ o2 z2 i2 pa p2 C2 q2 d2 r2 R2 K2 s2 A2 e2 e2' Y v w, wy l o2 z2 → i1 < i2 → CQ g i n p C q d R K k s l b A e e' (pa :: ch) (nI pa) i2 p2 C2 q2 d2 r2 R2 K2 s2 A2 e2 e2' Y v w → jn g l Bd Q (Fc o2 (nI pa) v) (Fr z2 w)) :
    jn g l Bd Q (q_bd (B v) (fun y T => q_bd (fX0_add_ 22 x T) (fun y5 T => q_lt (y5 + 1) (fun y6 => q_bd (fX0_size T) (fun y9 T => q_bv (fX0_set xt0 y9 T) (fun T => Fc y y6 T)))))) (q_bd (B' w) (fun z T => q_bd (fX12_emit 41 (-1) (nI q) T) (fun _ T => if (nI qj) < 0 ∨ 4000 ≤ (nI qj).toNatClampNeg then none else q_lt (q_sa T 2415 (upd (q_a T 2415) (nI qj).toNatClampNeg (q_i T 2417))) (fun T => Fr z T)))) := by
  obtain ⟨⟨z1, z2, z3⟩, zd, zs⟩ := z
  obtain ⟨X0, ⟨Xa, Xb, Xc, Xd, Xe, Xf, Xg, Xh, Xi, Xj⟩, ⟨x1, x2, x3, t1, x4⟩, x5, ⟨x6, x8⟩, ⟨x9, x9'⟩, x10, x11, ⟨x12, x13, x14⟩, x15⟩ := X
  obtain ⟨E1a, E1b, E1c, E1d, E1e, E1f⟩ := E
  have hL := ok.1
  have hi3 := (St_im S).1
  have ta1 := tka_L ok i1
  have ta3 := tka_L ok i3
  have tii := tka_lt ok E1a hi3
  have hqj4 : qj < 4000 := by omega
  have JB := hB i3 p3 C3 q3 d1 r3 R3 K3 k s1 l b A1 e3 e3' v w S ⟨⟨by omega, by omega, by omega⟩, by omega, by omega⟩ (ov_m ok x10 (by omega) hi3 E4.1 E4.2) ⟨by omega, LB_m hln.2 x6 (by omega) Xi⟩
  refine jn_dd JB (fun f p a v h => ?_) (fun f p a w h => ?_) ?_
  · refine cG_d (x_add2 ok h) (fun a v h => ?_)
    rw [q_lt_s]
    exact cG_d (x_size h) (fun a v h => cG_v (x_set ok h) (fun v h => hFc _ _ _ _ _ h))
  · refine rG_d (y_emit (by omega) h) (fun a w h => ?_)
    rw [if_neg (in4 hqj4), q_lt_s]
    exact hFr _ _ _ _ (xr_a (xr_le h (by omega)) (by omega))
  · intro o2 v3 z2' w3 XX
    obtain ⟨i2, p2, C2, q2, d2, r2, R2, K2, s2', A2, e2, e2', Y2, ⟨F0, ⟨F1, F2, F3, F4, F5, F6, F7, F8, F9, F10, _⟩, ⟨G1, G2, G3, t2, G4⟩, F11, ⟨F12, F13, F14⟩, ⟨F15, F15'⟩, F16, F17, F18⟩, cB, n14, H1, H2, H3, H4, H5⟩ := XX
    have hi2 := (St_im F0).1
    have ta2 := tka_L ok i2
    obtain ⟨v4, a4, s4⟩ := c_add2 (x := 22) (y := x) ok F0 (by omega)
    obtain ⟨v5, a5, s5⟩ := c_setA (y := nI (p2 + 2)) ok s4 (ax := ax) (xt0 := xt0) ⟨fun m hm => ⟨(ha.1 m hm).1, by have := (ha.1 m hm).2; omega⟩, ha.2⟩
    obtain ⟨w6, b6, s6⟩ := r_emit (o := 41) (a := -1) (c := nI q) s5 (by omega)
    have s7 := r_set (j := 1) (a := qj) (y := nI (q2 + 1)) s6 (by omega)
    have BD : i ≤ i2 ∧ p2 + 2 + 2 * tka g i ≤ p + 2 * tka g i2 ∧ q2 + 1 + tka g i ≤ q + tka g i2 ∧ 3 * K2.length + tka g i ≤ 3 * K.length + tka g i2 ∧ 5 * d2 + tka g i ≤ 5 * d + tka g i2 ∧ 2 * s2' + tka g i ≤ 2 * s + tka g i2 ∧ p ≤ p2 + 2 ∧ q ≤ q2 + 1 ∧ d ≤ d2 ∧ s ≤ s2' := ⟨by omega, by omega, by omega, by omega, by omega, by omega, by omega, by omega, by omega, by omega⟩
    have hq2b : q2 < 4000 := by omega
    rw [a4, q_bd_s, ni_add1, q_lt_s, c_size s4, q_bd_s, a5, q_bv_s, b6, q_bd_s, if_neg (in4 hqj4), ni_clamp (show qj < 2147483648 by omega), q_lt_s, s6.2.2.2.2.1.1.2.2.2.1]
    clear z1 z2 z3 zd zs ta1 ta3 ta2 tii E1b E1c E1d F2 F3 F4 F5 F6 H1 H2 H3 H4 H5 Xb Xc Xd Xe Xf
    have nax : ∀ y, p3 ≤ y → ∀ m, ax = some m → y ≠ m := fun y hy m hm => by have := (ha.1 m hm).2; omega
    have nax1 : ∀ y, y < p1 → ∀ m, ax = some m → y ≠ m := fun y hy m hm => by have := hap m hm; omega
    obtain ⟨I1, I2, I3, t3, I4⟩ := E2
    have kC : ∀ y, y < p3 → upd (upd C2 p2 22) (p2 + 1) x y = C3 y := fun y hy => by rw [upd_ne (by omega), upd_ne (by omega), G1 y hy]
    have kC1 : ∀ y, y < p1 → uA ax (upd (upd C2 p2 22) (p2 + 1) x) (nI (p2 + 2)) y = C1 y := fun y hy => by rw [uA_x (nax1 y hy), kC y (by omega), I1 y hy]
    have kR : ∀ j y, j < 3 → y < q3 → rO (rE R2 q2 41 (-1) (nI q)) 1 qj (nI (q2 + 1)) j y = rO R3 1 qj (nI (q2 + 1)) j y := fun j y hj hy => by
      by_cases c : j = 1 ∧ y = qj
      · rw [c.1, c.2, rO_at, rO_at]
      · have c' : j ≠ 1 ∨ y ≠ qj := by
          rcases Decidable.em (j = 1) with u | u
          · exact Or.inr (fun t => c ⟨u, t⟩)
          · exact Or.inl u
        rw [rO_x c', rO_x c', rE_x (by omega), G2 j y hj hy]
    have kR1 : ∀ y, y < q1 → ∀ j, j < 3 → rO (rE R2 q2 41 (-1) (nI q)) 1 qj (nI (q2 + 1)) j y = R1 j y := fun y hy j hj => by rw [kR j y hj (by omega), rO_x (by omega), I2 j y hj hy]
    have kD : ∀ j y, 3 ≤ j → y < d1 → rO (rE R2 q2 41 (-1) (nI q)) 1 qj (nI (q2 + 1)) j y = R1 j y := fun j y hj hy => by rw [rO_x (by omega), rE_j hj, G3 j y hj hy, I3 j hj]
    have kB : ∀ j y, q3 ≤ y → y < q2 → rO (rE R2 q2 41 (-1) (nI q)) 1 qj (nI (q2 + 1)) j y = R2 j y := fun j y h1 h2 => by rw [rO_x (by omega), rE_x (by omega)]
    have kq : ∀ j, rO (rE R2 q2 41 (-1) (nI q)) 1 qj (nI (q2 + 1)) j q2 = rE R2 q2 41 (-1) (nI q) j q2 := fun j => rO_x (by omega)
    have nin : ∀ y, p1 ≤ y → y ≠ p2 + 1 → y ∉ (p2 + 1) :: ch := fun y h1 h2 z => by
      rcases List.mem_cons.1 z with z | z
      · exact h2 z
      · have := x13 y z; omega
    refine hF o2 z2' i2 (p2 + 1) (p2 + 2) _ (q2 + 1) d2 r2 _ K2 s2' A2 e2 e2' (Y2 ++ Y) v5 _ F13 (by omega) ⟨s7, BD, ⟨fun y hy => by rw [kC1 y (by omega)]; exact x1 y hy, fun j y hj hy => by rw [kR1 y (by omega) j hj]; exact x2 j y hj hy, fun j y hj hy => by rw [kD j y hj (by omega)]; exact x3 j y hj hy, t2 ++ (t3 ++ t1), by rw [G4, I4, x4, List.append_assoc, List.append_assoc]⟩, fun u h1 h2 => ?_, ⟨F12.trans x6, fun y => F14 (x8 y)⟩, ⟨by omega, by omega⟩, F16, fun y h1 h2 => ?_, ⟨⟨rfl, by omega, fun a ha => by have := x13 a ha; omega, ?_⟩, fun a ha => ?_, by rw [List.length_cons]; omega⟩, fun px qx T XL g1 g2 g3 g4 => ?_⟩
    · by_cases c1 : u < i1
      · exact x5 u h1 c1
      · by_cases c2 : u < i3
        · exact E3 u (by omega) c2
        · exact F11 u (by omega) h2
    · by_cases c1 : y < q1
      · rw [kR1 y c1 0 (by omega), kR1 y c1 1 (by omega), kR1 y c1 2 (by omega)]; exact x11 y h1 c1
      · by_cases c2 : y < q3
        · by_cases c3 : y = qj
          · intro _ u
            rw [c3, rO_at] at u; exact absurd u (m1_n (by omega))
          · intro u
            rw [kR 0 y (by omega) c2, rO_x (by omega)] at u
            exact absurd u (E5 y (by omega) c2 c3)
        · by_cases c3 : y = q2
          · intro _ _
            rw [c3, kq, rE_2, upd_at]
          · intro u u1
            rw [kB 0 y (by omega) (by omega)] at u
            rw [kB 1 y (by omega) (by omega)] at u1
            exact absurd u1 (F17 y (by omega) (by omega) u)
    · rw [uA_x (nax (p2 + 1) (by omega)), upd_at]
      exact chn_c ch x (fun a ha => by rw [kC1 a (x13 a ha).2]) x12
    · rcases List.mem_cons.1 ha with z | z
      · omega
      · have := x13 a z; omega
    · have m1 := x15 px qx T XL g1 (ag_S g2 (Nat.le_refl _) (by omega) (Nat.le_refl _) (by omega) (Nat.le_refl _) (by omega) (fun y h1 h2 => by
        by_cases c : y ∈ ch
        · rw [ups_in _ _ c, ups_in _ _ (List.mem_cons_of_mem _ c)]
        · rw [ups_x _ _ c, ups_x _ _ (fun z => by
            rcases List.mem_cons.1 z with z | z
            · omega
            · exact c z), kC1 y h2]) (fun j y hj h1 h2 => paw_c hj (kR1 y h2)) (fun j y hj h1 h2 => by rw [paw_n (fun z => absurd z.1 (by omega)), paw_n (fun z => absurd z.1 (by omega)), kD j y hj h2]) (fun y hy => by rw [G4, I4]; exact List.mem_append_right _ (List.mem_append_right _ hy))) (by have := bl_le X0.2.2.2.2.2.2.1; omega) (fun y hy => g4 y (List.mem_append_right _ hy))
      have m2 := F18 T XL g1 (ag_S g2 (by omega) (by omega) (by omega) (by omega) (by omega) (Nat.le_refl _) (fun y h1 h2 => by rw [ups_x _ _ (nin y (by omega) (by omega)), uA_x (nax y h1), upd_ne (by omega), upd_ne (by omega)]) (fun j y hj h1 h2 => by
          rw [paw_n (fun z => by
            have z1 := z.2.1
            have z2 := z.2.2
            rw [kB 0 y h1 h2] at z1
            rw [kB 1 y h1 h2] at z2
            exact F17 y h1 h2 z1 z2), kB j y h1 h2]) (fun j y hj h1 h2 => by rw [paw_n (fun z => absurd z.1 (by omega)), rO_x (by omega), rE_j hj]) (fun y hy => hy)) g3 (fun y hy => g4 y (List.mem_append_left _ hy))
      have d0 : rE R2 q2 41 (-1) (nI q) 0 q2 = 41 := by rw [rE_0, upd_at]
      have dd1 : rE R2 q2 41 (-1) (nI q) 1 q2 = -1 := by rw [rE_1, upd_at]
      have d2' : rE R2 q2 41 (-1) (nI q) 2 q2 = nI q := by rw [rE_2, upd_at]
      have d00 : paw (nI q) (nI qx) (rO (rE R2 q2 41 (-1) (nI q)) 1 qj (nI (q2 + 1))) 0 q2 = 41 := by rw [paw_n (fun z => absurd z.1 (by decide)), kq, d0]
      have c0 := ag_c g2 (show p ≤ p2 by omega) (by omega)
      have c1 := ag_c g2 (show p ≤ p2 + 1 by omega) (by omega)
      have r0 := ag_r0 g2 (show q ≤ q2 by omega) (by omega)
      have r1' := ag_r1 g2 (show q ≤ q2 by omega) (by omega) (by rw [d00]; decide)
      rw [ups_x _ _ (nin p2 (by omega) (by omega)), uA_x (nax p2 (by omega)), upd_ne (by omega), upd_at] at c0
      rw [ups_in _ _ (List.mem_cons_self ..)] at c1
      rw [d00] at r0
      rw [show paw (nI q) (nI qx) (rO (rE R2 q2 41 (-1) (nI q)) 1 qj (nI (q2 + 1))) 1 q2 = nI qx from if_pos ⟨rfl, by rw [kq, d0], by rw [kq, dd1], by rw [kq, d2']⟩] at r1'
      rw [x6] at m2
      have gg := ag_S g2 (p1 := p1) (q1 := q1) (d1 := d1) Xg (Nat.le_refl _) Xh (Nat.le_refl _) Xi (Nat.le_refl _) (fun _ _ _ => rfl) (fun _ _ _ _ _ => rfl) (fun _ _ _ _ _ => rfl) (fun _ hm => hm)
      have m3 := HV T XL px qx p2 q2 g1 (by have := bl_le S.2.2.2.2.2.2.1; omega) (by omega) (ag_E gg (Nat.le_refl _) (by omega) (Nat.le_refl _) (by omega) (fun y h1 h2 => by rw [ups_x _ _ (nin y h1 (by omega))]; exact uA_c (kC y h2)) (fun j y hj h1 h2 => by
          rw [paw_n (fun z => by
            have z1 := z.2.1
            have z2 := z.2.2
            rw [kR 0 y (by omega) h2, rO_x (by omega)] at z1
            by_cases c3 : y = qj
            · rw [c3, rO_at] at z2; exact absurd z2 (m1_n (by omega))
            · exact E5 y h1 h2 c3 z1), kR j y hj h2]) (fun y hy => by rw [G4]; exact List.mem_append_right _ hy)) m2.1 c0 c1 r0 r1'
      refine ⟨fun Fin a S f0 H => ru_C4A (m1.1 Fin a S f0 H) (m3 Fin a S f0 H), fun y hy => ?_⟩
      rcases List.mem_append.1 hy with hy | hy
      · exact m2.2 y hy
      · exact m1.2 y hy
end
