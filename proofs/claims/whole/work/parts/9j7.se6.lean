/-- the reference's reading of a loop's rounds -/
def rrd (B' : q_V → Option (Int64 × q_V)) (w2 : Int64) (xn4 : Int32) (S : q_V) : Option (Int64 × q_V) :=
  if (q_i S 2445) < 0 ∨ 20 ≤ (q_i S 2445).toNatClampNeg then none else
  q_lt (q_sb S 2443 ((vp_updL (q_b S 2443) ((q_i S 2445).toNatClampNeg) w2))) (fun T5004 =>
  if (q_i T5004 2445) < 0 ∨ 20 ≤ (q_i T5004 2445).toNatClampNeg then none else
  q_lt (q_sa T5004 2444 ((upd (q_a T5004 2444) ((q_i T5004 2445).toNatClampNeg) xn4))) (fun T5006 =>
  q_lt (q_si T5006 2445 (((q_i T5006 2445) + 1))) (fun T5007 =>
  q_bd (B' T5007) (fun z5009 T5008 =>
  q_bd (fX12_emit 48 0 0 T5008) (fun y5011 T5010 =>
  q_bd (fX12_always B' xn4 z5009 T5010) (fun z5013 T5012 =>
  q_lt (q_si T5012 2445 (((q_i T5012 2445) - 1))) (fun T5014 => some (z5013, T5014))))))))
/-- what stands behind a loop's rounds -/
def RW (g : rd_G) (i n p : Nat) (C : Nat → Int32) (q d : Nat) (R : Nat → Nat → Int32) (K : rd_K) (k s l b : Nat) (A : rd_A) (e e' at_ dd : Nat) (o : Int32) (v : q_V) (z : Int64) (w : q_V) : Prop := ∃ i1 pe C1 qe d1 r1 R1 K1 s1 A1 e1 e1', ∃ Y : rd_Y,
  St g i1 n pe C1 i1 n qe d1 r1 R1 K1 k s1 l b A1 e1 e1' v w ∧ (i < i1 ∧ pe + 2 * tka g i + 3 ≤ p + 2 * tka g i1 ∧ qe + tka g i + 1 ≤ q + tka g i1 ∧ 3 * K1.length + tka g i + 2 ≤ 3 * K.length + tka g i1 ∧ 5 * d1 + tka g i + 2 ≤ 5 * d + tka g i1 ∧ 2 * s1 + tka g i + 2 ≤ 2 * s + tka g i1 ∧ p < pe ∧ q < qe ∧ d ≤ d1 ∧ s ≤ s1) ∧ ((∀ x, x < p → x ≠ at_ + 4 → C1 x = C x) ∧ (∀ j x, j < 3 → x < q → R1 j x = R j x) ∧ (∀ j x, 3 ≤ j → x < d → (j ≠ 4 ∨ x ≠ dd) → R1 j x = R j x) ∧ ∃ t, K1 = t ++ K) ∧ (∀ m, i ≤ m → m < i1 → tkc g m ≠ 300) ∧ (A1.1 = A.1 ∧ wy (l + 1) o z ∧ (wl A → wl A1)) ∧ (e1 ≤ e ∧ e1' ≤ e') ∧ ov g i1 s1 e1 e1' ∧ (∀ x, q ≤ x → x < qe → R1 0 x = 41 → R1 1 x ≠ -1) ∧ n < 14 ∧
  ∀ T XL, hT g T → ag g T C1 R1 K1 p pe q qe d d1 → e1 = rd_N → (∀ y, y ∈ Y → XL (nI y.1) (nI y.2.1) y.2.2.1) → (∀ y, y ∈ Y → lok T XL y) ∧ ∀ pn px qa qx pl, co_c T at_ 46 → co_c T (at_ + 1) pl → co_c T (at_ + 2) (nI pn) → co_c T (at_ + 3) (nI px) → co_c T (at_ + 4) (C1 (at_ + 4)) → co_d T 3 dd (nI qa) → co_d T 4 dd (R1 4 dd) → co_d T 5 dd (nI qx) → co_d T 6 dd pl → ∀ Fin a S f0, dv_H Fin a S T XL f0 → ru_RND Fin (ru_at a S) T XL f0 n (lsO A.1 b (l - b)) at_ pe q dd pn px qa qx (decide (R1 4 dd ≠ -1))
section
variable {g : rd_G} {i n p i' n' q d k s l b e e' : Nat} {C : Nat → Int32} {r : Int32} {R : Nat → Nat → Int32} {K : rd_K} {A : rd_A} {v w : q_V} {T : co_T} {XL : Int32 → Int32 → Int32 → Prop}
variable {B : q_V → Option (Int32 × q_V)} {B' : q_V → Option (Int64 × q_V)}
set_option maxHeartbeats 200000 in
theorem lsO_c {f f' : Nat → Nat × Nat} : ∀ t, (∀ j, j < b + t → f j = f' j) → lsO f b t = lsO f' b t := by
  intro t
  induction t with
  | zero => intro _; rfl
  | succ t ih =>
    intro h
    rw [lsO, lsO, h (b + t) (by omega), ih (fun j hj => h j (by omega))]
set_option maxHeartbeats 200000 in
theorem lsO_m {f : Nat → Nat × Nat} {x : Nat × Nat} : ∀ t, x ∈ lsO f b t → ∃ j, j < b + t ∧ x = f j := by
  intro t
  induction t with
  | zero => intro h; exact absurd h (by simp [lsO])
  | succ t ih =>
    intro h
    rw [lsO] at h
    rcases List.mem_cons.1 h with h | h
    · exact ⟨b + t, by omega, h⟩
    · obtain ⟨j, h1, h2⟩ := ih h
      exact ⟨j, by omega, h2⟩
set_option maxHeartbeats 200000 in
theorem x_leave {f p : Int32} (h : xc g f p (l + 1) v) : cG g f p l (vu (fX5_leaveLoop v)) := by
  obtain ⟨h1, h2, h3, h4, h5, h6⟩ := h
  unfold fX5_leaveLoop
  rw [q_lt_s, h6, ni_pred]
  refine cG_s ⟨rdf_i h1 (by omega), ?_, ?_, ?_, h5, q_i_at⟩
  · rw [q_i_ne (by omega)]; exact h2
  · rw [q_i_ne (by omega)]; exact h3
  · rw [q_i_ne (by omega)]; exact h4
set_option maxHeartbeats 200000 in
theorem j_round {x : Int64} {at_ dd : Nat} (ok : rd_ok g) (hn : 1 ≤ n) (hn2 : n ≤ 14) (hB : BS g n B B') (h : St g i n p C i n q d r R K k s l b A e e' v w) (z : z1 g n i p q K.length d s) (o : ov g i s e e') (hl : l + 1 ≤ n) (hLB : LB A l at_ dd) (hp : p = at_ + 5) (hdd : dd < d) (hC4 : C (at_ + 4) = 0) (hR4 : R 4 dd = -1) :
    jn g l (3302 + 20 * (14 - n)) (RW g i n p C q d R K k s l b A e e' at_ dd) (fX8_round B x (nI at_) v) (rrd B' x (nI dd) w) := by
  have zz := z
  obtain ⟨⟨z1, z2, z3⟩, zd, zs⟩ := zz
  have hL := ok.1
  have ta0 := tka_L ok i
  have hbl := h.2.2.2.2.2.1.2.2.2.1.2.2.2.2.2
  obtain ⟨v1, a1, s1⟩ := j_enter (x := x) (at_ := at_) (dd := dd) h (by omega)
  have n3 : (nI l < 0) = False := ni_neg (by omega)
  have n4 : (20 ≤ l) = False := eq_false (by omega)
  have e9 := h.2.2.2.2.2.1.2.2.2.1.2.1
  have er : rrd B' x (nI dd) w = q_bd (B' (q_si (q_sa (q_sb w 2443 (vp_updL (q_b w 2443) l x)) 2444 (upd (q_a w 2444) l (nI dd))) 2445 (nI (l + 1)))) (fun z5009 T5008 => q_bd (fX12_emit 48 0 0 T5008) (fun y5011 T5010 => q_bd (fX12_always B' (nI dd) z5009 T5010) (fun z5013 T5012 => q_lt (q_si T5012 2445 (q_i T5012 2445 - 1)) (fun T5014 => some (z5013, T5014))))) := by
    unfold rrd
    simp only [e9, q_lt_s, q_i_sb, q_i_sa, q_a_sb, n3, n4, or_self, ↓reduceIte, ni_clamp (show l < 2147483648 by omega), ni_add1]
  have JB := hB i p C q d r R K k s (l + 1) b _ e e' v1 _ s1 ⟨z.1, by have := z.2.1; omega, z.2.2⟩ o ⟨by omega, fun j hj => by
    dsimp only
    by_cases c : j = l
    · rw [if_pos c]; exact ⟨by omega, hdd⟩
    · rw [if_neg c]; have := hLB j (by omega); omega⟩
  unfold fX8_round
  rw [a1, q_bv_s, er]
  have tcL : ∀ f p v (y : Int32), xc g f p (l + 1) v → cG g f p l (q_bv (fX5_leaveLoop v) (fun T11 => some (y, T11))) := fun f p v y h => cG_v (x_leave h) (fun v h => cG_s h)
  refine jn_dd JB (fun f p a v h => ?_) (fun f p a w h => ?_) ?_
  · exact cG_d (x_add ok h) (fun a v h => cG_d (x_always h) (fun a v h => tcL _ _ _ _ h))
  · refine rG_d (y_emit (by omega) h) (fun a w h => rG_d (y_always h) (fun a w h => ?_))
    rw [q_lt_s]; exact rG_s (xr_i (xr_le h (by omega)) (by omega))
  · intro o2 v3 zz2 w3 X
    obtain ⟨i2, p2, C2, q2, d2, r2, R2, K2, s2', A2, e2, e2', Y, ⟨F0, ⟨F1, F2, F3, F4, F5, F6, F7, F8, F9, F10, _⟩, ⟨G1, G2, G3, t2, G4⟩, F11, ⟨F12, F13, F14⟩, ⟨F15, F15'⟩, F16, F17, F18⟩, cB, n14, H1, H2, H3, H4, H5⟩ := X
    have hi2 := (St_im F0).1
    have ta2 := tka_L ok i2
    obtain ⟨v4, a4, s4⟩ := c_add (y := 54) ok F0 (by omega)
    obtain ⟨w5, b5, s5⟩ := r_emit (o := 48) (a := 0) (c := 0) s4 (by omega)
    have JA := j_always (at_ := at_) (dd := dd) (ah := o2) (ah' := zz2) ok hn2 hB s5 ⟨⟨by omega, by omega, by omega⟩, by omega, by omega⟩ F16 ⟨by omega, fun j hj => by
      rw [F12]
      dsimp only
      by_cases c : j = l
      · rw [if_pos c]; exact ⟨by omega, by omega⟩
      · rw [if_neg c]; have := hLB j (by omega); omega⟩ (by omega) (by omega) F13
    rw [a4, q_bd_s, b5, q_bd_s]
    have lsE : lsO (fun j => if j = l then (at_, dd) else A.1 j) b (l + 1 - b) = (at_, dd) :: lsO A.1 b (l - b) := by
      rw [show l + 1 - b = (l - b) + 1 by omega, lsO, show b + (l - b) = l by omega, if_pos rfl, lsO_c (l - b) (fun j hj => if_neg (by omega))]
    have hLs : ∀ m, m ∈ lsO A.1 b (l - b) → m.1 < at_ ∧ m.2 < dd := fun m hm => by
      obtain ⟨j, h1, h2⟩ := lsO_m (l - b) hm
      rw [h2]; exact hLB j (by omega)
    refine jn_dd JA (fun f p a v h => tcL _ _ _ _ h) (fun f p a w h => ?_) ?_
    · rw [q_lt_s]; exact rG_s (xr_i (xr_le h (by omega)) (by omega))
    · intro o3 v6 z3' w6 W
      unfold fX5_leaveLoop
      rcases W with ⟨c1, c2, c3, S6⟩ | ⟨i3, p3, C3, q3, d3, r3, R3, K3, s3', A3, e3, e3', Y3, o4, z4, v7, w7, ⟨L0, ⟨L1, L2, L3, L4, L5, L6, L7, L8, L9, L10, _⟩, ⟨M1, M2, M3, t3, M4⟩, L11, ⟨L12, L13, L14⟩, ⟨L15, L15'⟩, L16, L17, L18⟩, ⟨N1, N2, N3, N4, N5⟩, c1, c2, S6⟩
      · subst c2; subst c3
        have N6 := S6.2.2.2.2.2.1.2.2.2.1
        have s7 := j_leave (A' := (A.1, A2.2)) S6 hbl (fun j hj => by rw [F12]; dsimp only; rw [if_neg (by omega)]) rfl
        rw [N6.1, N6.2.1, ni_pred, q_lt_s, q_bv_s, q_lt_s]
        have BD : i < i2 ∧ p2 + 1 + 2 * tka g i + 3 ≤ p + 2 * tka g i2 ∧ q2 + 1 + tka g i + 1 ≤ q + tka g i2 ∧ 3 * K2.length + tka g i + 2 ≤ 3 * K.length + tka g i2 ∧ 5 * d2 + tka g i + 2 ≤ 5 * d + tka g i2 ∧ 2 * s2' + tka g i + 2 ≤ 2 * s + tka g i2 ∧ p < p2 + 1 ∧ q < q2 + 1 ∧ d ≤ d2 ∧ s ≤ s2' := ⟨by omega, by omega, by omega, by omega, by omega, by omega, by omega, by omega, by omega, by omega⟩
        have hd6 : dd < 640 := by omega
        have hp31 : at_ < 6016 := by omega
        clear F2 F3 F4 F5 F6 H1 H2 H3 H4 H5 ta2 ta0 zd zs z1 z2 z3 JB JA
        have k4 : upd C2 p2 54 (at_ + 4) = 0 := by rw [upd_ne (by omega), G1 _ (by omega), hC4]
        have kr : rE R2 q2 48 0 0 4 dd = -1 := by rw [rE_j (by omega), G3 4 dd (by omega) hdd, hR4]
        refine jn_qq ⟨i2, p2 + 1, _, q2 + 1, d2, r2, _, K2, s2', _, e2, e2', Y, s7, BD, ⟨fun u hx _ => by rw [upd_ne (by omega)]; exact G1 u hx, fun j u hj hx => by rw [rE_x (by omega)]; exact G2 j u hj hx, fun j u hj hx _ => by rw [rE_j hj]; exact G3 j u hj hx, t2, G4⟩, F11, ⟨rfl, F13, F14⟩, ⟨F15, F15'⟩, F16, fun u h1 h2 => ?_, n14, fun T XL x1 x2 x3 x4 => ?_⟩
        · by_cases cu : u = q2
          · rw [cu, rE_0, upd_at]; exact fun z => absurd z (by decide)
          · rw [rE_x cu, rE_x cu]; exact F17 u h1 (by omega)
        · have c5 := ag_c x2 (show p ≤ p2 by omega) (by omega)
          have r6 := ag_r0 x2 (show q ≤ q2 by omega) (by omega)
          rw [upd_at] at c5
          rw [rE_0, upd_at] at r6
          have y2 := F18 T XL x1 (ag_S x2 (Nat.le_refl _) (by omega) (Nat.le_refl _) (by omega) (Nat.le_refl _) (Nat.le_refl _) (fun u h5 hx => upd_ne (by omega)) (fun j u hj h5 hx => rE_x (by omega)) (fun j u hj h5 hx => by rw [rE_j hj]) (fun y hy => hy)) x3 x4
          refine ⟨y2.2, fun pn px qa qx pl g0 g1 g2 g3 g4 g5 g6 g7 g8 Fin a S f0 H => ?_⟩
          rw [k4] at g4
          rw [kr] at g6
          have y3 := y2.1
          dsimp only at y3
          rw [lsE] at y3
          subst hp
          rw [show decide (rE R2 q2 48 0 0 4 dd ≠ -1) = false by rw [kr]; decide]
          exact ru_RND0 hLs (by omega) (by omega) g0 g2 g3 g4 g5 g6 g7 (y3 Fin a S f0 H) c5 r6
      · have N6 := S6.2.2.2.2.2.1.2.2.2.1
        have s7 := j_leave (A' := (A.1, A3.2)) S6 hbl (fun j hj => by rw [L12, F12]; dsimp only; rw [if_neg (by omega)]) rfl
        have hi3 := (St_im S6).1
        have ta3 := tka_L ok i3
        have t5 := tka_lt ok (show i2 < i2 + 1 by omega) (by omega)
        rw [N6.1, N6.2.1, ni_pred, q_lt_s, q_bv_s, q_lt_s]
        have BD : i < i3 ∧ p3 + 1 + 2 * tka g i + 3 ≤ p + 2 * tka g i3 ∧ q3 + 1 + tka g i + 1 ≤ q + tka g i3 ∧ 3 * K3.length + tka g i + 2 ≤ 3 * K.length + tka g i3 ∧ 5 * d3 + tka g i + 2 ≤ 5 * d + tka g i3 ∧ 2 * s3' + tka g i + 2 ≤ 2 * s + tka g i3 ∧ p < p3 + 1 ∧ q < q3 + 1 ∧ d ≤ d3 ∧ s ≤ s3' := ⟨by omega, by omega, by omega, by omega, by omega, by omega, by omega, by omega, by omega, by omega⟩
        have hp6 : p3 < 6016 := by omega
        have hq4 : q3 < 4000 := by omega
        have hd6 : dd < 640 := by omega
        clear F2 F3 F4 F5 F6 H1 H2 H3 H4 H5 L2 L3 L4 L5 L6 N1 N2 N3 N4 N5 ta2 ta3 ta0 t5 zd zs z1 z2 z3 JB JA
        have kC : ∀ u, u < p2 → u ≠ at_ + 4 → upd C3 p3 54 u = C2 u := fun u hu h2 => by rw [upd_ne (by omega), M1 u (by omega), upd_ne h2, upd_ne (by omega)]
        have kR : ∀ j u, j < 3 → u < q2 → rE R3 q3 48 0 0 j u = R2 j u := fun j u hj hu => by rw [rE_x (by omega), M2 j u hj (by omega), rO_x (by omega), rE_x (by omega)]
        have kD : ∀ j u, 3 ≤ j → u < d2 → (j ≠ 4 ∨ u ≠ dd) → rE R3 q3 48 0 0 j u = R2 j u := fun j u hj hu h2 => by rw [rE_j hj, M3 j u hj hu, rO_x h2, rE_j hj]
        have k4 : upd C3 p3 54 (at_ + 4) = nI (p2 + 1) := by rw [upd_ne (by omega), M1 _ (by omega), upd_at]
        have kr : rE R3 q3 48 0 0 4 dd = nI (q2 + 1) := by rw [rE_j (by omega), M3 4 dd (by omega) (by omega), rO_at]
        have k48 : rE R3 q3 48 0 0 0 q2 = 48 := by rw [rE_x (by omega), M2 0 q2 (by omega) (by omega), rO_x (by omega), rE_0, upd_at]
        refine jn_qq ⟨i3, p3 + 1, _, q3 + 1, d3, r3, _, K3, s3', _, e3, e3', Y3 ++ Y, s7, BD, ⟨fun u hx h2 => by rw [kC u (by omega) h2]; exact G1 u hx, fun j u hj hx => by rw [kR j u hj (by omega)]; exact G2 j u hj hx, fun j u hj hx h2 => by rw [kD j u hj (by omega) h2]; exact G3 j u hj hx, t3 ++ t2, by rw [M4, G4, List.append_assoc]⟩, fun u h1 h2 => ?_, ⟨rfl, c2, fun q => L14 (F14 q)⟩, ⟨by omega, by omega⟩, L16, fun u h1 h2 => ?_, n14, fun T XL x1 x2 x3 x4 => ?_⟩
        · by_cases cu : u < i2
          · exact F11 u h1 cu
          · by_cases cv : u = i2
            · rw [cv, c1]; decide
            · exact L11 u (by omega) h2
        · by_cases cu : u = q3
          · rw [cu, rE_0, upd_at]; exact fun z => absurd z (by decide)
          · by_cases cv : u < q2
            · rw [kR 0 u (by omega) cv, kR 1 u (by omega) cv]; exact F17 u h1 cv
            · by_cases cw : u = q2
              · rw [cw, k48]; exact fun z => absurd z (by decide)
              · rw [rE_x cu, rE_x cu]; exact L17 u (by omega) (by omega)
        · have c5 := ag_c x2 (show p ≤ p2 by omega) (by omega)
          have r6 := ag_r0 x2 (show q ≤ q2 by omega) (by omega)
          have c6 := ag_c x2 (show p ≤ p3 by omega) (by omega)
          have r8 := ag_r0 x2 (show q ≤ q3 by omega) (by omega)
          rw [upd_ne (by omega), M1 p2 (by omega), upd_ne (by omega), upd_at] at c5
          rw [k48] at r6
          rw [upd_at] at c6
          rw [rE_0, upd_at] at r8
          have y2 := F18 T XL x1 (ag_S x2 (Nat.le_refl _) (by omega) (Nat.le_refl _) (by omega) (Nat.le_refl _) (by omega) (fun u h5 hx => kC u hx (by omega)) (fun j u hj h5 hx => kR j u hj hx) (fun j u hj h5 hx => kD j u hj hx (by omega)) (fun y hy => by rw [M4]; exact List.mem_append_right _ hy)) (by have := bl_le F0.2.2.2.2.2.2.1; omega) (fun y hy => x4 y (List.mem_append_right _ hy))
          have y3 := L18 T XL x1 (ag_S x2 (by omega) (by omega) (by omega) (by omega) (by omega) (Nat.le_refl _) (fun u h5 hx => upd_ne (by omega)) (fun j u hj h5 hx => rE_x (by omega)) (fun j u hj h5 hx => by rw [rE_j hj]) (fun y hy => hy)) x3 (fun y hy => x4 y (List.mem_append_left _ hy))
          refine ⟨fun y hy => ?_, fun pn px qa qx pl g0 g1 g2 g3 g4 g5 g6 g7 g8 Fin a S f0 H => ?_⟩
          · rcases List.mem_append.1 hy with hy | hy
            · exact y3.2 y hy
            · exact y2.2 y hy
          · rw [k4] at g4
            rw [kr] at g6
            have y4 := y2.1
            have y5 := y3.1
            rw [F12] at y5
            dsimp only at y4 y5
            rw [lsE] at y4 y5
            subst hp
            rw [show decide (rE R3 q3 48 0 0 4 dd ≠ -1) = true by rw [kr]; exact decide_eq_true (m1_n (by omega))]
            exact ru_RND1 hLs hp6 hq4 hd6 g0 g1 g2 g3 g4 g5 g6 g7 g8 (y4 Fin a S f0 H) c5 r6 (y5 Fin a S f0 H) c6 r8
end
