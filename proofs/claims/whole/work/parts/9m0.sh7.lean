section
variable {g : rd_G} {i n p i' n' q d k s l b e e' : Nat} {C : Nat → Int32} {r : Int32} {R : Nat → Nat → Int32} {K : rd_K} {A : rd_A} {v w : q_V} {T : co_T} {XL : Int32 → Int32 → Int32 → Prop}
variable {B : q_V → Option (Int32 × q_V)} {B' : q_V → Option (Int64 × q_V)}
set_option maxHeartbeats 200000 in
/-- a try's always, and its end -/
theorem tr_end {i2 pu qu d2 s2 e2 e2' : Nat} {C2 : Nat → Int32} {r2 x0 x9 ah : Int32} {ah' : Int64} {R2 : Nat → Nat → Int32} {K2 : rd_K} {A2 : rd_A} {Y : rd_Y} (ok : rd_ok g) (hn2 : n ≤ 14) (hB : BS g n B B') (h : St g i2 n pu C2 i2 n qu d2 r2 R2 K2 k s2 l b A2 e2 e2' v w)
    (BD : i < i2 ∧ pu + 2 * tka g i + 2 ≤ p + 2 * tka g i2 ∧ qu + tka g i + 1 ≤ q + tka g i2 ∧ 3 * K2.length + tka g i ≤ 3 * K.length + tka g i2 ∧ 5 * d2 + tka g i ≤ 5 * d + tka g i2 ∧ 2 * s2 + tka g i ≤ 2 * s + tka g i2 ∧ p + 6 ≤ pu ∧ q + 1 ≤ qu ∧ d + 1 ≤ d2 ∧ s ≤ s2) (z : z1 g n i p q K.length d s) (hln : l ≤ n ∧ LB A l p d)
    (KC : (∀ x, x < p → C2 x = C x) ∧ (∀ j x, j < 3 → x < q → R2 j x = R j x) ∧ (∀ j x, 3 ≤ j → x < d → R2 j x = R j x) ∧ ∃ t, K2 = t ++ K) (h300 : ∀ m, i ≤ m → m < i2 → tkc g m ≠ 300) (hA : A2.1 = A.1 ∧ (wl A → wl A2)) (he : e2 ≤ e ∧ e2' ≤ e') (ho : ov g i2 s2 e2 e2') (h41 : ∀ x, q ≤ x → x < qu → R2 0 x = 41 → R2 1 x ≠ -1) (hw : wy l ah ah') (hC : C2 (p + 1) = nI (tka g i) ∧ C2 (p + 4) = 0 ∧ R2 4 d = -1 ∧ R2 6 d = nI (tka g i))
    (HV : ∀ T XL C' R' px qx kF z' zr al, hT g T → e2 = rd_N → (∀ y, y ∈ Y → XL (nI y.1) (nI y.2.1) y.2.2.1) → ag g T C' R' K2 p pu q qu d d2 → (∀ x, p ≤ x → x < pu → x ≠ p + 3 → x ≠ p + 4 → C' x = C2 x) → (∀ j x, j < 3 → q ≤ x → x < qu → R' j x = R2 j x) → (∀ j x, 3 ≤ j → d ≤ x → x < d2 → (x ≠ d ∨ (j ≠ 4 ∧ j ≠ 5)) → R' j x = R2 j x) → co_c T (p + 4) z' → decide (z' ≠ 0) = al → co_d T 4 d zr → decide (zr ≠ -1) = al → (∀ Fin a S f0, dv_H Fin a S T XL f0 → ru_TFP Fin (ru_at a S) T XL f0 n (lsO A.1 b (l - b)) kF p px qx d) → kF ≤ 4 * (px - pu) + 2 → pu ≤ px → qu ≤ qx → dv_S T XL n (lsO A.1 b (l - b)) p px q qx ∧ ∀ y, y ∈ Y → lok T XL y) :
    jn g l (3300 + 20 * (15 - n)) (SPT g n i p C q d R K k s l b A e e') (fX8_trial_b76 B x9 (nI p) ah v) (fX12_trial_b256 B' x0 (nI d) ah' w) := by
  obtain ⟨⟨z1, z2, z3⟩, zd, zs⟩ := z
  obtain ⟨D1, D2, D3, D4, D5, D6, D7, D8, D9, D10⟩ := BD
  have hL := ok.1
  have hi2 := (St_im h).1
  have ta0 := tka_L ok i
  have ta2 := tka_L ok i2
  have tii := tka_lt ok D1 hi2
  have hd6 : d < 640 := by omega
  have JA := j_always (at_ := p) (dd := d) ok hn2 hB h ⟨⟨by omega, by omega, by omega⟩, by omega, by omega⟩ ho ⟨hln.1, LB_m hln.2 hA.1 (by omega) (by omega)⟩ (by omega) (by omega) hw
  obtain ⟨I1, I2, I3, t1, I4⟩ := KC
  unfold fX8_trial_b76 fX12_trial_b256
  refine jn_dd JA (fun f p a v h => ?_) (fun f p a w h => ?_) ?_
  · exact cG_d (x_size h) (fun a v h => cG_v (x_set ok h) (fun v h => cG_s h))
  · rw [if_neg (in6 hd6), q_lt_s]
    exact rG_s (xr_a (xr_le h (by omega)) (by omega))
  · intro o3 v3 z3' w3 X
    rcases X with ⟨c317, eo, ez, S⟩ | ⟨i3, p3, C3, q3, d3, r3, R3, K3, s3, A3, e3, e3', Y3, o4, z4, v4, w4, X, ⟨H1, H2, H3, H4, H5⟩, c317, hw3, S⟩
    · obtain ⟨v5, a5, s5⟩ := c_set (a := p + 3) (y := nI pu) ok S (by omega)
      have s6 := r_set (j := 5) (a := d) (y := nI qu) s5 (by omega)
      have hpl : pu ≤ 6016 := by omega
      rw [c_size S, q_bd_s, show nI p + 3 = nI (p + 3) from ni_add (b := 3), a5, q_bv_s, if_neg (in6 hd6), ni_clamp (show d < 2147483648 by omega), q_lt_s, S.2.2.2.2.1.1.2.2.2.1]
      rw [eo, ez]
      have BD : i < i2 ∧ pu + 2 * tka g i ≤ p + 2 * tka g i2 ∧ qu + tka g i ≤ q + tka g i2 ∧ 3 * K2.length + tka g i ≤ 3 * K.length + tka g i2 ∧ 5 * d2 + tka g i ≤ 5 * d + tka g i2 ∧ 2 * s2 + tka g i ≤ 2 * s + tka g i2 ∧ p ≤ pu ∧ q ≤ qu ∧ d ≤ d2 ∧ s ≤ s2 ∧ k ≤ k := ⟨by omega, by omega, by omega, by omega, by omega, by omega, by omega, by omega, by omega, by omega, by omega⟩
      clear z1 z2 z3 zd zs ta0 ta2 tii D4 D5 D6
      refine jn_qq ⟨i2, pu, _, qu, d2, r2, _, K2, k, s2, A2, e2, e2', Y, ⟨s6, BD, ⟨fun x hx => by rw [upd_ne (by omega)]; exact I1 x hx, fun j x hj hx => by rw [rO_x (by omega)]; exact I2 j x hj hx, fun j x hj hx => by rw [rO_x (by omega)]; exact I3 j x hj hx, t1, I4⟩, h300, ⟨hA.1, hw, hA.2⟩, he, ho, fun x h1 h2 => by rw [rO_x (by omega), rO_x (by omega)]; exact h41 x h1 h2, fun T XL x1 x2 x3 x4 => ?_⟩, D2, D3⟩
      have c3 := ag_c x2 (show p ≤ p + 3 by omega) (by omega)
      have c4 := ag_c x2 (show p ≤ p + 4 by omega) (by omega)
      have r4 := ag_d (j := 4) x2 (Nat.le_refl d) (by omega) (by omega) (by omega)
      have r5 := ag_d (j := 5) x2 (Nat.le_refl d) (by omega) (by omega) (by omega)
      rw [upd_at] at c3
      rw [upd_ne (by omega), hC.2.1] at c4
      rw [rO_x (by omega), hC.2.2.1] at r4
      rw [rO_at] at r5
      have y := HV T XL _ _ pu qu 1 0 (-1) false x1 x3 x4 x2 (fun x _ _ h3 _ => upd_ne h3) (fun j x hj _ _ => rO_x (by omega)) (fun j x hj _ _ h5 => rO_x (by omega)) c4 (by decide) r4 (by decide) (fun Fin a S f0 H => ru_TFPn hd6 c3 c4 r4 r5) (by omega) (Nat.le_refl _) (Nat.le_refl _)
      exact ⟨fun Fin a S f0 H => ru_STS (y.1 Fin a S f0 H), y.2⟩
    · obtain ⟨F0, ⟨F1, F2, F3, F4, F5, F6, F7, F8, F9, F10, _⟩, ⟨G1, G2, G3, t2, G4⟩, F11, ⟨F12, F13, F14⟩, ⟨F15, F15'⟩, F16, F17, F18⟩ := X
      have hi3 := (St_im S).1
      have ta3 := tka_L ok i3
      have him2 : i2 + 1 ≤ gm g := by omega
      have t4 := tka_lt ok (show i2 < i2 + 1 by omega) him2
      obtain ⟨v5, a5, s5⟩ := c_set (a := p + 3) (y := nI (p3 + 1)) ok S (by omega)
      have s6 := r_set (j := 5) (a := d) (y := nI (q3 + 1)) s5 (by omega)
      have hpl : p3 < 6016 := by omega
      have hql : q3 < 4000 := by omega
      rw [c_size S, q_bd_s, show nI p + 3 = nI (p + 3) from ni_add (b := 3), a5, q_bv_s, if_neg (in6 hd6), ni_clamp (show d < 2147483648 by omega), q_lt_s, S.2.2.2.2.1.1.2.2.2.1]
      have BD : i < i3 ∧ p3 + 1 + 2 * tka g i ≤ p + 2 * tka g i3 ∧ q3 + 1 + tka g i ≤ q + tka g i3 ∧ 3 * K3.length + tka g i ≤ 3 * K.length + tka g i3 ∧ 5 * d3 + tka g i ≤ 5 * d + tka g i3 ∧ 2 * s3 + tka g i ≤ 2 * s + tka g i3 ∧ p ≤ p3 + 1 ∧ q ≤ q3 + 1 ∧ d ≤ d3 ∧ s ≤ s3 ∧ k ≤ k := ⟨by omega, by omega, by omega, by omega, by omega, by omega, by omega, by omega, by omega, by omega, by omega⟩
      have BD2 : p3 + 1 + 2 * tka g i + 2 ≤ p + 2 * tka g i3 ∧ q3 + 1 + tka g i + 1 ≤ q + tka g i3 := ⟨by omega, by omega⟩
      clear z1 z2 z3 zd zs ta0 ta2 ta3 t4 tii D2 D3 D4 D5 D6 F2 F3 F4 F5 F6 H1 H2 H3 H4 H5
      have kC : ∀ x, x < pu → x ≠ p + 3 → x ≠ p + 4 → upd (upd C3 p3 54) (p + 3) (nI (p3 + 1)) x = C2 x := fun x hx h3 h4 => by rw [upd_ne h3, upd_ne (by omega), G1 x hx, upd_ne h4]
      have kR : ∀ j x, j < 3 → x < qu → rO (rE R3 q3 48 0 0) 5 d (nI (q3 + 1)) j x = R2 j x := fun j x hj hx => by rw [rO_x (by omega), rE_x (by omega), G2 j x hj hx, rO_x (by omega)]
      have kD : ∀ j x, 3 ≤ j → x < d2 → (x ≠ d ∨ (j ≠ 4 ∧ j ≠ 5)) → rO (rE R3 q3 48 0 0) 5 d (nI (q3 + 1)) j x = R2 j x := fun j x hj hx h5 => by rw [rO_x (by omega), rE_j hj, G3 j x hj hx, rO_x (by omega)]
      refine jn_qq ⟨i3, p3 + 1, _, q3 + 1, d3, r3, _, K3, k, s3, A3, e3, e3', Y3 ++ Y, ⟨s6, BD, ⟨fun x hx => by rw [kC x (by omega) (by omega) (by omega)]; exact I1 x hx, fun j x hj hx => by rw [kR j x hj (by omega)]; exact I2 j x hj hx, fun j x hj hx => by rw [kD j x hj (by omega) (by omega)]; exact I3 j x hj hx, t2 ++ t1, by rw [G4, I4, List.append_assoc]⟩, fun u h1 h2 => ?_, ⟨F12.trans hA.1, hw3, fun y => F14 (hA.2 y)⟩, ⟨by omega, by omega⟩, F16, fun x h1 h2 => ?_, fun T XL x1 x2 x3 x4 => ?_⟩, BD2⟩
      · by_cases c1 : u < i2
        · exact h300 u h1 c1
        · by_cases c2 : u = i2
          · rw [c2, c317]; decide
          · exact F11 u (by omega) h2
      · by_cases c1 : x < qu
        · rw [kR 0 x (by omega) c1, kR 1 x (by omega) c1]; exact h41 x h1 c1
        · rw [rO_x (by omega), rO_x (by omega)]
          by_cases c2 : x = q3
          · rw [c2, rE_0, upd_at]; exact fun z => absurd z (by decide)
          · rw [rE_x c2, rE_x c2]; exact F17 x (by omega) (by omega)
      · obtain ⟨pz, rfl⟩ : ∃ y, pu = y + 1 := ⟨pu - 1, by omega⟩
        obtain ⟨qz, rfl⟩ : ∃ y, qu = y + 1 := ⟨qu - 1, by omega⟩
        have c1 := ag_c x2 (show p ≤ p + 1 by omega) (by omega)
        have c2 := ag_c x2 (show p ≤ p + 2 by omega) (by omega)
        have c3 := ag_c x2 (show p ≤ p + 3 by omega) (by omega)
        have c4 := ag_c x2 (show p ≤ p + 4 by omega) (by omega)
        have c5 := ag_c x2 (show p ≤ p3 by omega) (by omega)
        have r0 := ag_r0 x2 (show q ≤ q3 by omega) (by omega)
        have r4 := ag_d (j := 4) x2 (Nat.le_refl d) (by omega) (by omega) (by omega)
        have r5 := ag_d (j := 5) x2 (Nat.le_refl d) (by omega) (by omega) (by omega)
        have r6 := ag_d (j := 6) x2 (Nat.le_refl d) (by omega) (by omega) (by omega)
        rw [kC (p + 1) (by omega) (by omega) (by omega), hC.1] at c1
        rw [upd_at] at c3
        rw [upd_ne (by omega), upd_ne (by omega), G1 (p + 4) (by omega), upd_at] at c4
        rw [upd_ne (by omega), upd_at] at c5
        rw [rO_x (by omega), rE_0, upd_at] at r0
        rw [rO_x (by omega), rE_j (by omega), G3 4 d (by omega) (by omega), rO_at] at r4
        rw [rO_at] at r5
        rw [kD 6 d (by omega) (by omega) (by omega), hC.2.2.2] at r6
        have y2 := F18 T XL x1 (ag_S x2 (by omega) (by omega) (by omega) (by omega) (by omega) (Nat.le_refl _) (fun x h5 hx => by rw [upd_ne (by omega), upd_ne (by omega)]) (fun j x hj h5 hx => by rw [rO_x (by omega), rE_x (by omega)]) (fun j x hj h5 hx => by rw [rO_x (by omega), rE_j hj]) (fun y hy => hy)) x3 (fun y hy => x4 y (List.mem_append_left _ hy))
        rw [hA.1] at y2
        have hz : ¬ nI (pz + 1) = 0 := by
          rw [show (0 : Int32) = nI 0 from rfl, ni_eq (by omega) (by omega)]; omega
        have y := HV T XL _ _ (p3 + 1) (q3 + 1) _ (nI (pz + 1)) (nI (qz + 1)) true x1 (by have := bl_le h.2.2.2.2.2.2.1; omega) (fun y hy => x4 y (List.mem_append_right _ hy)) (ag_S x2 (Nat.le_refl _) (by omega) (Nat.le_refl _) (by omega) (Nat.le_refl _) (by omega) (fun _ _ _ => rfl) (fun _ _ _ _ _ => rfl) (fun _ _ _ _ _ => rfl) (fun y hy => by rw [G4]; exact List.mem_append_right _ hy)) (fun x _ hx h3 h4 => kC x hx h3 h4) (fun j x hj _ hx => kR j x hj hx) (fun j x hj _ hx h5 => kD j x hj hx h5) c4 (decide_eq_true hz) r4 (decide_eq_true (m1_n (by omega))) (fun Fin a S f0 H => ru_TFPa hd6 hpl hql c1 c2 c3 c4 r4 r5 r6 (y2.1 Fin a S f0 H) c5 r0) (by omega) (by omega) (by omega)
        refine ⟨fun Fin a S f0 H => ru_STS (y.1 Fin a S f0 H), fun t ht => ?_⟩
        rcases List.mem_append.1 ht with ht | ht
        · exact y2.2 t ht
        · exact y.2 t ht
end
