section
variable {g : rd_G} {i n p q d k s l b e e' : Nat} {C : Nat → Int32} {r : Int32} {R : Nat → Nat → Int32} {K : rd_K} {A : rd_A} {v w : q_V} {T : co_T} {XL : Int32 → Int32 → Int32 → Prop}
variable {B : q_V → Option (Int32 × q_V)} {B' : q_V → Option (Int64 × q_V)}
set_option maxHeartbeats 200000 in
theorem ag_S {C' : Nat → Int32} {R' : Nat → Nat → Int32} {K' : rd_K} {p1 p2 q1 q2 d1 d2 p' q' d' : Nat} (h : ag g T C' R' K' p p' q q' d d') (h1 : p ≤ p1) (h2 : p2 ≤ p') (h3 : q ≤ q1) (h4 : q2 ≤ q') (h5 : d ≤ d1) (h6 : d2 ≤ d') (hC : ∀ x, p1 ≤ x → x < p2 → C' x = C x) (hR : ∀ j x, j < 3 → q1 ≤ x → x < q2 → R' j x = R j x) (hD : ∀ j x, 3 ≤ j → d1 ≤ x → x < d2 → R' j x = R j x) (hK : ∀ m, m ∈ K → m ∈ K') : ag g T C R K p1 p2 q1 q2 d1 d2 := by
  refine ⟨fun x a1 a2 => ?_, fun x a1 a2 => ?_, fun x a1 a2 => ?_, fun m hm => h.2.2.2 m (hK m hm)⟩
  · rw [← hC x a1 a2]; exact h.1 x (by omega) (by omega)
  · rw [← hR 0 x (by omega) a1 a2, ← hR 1 x (by omega) a1 a2, ← hR 2 x (by omega) a1 a2]; exact h.2.1 x (by omega) (by omega)
  · have := h.2.2.1 x (by omega) (by omega)
    exact ⟨this.1, fun j h7 h8 => by rw [← hD j x h7 a1 a2]; exact this.2 j h7 h8⟩
set_option maxHeartbeats 200000 in
theorem ag_d {p' q' d' x j : Nat} (h : ag g T C R K p p' q q' d d') (h1 : d ≤ x) (h2 : x < d') (h3 : 3 ≤ j) (h4 : j < 9) : co_d T j x (R j x) := ⟨(h.2.2.1 x h1 h2).1, (h.2.2.1 x h1 h2).2 j h3 h4⟩
set_option maxHeartbeats 200000 in
theorem lg_if0 {a : Int64} {α : Type} {x y : α} : (if lg_cmp a 0 = 0 then x else y) = (if a = 0 then x else y) := lg_if
set_option maxHeartbeats 200000 in
/-- hold -/
theorem t_hold (ok : rd_ok g) (hn : 1 ≤ n) (hn2 : n ≤ 14) (hB : BS g n B B') (hxB : ∀ f p l v, xc g f p l v → cG g f p l (B v)) (hyB : ∀ f p Bd w, xr g f p Bd w → rG g f p Bd (B' w)) (hc : tkc g i ≠ 261 ∧ tkc g i ≠ 262 ∧ tkc g i ≠ 300) : TS g n i (fX8_hold B) (fX12_hold B') := by
  intro p C q d R K k s l b A e e' v w h z o hln
  obtain ⟨z, zd, zs⟩ := z
  have zp := z0_p ok z
  have hL := ok.1
  obtain ⟨v1, a1, s1⟩ := c_adv ok h hc.1 hc.2.1
  have s2 := r_now ok s1 hc.1 hc.2.1
  have him := (St_im s2).1
  have t0 := tka_lt ok (show i < i + 1 by omega) him
  have J := US_E ok hn2 (i + 1) p C q d 0 R K k s l b A e e' v1 _ s2 (z0_s ok z (by omega) him) (ov_m ok o (by omega) him (Nat.le_refl _) (Nat.le_refl _)) (Or.inl rfl)
  have tc2 : ∀ f p v (y : Int32), xc g f p l v → cG g f p l (q_bd (fX0_add 54 v) (fun y13 T12 => some (y ||| 4, T12))) := fun f p v y h => cG_d (x_add ok h) (fun a v h => cG_s h)
  have tr2 : ∀ f p Bd w (y4 : Int32) (y : Int64), ¬ (y4 < 0 ∨ 4000 ≤ y4.toNatClampNeg) → Bd < 4000 → Bd + 1 ≤ 3300 + 20 * (15 - n) → xr g f p Bd w → rG g f p (3300 + 20 * (15 - n)) (q_bd (fX12_emit 48 0 0 w) (fun y8 T7 => if y4 < 0 ∨ 4000 ≤ y4.toNatClampNeg then none else q_lt (q_sa T7 2415 (upd (q_a T7 2415) y4.toNatClampNeg (q_i T7 2417))) (fun T10 => some (y ||| 4, T10)))) := by
    intro f p Bd w y4 y hy h1 h2 h
    refine rG_d (y_emit h1 h) (fun a w h => ?_)
    rw [if_neg hy]
    exact rG_s (xr_a (xr_le h h2) (by omega))
  unfold fX8_hold fX12_hold
  rw [a1, q_bv_s, q_lt_s]
  refine jn_dv J (fun f p a v h => ?_) (fun f p w h => ?_) ?_
  · exact cG_d (x_add ok h) (fun a v h => cG_d (hxB _ _ _ _ h) (fun a v h => tc2 _ _ _ _ h))
  · obtain ⟨qq, hq1, hq2⟩ := h.2.2.2.2
    have hin : ¬ (nI qq < 0 ∨ 4000 ≤ (nI qq).toNatClampNeg) := ni_nin (by omega) (by omega)
    obtain ⟨a, w3, e3, h3⟩ := y_emit (x := 49) (y := 0) (z := 0) (by omega) h
    have ea : a = nI qq := by
      have := e3
      unfold fX12_emit at this
      simp only [hq2, q_i_sa, q_lt_s, ni_neg (show qq < 2147483648 by omega), eq_false (show ¬ 4000 ≤ qq by omega), or_self, ↓reduceIte, ni_clamp (show qq < 2147483648 by omega), ni_add1, q_i_at, ni_pred] at this
      exact ((Prod.mk.inj (Option.some.inj this)).1).symm
    rw [e3, q_bd_s, ea]
    exact rG_d (hyB _ _ _ _ h3) (fun a w h => tr2 _ _ _ w (nI qq) a hin (by omega) (by omega) h)
  · intro a v3 w3 E
    obtain ⟨i1, p1, C1, q1, r1, R1, K1, e1, e1', E⟩ := E
    obtain ⟨S, ⟨E1, E2, E3, E4, E5, E6⟩, ⟨E7, E8, E9, t1, E10⟩, E11, ⟨E12, E13, E14⟩, ⟨E15, E15'⟩, E16⟩ := E
    have hi1 := (St_im S).1
    have ta1 := tka_L ok i1
    obtain ⟨z1, z2, z3⟩ := z
    obtain ⟨v4, a4, s4⟩ := c_add (y := 45) ok S (by omega)
    obtain ⟨w5, b5, s5⟩ := r_emit (o := 49) (a := 0) (c := 0) s4 (by omega)
    have JB := hB i1 (p1 + 1) _ (q1 + 1) d r1 _ K1 k s l b A e1 e1' v4 w5 s5 ⟨⟨by omega, by omega, by omega⟩, by omega, by omega⟩ (ov_m ok o (by omega) hi1 E15 E15') ⟨by have := hln.1; omega, LB_m hln.2 rfl (by omega) (by omega)⟩
    have hin : ¬ (nI q1 < 0 ∨ 4000 ≤ (nI q1).toNatClampNeg) := ni_nin (by omega) (by omega)
    have hcl : (nI q1).toNatClampNeg = q1 := ni_clamp (by omega)
    rw [a4, q_bd_s, b5, q_bd_s]
    refine jn_dd JB (fun f p a v h => tc2 _ _ _ _ h) (fun f p a w h => tr2 _ _ _ w (nI q1) a hin (by omega) (by omega) h) ?_
    intro o2 v6 z6 w6 X
    obtain ⟨i2, p2, C2, q2, d2, r2, R2, K2, s2', A2, e2, e2', Y, ⟨F0, ⟨F1, F2, F3, F4, F5, F6, F7, F8, F9, F10, _⟩, ⟨G1, G2, G3, t2, G4⟩, F11, ⟨F12, F13, F14⟩, ⟨F15, F15'⟩, F16, F17, F18⟩, cB, n14, H1, H2, H3, H4, H5⟩ := X
    have hi2 := (St_im F0).1
    have ta2 := tka_L ok i2
    obtain ⟨v7, a7, s7⟩ := c_add (y := 54) ok F0 (by omega)
    obtain ⟨w8, b8, s8⟩ := r_emit (o := 48) (a := 0) (c := 0) s7 (by omega)
    have s9 := r_set (j := 1) (a := q1) (y := nI (q2 + 1)) s8 (by omega)
    rw [a7, q_bd_s, b8, q_bd_s, if_neg hin, hcl, q_lt_s, s8.2.2.2.2.1.1.2.2.2.1]
    refine jn_qq ⟨i2, p2 + 1, _, q2 + 1, d2, r2, _, K2, k, s2', A2, e2, e2', Y, ⟨s9, ⟨by omega, by omega, by omega, by omega, by omega, by omega, by omega, by omega, by omega, by omega, by omega⟩, ⟨fun x hx => by rw [upd_ne (by omega), G1 x (by omega), upd_ne (by omega)]; exact E7 x hx, fun j x hj hx => by rw [rO_x (by omega), rE_x (by omega), G2 j x hj (by omega), rE_x (by omega)]; exact E8 j x hj hx, fun j x hj hx => by rw [rO_x (by omega), rE_j hj, G3 j x hj (by omega), rE_j hj, E9 j hj], t2 ++ t1, by rw [G4, E10, List.append_assoc]⟩, fun u h1 h2 => ?_, ⟨F12, wy_or F13 wy_k.2.2.2.1, F14⟩, ⟨by omega, by omega⟩, F16, fun x h1 h2 => ?_, fun T XL x1 x2 x3 x4 => ?_⟩, by omega, by omega⟩
    · by_cases c1 : u = i
      · rw [c1]; exact hc.2.2
      · by_cases c2 : u < i1
        · exact E11 u (by omega) c2
        · exact F11 u (by omega) h2
    · rw [rO_x (show (0 : Nat) ≠ 1 ∨ _ by omega)]
      by_cases c1 : x = q2
      · rw [c1, rE_0, upd_at]; exact fun z => absurd z (by decide)
      · rw [rE_x c1]
        by_cases c2 : x < q1 + 1
        · rw [G2 0 x (by omega) c2]
          by_cases c3 : x = q1
          · rw [c3, rE_0, upd_at]; exact fun z => absurd z (by decide)
          · rw [rE_x c3]; exact fun z => absurd z (i30 (E16.1 x h1 (by omega)))
        · rw [rO_x (by omega), rE_x c1]; exact F17 x (by omega) (by omega)
    · have c0 := ag_c x2 (show p ≤ p1 by omega) (by omega)
      have c2 := ag_c x2 (show p ≤ p2 by omega) (by omega)
      have r0 := ag_r0 x2 (show q ≤ q1 by omega) (by omega)
      have r2' := ag_r0 x2 (show q ≤ q2 by omega) (by omega)
      have er0 : rO (rE R2 q2 48 0 0) 1 q1 (nI (q2 + 1)) 0 q1 = 49 := by rw [rO_x (by omega), rE_x (by omega), G2 0 q1 (by omega) (by omega), rE_0, upd_at]
      have r1' := ag_r1 x2 (show q ≤ q1 by omega) (by omega) (by rw [er0]; decide)
      rw [upd_ne (by omega), G1 p1 (by omega), upd_at] at c0
      rw [upd_at] at c2
      rw [er0] at r0
      rw [rO_at] at r1'
      rw [rO_x (by omega), rE_0, upd_at] at r2'
      have y1 := E16.2 T XL x1 (ag_E x2 (Nat.le_refl _) (by omega) (Nat.le_refl _) (by omega) (fun x _ hx => by rw [upd_ne (by omega), G1 x (by omega), upd_ne (by omega)]) (fun j x hj _ hx => by rw [rO_x (by omega), rE_x (by omega), G2 j x hj (by omega), rE_x (by omega)]) (fun y hy => by rw [G4]; exact List.mem_append_right _ hy)) (by have := bl_le S.2.2.2.2.2.2.1; omega)
      have y2 := F18 T XL x1 (ag_S x2 (by omega) (by omega) (by omega) (by omega) (Nat.le_refl _) (Nat.le_refl _) (fun x _ hx => upd_ne (by omega)) (fun j x hj h5 hx => by rw [rO_x (by omega), rE_x (by omega)]) (fun j x hj _ _ => by rw [rO_x (by omega), rE_j hj]) (fun y hy => hy)) x3 x4
      exact ⟨fun Fin a S f0 H => ru_HOLD (y1 Fin a S f0 H) (by omega) (by omega) (by omega) c0 r0 r1' (y2.1 Fin a S f0 H) c2 r2', y2.2⟩
end
