section
variable {g : rd_G} {i n p q d k s l b e e' : Nat} {C : Nat → Int32} {r : Int32} {R : Nat → Nat → Int32} {K : rd_K} {A : rd_A} {v w : q_V} {T : co_T} {XL : Int32 → Int32 → Int32 → Prop}
set_option maxHeartbeats 200000 in
theorem y_known {f p : Int32} {B : Nat} {x : Int64} (h : xr g f p B w) : ∃ y, fX12_known x w = some (y, w) := by
  obtain ⟨_, _, m, h4, h5⟩ := h.1
  obtain ⟨y, e, _⟩ := r_find (x := x) h5 h4
  exact ⟨y, e⟩
set_option maxHeartbeats 200000 in
/-- var -/
theorem t_var (ok : rd_ok g) (hn : 1 ≤ n) (hn2 : n ≤ 14) (hc : tkc g i = 301) : TS g n i fX8_variable fX12_variable := by
  intro p C q d R K k s l b A e e' v w h z o hln
  obtain ⟨z, zd, zs⟩ := z
  have zp := z0_p ok z
  have hL := ok.1
  have hm3 := ok.2.2.1.2.2
  obtain ⟨v1, a1, s1⟩ := c_adv ok h (by rw [hc]; decide) (by rw [hc]; decide)
  have s2 := r_now ok s1 (by rw [hc]; decide) (by rw [hc]; decide)
  have him := (St_im s2).1
  have t0 := tka_lt ok (show i < i + 1 by omega) him
  have tcB : ∀ f p v, xc g f p l v → ∀ nt, cG g f p l (fX8_variable_b80 nt v) := by
    intro f p v h nt
    unfold fX8_variable_b80
    exact cG_v (x_exp h) (fun v h => by rw [tr_of, q_bd_s]; exact cG_s h)
  have tcS : ∀ f p v, xc g f p l v → ∀ nt z4 y5, cG g f p l (q_bd (fX9_isStopped v) (fun y14 T13 => if y14 = 0 then q_bd (fX5_tellVariable z4 y5 T13) (fun y18 T17 => q_bd (fX0_add_ 27 y18 T17) (fun y20 T19 => fX8_variable_b80 nt T19)) else fX8_variable_b80 nt T13)) := by
    intro f p v h nt z4 y5
    rw [x_stop h, q_bd_s, if_neg (by decide)]; exact tcB f p v h nt
  have tr5 : ∀ f p B w, xr g f p B w → B ≤ 3300 + 20 * (15 - n) → ∀ y2 : Int32, rG g f p (3300 + 20 * (15 - n)) (q_bv (fX12_takeSign 59 w) (fun T6 => q_bd (fX12_fine T6) (fun y8 T7 => if y8 = 0 then fX12_variable_b55 T7 else q_bd (fX12_tell y2 T7) (fun y10 T9 => q_bd (fX12_emit 3 y10 0 T9) (fun y12 T11 => fX12_variable_b55 T11))))) := by
    intro f p B w h hB y2
    refine rG_v (y_takeS h) (fun w h => ?_)
    rw [y_fine h, q_bd_s, if_pos rfl]
    unfold fX12_variable_b55
    exact rG_le (rG_d (y_risky h) (fun a w h => rG_s h)) hB
  unfold fX8_variable fX12_variable
  rw [a1, q_bv_s, q_lt_s, q_lt_s, q_lt_s, q_lt_e (r_i s2)]
  by_cases c1 : tkc g (i + 1) = 259
  · obtain ⟨v3, a3, s3⟩ := c_exp ok s2 c1 (by decide) (by decide)
    obtain ⟨w3, b3, s4⟩ := r_take (c := 259) (x := 2) ok s3 rfl (by decide) c1 (by decide) (by decide)
    rw [a3, q_bv_s, b3, q_bv_s, c_name s1 c1, c_place s1]
    by_cases c2 : tkc g (i + 2) = 61
    · obtain ⟨v5, a5, s5⟩ := c_exp ok s4 c2 (by decide) (by decide)
      obtain ⟨w5, b5, s6⟩ := r_takeS (c := 61) ok s5 rfl (by decide) c2 (by decide) (by decide)
      have him6 := (St_im s6).1
      have t1 := tka_lt ok (show i + 1 < i + 2 by omega) (by omega)
      have t2 := tka_lt ok (show i + 2 < i + 3 by omega) (by omega)
      have J := US_E ok hn2 (i + 3) p C q d 0 R K k s l b A e e' v5 w5 s6 (z0_s ok z (by omega) him6) (ov_m ok o (by omega) him6 (Nat.le_refl _) (Nat.le_refl _)) (Or.inl rfl)
      have X0 := AQ_0 (M := 3) (i := i) (hb := 10 * (14 - n) + 6) ok s6 (by omega) (fun u h1 h2 => by
        by_cases u1 : u = i
        · rw [u1, hc]; decide
        · by_cases u2 : u = i + 1
          · rw [u2, c1]; decide
          · rw [show u = i + 2 by omega, c2]; decide) (Or.inl rfl)
      rw [a5, q_bv_s, b5, q_bv_s]
      refine jn_dv J (fun f p a v h => tcS f p v h _ _ _) (fun f p w h => tr5 f p _ w h (by omega) _) ?_
      intro a v7 w7 E
      obtain ⟨i3, p3, C3, q3, r3, R3, K3, e3, e3', E⟩ := E
      have X2 := AQ_s ok X0 E (Nat.le_refl _) (fun u h1 h2 => absurd h1 (by omega)) (by omega) (Or.inl rfl)
      have E5 := E.2.2.2.2.1
      have E1 := E.2.1.1
      have S := X2.1
      have hi3 := (St_im S).1
      have t9 := tka_L ok i3
      obtain ⟨z1, z2, z3⟩ := z
      obtain ⟨_, Y2, Y3, Y4, _, _⟩ := X2.2.1
      have hov3 : ov g (i + 1) s e3 e3' := ov_m ok o (by omega) (by omega) X2.2.2.2.2.1.1 X2.2.2.2.2.1.2
      rw [c_stop ok S, q_bd_s, if_pos rfl]
      by_cases c59 : tkc g i3 = 59
      · obtain ⟨w8, b8, s8⟩ := r_takeS (c := 59) ok S rfl (by decide) c59 (by decide) (by decide)
        obtain ⟨v9, w9, e9, e9', a9, b9, s9, h9, h9', h9n, h9o⟩ := j_tell (t := i + 1) ok s8 (by omega) c1 hov3 (by omega)
        obtain ⟨v10, a10, s10⟩ := c_add2 (x := 27) (y := nI s) ok s9 (by omega)
        obtain ⟨v11, a11, s11⟩ := c_exp ok s10 c59 (by decide) (by decide)
        obtain ⟨w12, b12, s12⟩ := r_emit (o := 3) (a := nI s) (c := 0) s11 (by omega)
        have him12 := (St_im s12).1
        have t10 := tka_lt ok (show i3 < i3 + 1 by omega) him12
        have t11 := tka_lt ok (show i + 3 < i3 by omega) hi3
        unfold fX8_variable_b80 fX12_variable_b55
        rw [a9, q_bd_s, a10, q_bd_s, a11, q_bv_s, tr_of, q_bd_s, b8, q_bv_s, r_fine s8, q_bd_s, if_neg (show ¬ (1 : Int32) = 0 by decide), b9, q_bd_s, b12, q_bd_s, r_risky s12.2.2.2.2.1.1.2.2.2.2.2.2, q_bd_s]
        refine jn_qq (mkT2 ok X2 s12 (by rw [c59]; decide) ?_ (by obtain ⟨E1, E2, E3, _, _, _⟩ := E.2.1; omega) (wy_tr wy_k.2.1 ?_) (by omega) ⟨by decide, by decide⟩ ⟨rfl, rfl, rfl⟩ ⟨h9, h9'⟩ ⟨by omega, by omega, by omega⟩ (fun T XL ee y0 c0 c1 r0 r1 => ?_))
        · intro hs
          refine ⟨tka g (i + 1), ?_, (h9o hs).1, (h9o hs).2⟩
          omega
        · rw [E5.2.2]
          rcases E5.1 with ca | ca | ca <;> (rw [ca]; decide)
        · exact fun Fin a S f0 H => ru_STORE (y0 Fin a S f0 H) (by omega) (by omega) (h9n ee) c0 c1 r0 r1
      · obtain ⟨w8, b8, y8⟩ := r_takeSX (c := 59) (Bd := 3011) ok S rfl (by decide) c59 (by omega)
        obtain ⟨v9, w9, e9, e9', a9, b9, s9, h9, h9', h9n, h9o⟩ := j_tell (t := i + 1) ok S (by omega) c1 hov3 (by omega)
        obtain ⟨v10, a10, s10⟩ := c_add2 (x := 27) (y := nI s) ok s9 (by omega)
        obtain ⟨v11, a11, x11⟩ := c_expX s10 c59
        unfold fX8_variable_b80 fX12_variable_b55
        rw [a9, q_bd_s, a10, q_bd_s, a11, q_bv_s, tr_of, q_bd_s, b8, q_bv_s, y_fine y8, q_bd_s, if_pos rfl]
        exact jn_xx (cG_s x11) (rG_le (rG_d (y_risky y8) (fun a w h => rG_s h)) (by omega))
    · obtain ⟨v5, a5, x5⟩ := c_expX s4 c2
      obtain ⟨w5, b5, y5⟩ := r_takeSX (c := 61) (Bd := 3011) ok s4 rfl (by decide) c2 (by omega)
      rw [a5, q_bv_s, b5, q_bv_s]
      exact jn_xx (cG_d (x_E x5) (fun a v h => tcS _ _ v h _ _ _)) (rG_v (y_E y5) (fun w h => tr5 _ _ _ w h (by omega) _))
  · obtain ⟨v3, a3, x3⟩ := c_expX s2 c1
    obtain ⟨w3, b3, y3⟩ := r_takeX (c := 259) (x := 2) (Bd := 3011) ok s2 rfl (by decide) c1 (by omega)
    rw [a3, q_bv_s, b3, q_bv_s]
    exact jn_xx (cG_v (x_exp x3) (fun v h => cG_d (x_E h) (fun a v h => tcS _ _ v h _ _ _))) (rG_v (y_takeS y3) (fun w h => rG_v (y_E h) (fun w h => tr5 _ _ _ w h (by omega) _)))
end
