section
variable {g : rd_G} {i n p q d k s l b e e' : Nat} {C : Nat → Int32} {r : Int32} {R : Nat → Nat → Int32} {K : rd_K} {A : rd_A} {v w : q_V}
variable {U N : q_V → Option (Int32 × q_V)} {U' N' : q_V → Option q_V} {hb hw hu Bw Bu Bd : Nat}
set_option maxHeartbeats 200000 in
theorem jn_le {α β : Type} {B B1 : Nat} {Q : α → q_V → β → q_V → Prop} {X : Option (α × q_V)} {Y : Option (β × q_V)} (h : jn g l B Q X Y) (hB : B ≤ B1) : jn g l B1 Q X Y := by
  obtain ⟨a, v1, b1, w1, e1, e2, h1⟩ := h
  refine ⟨a, v1, b1, w1, e1, e2, ?_⟩
  rcases h1 with h1 | h1
  · obtain ⟨f, p, x1, x2⟩ := h1
    exact Or.inl ⟨f, p, x1, xr_le x2 hB⟩
  · exact Or.inr h1
set_option maxHeartbeats 200000 in
theorem q_lt_e {α β : Type} {x y : α} {k : α → β} (h : x = y) : q_lt x k = k y := by rw [h]; rfl
set_option maxHeartbeats 200000 in
theorem r_kn {c x : Int32} (ok : rd_ok g) (h : tkc g i ≠ c) (hc : c ∈ tk_V) (hx : x = tk_m c) : ¬ tk_m (tkc g i) = x := by
  rw [hx]; exact fun y => h (tk_Vi _ (tkc_V ok) _ hc y)
set_option maxHeartbeats 200000 in
/-- a name: a variable or a call -/
theorem u_name (ok : rd_ok g) (h : St g i n p C i n q d r R K k s l b A e e' v w) (z : z0 g i p q K.length) (o : ov g i s e e') (r01 : r = 0 ∨ r = 1) (c : tkc g i = 259) (hW : n < 14 → US g (n + 1) hw Bw (fX2_whole U N) (fX12_expression U' N')) (hx : ∀ f p l v, xc g f p l v → cG g f p l (fX2_whole U N v)) (hy : ∀ f p B w, xr g f p B w → rG g f p B (vu (fX12_expression U' N' w))) (hhb : n < 14 → hw + 7 ≤ hb) (h8 : n < 14 → 8 ≤ hb) (h1b : 1 ≤ hb) (hB : Bw ≤ Bd) (hB2 : 3012 ≤ Bd) :
    jn g l Bd (EP g i n p C q d r R K k s l b A e e' hb) (fX2_nameOrCall U N v) (vu (q_lt (q_si w 2410 (q_i w 2410 + 1)) (fun T7 => q_bd (fX12_isSign 40 T7) (fun y9 T8 => if y9 = 0 then if nI i < 0 ∨ 3002 ≤ (nI i).toNatClampNeg then none else q_bd (fX12_known (q_b T8 2406 (nI i).toNatClampNeg) T8) (fun y12 T11 => if y12 = (-1) then q_bv (fX12_bad 5 (nI i) T11) (fun T13 => fX12_unit_b219 U' N' (nI i) T13) else fX12_unit_b219 U' N' (nI i) T11) else q_bv (fX12_call U' N' (nI i) T8) (fun T15 => fX12_unit_b364 U' N' T15))))) := by
  have hm := ok.2.2.1.2.2
  have hi := (St_im h).1
  obtain ⟨v1, a1, s1⟩ := c_adv ok h (by rw [c]; decide) (by rw [c]; decide)
  have s2 := r_now ok s1 (by rw [c]; decide) (by rw [c]; decide)
  rw [q_lt_s, r_sign (c := 40) ok s2 rfl (by decide), q_bd_s, lx_i0]
  by_cases c40 : tkc g (i + 1) = 40
  · rw [if_pos c40]
    unfold fX12_unit_b364
    rw [q_bv_eta]
    unfold fX2_nameOrCall
    rw [q_lt_s, q_lt_s, c_name h c, c_place h, a1, q_bv_s, c_kind s1, if_pos c40]
    have J := u_call ok h s2 z o r01 c c40 hW hx hy hhb h8 hB hB2
    obtain ⟨a, v3, u, w3, e1, e2, J⟩ := J
    rw [vu_ex e1, q_bv_s]
    refine ⟨1, v3, u, w3, rfl, e2, ?_⟩
    rcases J with J | ⟨i1, p1, C1, q1, r1, R1, K1, e1, e1', J, _⟩
    · exact Or.inl J
    · exact Or.inr ⟨i1, p1, C1, q1, r1, R1, K1, e1, e1', J⟩
  · rw [if_neg c40, if_neg (ni_nin (by omega) (by omega)), ni_clamp (by omega)]
    exact u_load ok h z o c c40 h1b
set_option maxHeartbeats 200000 in
theorem US_unit (ok : rd_ok g) (hW : n < 14 → US g (n + 1) hw Bw (fX2_whole U N) (fX12_expression U' N')) (hUn : n < 14 → US g (n + 1) hu Bu U U') (hx : ∀ f p l v, xc g f p l v → cG g f p l (fX2_whole U N v)) (hy : ∀ f p B w, xr g f p B w → rG g f p B (vu (fX12_expression U' N' w))) (hyU : ∀ f p B w, xr g f p B w → rG g f p B (vu (U' w))) (hhb : n < 14 → hw + 7 ≤ hb) (hhu : n < 14 → hu ≤ hb) (h8 : n < 14 → 8 ≤ hb) (h1b : 1 ≤ hb) (hB : Bw + 1 ≤ Bd) (hB1 : Bu + 1 ≤ Bd) (hB2 : 3012 ≤ Bd) (hB3 : Bw < 4000) (hB4 : 3011 ≤ Bw) (hB5 : Bu < 4000) : US g n hb Bd (fX2_unit U N) (fX12_unit U' N') := by
  intro i p C q d r R K k s l b A e e' v w h z o r01
  have hn := St_n h
  have hin := r_in ok h
  have zp := z0_p ok z
  unfold fX2_unit fX12_unit
  rw [q_lt_s, c_kind h, r_fine h, q_bd_s, if_neg (show ¬ (1 : Int32) = 0 by decide), q_lt_e (r_i h), if_neg hin.2.1, q_lt_s, show q_a w 2404 (nI i).toNatClampNeg = tk_m (tkc g i) by rw [hin.2.2]; exact r_kind ok h]
  simp only [q_bd_eta]
  by_cases c40 : tkc g i = 40
  · rw [if_pos c40, c40, if_neg (show ¬ tk_m 40 = 2 by decide), if_neg (show ¬ tk_m 40 = 3 by decide), if_neg (show ¬ tk_m 40 = 37 by decide), if_neg (show ¬ tk_m 40 = 38 by decide), if_neg (show ¬ tk_m 40 = 39 by decide), if_neg (show ¬ tk_m 40 = 40 by decide), if_neg (show ¬ tk_m 40 = 41 by decide), if_neg (show ¬ tk_m 40 = 42 by decide), if_neg (show ¬ tk_m 40 = 43 by decide), if_pos (show tk_m 40 = 140 from rfl)]
    exact u_brackets ok h z o r01 c40 hW hy (fun q => by have := hhb q; omega) (by omega) (by omega)
  rw [if_neg c40]
  by_cases c45 : tkc g i = 45
  · rw [if_pos c45, c45, if_neg (show ¬ tk_m 45 = 2 by decide), if_neg (show ¬ tk_m 45 = 3 by decide), if_neg (show ¬ tk_m 45 = 37 by decide), if_neg (show ¬ tk_m 45 = 38 by decide), if_neg (show ¬ tk_m 45 = 39 by decide), if_neg (show ¬ tk_m 45 = 40 by decide), if_neg (show ¬ tk_m 45 = 41 by decide), if_neg (show ¬ tk_m 45 = 42 by decide), if_neg (show ¬ tk_m 45 = 43 by decide), if_neg (show ¬ tk_m 45 = 140 by decide), if_pos (show tk_m 45 = 145 from rfl)]
    exact u_negative ok h z o r01 c45 hUn hyU hhu h1b hB1 hB5 (by omega)
  rw [if_neg c45]
  by_cases c259 : tkc g i = 259
  · rw [if_pos c259, c259, if_pos (show tk_m 259 = 2 from rfl)]
    exact u_name ok h z o r01 c259 hW hx hy hhb h8 h1b (by omega) hB2
  rw [if_neg c259]
  by_cases c260 : tkc g i = 260
  · rw [if_pos c260, c260, if_neg (show ¬ tk_m 260 = 2 by decide), if_pos (show tk_m 260 = 3 from rfl)]
    rw [q_lt_s, if_neg hin.2.1, hin.2.2]
    exact u_number ok h z c260 h1b
  rw [if_neg c260]
  by_cases c333 : tkc g i = 333
  · rw [if_pos c333, c333, if_neg (show ¬ tk_m 333 = 2 by decide), if_neg (show ¬ tk_m 333 = 3 by decide), if_pos (show tk_m 333 = 37 from rfl)]
    unfold fX12_unit_b364; rw [q_bv_eta]; exact u_query (m := 1) (c0 := 333) ok h z o r01 c333 (by decide) (Or.inl rfl) rfl hW hx hy hhb hB hB3 hB4 (by decide) (fun hq T XL p1 q1 y0 c0 r0 Fin a S f0 H => ru_LEVEL (y0 Fin a S f0 H) h1b c0 r0)
  rw [if_neg c333]
  by_cases c334 : tkc g i = 334
  · rw [if_pos c334, c334, if_neg (show ¬ tk_m 334 = 2 by decide), if_neg (show ¬ tk_m 334 = 3 by decide), if_neg (show ¬ tk_m 334 = 37 by decide), if_pos (show tk_m 334 = 38 from rfl)]
    unfold fX12_unit_b364; rw [q_bv_eta]; exact u_query (m := 1) (c0 := 334) ok h z o r01 c334 (by decide) (Or.inl rfl) rfl hW hx hy hhb hB hB3 hB4 (by decide) (fun hq T XL p1 q1 y0 c0 r0 Fin a S f0 H => ru_REACH (y0 Fin a S f0 H) h1b c0 r0)
  rw [if_neg c334]
  by_cases c335 : tkc g i = 335
  · rw [if_pos c335, c335, if_neg (show ¬ tk_m 335 = 2 by decide), if_neg (show ¬ tk_m 335 = 3 by decide), if_neg (show ¬ tk_m 335 = 37 by decide), if_neg (show ¬ tk_m 335 = 38 by decide), if_pos (show tk_m 335 = 39 from rfl)]
    unfold fX12_unit_b364; rw [q_bv_eta]; exact u_query (m := 2) (c0 := 335) ok h z o r01 c335 (by decide) (Or.inr rfl) rfl hW hx hy hhb hB hB3 hB4 (by decide) (fun hq T XL p1 q1 y0 c0 r0 Fin a S f0 H => ru_GATE (y0 Fin a S f0 H) (by have := h8 hq; omega) c0 r0)
  rw [if_neg c335]
  by_cases c336 : tkc g i = 336
  · rw [if_pos c336, c336, if_neg (show ¬ tk_m 336 = 2 by decide), if_neg (show ¬ tk_m 336 = 3 by decide), if_neg (show ¬ tk_m 336 = 37 by decide), if_neg (show ¬ tk_m 336 = 38 by decide), if_neg (show ¬ tk_m 336 = 39 by decide), if_pos (show tk_m 336 = 40 from rfl)]
    unfold fX12_unit_b364; rw [q_bv_eta]; exact u_query (m := 1) (c0 := 336) ok h z o r01 c336 (by decide) (Or.inl rfl) rfl hW hx hy hhb hB hB3 hB4 (by decide) (fun hq T XL p1 q1 y0 c0 r0 Fin a S f0 H => ru_SHIP (y0 Fin a S f0 H) h1b c0 r0)
  rw [if_neg c336]
  by_cases c337 : tkc g i = 337
  · rw [if_pos c337, c337, if_neg (show ¬ tk_m 337 = 2 by decide), if_neg (show ¬ tk_m 337 = 3 by decide), if_neg (show ¬ tk_m 337 = 37 by decide), if_neg (show ¬ tk_m 337 = 38 by decide), if_neg (show ¬ tk_m 337 = 39 by decide), if_neg (show ¬ tk_m 337 = 40 by decide), if_pos (show tk_m 337 = 41 from rfl)]
    unfold fX12_unit_b364; rw [q_bv_eta]; exact u_query (m := 1) (c0 := 337) ok h z o r01 c337 (by decide) (Or.inl rfl) rfl hW hx hy hhb hB hB3 hB4 (by decide) (fun hq T XL p1 q1 y0 c0 r0 Fin a S f0 H => ru_HELD (y0 Fin a S f0 H) h1b c0 r0)
  rw [if_neg c337]
  by_cases c338 : tkc g i = 338
  · rw [if_pos c338, c338, if_neg (show ¬ tk_m 338 = 2 by decide), if_neg (show ¬ tk_m 338 = 3 by decide), if_neg (show ¬ tk_m 338 = 37 by decide), if_neg (show ¬ tk_m 338 = 38 by decide), if_neg (show ¬ tk_m 338 = 39 by decide), if_neg (show ¬ tk_m 338 = 40 by decide), if_neg (show ¬ tk_m 338 = 41 by decide), if_pos (show tk_m 338 = 42 from rfl)]
    rw [q_lt_s]
    exact u_register ok h z c338 (Or.inl ⟨rfl, rfl, rfl⟩) h1b
  rw [if_neg c338]
  by_cases c339 : tkc g i = 339
  · rw [if_pos c339, c339, if_neg (show ¬ tk_m 339 = 2 by decide), if_neg (show ¬ tk_m 339 = 3 by decide), if_neg (show ¬ tk_m 339 = 37 by decide), if_neg (show ¬ tk_m 339 = 38 by decide), if_neg (show ¬ tk_m 339 = 39 by decide), if_neg (show ¬ tk_m 339 = 40 by decide), if_neg (show ¬ tk_m 339 = 41 by decide), if_neg (show ¬ tk_m 339 = 42 by decide), if_pos (show tk_m 339 = 43 from rfl)]
    rw [q_lt_s]
    exact u_register ok h z c339 (Or.inr ⟨rfl, rfl, rfl⟩) h1b
  rw [if_neg c339]
  rw [if_neg (r_kn (x := 2) (c := 259) ok c259 (by decide) rfl), if_neg (r_kn (x := 3) (c := 260) ok c260 (by decide) rfl), if_neg (r_kn (x := 37) (c := 333) ok c333 (by decide) rfl), if_neg (r_kn (x := 38) (c := 334) ok c334 (by decide) rfl), if_neg (r_kn (x := 39) (c := 335) ok c335 (by decide) rfl), if_neg (r_kn (x := 40) (c := 336) ok c336 (by decide) rfl), if_neg (r_kn (x := 41) (c := 337) ok c337 (by decide) rfl), if_neg (r_kn (x := 42) (c := 338) ok c338 (by decide) rfl), if_neg (r_kn (x := 43) (c := 339) ok c339 (by decide) rfl), if_neg (r_kn (x := 140) (c := 40) ok c40 (by decide) rfl), if_neg (r_kn (x := 145) (c := 45) ok c45 (by decide) rfl)]
  obtain ⟨v1, a1, x1⟩ := c_refuse h
  obtain ⟨w1, b1, y1⟩ := r_wrong (Bd := Bd) ok h (by omega)
  unfold fX12_unit_b364
  rw [a1, q_bv_s, b1, q_bv_s, vu_some]
  exact jn_xx (cG_s x1) (rG_s y1)
set_option maxHeartbeats 200000 in
theorem US_rec (ok : rd_ok g) : ∀ D, (∀ n, n ≤ 14 → 2 * (14 - n) + 5 ≤ D → US g n (10 * (14 - n) + 1) (3103 + 10 * (14 - n)) (fx2_rec D 0) (fx12e_rec D 0)) ∧ (∀ n, n ≤ 14 → 2 * (14 - n) + 6 ≤ D → US g n (10 * (14 - n) + 4) (3107 + 10 * (14 - n)) (fx2_rec D 1) (fx12e_rec D 1)) := by
  intro D
  induction D with
  | zero => exact ⟨fun n h1 h2 => absurd h2 (by omega), fun n h1 h2 => absurd h2 (by omega)⟩
  | succ D ih =>
    have hxN : 2 ≤ D → ∀ f p l v, xc g f p l v → cG g f p l (fx2_rec D 1 v) := fun hD f p l v h => by
      obtain ⟨D, rfl⟩ : ∃ x, D = x + 2 := ⟨D - 2, by omega⟩
      exact x_N h
    have hyN : 2 ≤ D → ∀ f p B w, xr g f p B w → rG g f p B (vu (fx12e_rec D 1 w)) := fun hD f p B w h => by
      obtain ⟨D, rfl⟩ : ∃ x, D = x + 2 := ⟨D - 2, by omega⟩
      exact y_N h
    have hxU : 2 ≤ D → ∀ f p l v, xc g f p l v → cG g f p l (fx2_rec D 0 v) := fun hD f p l v h => by
      obtain ⟨D, rfl⟩ : ∃ x, D = x + 1 := ⟨D - 1, by omega⟩
      exact x_U h
    have hyU : 2 ≤ D → ∀ f p B w, xr g f p B w → rG g f p B (vu (fx12e_rec D 0 w)) := fun hD f p B w h => by
      obtain ⟨D, rfl⟩ : ∃ x, D = x + 1 := ⟨D - 1, by omega⟩
      exact y_U h
    refine ⟨fun n h1 h2 => ?_, fun n h1 h2 => ?_⟩
    · intro i p C q d r R K k s l b A e e' v w h z o r01
      have e1 : fx2_rec (D + 1) 0 v = fX2_unit (fx2_rec D 0) (fx2_rec D 1) v := by rw [fx2_rec]
      have e2 : fx12e_rec (D + 1) 0 w = fX12_unit (fx12e_rec D 0) (fx12e_rec D 1) w := by rw [fx12e_rec]
      rw [e1, e2]
      by_cases h14 : n = 14
      · exact US_unit (hw := 0) (Bw := 3011) (hu := 0) (Bu := 0) ok (fun q => absurd q (by omega)) (fun q => absurd q (by omega)) (fun f p l v h => x_whole (fun v h => hxN (by omega) f p l v h) h) (fun f p B w h => y_expr (fun v h => hyN (by omega) f p B v h) h) (hyU (by omega)) (fun q => absurd q (by omega)) (fun q => absurd q (by omega)) (fun q => absurd q (by omega)) (by omega) (by omega) (by omega) (by omega) (by omega) (by omega) (by omega) i p C q d r R K k s l b A e e' v w h z o r01
      · have W := US_whole (U := fx2_rec D 0) (U' := fx12e_rec D 0) ok (US_conj (U := fx2_rec D 0) (U' := fx12e_rec D 0) ok (ih.2 (n + 1) (by omega) (by omega)) (by omega) (by omega)) (by omega) (by omega)
        exact US_unit (hw := 10 * (14 - (n + 1)) + 4) (Bw := 3107 + 10 * (14 - (n + 1)) + 1 + 1) (hu := 10 * (14 - (n + 1)) + 1) (Bu := 3103 + 10 * (14 - (n + 1))) ok (fun _ => W) (fun _ => ih.1 (n + 1) (by omega) (by omega)) (fun f p l v h => x_whole (fun v h => hxN (by omega) f p l v h) h) (fun f p B w h => y_expr (fun v h => hyN (by omega) f p B v h) h) (hyU (by omega)) (fun q => by omega) (fun q => by omega) (fun q => by omega) (by omega) (by omega) (by omega) (by omega) (by omega) (by omega) (by omega) i p C q d r R K k s l b A e e' v w h z o r01
    · intro i p C q d r R K k s l b A e e' v w h z o r01
      have e1 : fx2_rec (D + 1) 1 v = fX2_negation (fx2_rec D 0) (fx2_rec D 1) v := by
        rw [fx2_rec]
        exact fun z => absurd z (by decide)
      have e2 : fx12e_rec (D + 1) 1 w = fX12_turned (fx12e_rec D 0) (fx12e_rec D 1) w := by
        rw [fx12e_rec]
        exact fun z => absurd z (by decide)
      rw [e1, e2]
      have T := US_test (N := fx2_rec D 1) (N' := fx12e_rec D 1) ok (US_sum (N := fx2_rec D 1) (N' := fx12e_rec D 1) ok (US_product (N := fx2_rec D 1) (N' := fx12e_rec D 1) ok (ih.1 n h1 (by omega)) (by omega) (by omega)) (by omega) (by omega) (hxU (by omega)) (hyU (by omega))) (by omega) (by omega)
      by_cases h14 : n = 14
      · exact US_neg (hw := 0) (Bw := 3010) ok T (fun q => absurd q (by omega)) (hyN (by omega)) (by omega) (fun q => absurd q (by omega)) (by omega) (by omega) (by omega) (by omega) i p C q d r R K k s l b A e e' v w h z o r01
      · exact US_neg (hw := 10 * (14 - (n + 1)) + 4) (Bw := 3107 + 10 * (14 - (n + 1))) ok T (fun _ => ih.2 (n + 1) (by omega) (by omega)) (hyN (by omega)) (by omega) (fun q => by omega) (by omega) (by omega) (by omega) (by omega) i p C q d r R K k s l b A e e' v w h z o r01
set_option maxHeartbeats 200000 in
/-- a whole E -/
theorem US_E (ok : rd_ok g) (hn : n ≤ 14) : US g n (10 * (14 - n) + 4) (3109 + 10 * (14 - n)) fX2_whole_t fX12_expression_t := by
  intro i p C q d r R K k s l b A e e' v w h z o r01
  exact jn_le (US_whole (U := fx2_rec 36 0) (U' := fx12e_rec 36 0) ok (US_conj (U := fx2_rec 36 0) (U' := fx12e_rec 36 0) ok ((US_rec ok 36).2 n hn (by omega)) (by omega) (by omega)) (by omega) (by omega) i p C q d r R K k s l b A e e' v w h z o r01) (by omega)
set_option maxHeartbeats 200000 in
theorem x_E {f p : Int32} (h : xc g f p l v) : cG g f p l (fX2_whole_t v) := x_whole (fun v h => x_N h) h
set_option maxHeartbeats 200000 in
theorem y_E {f p : Int32} {B : Nat} (h : xr g f p B w) : rG g f p B (vu (fX12_expression_t w)) := y_expr (fun v h => y_N h) h
end
