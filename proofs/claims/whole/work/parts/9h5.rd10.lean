set_option maxHeartbeats 200000 in
theorem q_bd_eta {α : Type} {X : Option (α × q_V)} : q_bd X (fun y T => some (y, T)) = X := by
  cases X with
  | none => rfl
  | some x => cases x; rfl
set_option maxHeartbeats 200000 in
theorem q_bv_eta {X : Option q_V} : q_bv X (fun T => some T) = X := by cases X <;> rfl
section
variable {g : rd_G} {i n p q d k s l b e e' : Nat} {C : Nat → Int32} {r : Int32} {R : Nat → Nat → Int32} {K : rd_K} {A : rd_A} {v w : q_V}
set_option maxHeartbeats 200000 in
theorem z0_p (ok : rd_ok g) (z : z0 g i p q K.length) : p + 6 ≤ 2 * gL g + 16 ∧ q ≤ 3010 ∧ K.length ≤ 1004 := by
  have := tka_L ok i
  have := ok.1
  obtain ⟨z1, z2, z3⟩ := z
  omega
set_option maxHeartbeats 200000 in
/-- a number -/
theorem u_number {hb Bd : Nat} (ok : rd_ok g) (h : St g i n p C i n q d r R K k s l b A e e' v w) (z : z0 g i p q K.length) (c : tkc g i = 260) (hhb : 1 ≤ hb) : jn g l Bd (EP g i n p C q d r R K k s l b A e e' hb) (fX2_number v) (vu (q_bd (fX12_emit 1 (q_b (q_si w 2410 (q_i w 2410 + 1)) 2406 i).toInt32 0 (q_si w 2410 (q_i w 2410 + 1))) (fun _ T => some T))) := by
  have zp := z0_p ok z
  have hi := (St_im h).1
  have tb := tkn_b c ok.2.1
  obtain ⟨v1, a1, s1⟩ := c_adv ok h (by rw [c]; decide) (by rw [c]; decide)
  obtain ⟨v2, a2, s2⟩ := c_add2 (x := 1) (y := nI (tkn g i)) ok s1 (by omega)
  have s3 := r_now ok s2 (by rw [c]; decide) (by rw [c]; decide)
  obtain ⟨w4, b4, s4⟩ := r_emit (o := 1) (a := nI (tkn g i)) (c := 0) s3 (by omega)
  have en : (q_b (q_si w 2410 (q_i w 2410 + 1)) 2406 i).toInt32 = nI (tkn g i) := by
    rw [q_b_si, r_number ok h hi c]
    exact Int64.toInt32_ofNat'
  unfold fX2_number fX2_number_b34
  rw [q_lt_s, c_number h c, a1, q_bv_s, a2, q_bd_s, en, b4, q_bd_s, vu_some]
  have ht := tka_lt ok (show i < i + 1 by omega) (St_im s4).1
  have fin : ∀ a : Int32, (a = 0 ∨ a = 2) → (a = 2 ↔ 0 < tkn g i) → EP g i n p C q d r R K k s l b A e e' hb a v2 () w4 := by
    intro a ha ha2
    refine ⟨i + 1, p + 2, _, q + 1, r, _, K, e, e', s4, ⟨by omega, by omega, by omega, by omega, by omega, by omega⟩, ⟨fun x hx => by rw [upd_ne (by omega), upd_ne (by omega)], fun j x hj hx => rE_x (by omega), fun j hj => rE_j hj, [], rfl⟩, fun m h1 h2 => ?_, ⟨?_, ?_, ?_⟩, ⟨Nat.le_refl _, Nat.le_refl _⟩, fun x h1 h2 => by rw [show x = q by omega, rE_0, upd_at]; decide, fun T XL _ g1 _ => ?_⟩
    · have : m = i := by omega
      rw [this, c]; decide
    · rcases ha with ha | ha
      · exact Or.inl ha
      · exact Or.inr (Or.inr ha)
    · rw [ha2, pln_1]; exact ⟨fun y => ⟨c, y⟩, fun y => y.2⟩
    · rcases ha with ha | ha <;> rw [if_neg (by rw [ha]; decide)]
    · have c0 := ag_c g1 (Nat.le_refl p) (by omega)
      have c1 := ag_c g1 (show p ≤ p + 1 by omega) (by omega)
      have r0 := ag_r0 g1 (Nat.le_refl q) (by omega)
      rw [upd_ne (by omega), upd_at] at c0
      rw [upd_at] at c1
      rw [rE_0, upd_at] at r0
      have r1 := ag_r1 g1 (Nat.le_refl q) (by omega) (by rw [rE_0, upd_at]; decide)
      rw [rE_1, upd_at] at r1
      exact fun Fin a S f0 H => ru_PUSH hhb c0 c1 r0 r1
  by_cases cz : 0 < tkn g i
  · rw [if_neg (by rw [show (0 : Int32) = nI 0 from rfl, ni_le (by omega) (by omega)]; omega)]
    exact jn_qq (fin 2 (Or.inr rfl) ⟨fun _ => cz, fun _ => rfl⟩)
  · rw [if_pos (by rw [show (0 : Int32) = nI 0 from rfl, ni_le (by omega) (by omega)]; omega)]
    exact jn_qq (fin 0 (Or.inl rfl) ⟨fun y => absurd y (by decide), fun y => absurd y cz⟩)
set_option maxHeartbeats 200000 in
/-- kind and cause -/
theorem u_register {x y c0 : Int32} {hb Bd : Nat} (ok : rd_ok g) (h : St g i n p C i n q d r R K k s l b A e e' v w) (z : z0 g i p q K.length) (c : tkc g i = c0) (hc : c0 = 338 ∧ x = 3 ∧ y = 25 ∨ c0 = 339 ∧ x = 4 ∧ y = 26) (hhb : 1 ≤ hb) : jn g l Bd (EP g i n p C q d r R K k s l b A e e' hb) (fX2_register x v) (vu (q_bd (fX12_emit y 0 0 (q_si w 2410 (q_i w 2410 + 1))) (fun _ T => some T))) := by
  have zp := z0_p ok z
  have hne : tkc g i ≠ 261 ∧ tkc g i ≠ 262 ∧ tkc g i ≠ 300 ∧ tkc g i ≠ 40 ∧ tkc g i ≠ 260 ∧ tkc g i ≠ 41 := by
    rw [c]
    rcases hc with hc | hc <;> (rw [hc.1]; decide)
  obtain ⟨v1, a1, s1⟩ := c_adv ok h hne.1 hne.2.1
  obtain ⟨v2, a2, s2⟩ := c_add (y := x) ok s1 (by omega)
  have s3 := r_now ok s2 hne.1 hne.2.1
  obtain ⟨w4, b4, s4⟩ := r_emit (o := y) (a := 0) (c := 0) s3 (by omega)
  unfold fX2_register
  rw [a1, q_bv_s, a2, q_bd_s, b4, q_bd_s, vu_some]
  refine jn_qq (u_leaf ok s4 hne.2.2.1 rfl (pln_no (by omega) hne.2.2.2.1 hne.2.2.2.2.1 hne.2.2.2.2.2) (by rcases hc with hc | hc <;> (rw [hc.2.2]; decide)) (fun T XL c0 r0 => ?_) hhb)
  rcases hc with hc | hc
  · rw [hc.2.1] at c0; rw [hc.2.2] at r0
    exact fun Fin a S f0 H => ru_KIND (by omega) c0 r0
  · rw [hc.2.1] at c0; rw [hc.2.2] at r0
    exact fun Fin a S f0 H => ru_CAUSE (by omega) c0 r0
set_option maxHeartbeats 200000 in
/-- a variable -/
theorem u_load {hb Bd : Nat} {U N : q_V → Option (Int32 × q_V)} {U' N' : q_V → Option q_V} (ok : rd_ok g) (h : St g i n p C i n q d r R K k s l b A e e' v w) (z : z0 g i p q K.length) (o : ov g i s e e') (c : tkc g i = 259) (c2 : tkc g (i + 1) ≠ 40) (hhb : 1 ≤ hb) : jn g l Bd (EP g i n p C q d r R K k s l b A e e' hb) (fX2_nameOrCall U N v) (vu (q_bd (fX12_known (q_b (q_si w 2410 (q_i w 2410 + 1)) 2406 i) (q_si w 2410 (q_i w 2410 + 1))) (fun y12 T11 => if y12 = (-1) then q_bv (fX12_bad 5 (nI i) T11) (fun T13 => fX12_unit_b219 U' N' (nI i) T13) else fX12_unit_b219 U' N' (nI i) T11))) := by
  have zp := z0_p ok z
  have hi := (St_im h).1
  have hm := ok.2.2.1.2.2
  obtain ⟨v1, a1, s1⟩ := c_adv ok h (by rw [c]; decide) (by rw [c]; decide)
  have s2 := r_now ok s1 (by rw [c]; decide) (by rw [c]; decide)
  obtain ⟨y, y', v3, w3, e1, e1', b1, b2, b3, b4, b5, s3, b6, b7, b8⟩ := j_slot (t := i) ok s2 hi o
  obtain ⟨v4, a4, s4⟩ := c_add2 (x := 2) (y := y) ok s3 (by omega)
  obtain ⟨w5, a5, s5⟩ := r_emit (o := 2) (a := y') (c := 0) s4 (by omega)
  unfold fX2_nameOrCall
  rw [q_lt_s, q_lt_s, c_name h c, c_place h, a1, q_bv_s, c_kind s1, if_neg c2, b1, q_bd_s, a4, q_bd_s, q_b_si, r_name ok h hi c, b2, q_bd_s]
  have f3 : q_b w3 2406 i = tkw g i := r_name ok s3 hi c
  have tl : fX12_unit_b219 U' N' (nI i) w3 = some w5 := by
    unfold fX12_unit_b219 fX12_unit_b364
    rw [if_neg (ni_nin (by omega) (by omega)), ni_clamp (by omega), f3, b3, q_bd_s, a5, q_bd_s]
  have e0 : (if y' = -1 then q_bv (fX12_bad 5 (nI i) (q_si w 2410 (q_i w 2410 + 1))) fun T13 => fX12_unit_b219 U' N' (nI i) T13 else fX12_unit_b219 U' N' (nI i) (q_si w 2410 (q_i w 2410 + 1))) = some w5 := by
    by_cases hy : y' = -1
    · rw [if_pos hy, b4 hy, q_bv_s, tl]
    · rw [if_neg hy, ← b5 hy, tl]
  rw [e0, vu_some]
  have ht := tka_lt ok (show i < i + 1 by omega) (St_im s4).1
  refine jn_qq ⟨i + 1, p + 2, _, q + 1, r, _, K, e1, e1', s5, ⟨by omega, by omega, by omega, by omega, by omega, by omega⟩, ⟨fun x hx => by rw [upd_ne (by omega), upd_ne (by omega)], fun j x hj hx => rE_x (by omega), fun j hj => rE_j hj, [], rfl⟩, fun m h1 h2 => ?_, ⟨Or.inl rfl, ?_, by rw [if_neg (by decide)]⟩, ⟨b6, b7⟩, fun x h1 h2 => by rw [show x = q by omega, rE_0, upd_at]; decide, fun T XL _ g1 ee => ?_⟩
  · have : m = i := by omega
    rw [this, c]; decide
  · exact ⟨fun y => absurd y (by decide), fun y => absurd y (pln_no (by omega) (by rw [c]; decide) (by rw [c]; decide) (by rw [c]; decide))⟩
  · obtain ⟨a, ha, ya, ya'⟩ := b8 ee
    have c0 := ag_c g1 (Nat.le_refl p) (by omega)
    have c1 := ag_c g1 (show p ≤ p + 1 by omega) (by omega)
    have r0 := ag_r0 g1 (Nat.le_refl q) (by omega)
    rw [upd_ne (by omega), upd_at] at c0
    rw [upd_at, ya] at c1
    rw [rE_0, upd_at] at r0
    have r1 := ag_r1 g1 (Nat.le_refl q) (by omega) (by rw [rE_0, upd_at]; decide)
    rw [rE_1, upd_at, ya'] at r1
    exact fun Fin a S f0 H => ru_LOAD hhb ha c0 c1 r0 r1
end
