section
variable {g : rd_G} {i n p q d k s l b e e' : Nat} {C : Nat → Int32} {r : Int32} {R : Nat → Nat → Int32} {K : rd_K} {A : rd_A} {v w : q_V} {T : co_T} {XL : Int32 → Int32 → Int32 → Prop}
set_option maxHeartbeats 200000 in
theorem y_risky {f p : Int32} {B : Nat} {z : Int64} (h : xr g f p B w) : rG g f p B (fX12_risky z w) := by
  unfold fX12_risky fX12_risky_b16
  exact rG_i (fun _ => rG_s h) (fun _ => rG_s h)
set_option maxHeartbeats 200000 in
theorem r_risky {z : Int64} (h : q_i w 2425 = r) : fX12_risky z w = some (if r = 0 then z else z ||| 4, w) := by
  unfold fX12_risky fX12_risky_b16
  rw [h]; split <;> rfl
set_option maxHeartbeats 200000 in
theorem t_end {x y W nt r1 : Int32} {W' : Int64} {c hb i1 p1 q1 e1 e1' : Nat} {C1 : Nat → Int32} {R1 : Nat → Nat → Int32} {K1 : rd_K} (ok : rd_ok g) (hn : 1 ≤ n) (hn2 : n ≤ 14) (hw : wy l W W') (hy : y ≠ 41) {fin : Int64 → q_V → Option (Int64 × q_V)} (hf : ∀ w, q_i w 2425 = r1 → fin W' w = some (if r1 = 0 then W' else W' ||| 4, w)) (hfx : ∀ f p B z w, xr g f p B w → rG g f p B (fin z w)) (z : z0 g i p q K.length) (o : ov g i s e e') (X : AQ g 3 i n p C q d R K k s l b A e e' c hb i1 p1 C1 q1 r1 R1 K1 e1 e1' v w) (hc3 : c ≤ 3) (hnt : nt &&& 1 = 0 ↔ r1 = 0) (sl : p1 + 2 * tka g i + 2 ≤ p + 2 * tka g i1 ∧ q1 + tka g i + 1 ≤ q + tka g i1)
    (H : ∀ T XL, dv_A T XL c hb p p1 q q1 → co_c T p1 x → co_r T 0 q1 y → dv_T T XL n (lsO A.1 b (l - b)) p (p1 + 1) q (q1 + 1)) : jn g l (3300 + 20 * (15 - n)) (SPT g n i p C q d R K k s l b A e e') (q_bd (fX0_add x v) (fun _ T => q_bv (fX9_expect 59 T) (fun T => q_bd (fX8_troubleOf nt T) (fun y T => some (W ||| y, T))))) (q_bv (fX12_takeSign 59 w) (fun T => q_bd (fX12_emit y 0 0 T) (fun _ T => fin W' T))) := by
  have S := X.1
  have t1 := tka_L ok i1
  have hL := ok.1
  obtain ⟨z1, z2, z3⟩ := z
  obtain ⟨_, X2, X3, X4, _, _⟩ := X.2.1
  obtain ⟨v3, a3, s3⟩ := c_add (y := x) ok S (by omega)
  rw [a3, q_bd_s]
  by_cases c59 : tkc g i1 = 59
  · obtain ⟨v4, a4, s4⟩ := c_exp ok s3 c59 (by decide) (by decide)
    obtain ⟨w4, b4, s5⟩ := r_takeS (c := 59) ok s4 rfl (by decide) c59 (by decide) (by decide)
    obtain ⟨w6, b6, s6⟩ := r_emit (o := y) (a := 0) (c := 0) s5 (by omega)
    rw [a4, q_bv_s, tr_of, q_bd_s, b4, q_bv_s, b6, q_bd_s, hf w6 s6.2.2.2.2.1.1.2.2.2.2.2.2]
    exact jn_qq (mkT ok X s6 (by rw [c59]; decide) o sl (wy_tr hw hnt) hc3 hy H)
  · obtain ⟨v4, a4, x4⟩ := c_expX s3 c59
    obtain ⟨w4, b4, y4⟩ := r_takeSX (c := 59) (Bd := 3011) ok s3 rfl (by decide) c59 (by omega)
    rw [a4, q_bv_s, tr_of, q_bd_s, b4, q_bv_s]
    exact jn_xx (cG_s x4) (rG_d (y_emit (by omega) y4) (fun a w h => hfx _ _ _ _ _ (xr_le h (by omega))))
set_option maxHeartbeats 200000 in
/-- stop -/
theorem t_stop (ok : rd_ok g) (hn : 1 ≤ n) (hn2 : n ≤ 14) (hc : tkc g i ≠ 261 ∧ tkc g i ≠ 262 ∧ tkc g i ≠ 300) : TS g n i fX8_stop (fX12_order 0 37 0) := by
  intro p C q d R K k s l b A e e' v w h z o hln
  obtain ⟨z, zd, zs⟩ := z
  obtain ⟨v1, a1, s1⟩ := c_adv ok h hc.1 hc.2.1
  have s2 := r_now ok s1 hc.1 hc.2.1
  have X0 := AQ_0 (M := 3) (i := i) (hb := 0) ok s2 (by omega) (fun u h1 h2 => by rw [show u = i by omega]; exact hc.2.2) (Or.inl rfl)
  have J := t_end (x := 44) (y := 37) (W := 0) (W' := 0) (nt := 0) (fin := fun z w => some (z, w)) ok hn hn2 wy_k.1 (by decide) (fun w _ => by rw [if_pos rfl]) (fun f p B z w h => rG_s h) z o X0 (by omega) (by decide) (by have := tka_lt ok (show i < i + 1 by omega) (St_im s2).1; omega) (fun T XL y0 c0 r0 => fun Fin a S f0 H => ru_STS (ru_STOP H.1 c0 r0))
  unfold fX8_stop fX12_order
  rw [a1, q_bv_s, q_lt_s, q_N1, fX12_order_L13, if_pos (by decide)]
  obtain ⟨v3, a3, s3⟩ := c_add (y := 44) ok s2 (by have := z0_p ok (z0_s ok z (show i ≤ i + 1 by omega) (St_im s2).1); omega)
  rw [a3, q_bd_s] at J ⊢
  simp only [tr_of, q_bd_s] at J
  exact J
set_option maxHeartbeats 200000 in
/-- answer -/
theorem t_answer (ok : rd_ok g) (hn : 1 ≤ n) (hn2 : n ≤ 14) (hkw : tkc g i = 311) (hc : tkc g i ≠ 261 ∧ tkc g i ≠ 262 ∧ tkc g i ≠ 300) : TS g n i fX8_answer fX12_answer := by
  intro p C q d R K k s l b A e e' v w h z o hln
  obtain ⟨z, zd, zs⟩ := z
  have zp := z0_p ok z
  obtain ⟨v1, a1, s1⟩ := c_adv ok h hc.1 hc.2.1
  have s2 := r_now ok s1 hc.1 hc.2.1
  have him := (St_im s2).1
  have t0 := tka_lt ok (show i < i + 1 by omega) him
  have X0 := AQ_0 (M := 3) (i := i) (hb := 10 * (14 - n) + 6) ok s2 (by omega) (fun u h1 h2 => by rw [show u = i by omega]; exact hc.2.2) (Or.inl rfl)
  have ANS : ∀ T XL (p1 q1 : Nat), dv_A T XL 1 (10 * (14 - n) + 6) p p1 q q1 → co_c T p1 42 → co_r T 0 q1 38 → dv_T T XL n (lsO A.1 b (l - b)) p (p1 + 1) q (q1 + 1) := fun T XL p1 q1 y0 c0 r0 => fun Fin a S f0 H => ru_ANS (y0 Fin a S f0 H) (by omega) (by omega) c0 r0
  have fr : ∀ w r, q_i w 2425 = r → (fun (z : Int64) w => q_bd (fX12_risky z w) (fun z T => some (z, T))) 2 w = some (if r = 0 then 2 else 2 ||| 4, w) := fun w r h => by
    dsimp only; rw [r_risky h, q_bd_s]
  have fx : ∀ f p B z w, xr g f p B w → rG g f p B ((fun (z : Int64) w => q_bd (fX12_risky z w) (fun z T => some (z, T))) z w) := fun f p B z w h => rG_d (y_risky h) (fun a w h => rG_s h)
  unfold fX8_answer fX12_answer fX8_answer_b42 fX12_answer_b34
  rw [a1, q_bv_s, q_lt_s, c_kind s1, r_sign (c := 59) ok s2 rfl (by decide), q_bd_s, lx_i0]
  by_cases c59 : tkc g (i + 1) = 59
  · obtain ⟨v3, a3, s3⟩ := c_add2 (x := 1) (y := 0) ok s2 (by omega)
    obtain ⟨w4, b4, s4⟩ := r_emit (o := 1) (a := 0) (c := 0) s3 (by omega)
    rw [if_pos c59, if_pos c59, a3, q_bd_s, b4, q_bd_s]
    have X1 : AQ g 3 i n p C q d R K k s l b A e e' 1 (10 * (14 - n) + 6) (i + 1) (p + 2) (upd (upd C p 1) (p + 1) 0) (q + 1) 0 (rE R q 1 0 0) K e e' v3 w4 := by
      refine ⟨s4, ⟨by omega, by omega, by omega, by omega, by omega, by omega⟩, ⟨fun x hx => by rw [upd_ne (by omega), upd_ne (by omega)], fun j x hj hx => rE_x (by omega), fun j hj => rE_j hj, [], rfl⟩, fun u h1 h2 => by rw [show u = i by omega]; exact hc.2.2, ⟨Nat.le_refl _, Nat.le_refl _⟩, Or.inl rfl, fun x h1 h2 => by rw [show x = q by omega, rE_0, upd_at]; decide, fun T XL _ g1 _ _ => ?_⟩
      have c0 := ag_c g1 (Nat.le_refl p) (by omega)
      have c1 := ag_c g1 (show p ≤ p + 1 by omega) (by omega)
      have r0 := ag_r0 g1 (Nat.le_refl q) (by omega)
      rw [upd_ne (by omega), upd_at] at c0
      rw [upd_at] at c1
      rw [rE_0, upd_at] at r0
      have r1 := ag_r1 g1 (Nat.le_refl q) (by omega) (by rw [rE_0, upd_at]; decide)
      rw [rE_1, upd_at] at r1
      exact fun Fin a S f0 H => ru_PUSH (by omega) c0 c1 r0 r1
    exact t_end (nt := 0) ok hn hn2 wy_k.2.2.1 (by decide) (fun w => fr w _) fx z o X1 (by omega) (by decide) (by have := kw_2 (j := 11) ok (by omega) hkw; omega) (fun T XL => ANS T XL _ _)
  · rw [if_neg c59, if_neg c59]
    have J := US_E ok hn2 (i + 1) p C q d 0 R K k s l b A e e' v1 _ s2 (z0_s ok z (by omega) him) (ov_m ok o (by omega) him (Nat.le_refl _) (Nat.le_refl _)) (Or.inl rfl)
    refine jn_dv J (fun f p a v h => ?_) (fun f p w h => ?_) ?_
    · exact cG_d (x_add ok h) (fun a v h => cG_v (x_exp h) (fun v h => by rw [tr_of, q_bd_s]; exact cG_s h))
    · exact rG_v (y_takeS h) (fun w h => rG_d (y_emit (by omega) h) (fun a w h => fx _ _ _ _ _ (xr_le h (by omega))))
    · intro a v5 w5 E
      obtain ⟨i3, p3, C3, q3, r3, R3, K3, e3, e3', E⟩ := E
      have X2 := AQ_s ok X0 E (Nat.le_refl _) (fun u h1 h2 => absurd h1 (by omega)) (by omega) (Or.inl rfl)
      refine t_end (nt := a) ok hn hn2 wy_k.2.2.1 (by decide) (fun w => fr w _) fx z o X2 (by omega) ?_ (by obtain ⟨E1, E2, E3, _, _, _⟩ := E.2.1; omega) (fun T XL => ANS T XL _ _)
      have E5 := E.2.2.2.2.1
      rw [E5.2.2]
      rcases E5.1 with ca | ca | ca <;> (rw [ca]; decide)
set_option maxHeartbeats 200000 in
/-- an E's, an order with a number behind it, and the ; : names may be told meanwhile -/
theorem mkT2 {hb m i1 p1 q1 e1 e1' k2 s2 e2 e2' : Nat} {A2 : rd_A} {C1 : Nat → Int32} {r1 r2 x x2 y y2 o : Int32} {z : Int64} {R1 : Nat → Nat → Int32} {K1 : rd_K} {v1 w1 : q_V} (ok : rd_ok g) (X : AQ g 3 i n p C q d R K k s l b A e e' m hb i1 p1 C1 q1 r1 R1 K1 e1 e1' v1 w1) (S : St g (i1 + 1) n (p1 + 2) (upd (upd C1 p1 x) (p1 + 1) x2) (i1 + 1) n (q1 + 1) d r2 (rE R1 q1 y y2 0) K1 k2 s2 l b A2 e2 e2' v w) (hc : tkc g i1 ≠ 300) (hov : ov g (i1 + 1) s2 e2 e2') (sl : p1 + 2 * tka g i + 2 ≤ p + 2 * tka g i1 ∧ q1 + tka g i + 1 ≤ q + tka g i1) (hw : wy l o z) (hm : m ≤ 3) (hy : y ≠ 41 ∧ y ≠ 19) (hA : A2.1 = A.1 ∧ A2.2.1 = A.2.1 ∧ A2.2.2.1 = A.2.2.1) (he : e2 ≤ e1 ∧ e2' ≤ e1') (hks : k ≤ k2 ∧ s ≤ s2 ∧ 2 * s2 + tka g i ≤ 2 * s + tka g (i1 + 1)) (H : ∀ T XL, e2 = rd_N → dv_A T XL m hb p p1 q q1 → co_c T p1 x → co_c T (p1 + 1) x2 → co_r T 0 q1 y → co_r T 1 q1 y2 → dv_T T XL n (lsO A.1 b (l - b)) p (p1 + 2) q (q1 + 1)) : SPT g n i p C q d R K k s l b A e e' o v z w := by
  obtain ⟨X0, ⟨X1, X2, X3, X4, X5, X6⟩, ⟨X7, X8, X9, X10⟩, X11, X12, X13, X14⟩ := X
  have hi1 := (St_im S).1
  have t := tka_lt ok (show i1 < i1 + 1 by omega) hi1
  refine ⟨i1 + 1, p1 + 2, _, q1 + 1, d, r2, _, K1, k2, s2, A2, e2, e2', [], ⟨S, ⟨by omega, by omega, by omega, by omega, by omega, by omega, by omega, by omega, by omega, by omega, by omega⟩, ⟨fun x hx => by rw [upd_ne (by omega), upd_ne (by omega)]; exact X7 x hx, fun j x hj hx => by rw [rE_x (by omega)]; exact X8 j x hj hx, fun j x hj _ => by rw [rE_j hj, X9 j hj], X10⟩, fun u h1 h2 => ?_, ⟨hA.1, hw, fun z => by unfold wl at z ⊢; rw [hA.2.1, hA.2.2]; exact z⟩, ⟨by omega, by omega⟩, hov, fun x h1 h2 => ?_, fun T XL x1 x2 x3 x4 => ⟨?_, fun y hy => absurd hy (by simp)⟩⟩, by omega, by omega⟩
  · by_cases c : u = i1
    · rw [c]; exact hc
    · exact X11 u h1 (by omega)
  · by_cases c : x = q1
    · rw [c, rE_0, upd_at]; exact fun z => absurd z hy.1
    · rw [rE_x c]; exact fun z => absurd z (i30 (X14.1 x h1 (by omega)))
  · have c0 := ag_c x2 (show p ≤ p1 by omega) (by omega)
    have c1 := ag_c x2 (show p ≤ p1 + 1 by omega) (by omega)
    have r0 := ag_r0 x2 (show q ≤ q1 by omega) (by omega)
    have r1 := ag_r1 x2 (show q ≤ q1 by omega) (by omega) (by rw [rE_0, upd_at]; exact hy.2)
    rw [upd_ne (by omega), upd_at] at c0
    rw [upd_at] at c1
    rw [rE_0, upd_at] at r0
    rw [rE_1, upd_at] at r1
    refine H T XL x3 (X14.2 T XL x1 ?_ (by have := bl_le X0.2.2.2.2.2.2.1; omega) hm) c0 c1 r0 r1
    exact ag_E x2 (Nat.le_refl _) (by omega) (Nat.le_refl _) (by omega) (fun x _ hx => by rw [upd_ne (by omega), upd_ne (by omega)]) (fun j x _ _ hx => rE_x (by omega)) (fun m hm => hm)
end
