section
variable {g : rd_G} {i n p q d k s l b e e' : Nat} {C : Nat → Int32} {r : Int32} {R : Nat → Nat → Int32} {K : rd_K} {A : rd_A} {v w : q_V} {T : co_T} {XL : Int32 → Int32 → Int32 → Prop}
set_option maxHeartbeats 200000 in
/-- what a name means stays while the variables that are known stay -/
theorem r_same {f : Nat → Int64 × Nat} {x : Int64} {y : Int32} {w' : q_V} (h1 : q_i w 2441 = nI k) (h2 : q_i w' 2441 = nI k) (hk : k ≤ 1600) (g1 : ∀ j, j < k → q_b w 2439 j = (f j).1 ∧ q_a w 2440 j = nI (f j).2) (g2 : ∀ j, j < k → q_b w' 2439 j = (f j).1 ∧ q_a w' 2440 j = nI (f j).2) (h : fX12_known x w = some (y, w)) : fX12_known x w' = some (y, w') := by
  obtain ⟨y1, a1, a2⟩ := r_find (x := x) h1 hk
  obtain ⟨y2, b1, b2⟩ := r_find (x := x) h2 hk
  have e : y1 = y := (Prod.mk.inj (Option.some.inj (a1.symm.trans h))).1
  subst e
  rw [b1]
  have a3 : (y1 = -1 ∧ ∀ j, j < k → q_b w' 2439 j ≠ x) ∨ ∃ j, j < k ∧ q_b w' 2439 j = x ∧ y1 = q_a w' 2440 j ∧ ∀ m, j < m → m < k → q_b w' 2439 m ≠ x := by
    rcases a2 with ⟨c1, c2⟩ | ⟨j, c1, c2, c3, c4⟩
    · exact Or.inl ⟨c1, fun j hj => by rw [(g2 j hj).1, ← (g1 j hj).1]; exact c2 j hj⟩
    · exact Or.inr ⟨j, c1, by rw [(g2 j c1).1, ← (g1 j c1).1]; exact c2, by rw [(g2 j c1).2, ← (g1 j c1).2]; exact c3, fun m h1 h2 => by rw [(g2 m h2).1, ← (g1 m h2).1]; exact c4 m h1 h2⟩
  rw [r_find1 a3 b2]
set_option maxHeartbeats 200000 in
theorem x_slot {f p : Int32} {x : Int64} {y : Int32} {c : Nat} (h : xc g f p l v) (h5 : q_i v 1005 = nI c) (hc : c ≤ 24) : cG g f p l (fX5_slotOf x y v) := by
  obtain ⟨u, a1, _⟩ := c_find (x := x) h5 hc
  unfold fX5_slotOf fX5_slotOf_b19
  rw [a1, q_bd_s]
  exact cG_i (fun _ => cG_v (x_blame h) (fun v h => cG_s h)) (fun _ => cG_s h)
set_option maxHeartbeats 200000 in
/-- an assignment: the name was passed, the = is at hand -/
theorem t_assign {B' : q_V → Option (Int64 × q_V)} {v1 w1 : q_V} (ok : rd_ok g) (hn : 1 ≤ n) (hn2 : n ≤ 14) (hc : tkc g i = 259) (c1 : tkc g (i + 1) = 61) (h : St g i n p C i n q d 0 R K k s l b A e e' v w) (s1 : St g (i + 1) n p C (i + 1) n q d 0 R K k s l b A e e' v1 w1) (z : z1 g n i p q K.length d s) (o : ov g i s e e') :
    jn g l (3300 + 20 * (15 - n)) (SPT g n i p C q d R K k s l b A e e') (q_bd (fX5_slotOf (tkw g i) (nI (tka g i)) v1) (fun y24 T23 => q_bd (fX8_assign y24 T23) (fun y26 T25 => some (y26, T25)))) (q_bv (fX12_takeSign 61 w1) (fun T6 => q_bd (fX12_fine T6) (fun y8 T7 => if y8 = 0 then fX12_named_b171 B' (nI i) T7 else if nI i < 0 ∨ 3002 ≤ (nI i).toNatClampNeg then none else q_bd (fX12_known (q_b T7 2406 (nI i).toNatClampNeg) T7) (fun y11 T10 => if y11 = (-1) then q_bv (fX12_bad 5 (nI i) T10) (fun T12 => fX12_named_b171 B' (nI i) T12) else fX12_named_b171 B' (nI i) T10)))) := by
  obtain ⟨z, zd, zs⟩ := z
  have zp := z0_p ok z
  have hL := ok.1
  have hm3 := ok.2.2.1.2.2
  have hi := (St_im h).1
  have ii : ¬ (nI i < 0 ∨ 3002 ≤ (nI i).toNatClampNeg) := ni_nin (by omega) (by omega)
  have ic : (nI i).toNatClampNeg = i := ni_clamp (by omega)
  obtain ⟨w2, b2, s2⟩ := r_takeS (c := 61) ok s1 rfl (by decide) c1 (by decide) (by decide)
  obtain ⟨y, y', v3, w3, e3, e3', j1, j2, j3, j4, j5, s3, j6, j7, j8⟩ := j_slot (t := i) ok s2 hi o
  obtain ⟨v4, a4, s4⟩ := c_adv ok s3 (by rw [c1]; decide) (by rw [c1]; decide)
  have him := (St_im s4).1
  have t0 := tka_lt ok (show i < i + 1 by omega) (by omega)
  have t1 := tka_lt ok (show i + 1 < i + 2 by omega) (by omega)
  have J := US_E ok hn2 (i + 2) p C q d 0 R K k s l b A e3 e3' v4 w3 s4 (z0_s ok z (by omega) him) (ov_m ok o (by omega) him j6 j7) (Or.inl rfl)
  have X0 := AQ_0 (M := 3) (i := i) (hb := 10 * (14 - n) + 6) ok s4 (by omega) (fun u h1 h2 => by
    by_cases u1 : u = i
    · rw [u1, hc]; decide
    · rw [show u = i + 1 by omega, c1]; decide) (Or.inl rfl)
  rw [j1, q_bd_s, q_bd_eta, b2, q_bv_s, r_fine s2, q_bd_s, if_neg (show ¬ (1 : Int32) = 0 by decide), if_neg ii, ic, r_name ok s2 hi hc, j2, q_bd_s]
  have e0 : (if y' = -1 then q_bv (fX12_bad 5 (nI i) w2) (fun T12 => fX12_named_b171 B' (nI i) T12) else fX12_named_b171 B' (nI i) w2) = fX12_named_b171 B' (nI i) w3 := by
    by_cases hy : y' = -1
    · rw [if_pos hy, j4 hy, q_bv_s]
    · rw [if_neg hy, j5 hy]
  rw [e0]
  unfold fX8_assign fX12_named_b171
  rw [a4, q_bv_s]
  have tr : ∀ f p B w, xr g f p B w → B < 4000 → B + 1 ≤ 3300 + 20 * (15 - n) → rG g f p (3300 + 20 * (15 - n)) (q_bv (fX12_takeSign 59 w) (fun T1002 => if nI i < 0 ∨ 3002 ≤ (nI i).toNatClampNeg then none else q_bd (fX12_known (q_b T1002 2406 (nI i).toNatClampNeg) T1002) (fun y1005 T1004 => q_bd (fX12_emit 3 y1005 0 T1004) (fun y1007 T1006 => q_bd (fX12_risky 1 T1006) (fun z1009 T1008 => some (z1009, T1008)))))) := by
    intro f p B w h h1 h2
    refine rG_v (y_takeS h) (fun w h => ?_)
    obtain ⟨y9, e9⟩ := y_known (x := q_b w 2406 (nI i).toNatClampNeg) h
    rw [if_neg ii, e9, q_bd_s]
    exact rG_d (y_emit h1 h) (fun a w h => rG_le (rG_d (y_risky h) (fun a w h => rG_s h)) h2)
  refine jn_dv J (fun f p a v h => ?_) (fun f p w h => tr f p _ w h (by omega) (by omega)) ?_
  · exact cG_d (x_add2 ok h) (fun a v h => cG_v (x_exp h) (fun v h => by rw [tr_of, q_bd_s]; exact cG_s h))
  · intro a v7 w7 E
    obtain ⟨i3, p3, C3, q3, r3, R3, K3, e5, e5', E⟩ := E
    have X2 := AQ_s ok X0 E (Nat.le_refl _) (fun u h1 h2 => absurd h1 (by omega)) (by omega) (Or.inl rfl)
    have E5 := E.2.2.2.2.1
    have E1 := E.2.1.1
    have S := X2.1
    have hi3 := (St_im S).1
    have t9 := tka_L ok i3
    obtain ⟨z1, z2, z3⟩ := z
    obtain ⟨_, Y2, Y3, Y4, _, _⟩ := X2.2.1
    obtain ⟨v8, a8, s8⟩ := c_add2 (x := 27) (y := y) ok S (by omega)
    rw [a8, q_bd_s]
    by_cases c59 : tkc g i3 = 59
    · obtain ⟨v9, a9, s9⟩ := c_exp ok s8 c59 (by decide) (by decide)
      obtain ⟨w10, b10, s10⟩ := r_takeS (c := 59) ok s9 rfl (by decide) c59 (by decide) (by decide)
      obtain ⟨w12, b12, s12⟩ := r_emit (o := 3) (a := y') (c := 0) s10 (by omega)
      have him12 := (St_im s12).1
      have t10 := tka_lt ok (show i3 < i3 + 1 by omega) him12
      have N3 := s3.2.2.2.2.2.1
      have N10 := s10.2.2.2.2.2.1
      have kn := r_same N3.1.2.2.1 N10.1.2.2.1 (by have := N3.1.2.2.2; omega) N3.2.2.2.2.1.2 N10.2.2.2.2.1.2 j3
      rw [a9, q_bv_s, tr_of, q_bd_s, b10, q_bv_s, if_neg ii, ic, r_name ok s10 hi hc, kn, q_bd_s, b12, q_bd_s, r_risky s12.2.2.2.2.1.1.2.2.2.2.2.2, q_bd_s]
      have X3 : AQ g 3 i n p C q d R K k s l b A e e' 1 (10 * (14 - n) + 6) i3 p3 C3 q3 r3 R3 K3 e5 e5' v7 w7 := ⟨X2.1, X2.2.1, X2.2.2.1, X2.2.2.2.1, ⟨by have := X2.2.2.2.2.1.1; omega, by have := X2.2.2.2.2.1.2; omega⟩, X2.2.2.2.2.2⟩
      refine jn_qq (mkT2 ok X3 s12 (by rw [c59]; decide) (ov_m ok o (by omega) him12 X3.2.2.2.2.1.1 X3.2.2.2.2.1.2) (by obtain ⟨E1, E2, E3, _, _, _⟩ := E.2.1; omega) (wy_tr wy_k.2.1 ?_) (by omega) ⟨by decide, by decide⟩ ⟨rfl, rfl, rfl⟩ ⟨Nat.le_refl _, Nat.le_refl _⟩ ⟨by omega, by omega, by omega⟩ (fun T XL ee y0 c0 c1 r0 r1 => ?_))
      · rw [E5.2.2]
        rcases E5.1 with ca | ca | ca <;> (rw [ca]; decide)
      · have := bl_le s3.2.2.2.2.2.2.1
        obtain ⟨x, hx, ya, ya'⟩ := j8 (by have := X2.2.2.2.2.1.1; omega)
        rw [ya] at c1
        rw [ya'] at r1
        exact fun Fin a S f0 H => ru_STORE (y0 Fin a S f0 H) (by omega) (by omega) hx c0 c1 r0 r1
    · obtain ⟨v9, a9, x9⟩ := c_expX s8 c59
      obtain ⟨w10, b10, y10⟩ := r_takeSX (c := 59) (Bd := 3011) ok s8 rfl (by decide) c59 (by omega)
      obtain ⟨y9, e9⟩ := y_known (x := q_b w10 2406 i) y10
      rw [a9, q_bv_s, tr_of, q_bd_s, b10, q_bv_s, if_neg ii, ic, e9, q_bd_s]
      exact jn_xx (cG_s x9) (rG_d (y_emit (by omega) y10) (fun a w h => rG_le (rG_d (y_risky h) (fun a w h => rG_s h)) (by omega)))
set_option maxHeartbeats 200000 in
/-- a call as a statement -/
theorem t_call {v1 w1 : q_V} (ok : rd_ok g) (hn : 1 ≤ n) (hn2 : n ≤ 14) (hc : tkc g i = 259) (c1 : tkc g (i + 1) = 40) (h : St g i n p C i n q d 0 R K k s l b A e e' v w) (s1 : St g (i + 1) n p C (i + 1) n q d 0 R K k s l b A e e' v1 w1) (z : z1 g n i p q K.length d s) (o : ov g i s e e') :
    jn g l (3300 + 20 * (15 - n)) (SPT g n i p C q d R K k s l b A e e') (q_bv (fX2_callOf_t (tkw g i) (nI (tka g i)) v1) (fun T8 => q_bd (fX0_add_ 26 1 T8) (fun y11 T10 => q_bv (fX9_expect 59 T10) (fun T13 => some (5, T13))))) (q_bv (fX12_call_t (nI i) w1) (fun T17 => q_bv (fX12_takeSign 59 T17) (fun T18 => q_bd (fX12_emit 4 0 0 T18) (fun y20 T19 => some (5, T19))))) := by
  obtain ⟨z, zd, zs⟩ := z
  have hL := ok.1
  have J : jn g l (3109 + 10 * (14 - n)) (fun (_ : Unit) v _ w => ∃ i1 p1 C1 q1 r1 R1 K1 e1 e1', EQ g i n p C q d 0 R K k s l b A e e' (10 * (14 - n) + 4) 1 i1 p1 C1 q1 r1 R1 K1 e1 e1' v w ∧ p1 + 2 * tka g i + 4 ≤ p + 2 * tka g i1 ∧ q1 + tka g i + 2 ≤ q + tka g i1) (vu (fX2_callOf_t (tkw g i) (nI (tka g i)) v1)) (vu (fX12_call_t (nI i) w1)) := by
    by_cases h14 : n = 14
    · exact u_call (hw := 0) (Bw := 0) ok h s1 z o (Or.inl rfl) hc c1 (fun q => absurd q (by omega)) (fun f p l v h => x_E h) (fun f p B w h => y_E h) (fun q => absurd q (by omega)) (fun q => absurd q (by omega)) (by omega) (by omega)
    · exact u_call (hw := 10 * (14 - (n + 1)) + 4) (Bw := 3109 + 10 * (14 - (n + 1))) ok h s1 z o (Or.inl rfl) hc c1 (fun q => US_E ok (by omega)) (fun f p l v h => x_E h) (fun f p B w h => y_E h) (fun q => by omega) (fun q => by omega) (by omega) (by omega)
  have X0 := AQ_0 (M := 3) (i := i) (hb := 10 * (14 - n) + 6) ok h (Nat.le_refl _) (fun u h1 h2 => absurd h1 (by omega)) (Or.inl rfl)
  refine jn_vv J (fun f p v h => ?_) (fun f p w h => ?_) ?_
  · exact cG_d (x_add2 ok h) (fun a v h => cG_v (x_exp h) (fun v h => cG_s h))
  · exact rG_v (y_takeS h) (fun w h => rG_d (y_emit (by omega) h) (fun a w h => rG_s (xr_le h (by omega))))
  · intro v7 w7 E
    obtain ⟨i3, p3, C3, q3, r3, R3, K3, e5, e5', E, sl1, sl2⟩ := E
    have X2 := AQ_s ok X0 E (Nat.le_refl _) (fun u h1 h2 => absurd h1 (by omega)) (by omega) (Or.inl rfl)
    have S := X2.1
    have E1 := E.2.1.1
    have hi3 := (St_im S).1
    have t9 := tka_L ok i3
    obtain ⟨z1, z2, z3⟩ := z
    obtain ⟨_, Y2, Y3, Y4, _, _⟩ := X2.2.1
    obtain ⟨v8, a8, s8⟩ := c_add2 (x := 26) (y := 1) ok S (by omega)
    rw [a8, q_bd_s]
    by_cases c59 : tkc g i3 = 59
    · obtain ⟨v9, a9, s9⟩ := c_exp ok s8 c59 (by decide) (by decide)
      obtain ⟨w10, b10, s10⟩ := r_takeS (c := 59) ok s9 rfl (by decide) c59 (by decide) (by decide)
      obtain ⟨w12, b12, s12⟩ := r_emit (o := 4) (a := 0) (c := 0) s10 (by omega)
      have him12 := (St_im s12).1
      have t10 := tka_lt ok (show i3 < i3 + 1 by omega) him12
      have t11 := tka_lt ok (show i < i3 by omega) hi3
      rw [a9, q_bv_s, b10, q_bv_s, b12, q_bd_s]
      refine jn_qq (mkT2 ok X2 s12 (by rw [c59]; decide) (ov_m ok o (by omega) him12 X2.2.2.2.2.1.1 X2.2.2.2.2.1.2) (by omega) wy_k.2.2.2.2 (by omega) ⟨by decide, by decide⟩ ⟨rfl, rfl, rfl⟩ ⟨Nat.le_refl _, Nat.le_refl _⟩ ⟨by omega, by omega, by omega⟩ (fun T XL ee y0 c0 c1 r0 r1 => ?_))
      exact fun Fin a S f0 H => ru_DROP (y0 Fin a S f0 H) (by omega) (by omega) c0 c1 r0
    · obtain ⟨v9, a9, x9⟩ := c_expX s8 c59
      obtain ⟨w10, b10, y10⟩ := r_takeSX (c := 59) (Bd := 3011) ok s8 rfl (by decide) c59 (by omega)
      rw [a9, q_bv_s, b10, q_bv_s]
      exact jn_xx (cG_s x9) (rG_d (y_emit (by omega) y10) (fun a w h => rG_s (xr_le h (by omega))))
end
