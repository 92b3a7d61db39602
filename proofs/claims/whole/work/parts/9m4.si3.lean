section
variable {g : rd_G} {i n p i' n' q d k s l b e e' : Nat} {C : Nat → Int32} {r : Int32} {R : Nat → Nat → Int32} {K : rd_K} {A : rd_A} {v w : q_V} {T : co_T} {XL : Int32 → Int32 → Int32 → Prop}
variable {B : q_V → Option (Int32 × q_V)} {B' : q_V → Option (Int64 × q_V)}
section
variable {Kc : Int32 → Int32 → Int32 → Int32 → Int32 → q_V → Option (Int32 × q_V)} {Kr : Int64 → Int32 → Int32 → q_V → Option (Int64 × q_V)} {a1 a2 a4 any nt y y6 y17 xn3 : Int32} {wt0 z : Int64} {c : Nat} {S : q_V}
set_option maxHeartbeats 200000 in
theorem w_Fc : (if a4 = 0 then q_bd (fX8_troubleOf nt S) (fun y12 T => fX8_choose_b178 B a1 y6 a4 (nI c) any (y ||| y12) a2 Kc T) else fX8_choose_b178 B a1 y6 a4 (nI c) any 0 a2 Kc S) = Kc a1 (a2 ||| (if a4 = 0 then (y ||| (if nt &&& 1 = 0 then 0 else 4)) else 0)) y6 (a4 ||| any) (nI (c + 1)) S := by
  unfold fX8_choose_b178
  by_cases h : a4 = 0
  · simp only [if_pos h, q_lt_s, tr_of, q_bd_s, ni_add1]
  · simp only [if_neg h, q_lt_s, ni_add1]
set_option maxHeartbeats 200000 in
theorem w_93 : fX12_choose_b93 B' xn3 a4 any y17 wt0 Kr S = q_bd (B' S) (fun z T => q_bd (fX12_emit 41 (-1) xn3 T) (fun _ T => if (y17) < 0 ∨ 4000 ≤ (y17).toNatClampNeg then none else q_lt (q_sa T 2415 (upd (q_a T 2415) y17.toNatClampNeg (q_i T 2417))) (fun T => Kr (if a4 = 0 then wt0 ||| z else wt0) xn3 (if a4 = 0 then (if any = 0 then 0 else 1) else 1) T))) := by
  unfold fX12_choose_b93 fX12_choose_b113 fX12_choose_b124 fX12_choose_b129
  by_cases h : a4 = 0
  · by_cases h2 : any = 0
    · simp only [if_pos h, if_pos h2]
    · simp only [if_pos h, if_neg h2]
  · simp only [if_neg h]
set_option maxHeartbeats 200000 in
theorem or_4 {a b c d : Int32} : (a ||| (b ||| c)) ||| d = ((a ||| d) ||| c) ||| b := by
  rw [Int32.or_comm b c, ← Int32.or_assoc, Int32.or_assoc (a ||| c), Int32.or_comm b d, ← Int32.or_assoc, Int32.or_assoc a c d, Int32.or_comm c d, ← Int32.or_assoc]
end
set_option maxHeartbeats 200000 in
/-- one when -/
theorem t_when {c Bd i1 p1 q1 d1 s1 e1 e1' : Nat} {C1 : Nat → Int32} {r1 x a1 a2 a4 : Int32} {wn1 : Int64} {R1 : Nat → Nat → Int32} {K1 : rd_K} {A1 : rd_A} {Y : rd_Y} {ch : List Nat} {v1 w1 : q_V} {Kc : Int32 → Int32 → Int32 → Int32 → Int32 → q_V → Option (Int32 × q_V)} {Kr : Int64 → Int32 → Int32 → q_V → Option (Int64 × q_V)} {Q : Int32 → q_V → Int64 → q_V → Prop} (ok : rd_ok g) (hn : 1 ≤ n) (hn2 : n + 1 ≤ 14) (hB : BS g (n + 1) B B') (hxB : ∀ f p l v, xc g f p l v → cG g f p l (B v)) (hyB : ∀ f p Bd w, xr g f p Bd w → rG g f p Bd (B' w))
    (z : (p ≤ 2 * tka g i + 8 ∧ q ≤ tka g i + 9 ∧ 3 * K.length ≤ tka g i + 10) ∧ 5 * d ≤ tka g i + 10 + n ∧ 2 * s ≤ tka g i + 10) (hln : l ≤ n ∧ LB A l p d) (X : CQ g i n p C q d R K k s l b A e e' ch x i1 p1 C1 q1 d1 r1 R1 K1 s1 A1 e1 e1' Y v1 w1) (h : St g (i1 + 1) (n + 1) p1 C1 (i1 + 1) (n + 1) q1 d1 r1 R1 K1 k s1 l b A1 e1 e1' v w) (hc : tkc g i1 = 324) (h4 : a4 = 0 ∨ a4 = 1) (hw : wy l (a2 ||| a1) wn1)
    (hBd : 3301 + 20 * (14 - n) ≤ Bd) (hKc : ∀ f p a b c d e v, xc g f p l v → cG g f p l (Kc a b c d e v)) (hKr : ∀ f p a c w, xr g f p (3301 + 20 * (14 - (n + 1))) w → rG g f p Bd (Kr a (nI q) c w))
    (hK : ∀ a2 a4 wn1 i2 pa p2 C2 q2 d2 r2 R2 K2 s2 A2 e2 e2' Y v w, (a4 = 0 ∨ a4 = 1) → wy l (a2 ||| a1) wn1 → i1 < i2 → CQ g i n p C q d R K k s l b A e e' (pa :: ch) (nI pa) i2 p2 C2 q2 d2 r2 R2 K2 s2 A2 e2 e2' Y v w → jn g l Bd Q (Kc a1 a2 (nI pa) a4 (nI (c + 1)) v) (Kr wn1 (nI q) a4 w)) :
    jn g l Bd Q (if q_i v 1805 = 316 then fX8_choose_b83 B a1 a2 x a4 (nI c) 1 Kc v else fX8_choose_b83 B a1 a2 x a4 (nI c) 0 Kc v) (q_bd (fX12_is 26 w) (fun y14 T13 => q_lt (q_si T13 2425 0) (fun T15 => q_bd (fX12_list 59 58 T15) (fun y17 T16 => if a4 = 0 then q_bd (fX12_risky wn1 T16) (fun z19 T18 => fX12_choose_b93 B' (nI q) a4 y14 y17 z19 Kr T18) else fX12_choose_b93 B' (nI q) a4 y14 y17 wn1 Kr T16)))) := by
  have hL := ok.1
  have him := (St_im h).1
  have X' := X
  obtain ⟨X0, ⟨Xa, Xb, Xc, Xd, Xe, Xf, Xg, Xh, Xi, Xj⟩, _, _, ⟨x6, _⟩, _, x10, _⟩ := X'
  obtain ⟨⟨z1, z2, z3⟩, zd, zs⟩ := id z
  have ta0 := tka_L ok i1
  have t0 : tka g i1 + 2 ≤ tka g (i1 + 1) := by
    have h1 := (tk_kl (kw := kw_c) (j := 24) (k := 1) ok.2.1 ok.1 (by omega) hc ((kw_len 24 (by omega)).1)).1
    have h2 := tk_al (tp := g.1) ok.1 (i1 + 1)
    unfold tka; unfold gL at *; omega
  have s1' := r_risk (x := 0) h
  have wsE : ∀ (o2 : Int32) (z2 : Int64) (nt r3 : Int32), (nt &&& 1 = 0 ↔ r3 = 0) → wy l o2 z2 → wy l ((a2 ||| (if a4 = 0 then (o2 ||| (if nt &&& 1 = 0 then 0 else 4)) else 0)) ||| a1) (if a4 = 0 then (if a4 = 0 then (if r3 = 0 then wn1 else wn1 ||| 4) else wn1) ||| z2 else (if a4 = 0 then (if r3 = 0 then wn1 else wn1 ||| 4) else wn1)) := fun o2 z2 nt r3 hr hh => by
    by_cases c5 : a4 = 0
    · rw [if_pos c5, if_pos c5, if_pos c5, or_4]; exact wy_or (wy_tr hw hr) hh
    · rw [if_neg c5, if_neg c5, if_neg c5, Int32.or_zero]; exact hw
  have ref : ∀ (y14 y17 r3 : Int32) (T : q_V), q_i T 2425 = r3 → (if a4 = 0 then q_bd (fX12_risky wn1 T) (fun z19 T18 => fX12_choose_b93 B' (nI q) a4 y14 y17 z19 Kr T18) else fX12_choose_b93 B' (nI q) a4 y14 y17 wn1 Kr T) = fX12_choose_b93 B' (nI q) a4 y14 y17 (if a4 = 0 then (if r3 = 0 then wn1 else wn1 ||| 4) else wn1) Kr T := fun y14 y17 r3 T hr => by
    by_cases c5 : a4 = 0
    · rw [if_pos c5, if_pos c5, r_risky hr, q_bd_s]
    · rw [if_neg c5, if_neg c5]
  rw [c_kind h, r_is (c := 316) (x := 26) ok h rfl (by decide), q_bd_s, q_lt_s]
  by_cases c316 : tkc g (i1 + 1) = 316
  · obtain ⟨v2, a2', s2⟩ := c_adv ok s1' (by rw [c316]; decide) (by rw [c316]; decide)
    obtain ⟨w3, b3, s3⟩ := r_any (x1 := 59) (x2 := 58) ok (by decide) s2 c316 (by omega)
    obtain ⟨v4, a4', s4⟩ := c_add2 (x := 26) (y := 1) ok s3 (by omega)
    have hi3 := (St_im s4).1
    have ta1 : tka g (i1 + 1) + 2 ≤ tka g (i1 + 1 + 1) := by
      have h1 := (tk_kl (kw := kw_c) (j := 16) (k := 1) ok.2.1 ok.1 (by omega) c316 ((kw_len 16 (by omega)).1)).1
      have h2 := tk_al (tp := g.1) ok.1 (i1 + 1 + 1)
      unfold tka; unfold gL at *; omega
    rw [if_pos c316, if_pos c316, b3, q_bd_s, ref _ _ 0 _ s3.2.2.2.2.1.1.2.2.2.2.2.2, w_93]
    unfold fX8_choose_b83 fX8_dropForAny fX8_choose_b103 fX8_choose_b123
    rw [if_neg (show ¬ (1 : Int32) = 0 by decide), a2', q_bv_s, a4', q_bd_s, q_bd_s, if_neg (show ¬ (1 : Int32) = 0 by decide)]
    refine t_wb (i1 := i1) (p1 := p1) (C1 := C1) (q1 := q1) (R1 := R1) (K1 := K1) (e1 := e1) (e1' := e1') (ax := none) ok hn2 hB z hln X s4 ⟨by omega, by omega, by omega, by omega, by omega, by omega⟩ ⟨fun y hy => by rw [upd_ne (by omega), upd_ne (by omega)], fun j y hj hy => by rw [rO_x (by omega), rE_x (by omega), rE_x (by omega)], fun j hj => by funext y; rw [rO_x (by omega), rE_j hj, rE_j hj], [], rfl⟩ (fun u h1 h2 => ?_) ⟨Nat.le_refl _, Nat.le_refl _⟩ (fun y h1 h2 h3 => ?_) ⟨by omega, by omega⟩ ⟨fun m hm => (by cases hm), fun _ => rfl⟩ (fun m hm => (by cases hm)) (fun T XL px qx p2 q2 g1 g2 g3 g5 y2 c2 c3 r2 r3 => ?_) hBd (fun f p a c v h => ?_) (fun f p a w h => hKr _ _ _ _ _ h) (fun o2 z2 i2 pa p2 C2 q2 d2 r2 R2 K2 s2 A2 e2 e2' Y v w hwy hlt XX => ?_)
    · by_cases c1 : u = i1
      · rw [c1, hc]; decide
      · rw [show u = i1 + 1 by omega, c316]; decide
    · rw [rO_x (show (0 : Nat) ≠ 1 ∨ _ by omega), rE_x h3, show y = q1 by omega, rE_0, upd_at]
      decide
    · have d0 : rO (rO (rE (rE R1 q1 59 (-1) 0) (q1 + 1) 41 0 0) 1 q1 (nI (q1 + 2))) 1 (q1 + 1) (nI (q2 + 1)) 0 q1 = 59 := by rw [rO_x (by omega), rO_x (by omega), rE_x (by omega), rE_0, upd_at]
      have c0 := ag_c g5 (Nat.le_refl p1) (by omega)
      have c1 := ag_c g5 (show p1 ≤ p1 + 1 by omega) (by omega)
      have r0 := ag_r0 g5 (Nat.le_refl q1) (by omega)
      have r1' := ag_r1 g5 (Nat.le_refl q1) (by omega) (by rw [d0]; decide)
      rw [show uA none (upd (upd C1 p1 26) (p1 + 1) 1) (nI (p2 + 2)) p1 = upd (upd C1 p1 26) (p1 + 1) 1 p1 from rfl, upd_ne (by omega), upd_at] at c0
      rw [show uA none (upd (upd C1 p1 26) (p1 + 1) 1) (nI (p2 + 2)) (p1 + 1) = upd (upd C1 p1 26) (p1 + 1) 1 (p1 + 1) from rfl, upd_at] at c1
      rw [d0] at r0
      rw [rO_x (by omega), rO_at] at r1'
      exact fun Fin a S f0 H => ru_C4Y g3 (y2 Fin a S f0 H) c0 c1 c2 c3 r0 r1' r2 r3
    · rw [w_Fc]; exact hKc _ _ _ _ _ _ _ _ h
    · rw [w_Fc, (m_or (any := 1) h4 (Or.inr rfl)).1]
      refine hK _ _ _ i2 pa p2 C2 q2 d2 r2 R2 K2 s2 A2 e2 e2' Y v w ?_ (wsE o2 z2 0 0 ⟨fun _ => rfl, fun _ => by decide⟩ hwy) hlt XX
      rw [← (m_or (any := 1) h4 (Or.inr rfl)).1]; exact (m_or (any := 1) h4 (Or.inr rfl)).2
  · have J := l_list (M := dv_3 n (lsO A.1 b (l - b))) (x1 := 59) (x2 := 58) (c1 := 28) (r := 0) ok hn2 (by decide) (by decide) (by decide) (by decide) dv_3N (dv_3E (by omega) (by omega)) dv_3A ⟨by omega, by omega, by omega⟩ (ov_m ok x10 (by omega) him (Nat.le_refl _) (Nat.le_refl _)) s1' c316
    rw [if_neg c316, if_neg c316]
    unfold fX8_choose_b83
    rw [if_pos (show (0 : Int32) = 0 from rfl)]
    refine jl_dd J (fun f p a v h => ?_) (fun f p y w hy h => ?_) ?_
    · unfold fX8_choose_b103 fX8_choose_b123
      rw [if_pos (show (0 : Int32) = 0 from rfl)]
      refine cG_d (x_size h) (fun a v h => cG_d (hxB _ _ _ _ h) (fun a v h => cG_d (x_add2 ok h) (fun a v h => ?_)))
      rw [q_lt_s]
      refine cG_d (x_size h) (fun a v h => cG_v (x_set ok h) (fun v h => ?_))
      rw [w_Fc]; exact hKc _ _ _ _ _ _ _ _ h
    · rw [ref _ _ _ _ rfl, w_93]
      refine rG_d (hyB _ _ _ _ h) (fun a w h => rG_d (y_emit (by omega) h) (fun a w h => ?_))
      rw [if_neg (in4 hy), q_lt_s]
      exact hKr _ _ _ _ _ (xr_a (xr_le h (by omega)) (by omega))
    · intro nt v3 y3 w3 XL
      obtain ⟨i3, pj, C3, qj, r3, R3, K3, e3, e3', hy3, S, ⟨E1, E2, E3, E4, E5, E6⟩, ⟨E7, E8, E9, t1, E10⟩, E11, ⟨E12, E13⟩, E14, ⟨E15, E16⟩, E17, E18⟩ := XL
      subst hy3
      rw [ref _ _ r3 _ S.2.2.2.2.1.1.2.2.2.2.2.2, w_93]
      unfold fX8_choose_b103 fX8_choose_b123
      rw [if_pos (show (0 : Int32) = 0 from rfl), c_size S, q_bd_s, show nI (pj + 2) - 1 = nI (pj + 1) from ni_pred]
      refine t_wb (i1 := i1) (p1 := p1) (C1 := C1) (q1 := q1) (R1 := R1) (K1 := K1) (e1 := e1) (e1' := e1') (ax := some (pj + 1)) ok hn2 hB z hln X S ⟨by omega, by omega, by omega, by omega, by omega, by omega⟩ ⟨E7, E8, E9, t1, E10⟩ (fun u h1 h2 => ?_) E14 (fun y h1 h2 h3 => E17 y h1 (by omega)) ⟨by omega, by omega⟩ ⟨fun m hm => (by cases hm; exact ⟨rfl, by omega⟩), fun hm => (by cases hm)⟩ (fun m hm => (by cases hm; omega)) (fun T XL px qx p2 q2 g1 g2 g3 g5 y2 c2 c3 r2 r3 => ?_) hBd (fun f p a c v h => ?_) (fun f p a w h => hKr _ _ _ _ _ h) (fun o2 z2 i2 pa p2 C2 q2 d2 r2 R2 K2 s2 A2 e2 e2' Y v w hwy hlt XX => ?_)
      · by_cases c1 : u = i1
        · rw [c1, hc]; decide
        · exact E11 u (by omega) h2
      · have c0 := ag_c g5 (show p1 ≤ pj by omega) (by omega)
        have c1 := ag_c g5 (show p1 ≤ pj + 1 by omega) (by omega)
        have dd : rO R3 1 qj (nI (q2 + 1)) 0 qj = 41 := by rw [rO_x (by omega)]; exact E16
        have r0 := ag_r0 g5 (show q1 ≤ qj by omega) (by omega)
        have r1' := ag_r1 g5 (show q1 ≤ qj by omega) (by omega) (by rw [dd]; decide)
        rw [uA_x (fun m hm => by cases hm; omega), E15] at c0
        rw [show uA (some (pj + 1)) C3 (nI (p2 + 2)) (pj + 1) = nI (p2 + 2) from upd_at ..] at c1
        rw [dd] at r0
        rw [rO_at] at r1'
        have y1 := E18 T XL g1 (ag_E g5 (Nat.le_refl _) (by omega) (Nat.le_refl _) (by omega) (fun y _ hy => by rw [uA_x (fun m hm => by cases hm; omega)]) (fun j y hj _ hy => by rw [rO_x (by omega)]) (fun y hy => hy)) g2
        exact fun Fin a S f0 H => ru_C4L g3 (y1 Fin a S f0 H) (y2 Fin a S f0 H) c0 c1 c2 c3 r0 r1' r2 r3
      · rw [w_Fc]; exact hKc _ _ _ _ _ _ _ _ h
      · rw [w_Fc, (m_or (any := 0) h4 (Or.inl rfl)).1]
        refine hK _ _ _ i2 pa p2 C2 q2 d2 r2 R2 K2 s2 A2 e2 e2' Y v w ?_ (wsE o2 z2 nt r3 E12 hwy) hlt XX
        rw [← (m_or (any := 0) h4 (Or.inl rfl)).1]; exact (m_or (any := 0) h4 (Or.inl rfl)).2
end
