/-- a statement, once its own order stands ahead of it -/
def dv_Q (pl : Int32) : rd_D := fun T XL nu L p p' q q' => ∀ p0 q0, p = p0 + 2 → q = q0 + 1 → co_c T p0 30 → co_c T (p0 + 1) pl → co_r T 0 q0 30 → co_r T 1 q0 pl → dv_S T XL nu L p0 p' q0 q'
def SPQ (g : rd_G) (n i p : Nat) (C : Nat → Int32) (q d : Nat) (R : Nat → Nat → Int32) (K : rd_K) (k s l b : Nat) (A : rd_A) (e e' : Nat) (o : Int32) (v : q_V) (z : Int64) (w : q_V) : Prop := ∃ i1 p1 C1 q1 d1 r1 R1 K1 k1 s1 A1 e1 e1' Y, SQ (dv_Q (nI (tka g i))) g n i n p C q d R K k s l b A e e' o z i1 p1 C1 q1 d1 r1 R1 K1 k1 s1 A1 e1 e1' Y v w ∧ p1 + 2 * tka g i + 2 ≤ p + 2 * tka g i1 ∧ q1 + tka g i + 1 ≤ q + tka g i1
section
variable {g : rd_G} {i n p i' n' q d k s l b e e' : Nat} {C : Nat → Int32} {r : Int32} {R : Nat → Nat → Int32} {K : rd_K} {A : rd_A} {v w : q_V} {T : co_T} {XL : Int32 → Int32 → Int32 → Prop}
variable {B : q_V → Option (Int32 × q_V)} {B' : q_V → Option (Int64 × q_V)}
set_option maxHeartbeats 200000 in
theorem dv_TQ {nu p' q' : Nat} {L : List (Nat × Nat)} {pl : Int32} (h : dv_T T XL nu L p p' q q') : dv_Q pl T XL nu L p p' q q' := by
  intro p0 q0 e1 e2 c0 c1 r0 r1
  subst e1; subst e2
  exact fun Fin a S f0 H => ru_STMT H.1 c0 c1 r0 r1 (h Fin a S f0 H)
set_option maxHeartbeats 200000 in
theorem SPT_Q {o : Int32} {z : Int64} (h : SPT g n i p C q d R K k s l b A e e' o v z w) : SPQ g n i p C q d R K k s l b A e e' o v z w := by
  obtain ⟨i1, p1, C1, q1, d1, r1, R1, K1, k1, s1, A1, e1, e1', Y, ⟨F0, F1, F2, F3, F4, F5, F6, F7, F8⟩, H⟩ := h
  exact ⟨i1, p1, C1, q1, d1, r1, R1, K1, k1, s1, A1, e1, e1', Y, ⟨F0, F1, F2, F3, F4, F5, F6, F7, fun T XL x1 x2 x3 x4 => ⟨dv_TQ (F8 T XL x1 x2 x3 x4).1, (F8 T XL x1 x2 x3 x4).2⟩⟩, H⟩
set_option maxHeartbeats 200000 in
/-- from where on loops count, in both -/
theorem j_base {b' : Nat} (h : St g i n p C i' n' q d r R K k s l b A e e' v w) (hb : b' ≤ l) : St g i n p C i' n' q d r R K k s l b' A e e' (q_si v 1010 (nI b')) (q_si w 2446 (nI b')) := by
  obtain ⟨f, F, t, B, Y, N, M⟩ := h
  refine ⟨rdf_i f (by omega), rdF_i F (by omega), sT_ci t (by omega), sB_ci B (by omega), sR_i Y (by omega), ?_, sM_ri (sM_ci M (by omega)) (by omega)⟩
  unfold sN at N ⊢
  rw [q_i_ne (by omega), q_i_ne (by omega), q_i_ne (by omega), q_i_ne (by omega), q_i_ne (by omega), q_i_ne (by omega), q_i_at, q_i_at, q_i_ne (by omega)]
  obtain ⟨N1, N2, N3, N4, N5⟩ := N
  exact ⟨N1, N2, N3, ⟨N4.1, N4.2.1, N4.2.2.1, rfl, rfl, hb⟩, N5⟩
set_option maxHeartbeats 200000 in
theorem j_lw {x : Int32} {y : Int64} (h : St g i n p C i' n' q d r R K k s l b A e e' v w) : St g i n p C i' n' q d r R K k s l b (A.1, x, y, A.2.2.2) e e' (q_si v 1604 x) (q_sj w 2426 y) := by
  obtain ⟨f, F, t, B, Y, N, M⟩ := h
  refine ⟨rdf_i f (by omega), rdF_j F, sT_ci t (by omega), sB_ci B (by omega), ⟨Y.1, Y.2.1, sK_e (w := w) (w' := q_sj w 2426 y) rfl rfl rfl rfl Y.2.2.1, Y.2.2.2⟩, ?_, sM_ci (w := q_sj w 2426 y) M (by omega)⟩
  unfold sN at N ⊢
  rw [q_i_ne (by omega), q_i_ne (by omega), q_i_ne (by omega), q_i_ne (by omega), q_i_at, q_j_sj, if_pos rfl, q_a_si, q_b_si]
  obtain ⟨N1, N2, N3, N4, N5, N6⟩ := N
  exact ⟨N1, N2, N3, N4, ⟨⟨rfl, rfl⟩, N5.2⟩, N6⟩
set_option maxHeartbeats 200000 in
theorem wy_6 {o : Int32} {z : Int64} (h : wy l o z) : wy 0 (o &&& 6) (z &&& 6) := wy_and h (by
  have e : ∀ x, x < 34 → (x < 17 ∨ 20 ≤ x ∧ x < 34) → (6 : Int64).toBitVec.getLsbD x = wf 6 x := by decide
  exact fun x hx => e x (by omega) hx) (by
  have e : ∀ x, x < 32 → 3 ≤ x → (6 : Int32).toBitVec.getLsbD x = false := by decide
  intro x h1 h2
  by_cases c : x < 32
  · exact e x c (by omega)
  · exact BitVec.getLsbD_of_ge _ _ (by omega))
set_option maxHeartbeats 200000 in
theorem and6 {x y : Int64} : (x ||| y) &&& 6 = (x &&& 6) ||| (y &&& 6) := by
  apply Int64.toBitVec_inj.1
  rw [Int64.toBitVec_and, Int64.toBitVec_or, Int64.toBitVec_or, Int64.toBitVec_and, Int64.toBitVec_and]
  apply BitVec.eq_of_getLsbD_eq
  intro i hi
  simp only [BitVec.getLsbD_and, BitVec.getLsbD_or, Bool.and_or_distrib_right]
set_option maxHeartbeats 200000 in
/-- later -/
theorem t_later (ok : rd_ok g) (hn : 1 ≤ n) (hn2 : n ≤ 14) (hB : BS g n B B') (hxB : ∀ f p l v, xc g f p l v → cG g f p l (B v)) (hyB : ∀ f p Bd w, xr g f p Bd w → rG g f p Bd (B' w)) (hc : tkc g i = 318) (h : St g i n p C i n q d 0 R K k s l b A e e' v w) (z : z1 g n i p q K.length d s) (o : ov g i s e e') (hln : l + 1 ≤ n ∧ LB A l p d) : jn g l (3300 + 20 * (15 - n)) (SPQ g n i p C q d R K k s l b A e e') (fX8_later B (nI (tka g i)) v) (fX12_later B' (nI i) w) := by
  obtain ⟨z, zd, zs⟩ := z
  have zp := z0_p ok z
  have hL := ok.1
  have hm3 := ok.2.2.1.2.2
  have hig := (St_im h).1
  have ta0 := tka_L ok i
  obtain ⟨v2, a2, s2⟩ := c_adv ok h (by rw [hc]; decide) (by rw [hc]; decide)
  have s3 := r_now ok s2 (by rw [hc]; decide) (by rw [hc]; decide)
  have him := (St_im s3).1
  have t0 : tka g i + 4 ≤ tka g (i + 1) := kw_4 (j := 18) ok (by omega) hc
  have ta1' := tka_L ok (i + 1)
  obtain ⟨z1, z2, z3⟩ := z
  obtain ⟨v4, a4, s4⟩ := c_part (x := 52) (y := nI (tka g i)) ok s3 (by omega)
  obtain ⟨w5, b5, s5⟩ := r_emit (o := 54) (a := 0) (c := nI (tka g i)) s4 (by omega)
  obtain ⟨w6, b6, s6⟩ := r_emit (o := 41) (a := 0) (c := 0) s5 (by omega)
  have s7 := r_set (j := 1) (a := q) (y := nI (q + 2)) s6 (by omega)
  have N7 := s7.2.2.2.2.2.1.2.2.2.1
  have s8 := j_base (b' := l) s7 (Nat.le_refl _)
  have hq0 : q < 4000 := by omega
  have hq1' : q + 1 < 4000 := by omega
  have JB := hB (i + 1) (p + 5) _ (q + 2) d 0 _ K k s l l A e e' _ _ s8 ⟨⟨by omega, by omega, by omega⟩, by omega, by omega⟩ (ov_m ok o (by omega) him (Nat.le_refl _) (Nat.le_refl _)) ⟨by have := hln.1; omega, LB_m hln.2 rfl (by omega) (by omega)⟩
  have ii : ¬ (nI i < 0 ∨ 3002 ≤ (nI i).toNatClampNeg) := ni_nin (by omega) (by omega)
  unfold fX8_later fX12_later fX5_enterLater fX5_leaveLater
  rw [a2, q_bv_s, a4, q_bd_s, N7.1, N7.2.2.2.1, q_lt_s, q_lt_s, q_bd_s, q_lt_s, if_neg ii, ni_clamp (show i < 2147483648 by omega), r_place ok s3 hig, b5, q_bd_s, b6, q_bd_s, if_neg (in4 hq0), ni_clamp (show q < 2147483648 by omega), s6.2.2.2.2.1.1.2.2.2.1, q_lt_s, show q_i (q_sa w6 2415 (upd (q_a w6 2415) q (nI (q + 2)))) 2446 = nI b from N7.2.2.2.2.1, show q_i (q_sa w6 2415 (upd (q_a w6 2415) q (nI (q + 2)))) 2445 = nI l from N7.2.1, q_lt_s, q_lt_s]
  refine jn_dd JB (fun f p a v h => ?_) (fun f p a w h => ?_) ?_
  · rw [q_lt_s, q_lt_s, q_bv_s]
    exact cG_d (x_add ok (xc_i (xc_i h (by omega)) (by omega))) (fun a v h => cG_d (x_size h) (fun a v h => cG_v (x_set ok h) (fun v h => cG_s h)))
  · rw [q_lt_s, q_lt_s]
    refine rG_d (y_emit (by omega) (xr_i (xr_j h) (by omega))) (fun a w h => ?_)
    rw [if_neg (in4 hq1'), q_lt_s]
    exact rG_s (xr_a (xr_le h (by omega)) (by omega))
  · intro o2 v13 zz w13 X
    obtain ⟨i2, p2, C2, q2, d2, r2, R2, K2, s2', A2, e2, e2', Y, ⟨F0, ⟨F1, F2, F3, F4, F5, F6, F7, F8, F9, F10, _⟩, ⟨G1, G2, G3, t2, G4⟩, F11, ⟨F12, F13, F14⟩, ⟨F15, F15'⟩, F16, F17, F18⟩, cB, n14, H1, H2, H3, H4, H5⟩ := X
    have hi2 := (St_im F0).1
    have ta2 := tka_L ok i2
    have hbl := h.2.2.2.2.2.1.2.2.2.1.2.2.2.2.2
    have hlw := F0.2.2.2.2.2.1.2.2.2.2.1.1
    have s9 := j_base (b' := b) (j_lw (x := A2.2.1 ||| (o2 &&& 6)) (y := A2.2.2.1 ||| zz) F0) hbl
    obtain ⟨v14, a14, s14⟩ := c_add (y := 54) ok s9 (by omega)
    obtain ⟨v15, a15, s15⟩ := c_set (a := p + 3) (y := nI (p2 + 1)) ok s14 (by omega)
    obtain ⟨w16, b16, s16⟩ := r_emit (o := 48) (a := 0) (c := 0) s15 (by omega)
    have s17 := r_set (j := 1) (a := q + 1) (y := nI (q2 + 1)) s16 (by omega)
    have BD : i < i2 ∧ p2 + 1 + 2 * tka g i ≤ p + 2 * tka g i2 ∧ q2 + 1 + tka g i ≤ q + tka g i2 ∧ 3 * K2.length + tka g i ≤ 3 * K.length + tka g i2 ∧ 5 * d2 + tka g i ≤ 5 * d + tka g i2 ∧ 2 * s2' + tka g i ≤ 2 * s + tka g i2 ∧ p ≤ p2 + 1 ∧ q ≤ q2 + 1 ∧ d ≤ d2 ∧ s ≤ s2' ∧ k ≤ k := ⟨by omega, by omega, by omega, by omega, by omega, by omega, by omega, by omega, by omega, by omega, by omega⟩
    have BD2 : p2 + 1 + 2 * tka g i + 2 ≤ p + 2 * tka g i2 ∧ q2 + 1 + tka g i + 1 ≤ q + tka g i2 := ⟨by omega, by omega⟩
    have hp16 : p2 < 6016 := by omega
    have hq2b : q2 < 4000 := by omega
    rw [hlw.1, q_lt_s, q_lt_s, q_bv_s, a14, q_bd_s, c_size s14, q_bd_s, show nI p + 3 = nI (p + 3) from ni_add (b := 3), a15, q_bv_s, hlw.2, q_lt_s, q_lt_s, b16, q_bd_s, if_neg (in4 hq1'), ni_clamp (show q + 1 < 2147483648 by omega), q_lt_s, s16.2.2.2.2.1.1.2.2.2.1]
    clear F2 F3 F4 F5 F6 H1 H2 H3 H4 H5 ta2 z1 z2 z3 zd zs zp t0 ta0 ta1'
    have kC : ∀ x, x < p + 5 → x ≠ p + 3 → upd (upd C2 p2 54) (p + 3) (nI (p2 + 1)) x = cP C p 52 (nI (tka g i)) x := fun x hx h3 => by rw [upd_ne h3, upd_ne (by omega), G1 x (by omega)]
    have kR : ∀ j x, j < 3 → x < q + 2 → (j ≠ 1 ∨ x ≠ q + 1) → rO (rE R2 q2 48 0 0) 1 (q + 1) (nI (q2 + 1)) j x = rO (rE (rE R q 54 0 (nI (tka g i))) (q + 1) 41 0 0) 1 q (nI (q + 2)) j x := fun j x hj hx h2 => by rw [rO_x h2, rE_x (by omega), G2 j x hj (by omega)]
    have kD : ∀ j x, 3 ≤ j → x < d → rO (rE R2 q2 48 0 0) 1 (q + 1) (nI (q2 + 1)) j x = R j x := fun j x hj hx => by rw [rO_x (by omega), rE_j hj, G3 j x hj (by omega), rO_x (by omega), rE_j hj, rE_j hj]
    refine jn_qq ⟨i2, p2 + 1, _, q2 + 1, d2, r2, _, K2, k, s2', _, e2, e2', (p, q + 2, nI (tka g i), p2, q2, n + 1) :: Y, ⟨s17, BD, ⟨fun x hx => by rw [kC x (by omega) (by omega), cP_x (by omega)], fun j x hj hx => by rw [kR j x hj (by omega) (by omega), rO_x (by omega), rE_x (by omega), rE_x (by omega)], kD, t2, G4⟩, fun u h1 h2 => ?_, ⟨F12, wy_k.2.2.2.2, fun q => ?_⟩, ⟨by omega, by omega⟩, F16, fun x h1 h2 => ?_, fun T XL x1 x2 x3 x4 => ?_⟩, BD2⟩
    · by_cases c1 : u = i
      · rw [c1, hc]; decide
      · exact F11 u (by omega) h2
    · have := F14 q
      unfold wl at this ⊢
      dsimp only
      rw [and6]
      exact wy_or this (wy_6 F13)
    · by_cases c1 : x = q2
      · rw [rO_x (by omega), c1, rE_0, upd_at]; exact fun z => absurd z (by decide)
      · by_cases c2 : x < q + 2
        · by_cases c3 : x = q + 1
          · intro _; rw [c3, rO_at]; exact m1_n (by omega)
          · rw [kR 0 x (by omega) c2 (by omega), rO_x (by omega), rE_x c3, show x = q by omega, rE_0, upd_at]; exact fun z => absurd z (by decide)
        · rw [rO_x (by omega), rE_x c1, rO_x (by omega), rE_x c1]; exact F17 x (by omega) (by omega)
    · have d0 : rO (rE R2 q2 48 0 0) 1 (q + 1) (nI (q2 + 1)) 0 q = 54 := by rw [kR 0 q (by omega) (by omega) (by omega), rO_x (by omega), rE_x (by omega), rE_0, upd_at]
      have d1 : rO (rE R2 q2 48 0 0) 1 (q + 1) (nI (q2 + 1)) 0 (q + 1) = 41 := by rw [kR 0 (q + 1) (by omega) (by omega) (by omega), rO_x (by omega), rE_0, upd_at]
      have c0 := ag_c x2 (Nat.le_refl p) (by omega)
      have c1 := ag_c x2 (show p ≤ p + 1 by omega) (by omega)
      have c3 := ag_c x2 (show p ≤ p + 3 by omega) (by omega)
      have c5 := ag_c x2 (show p ≤ p2 by omega) (by omega)
      have r0 := ag_r0 x2 (Nat.le_refl q) (by omega)
      have r1' := ag_r1 x2 (Nat.le_refl q) (by omega) (by rw [d0]; decide)
      have r2'' := ag_r2 x2 (Nat.le_refl q) (by omega)
      have r2' := ag_r0 x2 (show q ≤ q + 1 by omega) (by omega)
      have r3' := ag_r1 x2 (show q ≤ q + 1 by omega) (by omega) (by rw [d1]; decide)
      have r8' := ag_r0 x2 (show q ≤ q2 by omega) (by omega)
      rw [kC p (by omega) (by omega), cP_0] at c0
      rw [kC (p + 1) (by omega) (by omega), cP_1] at c1
      rw [upd_at] at c3
      rw [upd_ne (by omega), upd_at] at c5
      rw [d0] at r0
      rw [kR 1 q (by omega) (by omega) (by omega), rO_at] at r1'
      rw [kR 2 q (by omega) (by omega) (by omega), rO_x (by omega), rE_x (by omega), rE_2, upd_at] at r2''
      rw [d1] at r2'
      rw [rO_at] at r3'
      rw [rO_x (by omega), rE_0, upd_at] at r8'
      have y2 := F18 T XL x1 (ag_S x2 (by omega) (by omega) (by omega) (by omega) (Nat.le_refl _) (Nat.le_refl _) (fun x h5 hx => by rw [upd_ne (by omega), upd_ne (by omega)]) (fun j x hj h5 hx => by rw [rO_x (by omega), rE_x (by omega)]) (fun j x hj h5 hx => by rw [rO_x (by omega), rE_j hj]) (fun y hy => hy)) x3 (fun y hy => x4 y (List.mem_cons_of_mem _ hy))
      rw [show l - l = 0 by omega, lsO] at y2
      have hX := x4 _ (List.mem_cons_self ..)
      refine ⟨fun p0 q0 ep eq k0 k1 k2 k3 => ?_, fun y hy => ?_⟩
      · subst ep; subst eq
        exact fun Fin a S f0 H => ru_LATER H.1 hX k0 k1 k2 k3 c0 c3 r0 r1' r2'' r2' r3' (by omega) (by omega)
      · rcases List.mem_cons.1 hy with hy | hy
        · rw [hy]; exact ⟨c1, show 1 ≤ n + 1 by omega, show n + 1 ≤ 14 by omega, hp16, y2.1, c5, r8'⟩
        · exact y2.2 y hy
end
