section
variable {Fin : q_V → q_V → Prop} {a : ru_P} {T : co_T} {XL : Int32 → Int32 → Int32 → Prop} {f0 nu : Nat} {L : List (Nat × Nat)}
theorem ru_NEST {p p' q q' : Nat} (h : nu + 1 ≤ 14) (s : ru_SS Fin a T XL f0 (nu + 1) L p p' q q') : ru_SS Fin a T XL f0 nu L p p' q q' :=
  ⟨s.1, s.2.1, fun c f h' g np t cl vc vr d W bd n x => s.2.2 c f h' g np t cl vc vr d W ⟨bd.1, bd.2.1, by omega, h, by have := bd.2.2.2.2.1; omega, bd.2.2.2.2.2.1, by have := bd.2.2.2.2.2.2.1; omega, by have := bd.2.2.2.2.2.2.2.1; omega, bd.2.2.2.2.2.2.2.2⟩ n x⟩
/-- a jump that isn't asked -/
theorem ru_JUMP {B p q p' q' h g f np t cl : Nat} {vc vr : q_V} (d : ru_D T XL cl t np vc vr) (W : ru_V vc vr) (c0 : co_c T p 22) (c1 : co_c T (p + 1) (nI p')) (r0 : co_r T 0 q 41) (r1 : co_r T 1 q (nI q')) (k : ru_G Fin a B (mC vc p' h f np cl) (mR vr q' g f t cl)) : ru_G Fin a (B + 1) (mC vc p h f np cl) (mR vr q g f t cl) := by
  refine ru_bb (w := 1) (vc1 := mC vc p' h f np cl) (vr1 := mR vr q' g f t cl) (by omega) ?_ ?_ d.2.2.2.2.1.2.2.1 W.1 d.2.2.2.2.1.2.2.2.1 d.2.2.2.2.1.2.2.2.2 ⟨Nat.le_add_right _ _, Nat.le_refl _⟩ k
  · rw [cs_step d.1 c0, cd_22, q_bv_id, cs_S d.1 c1, q_bd_s, q_lt_s, mC_s810]; rfl
  · rw [rs_step d.1 r0, rd_41, q_bv_id, r1.2, q_lt_s, mR_s2510]; rfl
theorem ru_UNLESS {B p q p' q' h g f np t cl : Nat} {vc vr : q_V} (d : ru_D T XL cl t np vc vr) (W : ru_V vc vr) (hh : h < 1680) (hg : g ≤ h) (E : q_a vc 802 h = q_a vr 2515 g) (c0 : co_c T p 23) (c1 : co_c T (p + 1) (nI p')) (r0 : co_r T 0 q 42) (r1 : co_r T 1 q (nI q'))
    (k1 : ru_G Fin a B (mC vc p' h f np cl) (mR vr q' g f t cl)) (k2 : ru_G Fin a B (mC vc (p + 2) h f np cl) (mR vr (q + 1) g f t cl)) : ru_G Fin a (B + 1) (mC vc p (h + 1) f np cl) (mR vr q (g + 1) f t cl) := by
  by_cases z : q_a vc 802 h = 0
  · refine ru_bb (w := 1) (vc1 := mC vc p' h f np cl) (vr1 := mR vr q' g f t cl) (by omega) ?_ ?_ d.2.2.2.2.1.2.2.1 W.1 d.2.2.2.2.1.2.2.2.1 d.2.2.2.2.1.2.2.2.2 ⟨Nat.le_add_right _ _, Nat.le_refl _⟩ k1
    · rw [cs_step d.1 c0, cd_23, q_bv_id, cs_S d.1 c1, q_bd_s, cs_pop hh, q_bd_s, if_pos z]
      unfold fX4_flow_b101 fX4_jumpIf
      rw [if_neg (by decide), q_lt_s, mC_s810]; rfl
    · rw [rs_step d.1 r0, rd_42, q_bv_id, r1.2, rs_pop (by omega), q_bd_s, if_pos (by rw [← E]; exact z)]
      unfold fX12_stepOfStatement_b289
      rw [q_lt_s, mR_s2510]; rfl
  · refine ru_bb (w := 1) (vc1 := mC vc (p + 2) h f np cl) (vr1 := mR vr (q + 1) g f t cl) (by omega) ?_ ?_ d.2.2.2.2.1.2.2.1 W.1 d.2.2.2.2.1.2.2.2.1 d.2.2.2.2.1.2.2.2.2 ⟨Nat.le_add_right _ _, Nat.le_refl _⟩ k2
    · rw [cs_step d.1 c0, cd_23, q_bv_id, cs_S d.1 c1, q_bd_s, cs_pop hh, q_bd_s, if_neg z]
      unfold fX4_flow_b101 fX4_jumpIf
      rw [if_pos rfl]; rfl
    · rw [rs_step d.1 r0, rd_42, q_bv_id, r1.2, rs_pop (by omega), q_bd_s, if_neg (by rw [← E]; exact z)]
      unfold fX12_stepOfStatement_b289
      rw [q_lt_s, mR_2510, mR_s2510]; rfl
theorem ru_IF {hb p p1 p' q q1 q' : Nat} (s1 : ru_SA Fin a T XL f0 1 hb p p1 q q1) (hhb : hb + 2 * nu ≤ 142) (h0 : 1 ≤ hb) (hn : nu + 1 ≤ 14) (c0 : co_c T p1 23) (c1 : co_c T (p1 + 1) (nI p')) (r0 : co_r T 0 q1 42) (r1 : co_r T 1 q1 (nI q'))
    (s2 : ru_SS Fin a T XL f0 (nu + 1) L (p1 + 2) p' (q1 + 1) q') : ru_ST Fin a T XL f0 nu L p p' q q' := by
  have o1 := s2.1
  have o2 := s2.2.1
  refine ru_BES s1 hhb (by omega) (by omega) ?_
  intro c f h g np t cl vc vr d W bd E n x
  have E0 : q_a vc 802 h = q_a vr 2515 g := E 0 (by omega)
  have bd' := bd
  obtain ⟨b1, b2, b3, b4, b5, b6, b7, b8, b9, b10⟩ := bd
  refine ru_mono (B := 40000 * f + c + 4 * (p' - (p1 + 2)) + 1) (ru_UNLESS d (ru_wv W) (by omega) b6 E0 c0 c1 r0 r1 ?_ ?_) (by omega)
  · exact ru_mono (n f vc vr d (ru_wv W) (Nat.le_refl _) ru_K_id) (by omega)
  · exact (ru_NEST hn s2).2.2 c f h g np t cl vc vr d (ru_wv W) bd' n x
theorem ru_IFE {hb p p1 p2 p' q q1 q2 q' : Nat} (s1 : ru_SA Fin a T XL f0 1 hb p p1 q q1) (hhb : hb + 2 * nu ≤ 142) (h0 : 1 ≤ hb) (hn : nu + 1 ≤ 14) (c0 : co_c T p1 23) (c1 : co_c T (p1 + 1) (nI (p2 + 2))) (r0 : co_r T 0 q1 42) (r1 : co_r T 1 q1 (nI (q2 + 1)))
    (s2 : ru_SS Fin a T XL f0 (nu + 1) L (p1 + 2) p2 (q1 + 1) q2) (c2 : co_c T p2 22) (c3 : co_c T (p2 + 1) (nI p')) (r2 : co_r T 0 q2 41) (r3 : co_r T 1 q2 (nI q')) (s3 : ru_SS Fin a T XL f0 (nu + 1) L (p2 + 2) p' (q2 + 1) q') : ru_ST Fin a T XL f0 nu L p p' q q' := by
  have o1 := s2.1
  have o2 := s2.2.1
  have o3 := s3.1
  have o4 := s3.2.1
  refine ru_BES s1 hhb (by omega) (by omega) ?_
  intro c f h g np t cl vc vr d W bd E n x
  have E0 : q_a vc 802 h = q_a vr 2515 g := E 0 (by omega)
  have bd' := bd
  obtain ⟨b1, b2, b3, b4, b5, b6, b7, b8, b9, b10⟩ := bd
  refine ru_mono (B := 40000 * f + c + 4 * (p' - (p1 + 2)) + 1) (ru_UNLESS d (ru_wv W) (by omega) b6 E0 c0 c1 r0 r1 ?_ ?_) (by omega)
  · exact ru_mono ((ru_NEST hn s3).2.2 c f h g np t cl vc vr d (ru_wv W) bd' n x) (by omega)
  · refine ru_mono ((ru_NEST hn s2).2.2 (c + 1) f h g np t cl vc vr d (ru_wv W) bd' ?_ (ru_x_c x (by omega))) (by omega)
    intro f1 vc1 vr1 d1 W1 hf1 K1
    exact ru_JUMP d1 W1 c2 c3 r2 r3 (n f1 vc1 vr1 d1 W1 hf1 K1)
/-- trouble out of a statement -/
theorem ru_ttS {h p q w : Nat} {c f g np t cl p1 h1 q1 g1 : Nat} {vc vr : q_V} {x : Int32} (d : ru_D T XL cl t np vc vr) (W : ru_W vc vr) (hw : 1 ≤ w) (hx : 0 < x) (hn : np ≤ 168) (k : ru_x Fin a T XL L c f h g np t cl vc vr)
    {h0 g0 : Nat} (e1 : fX4_step (mC vc p h0 f np cl) = some (mC (ru_tc vc x) p1 h1 f np cl)) (e2 : fX12_step (mR vr q g0 f t cl) = fX12_leaves (mR (ru_tr vr t x) q1 g1 f t cl)) :
    ru_G Fin a (40000 * f + c + w) (mC vc p h0 f np cl) (mR vr q g0 f t cl) :=
  ru_tt d W hw hx hn (fun f' p2 h2 q2 g2 vc' vr' d' w' hf' K' => k f' p2 h2 q2 g2 vc' vr' d' (ru_wl_t w') hf' K') e1 e2
theorem ru_FAIL {hb p p1 q q1 : Nat} (s1 : ru_SA Fin a T XL f0 1 hb p p1 q q1) (hhb : hb + 2 * nu ≤ 142) (h0 : 1 ≤ hb) (c0 : co_c T p1 43) (r0 : co_r T 0 q1 36) : ru_ST Fin a T XL f0 nu L p (p1 + 1) q (q1 + 1) := by
  refine ru_BES s1 hhb (by omega) (by omega) ?_
  intro c f h g np t cl vc vr d W bd E n x
  have E0 : q_a vc 802 h = q_a vr 2515 g := E 0 (by omega)
  obtain ⟨b1, b2, b3, b4, b5, b6, b7, b8, b9, b10⟩ := bd
  by_cases z : q_a vc 802 h < 10 ∨ 99 < q_a vc 802 h
  · refine ru_ttS (x := 10) (p1 := p1 + 1) (h1 := h) (q1 := q1 + 1) (g1 := g) d W (by omega) (by decide) (by omega) x ?_ ?_
    · rw [cs_step d.1 c0, cd_43, q_bv_id, cs_pop (by omega), q_bd_s]
      unfold fX4_fail fX4_fail_b17 fX4_fail_b19
      by_cases z1 : q_a vc 802 h < 10
      · rw [if_pos z1, cs_trouble, mC_tc]; rfl
      · rw [if_neg z1, if_pos (z.resolve_left z1), cs_trouble, mC_tc]; rfl
    · rw [rs_step d.1 r0, rd_36, q_bv_id, rs_pop (by omega), q_bd_s, ← E0]
      unfold fX12_fails fX12_fails_b18 fX12_stepOfStatement_b600
      rw [rs_in, q_bd_s, if_pos z, if_pos rfl, q_bv_id, q_bv_id, rs_trouble (by omega) (ru_n70 d.2.2.1)]
  · have z1 : ¬ q_a vc 802 h < 10 := fun y => z (Or.inl y)
    have z2 : ¬ 99 < q_a vc 802 h := fun y => z (Or.inr y)
    refine ru_ttS (x := q_a vc 802 h) (p1 := p1 + 1) (h1 := h) (q1 := q1 + 1) (g1 := g) d W (by omega) ?_ (by omega) x ?_ ?_
    · rw [Int32.lt_iff_toInt_lt] at z1 ⊢
      have y1 : (10 : Int32).toInt = 10 := rfl
      have y2 : (0 : Int32).toInt = 0 := rfl
      omega
    · rw [cs_step d.1 c0, cd_43, q_bv_id, cs_pop (by omega), q_bd_s]
      unfold fX4_fail fX4_fail_b17 fX4_fail_b19
      rw [if_neg z1, if_neg z2, cs_trouble, mC_tc]; rfl
    · rw [rs_step d.1 r0, rd_36, q_bv_id, rs_pop (by omega), q_bd_s, ← E0]
      unfold fX12_fails fX12_fails_b18 fX12_stepOfStatement_b600
      rw [rs_in, q_bd_s, if_neg z, if_neg (by decide), q_bv_id, q_bv_id, rs_trouble (by omega) (ru_n70 d.2.2.1)]
end
