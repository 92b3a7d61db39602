theorem ru_l_pc {v : q_V} {h : Nat} {x : Int32} : ru_l (ru_pc v h x) = ru_l v := rfl
theorem ru_l_mC {v : q_V} {p h f np cl : Nat} : ru_l (mC v p h f np cl) = ru_l v := rfl
/-- the next order -/
theorem cs_S {T : co_T} {vc vr : q_V} {p h f np cl : Nat} {y : Int32} (s : ru_S T vc vr) (e : co_c T p y) : fX4_take (mC vc p h f np cl) = some (y, mC vc (p + 1) h f np cl) := by
  rw [cs_take s.2.1 e.1, s.1, e.2]
theorem rs_0 {T : co_T} {vc vr : q_V} {q : Nat} {y : Int32} (s : ru_S T vc vr) (e : co_r T 0 q y) : q_a vr 2448 q = y := by rw [s.2.2.1.1, e.2]
theorem rs_1 {T : co_T} {vc vr : q_V} {q : Nat} {y : Int32} (s : ru_S T vc vr) (e : co_r T 1 q y) : q_a vr 2449 q = y := by rw [s.2.2.1.2.1, e.2]
theorem rs_2 {T : co_T} {vc vr : q_V} {q : Nat} {y : Int32} (s : ru_S T vc vr) (e : co_r T 2 q y) : q_a vr 2450 q = y := by rw [s.2.2.1.2.2.1, e.2]
section
variable {Fin : q_V → q_V → Prop} {a : ru_P} {T : co_T} {XL : Int32 → Int32 → Int32 → Prop} {f0 : Nat}
/-- both push the same, and go on -/
theorem ru_pp {h p' q' p q w : Nat} {c f g np t cl : Nat} {vc vr : q_V} {x : Int32} (d : ru_D T XL cl t np vc vr) (W : ru_W vc vr) (hw : 1 ≤ w) (hh : h < 1680)
    (k : ∀ f' vc' vr', ru_D T XL cl t np vc' vr' → ru_W vc' vr' → f' ≤ f → ru_K np t h g cl vc vr vc' vr' → (∀ i, i < 1 → q_a vc' 802 (h + i) = q_a vr' 2515 (g + i)) → ru_G Fin a (40000 * f' + c) (mC vc' p' (h + 1) f' np cl) (mR vr' q' (g + 1) f' t cl))
    (e1 : fX4_step (mC vc p h f np cl) = some (mC (ru_pc vc h x) p' (h + 1) f np cl)) (e2 : fX12_step (mR vr q g f t cl) = some (mR (ru_pr vr g x) q' (g + 1) f t cl)) :
    ru_G Fin a (40000 * f + c + w) (mC vc p h f np cl) (mR vr q g f t cl) := by
  refine ru_mono (B := 40000 * f + c + 1) ?_ (by omega)
  refine ru_cs e1 d.2.2.2.2.1.2.2.1 W.1 ⟨Nat.le_add_right _ _, Nat.le_refl _⟩ ?_
  refine ru_rs e2 d.2.2.2.2.1.2.2.2.1 d.2.2.2.2.1.2.2.2.2 ?_
  refine k f _ _ (ru_D_p d) (ru_W_p W) (Nat.le_refl _) (ru_K_p ru_K_id (Nat.le_refl _) (Nat.le_refl _)) ?_
  intro i hi
  have : i = 0 := by omega
  subst this
  show upd _ h x h = upd _ g x g
  unfold upd; rw [if_pos rfl, if_pos rfl]
theorem ru_PUSH {hb p q : Nat} {y : Int32} (h0 : 1 ≤ hb) (c0 : co_c T p 1) (c1 : co_c T (p + 1) y) (r0 : co_r T 0 q 1) (r1 : co_r T 1 q y) : ru_SA Fin a T XL f0 1 hb p (p + 2) q (q + 1) := by
  refine ⟨by omega, by omega, ?_⟩
  intro c f h g np t cl vc vr d W hf hf0 hh hg hn ht hc hc' k1 k2
  refine ru_pp (x := y) d W (by omega) (by omega) k1 ?_ ?_
  · rw [cs_step d.1 c0, cd_1, q_bv_id, cs_S d.1 c1, q_bd_s, cs_push (by omega)]; rfl
  · rw [rs_step d.1 r0, rd_1, rs_push (by omega), r1.2]; rfl
theorem cs_fget {v : q_V} {i y : Nat} (h : y < 24) : fX3_get i (nI y) v = some (q_c v 600 i y, v) := by
  unfold fX3_get fX3_get_b23
  simp (decide := true) (disch := omega) only [q_bd_s, q_bv_s, q_lt_s, q_i_si, q_i_sj, q_i_sa, q_i_sb, q_i_sf, q_i_sc, q_j_si, q_j_sj, q_j_sa, q_j_sb, q_j_sf, q_j_sc, q_a_si, q_a_sj, q_a_sa, q_a_sb, q_a_sf, q_a_sc, q_b_si, q_b_sj, q_b_sa, q_b_sb, q_b_sf, q_b_sc, q_f_si, q_f_sj, q_f_sa, q_f_sb, q_f_sf, q_f_sc, q_c_si, q_c_sj, q_c_sa, q_c_sb, q_c_sf, q_c_sc, q_n_si, q_n_sj, q_n_sa, q_n_sb, q_n_sf, q_n_sc, Nat.reduceEqDiff, Nat.reduceAdd, ↓reduceIte, Int32.reduceLT, Int32.reduceLE, Nat.reduceLeDiff, ni_neg, ni_clamp, ni_lef, or_self, or_false, false_or, ni_add1, ni_pred]
  rw [if_neg (by rw [show (24 : Int32) = nI 24 from rfl, ni_le (by omega) (by omega)]; omega)]
theorem ni_24 {a b : Nat} : 24 * nI a + nI b = nI (24 * a + b) := by
  rw [show (24 : Int32) = nI 24 from rfl, ← ni_add]; congr 1; exact (Int32.ofNat_mul 24 a).symm
theorem ru_LOAD {hb p q y : Nat} (h0 : 1 ≤ hb) (hy : y < 24) (c0 : co_c T p 2) (c1 : co_c T (p + 1) (nI y)) (r0 : co_r T 0 q 2) (r1 : co_r T 1 q (nI y)) : ru_SA Fin a T XL f0 1 hb p (p + 2) q (q + 1) := by
  refine ⟨by omega, by omega, ?_⟩
  intro c f h g np t cl vc vr d W hf hf0 hh hg hn ht hc hc' k1 k2
  obtain ⟨cl, rfl⟩ : ∃ k, cl = k + 1 := ⟨cl - 1, by omega⟩
  refine ru_pp (x := q_c vc 600 cl y) d W (by omega) (by omega) k1 ?_ ?_
  · rw [cs_step d.1 c0, cd_2, q_bv_id, cs_frame (by omega), q_bd_s, cs_S d.1 c1, q_bd_s, cs_fget hy, q_bd_s, cs_push (by omega)]; rfl
  · rw [rs_step d.1 r0, rd_2, r1.2, mR_2501, ni_24, if_neg (by rw [ni_in (by omega) (by omega)]; exact id), ni_clamp (by omega), rs_push (by omega), (d.2.2.2.1 cl (by omega)).1 y hy]; rfl
theorem ru_KIND {hb p q : Nat} (h0 : 1 ≤ hb) (c0 : co_c T p 3) (r0 : co_r T 0 q 25) : ru_SA Fin a T XL f0 1 hb p (p + 1) q (q + 1) := by
  refine ⟨by omega, by omega, ?_⟩
  intro c f h g np t cl vc vr d W hf hf0 hh hg hn ht hc hc' k1 k2
  obtain ⟨cl, rfl⟩ : ∃ k, cl = k + 1 := ⟨cl - 1, by omega⟩
  refine ru_pp (x := q_f vc 603 cl) d W (by omega) (by omega) k1 ?_ ?_
  · rw [cs_step d.1 c0, cd_3, q_bv_id, cs_frame (by omega), q_bd_s, cs_push (by omega)]; rfl
  · rw [rs_step d.1 r0, rd_25, mR_2501, if_neg (by rw [ni_in (by omega) (by omega)]; exact id), ni_clamp (by omega), rs_push (by omega), (d.2.2.2.1 cl (by omega)).2.1]; rfl
theorem ru_CAUSE {hb p q : Nat} (h0 : 1 ≤ hb) (c0 : co_c T p 4) (r0 : co_r T 0 q 26) : ru_SA Fin a T XL f0 1 hb p (p + 1) q (q + 1) := by
  refine ⟨by omega, by omega, ?_⟩
  intro c f h g np t cl vc vr d W hf hf0 hh hg hn ht hc hc' k1 k2
  obtain ⟨cl, rfl⟩ : ∃ k, cl = k + 1 := ⟨cl - 1, by omega⟩
  refine ru_pp (x := q_f vc 604 cl) d W (by omega) (by omega) k1 ?_ ?_
  · rw [cs_step d.1 c0, cd_4, q_bv_id, cs_frame (by omega), q_bd_s, cs_push (by omega)]; rfl
  · rw [rs_step d.1 r0, rd_26, mR_2501, if_neg (by rw [ni_in (by omega) (by omega)]; exact id), ni_clamp (by omega), rs_push (by omega), (d.2.2.2.1 cl (by omega)).2.2.1]; rfl
theorem ru_NIL {hb p q : Nat} : ru_SA Fin a T XL f0 0 hb p p q q := by
  refine ⟨by omega, by omega, ?_⟩
  intro c f h g np t cl vc vr d W hf hf0 hh hg hn ht hc hc' k1 k2
  exact ru_mono (k1 f vc vr d W (Nat.le_refl _) ru_K_id (fun i hi => by omega)) (by omega)
theorem ru_SNOC {hb hb1 m p p1 p' q q1 q' : Nat} (s1 : ru_SA Fin a T XL f0 m hb p p1 q q1) (s2 : ru_SA Fin a T XL f0 1 hb1 p1 p' q1 q') (hb1m : hb1 + m ≤ hb) : ru_SA Fin a T XL f0 (m + 1) hb p p' q q' := by
  refine ⟨by have := s1.1; have := s2.1; omega, by have := s1.2.1; have := s2.2.1; omega, ?_⟩
  have o1 := s1.1
  have o2 := s2.1
  intro c f h g np t cl vc vr d W hf hf0 hh hg hn ht hc hc' k1 k2
  refine ru_mono (s1.2.2 (c + 4 * (p' - p1)) f h g np t cl vc vr d W hf hf0 (by omega) hg hn ht hc hc' ?_ ?_) (by omega)
  · intro f1 vc1 vr1 d1 W1 hf1 K1 E1
    rw [show 40000 * f1 + (c + 4 * (p' - p1)) = 40000 * f1 + c + 4 * (p' - p1) from by omega]
    refine s2.2.2 c f1 (h + m) (g + m) np t cl vc1 vr1 d1 W1 (by omega) hf0 (by omega) (by omega) hn ht hc hc' ?_ ?_
    · intro f2 vc2 vr2 d2 W2 hf2 K2 E2
      refine k1 f2 vc2 vr2 d2 W2 (by omega) (ru_K_tr K1 K2 (by omega) (by omega) (by omega) (by omega) (by omega)) ?_
      intro i hi
      by_cases c9 : i < m
      · rw [K2.2.1 (h + i) (by omega), K2.2.2.2.1 (g + i) (by omega)]; exact E1 i c9
      · have : i = m := by omega
        subst this; exact E2 0 (by omega)
    · intro f2 p2 h2 q2 g2 vc2 vr2 d2 W2 hf2 K2
      exact k2 f2 p2 h2 q2 g2 vc2 vr2 d2 W2 (by omega) (ru_K_tr K1 K2 (by omega) (by omega) (by omega) (by omega) (by omega))
  · intro f1 p2 h2 q2 g2 vc1 vr1 d1 W1 hf1 K1
    exact ru_monoL (k2 f1 p2 h2 q2 g2 vc1 vr1 d1 W1 hf1 K1) (by omega)
end
