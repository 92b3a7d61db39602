theorem rs_trouble {v : q_V} {k : Int32} {q g f t cl : Nat} (ht : t < 240) (hl : ¬ q_i v 2470 < 0) : fX12_trouble k (mR v q g f t cl) = fX12_leaves (mR (ru_tr v t k) q g f t cl) := by
  unfold fX12_trouble
  rw [q_lt_s, q_lt_s, q_lt_s, mR_s2481, mR_s2484, mR_s2485]
  have h := rs_tr_L (v := q_si (q_si v 2481 4) 2484 k) (k := k) (q := q) (g := g) (f := f) (t := t) (cl := cl) ht hl 0 q_N (Nat.zero_le _) (by unfold q_N; omega)
  rw [ru_z_c (t := t) (v := v) (w := q_si (q_si v 2481 4) 2484 k) (fun _ _ => rfl)] at h
  exact h
section
variable {Fin : q_V → q_V → Prop} {a : ru_P} {T : co_T} {XL : Int32 → Int32 → Int32 → Prop} {f0 : Nat}
/-- both write the same into the log -/
theorem ru_Q_wr {vc vr : q_V} {s n : Int32} (h : ru_Q vc vr) (hl : ru_l vc ≤ 2000000000) : ru_Q (ru_wr vc s n) (ru_nt vr s n) := by
  obtain ⟨h1, h2, h3, h4, h5, h6, h7, h8, h9, h10, h11, h12, h13, h14, h15, h16⟩ := h
  have hn : ¬ q_a vc 1400 16 < 0 := by rw [h11]; exact h15
  refine ⟨h1, h2, h3, h4, h5, h6, h7, h8, h9, h10, ?_, h12, ?_, ?_, ?_, h16⟩
  · show q_a vc 1400 16 + 1 = q_i vr 2470 + 1
    rw [h11]
  · show (if q_a vc 1400 16 < 0 ∨ 300 ≤ q_a vc 1400 16 then q_a vc 1401 else upd (q_a vc 1401) (q_a vc 1400 16).toNatClampNeg s) = (if 300 ≤ q_i vr 2470 then q_a vr 2468 else upd (q_a vr 2468) (q_i vr 2470).toNatClampNeg s)
    rw [h11, h13]; simp only [h15, false_or]
  · show (if q_a vc 1400 16 < 0 ∨ 300 ≤ q_a vc 1400 16 then q_a vc 1402 else upd (q_a vc 1402) (q_a vc 1400 16).toNatClampNeg n) = (if 300 ≤ q_i vr 2470 then q_a vr 2469 else upd (q_a vr 2469) (q_i vr 2470).toNatClampNeg n)
    rw [h11, h14]; simp only [h15, false_or]
  · show ¬ q_i vr 2470 + 1 < 0
    obtain ⟨m, hm, e⟩ := ni_ex h15
    have e2 : ru_l vc = m := by unfold ru_l; rw [h11, e, ni_clamp hm]
    rw [e, ni_add1, ni_neg (by omega)]; exact id
theorem ru_l_wr {vc : q_V} {s n : Int32} (h0 : ¬ q_a vc 1400 16 < 0) (hl : ru_l vc ≤ 2000000000) : ru_l (ru_wr vc s n) = ru_l vc + 1 := by
  obtain ⟨m, hm, e⟩ := ni_ex h0
  have e2 : ru_l vc = m := by unfold ru_l; rw [e, ni_clamp hm]
  show (q_a vc 1400 16 + 1).toNatClampNeg = _
  rw [e, ni_add1, ni_clamp (by omega), e2]
theorem ru_n16 {vc vr : q_V} (h : ru_Q vc vr) : ¬ q_a vc 1400 16 < 0 := by rw [h.2.2.2.2.2.2.2.2.2.2.1]; exact h.2.2.2.2.2.2.2.2.2.2.2.2.2.2.1
theorem ru_n70 {vc vr : q_V} (h : ru_Q vc vr) : ¬ q_i vr 2470 < 0 := h.2.2.2.2.2.2.2.2.2.2.2.2.2.2.1
theorem ru_Q_f {vc vr : q_V} {k n : Nat} {x : Int32} (h : ru_Q vc vr) : ru_Q (q_sf vc k n x) vr := h
theorem ru_Q_i {vc vr : q_V} {k : Nat} {x : Int32} (hk : k < 2470 ∨ 2480 < k) (hk2 : k ≠ 2524) (h : ru_Q vc vr) : ru_Q vc (q_si vr k x) := by
  unfold ru_Q at h ⊢
  simp only [q_i_si, q_a_si]
  rw [if_neg (by omega), if_neg (by omega), if_neg (by omega), if_neg (by omega), if_neg (by omega), if_neg (by omega), if_neg (by omega), if_neg (by omega), if_neg (by omega), if_neg (by omega), if_neg (by omega), if_neg (by omega)]
  exact h
theorem ru_Q_12 {vc vr : q_V} (h : ru_Q vc vr) : ru_Q (ru_ct vc 12) (q_si vr 2477 (q_i vr 2477 + 1)) := by
  obtain ⟨h1, h2, h3, h4, h5, h6, h7, h8, h9, h10, h11, h12, h13, h14, h15, h16⟩ := h
  exact ⟨h1, h2, h3, h4, h5, h6, show q_a vc 1400 12 + 1 = _ from by rw [h7]; rfl, h8, h9, h10, h11, h12, h13, h14, h15, h16⟩
/-- a trouble comes -/
theorem ru_D_t {cl t np : Nat} {vc vr : q_V} {k : Int32} (d : ru_D T XL cl t np vc vr) (P : q_i vc 811 = q_i vr 2511) (hl : ru_l vc ≤ 2000000000) (hk : 0 < k) : ru_D T XL cl t np (ru_tc vc k) (ru_tr vr t k) ∧ ru_wt (ru_tc vc k) (ru_tr vr t k) := by
  obtain ⟨d1, d2, d3, d4, d5, d6⟩ := d
  refine ⟨⟨d1, d2, ?_, d4, ?_, d6⟩, ?_⟩
  · exact ru_Q_f (ru_Q_f (ru_Q_f (ru_Q_f (ru_Q_wr (ru_Q_12 (ru_Q_i (by omega) (by omega) (ru_Q_i (by omega) (by omega) (ru_Q_i (by omega) (by omega) (ru_Q_i (by omega) (by omega) d3))))) hl))))
  · exact ⟨d5.1, d5.2.1.trans (ru_z_c (v := vr) (w := ru_tr vr t k) (fun _ _ => rfl)).symm, d5.2.2⟩
  · exact ⟨rfl, rfl, rfl, d5.2.1, P, hk⟩
theorem ru_K_t {np t h g cl : Nat} {vc vr vc1 vr1 : q_V} {k : Int32} (a : ru_K np t h g cl vc vr vc1 vr1) (hn : np ≤ 168) : ru_K np t h g cl vc vr (ru_tc vc1 k) (ru_tr vr1 t k) := by
  refine ⟨fun j n x y => ?_, a.2.1, fun j n x y z => ?_, a.2.2.2.1, a.2.2.2.2⟩
  · rw [← a.1 j n x y]
    unfold ru_tc ru_be
    rw [q_f_sf, if_neg (by omega), q_f_sf, if_neg (by omega), q_f_sf, if_neg (by omega), q_f_sf, if_neg (by omega)]; rfl
  · rw [← (a.2.2.1 j n x y z).1, ← (a.2.2.1 j n x y z).2]
    unfold ru_tr ru_nt
    refine ⟨?_, rfl⟩
    rw [q_a_si, q_a_sa, if_neg (by omega), q_a_sa, if_neg (by omega)]; rfl
/-- the class's step brings a trouble, and the reference's -/
theorem ru_tt {h p q w : Nat} {c f g np t cl p1 h1 q1 g1 : Nat} {vc vr : q_V} {x : Int32} (d : ru_D T XL cl t np vc vr) (W : ru_W vc vr) (hw : 1 ≤ w) (hx : 0 < x) (hn : np ≤ 168)
    (k : ∀ f' p'' h'' q'' g'' vc' vr', ru_D T XL cl t np vc' vr' → ru_wt vc' vr' → f' ≤ f → ru_K np t h g cl vc vr vc' vr' → ru_L Fin a (40000 * f' + c) (mC vc' p'' h'' f' np cl) (mR vr' q'' g'' f' t cl))
    {h0 g0 : Nat} (e1 : fX4_step (mC vc p h0 f np cl) = some (mC (ru_tc vc x) p1 h1 f np cl)) (e2 : fX12_step (mR vr q g0 f t cl) = fX12_leaves (mR (ru_tr vr t x) q1 g1 f t cl)) :
    ru_G Fin a (40000 * f + c + w) (mC vc p h0 f np cl) (mR vr q g0 f t cl) := by
  refine ru_mono (B := 40000 * f + c + 1) ?_ (by omega)
  refine ru_G_l (fun hl => ?_)
  obtain ⟨d1, d2⟩ := ru_D_t (k := x) d W.2.2 hl hx
  refine ru_cs e1 d.2.2.2.2.1.2.2.1 W.1 ?_ ?_
  · refine ⟨?_, Nat.le_refl _⟩
    show ru_l (ru_wr (ru_ct vc 12) 7 x) ≤ ru_l vc + 2
    rw [ru_l_wr (vc := ru_ct vc 12) (show ¬ q_a vc 1400 16 < 0 from ru_n16 d.2.2.1) hl]
    show ru_l vc + 1 ≤ ru_l vc + 2
    omega
  refine ru_rl e2 d.2.2.2.2.1.2.2.2.1 d.2.2.2.2.1.2.2.2.2 ?_
  exact k f p1 h1 q1 g1 _ _ d1 d2 (Nat.le_refl _) (ru_K_t ru_K_id hn)
/-- a step of one order behind `m` values -/
theorem ru_BEH {m hb p p1 p' q q1 q' : Nat} (s1 : ru_SA Fin a T XL f0 m hb p p1 q q1) (o1 : p1 < p') (o2 : q1 ≤ q')
    (st : ∀ c f h g np t cl vc vr, ru_D T XL cl t np vc vr → ru_W vc vr → f ≤ f0 → f0 ≤ 20000 → h + hb ≤ 140 * cl → g ≤ h → (1 ≤ np ∧ np ≤ 14 * cl) → t ≤ 15 * cl → 1 ≤ cl → cl ≤ 12 → (∀ i, i < m → q_a vc 802 (h + i) = q_a vr 2515 (g + i)) →
      (∀ f' vc' vr', ru_D T XL cl t np vc' vr' → ru_W vc' vr' → f' ≤ f → ru_K np t h g cl vc vr vc' vr' → (∀ i, i < 1 → q_a vc' 802 (h + i) = q_a vr' 2515 (g + i)) → ru_G Fin a (40000 * f' + c) (mC vc' p' (h + 1) f' np cl) (mR vr' q' (g + 1) f' t cl)) →
      (∀ f' p'' h'' q'' g'' vc' vr', ru_D T XL cl t np vc' vr' → ru_wt vc' vr' → f' ≤ f → ru_K np t h g cl vc vr vc' vr' → ru_L Fin a (40000 * f' + c) (mC vc' p'' h'' f' np cl) (mR vr' q'' g'' f' t cl)) →
      ru_G Fin a (40000 * f + c + 4 * (p' - p1)) (mC vc p1 (h + m) f np cl) (mR vr q1 (g + m) f t cl)) : ru_SA Fin a T XL f0 1 hb p p' q q' := by
  have x1 := s1.1
  have x2 := s1.2.1
  refine ⟨by omega, by omega, ?_⟩
  intro c f h g np t cl vc vr d W hf hf0 hh hg hn ht hc hc' k1 k2
  refine ru_mono (s1.2.2 (c + 4 * (p' - p1)) f h g np t cl vc vr d W hf hf0 hh hg hn ht hc hc' ?_ ?_) (by omega)
  · intro f1 vc1 vr1 d1 W1 hf1 K1 E1
    rw [show 40000 * f1 + (c + 4 * (p' - p1)) = 40000 * f1 + c + 4 * (p' - p1) from by omega]
    refine st c f1 h g np t cl vc1 vr1 d1 W1 (by omega) hf0 hh hg hn ht hc hc' E1 ?_ ?_
    · intro f2 vc2 vr2 d2 W2 hf2 K2 E2
      exact k1 f2 vc2 vr2 d2 W2 (by omega) (ru_K_tr K1 K2 (Nat.le_refl _) (Nat.le_refl _) (Nat.le_refl _) (Nat.le_refl _) (Nat.le_refl _)) E2
    · intro f2 p2 h2 q2 g2 vc2 vr2 d2 W2 hf2 K2
      exact k2 f2 p2 h2 q2 g2 vc2 vr2 d2 W2 (by omega) (ru_K_tr K1 K2 (Nat.le_refl _) (Nat.le_refl _) (Nat.le_refl _) (Nat.le_refl _) (Nat.le_refl _))
  · intro f1 p2 h2 q2 g2 vc1 vr1 d1 W1 hf1 K1
    exact ru_monoL (k2 f1 p2 h2 q2 g2 vc1 vr1 d1 W1 hf1 K1) (by omega)
/-- both push the same in the place of `m` values -/
theorem ru_pq {m h p' q' p q w : Nat} {c f g np t cl : Nat} {vc vr : q_V} {x : Int32} (d : ru_D T XL cl t np vc vr) (W : ru_W vc vr) (hw : 1 ≤ w)
    (k : ∀ f' vc' vr', ru_D T XL cl t np vc' vr' → ru_W vc' vr' → f' ≤ f → ru_K np t h g cl vc vr vc' vr' → (∀ i, i < 1 → q_a vc' 802 (h + i) = q_a vr' 2515 (g + i)) → ru_G Fin a (40000 * f' + c) (mC vc' p' (h + 1) f' np cl) (mR vr' q' (g + 1) f' t cl))
    (e1 : fX4_step (mC vc p (h + m) f np cl) = some (mC (ru_pc vc h x) p' (h + 1) f np cl)) (e2 : fX12_step (mR vr q (g + m) f t cl) = some (mR (ru_pr vr g x) q' (g + 1) f t cl)) :
    ru_G Fin a (40000 * f + c + w) (mC vc p (h + m) f np cl) (mR vr q (g + m) f t cl) := by
  refine ru_mono (B := 40000 * f + c + 1) ?_ (by omega)
  refine ru_cs e1 d.2.2.2.2.1.2.2.1 W.1 ⟨Nat.le_add_right _ _, Nat.le_refl _⟩ ?_
  refine ru_rs e2 d.2.2.2.2.1.2.2.2.1 d.2.2.2.2.1.2.2.2.2 ?_
  refine k f _ _ (ru_D_p d) (ru_W_p W) (Nat.le_refl _) (ru_K_p ru_K_id (Nat.le_refl _) (Nat.le_refl _)) ?_
  intro i hi
  have : i = 0 := by omega
  subst this
  show upd _ h x h = upd _ g x g
  unfold upd; rw [if_pos rfl, if_pos rfl]
theorem ru_NEG {hb p p1 q q1 : Nat} (s1 : ru_SA Fin a T XL f0 1 hb p p1 q q1) (h0 : 1 ≤ hb) (c0 : co_c T p1 5) (r0 : co_r T 0 q1 5) : ru_SA Fin a T XL f0 1 hb p (p1 + 1) q (q1 + 1) := by
  refine ru_BEH s1 (by omega) (by omega) ?_
  intro c f h g np t cl vc vr d W hf hf0 hh hg hn ht hc hc' E k1 k2
  have E0 := E 0 (by omega)
  refine ru_pq (x := - q_a vc 802 h) d W (by omega) k1 ?_ ?_
  · rw [cs_step d.1 c0, cd_5, q_bv_id, cs_pop (by omega), q_bd_s, cs_push (by omega)]; rfl
  · rw [rs_step d.1 r0, rd_5, rs_pop (by omega), q_bd_s, rs_push (by omega), show q_a vc 802 h = q_a vr 2515 g from E0]; rfl
theorem ru_NOT {hb p p1 q q1 : Nat} (s1 : ru_SA Fin a T XL f0 1 hb p p1 q q1) (h0 : 1 ≤ hb) (c0 : co_c T p1 6) (r0 : co_r T 0 q1 6) : ru_SA Fin a T XL f0 1 hb p (p1 + 1) q (q1 + 1) := by
  refine ru_BEH s1 (by omega) (by omega) ?_
  intro c f h g np t cl vc vr d W hf hf0 hh hg hn ht hc hc' E k1 k2
  have E0 : q_a vc 802 h = q_a vr 2515 g := E 0 (by omega)
  refine ru_pq (x := if q_a vc 802 h = 0 then 1 else 0) d W (by omega) k1 ?_ ?_
  · rw [cs_step d.1 c0, cd_6, q_bv_id, cs_pop (by omega), q_bd_s]
    unfold fX4_workSingle_b122
    split <;> rw [cs_push (by omega)] <;> rfl
  · rw [rs_step d.1 r0, rd_6, rs_pop (by omega), q_bd_s, E0]
    unfold fX12_step_b260
    split <;> rw [rs_push (by omega)] <;> rfl
end
