theorem cs_fset {v : q_V} {i y : Nat} {x : Int32} (h : y < 24) : fX3_set i (nI y) x v = some (q_sc v 600 i (upd (q_c v 600 i) y x)) := by
  unfold fX3_set fX3_set_b20
  simp (decide := true) (disch := omega) only [q_bd_s, q_bv_s, q_lt_s, q_i_si, q_i_sj, q_i_sa, q_i_sb, q_i_sf, q_i_sc, q_j_si, q_j_sj, q_j_sa, q_j_sb, q_j_sf, q_j_sc, q_a_si, q_a_sj, q_a_sa, q_a_sb, q_a_sf, q_a_sc, q_b_si, q_b_sj, q_b_sa, q_b_sb, q_b_sf, q_b_sc, q_f_si, q_f_sj, q_f_sa, q_f_sb, q_f_sf, q_f_sc, q_c_si, q_c_sj, q_c_sa, q_c_sb, q_c_sf, q_c_sc, q_n_si, q_n_sj, q_n_sa, q_n_sb, q_n_sf, q_n_sc, Nat.reduceEqDiff, Nat.reduceAdd, ↓reduceIte, Int32.reduceLT, Int32.reduceLE, Nat.reduceLeDiff, ni_neg, ni_clamp, ni_lef, or_self, or_false, false_or, ni_add1, ni_pred]
  rw [if_neg (by rw [show (24 : Int32) = nI 24 from rfl, ni_le (by omega) (by omega)]; omega)]
theorem mC_sc' {v : q_V} {p h f np cl k n : Nat} {x : Nat → Int32} : q_sc (mC v p h f np cl) k n x = mC (q_sc v k n x) p h f np cl := rfl
section
variable {Fin : q_V → q_V → Prop} {a : ru_P} {T : co_T} {XL : Int32 → Int32 → Int32 → Prop} {f0 nu : Nat} {L : List (Nat × Nat)}
theorem ru_F_s {cl y : Nat} {vc vr : q_V} {x : Int32} (h : ru_F XL (cl + 1) vc vr) (hy : y < 24) : ru_F XL (cl + 1) (q_sc vc 600 cl (upd (q_c vc 600 cl) y x)) (q_sa vr 2509 (upd (q_a vr 2509) (24 * (cl + 1) + y) x)) := by
  intro i hi
  obtain ⟨h1, h2, h3, w, h4, h5, h6, h7⟩ := h i hi
  refine ⟨?_, h2, h3, w, h4, h5, h6, ?_⟩
  · intro k hk
    show q_c (q_sc vc 600 cl _) 600 i k = upd (q_a vr 2509) (24 * (cl + 1) + y) x (24 * (i + 1) + k)
    rw [q_c_sc]
    unfold upd
    by_cases c : i = cl
    · subst c
      rw [if_pos ⟨rfl, rfl⟩]
      by_cases c2 : k = y
      · rw [if_pos c2, if_pos (by omega)]
      · rw [if_neg c2, if_neg (by omega)]; exact h1 k hk
    · rw [if_neg (fun z => c z.2), if_neg (by omega)]; exact h1 k hk
  · intro j hj
    rw [show q_c (q_sc vc 600 cl (upd (q_c vc 600 cl) y x)) 601 i j = q_c vc 601 i j from by rw [q_c_sc, if_neg (by omega)]]
    exact h7 j hj
theorem ru_D_s {cl t np y : Nat} {vc vr : q_V} {x : Int32} (d : ru_D T XL (cl + 1) t np vc vr) (hy : y < 24) : ru_D T XL (cl + 1) t np (q_sc vc 600 cl (upd (q_c vc 600 cl) y x)) (q_sa vr 2509 (upd (q_a vr 2509) (24 * (cl + 1) + y) x)) :=
  ⟨d.1, d.2.1, d.2.2.1, ru_F_s d.2.2.2.1 hy, ⟨d.2.2.2.2.1.1, d.2.2.2.2.1.2.1.trans (ru_z_c (v := vr) (w := q_sa vr 2509 (upd (q_a vr 2509) (24 * (cl + 1) + y) x)) (fun _ _ => rfl)).symm, d.2.2.2.2.1.2.2⟩, d.2.2.2.2.2⟩
theorem ru_K_s {np t h g cl i k : Nat} {vc vr vc1 vr1 : q_V} {u w : Nat → Int32} (K : ru_K np t h g cl vc vr vc1 vr1) : ru_K np t h g cl vc vr (q_sc vc1 k i u) (q_sa vr1 2509 w) :=
  ⟨K.1, K.2.1, fun j n z1 z2 z3 => ⟨(by rw [q_a_sa, if_neg (by omega)]; exact (K.2.2.1 j n z1 z2 z3).1), (K.2.2.1 j n z1 z2 z3).2⟩, K.2.2.2.1, K.2.2.2.2.1, K.2.2.2.2.2⟩
theorem ru_STORE {hb p p1 q q1 y : Nat} (s1 : ru_SA Fin a T XL f0 1 hb p p1 q q1) (hhb : hb + 2 * nu ≤ 142) (h0 : 1 ≤ hb) (hy : y < 24) (c0 : co_c T p1 27) (c1 : co_c T (p1 + 1) (nI y)) (r0 : co_r T 0 q1 3) (r1 : co_r T 1 q1 (nI y)) : ru_ST Fin a T XL f0 nu L p (p1 + 2) q (q1 + 1) := by
  refine ru_BES s1 hhb (by omega) (by omega) ?_
  intro c f h g np t cl vc vr d W bd E n x
  have E0 : q_a vc 802 h = q_a vr 2515 g := E 0 (by omega)
  obtain ⟨b1, b2, b3, b4, b5, b6, b7, b8, b9, b10⟩ := bd
  obtain ⟨cl, rfl⟩ : ∃ k, cl = k + 1 := ⟨cl - 1, by omega⟩
  refine ru_bb (vc1 := mC (q_sc vc 600 cl (upd (q_c vc 600 cl) y (q_a vc 802 h))) (p1 + 2) h f np (cl + 1)) (vr1 := mR (q_sa vr 2509 (upd (q_a vr 2509) (24 * (cl + 1) + y) (q_a vc 802 h))) (q1 + 1) g f t (cl + 1)) (by omega) ?_ ?_ d.2.2.2.2.1.2.2.1 W.1 d.2.2.2.2.1.2.2.2.1 d.2.2.2.2.1.2.2.2.2 ⟨Nat.le_add_right _ _, Nat.le_refl _⟩ ?_
  · rw [cs_step d.1 c0, cd_27, q_bv_id, cs_S d.1 c1, q_bd_s, cs_frame (by omega), q_bd_s, cs_pop (by omega), q_bd_s, cs_fset hy]; rfl
  · rw [rs_step d.1 r0, rd_3, r1.2, rs_pop (by omega), q_bd_s, mR_2501, ni_24, if_neg (by rw [ni_in (by omega) (by omega)]; exact id), ni_clamp (by omega), q_lt_s, E0]; rfl
  · exact n f _ _ (ru_D_s d hy) (ru_wv W) (Nat.le_refl _) (ru_K_s ru_K_id)
theorem ru_DROP {hb p p1 q q1 : Nat} (s1 : ru_SA Fin a T XL f0 1 hb p p1 q q1) (hhb : hb + 2 * nu ≤ 142) (h0 : 1 ≤ hb) (c0 : co_c T p1 26) (c1 : co_c T (p1 + 1) 1) (r0 : co_r T 0 q1 4) : ru_ST Fin a T XL f0 nu L p (p1 + 2) q (q1 + 1) := by
  refine ru_BES s1 hhb (by omega) (by omega) ?_
  intro c f h g np t cl vc vr d W bd E n x
  obtain ⟨b1, b2, b3, b4, b5, b6, b7, b8, b9, b10⟩ := bd
  refine ru_bb (vc1 := mC vc (p1 + 2) h f np cl) (vr1 := mR vr (q1 + 1) g f t cl) (by omega) ?_ ?_ d.2.2.2.2.1.2.2.1 W.1 d.2.2.2.2.1.2.2.2.1 d.2.2.2.2.1.2.2.2.2 ⟨Nat.le_add_right _ _, Nat.le_refl _⟩ ?_
  · rw [cs_step d.1 c0, cd_26, q_bv_id, cs_S d.1 c1, q_bd_s, mC_803, ni_pred, if_neg (by rw [ni_neg (by omega)]; exact id), q_lt_s, mC_s803]; rfl
  · rw [rs_step d.1 r0, rd_4, mR_2516, ni_pred, mR_s2516, q_lt_s]; rfl
  · exact n f _ _ d (ru_wv W) (Nat.le_refl _) ru_K_id
theorem ru_D_w {cl t np : Nat} {vc vr : q_V} {s n : Int32} (d : ru_D T XL cl t np vc vr) (hl : ru_l vc ≤ 2000000000) : ru_D T XL cl t np (ru_wr vc s n) (ru_nt vr s n) :=
  ⟨d.1, d.2.1, ru_Q_wr d.2.2.1 hl, d.2.2.2.1, ⟨d.2.2.2.2.1.1, d.2.2.2.2.1.2.1.trans (ru_z_c (v := vr) (w := ru_nt vr s n) (fun _ _ => rfl)).symm, d.2.2.2.2.1.2.2⟩, d.2.2.2.2.2⟩
theorem ru_K_w {np t h g cl : Nat} {vc vr vc1 vr1 : q_V} {s n : Int32} (K : ru_K np t h g cl vc vr vc1 vr1) : ru_K np t h g cl vc vr (ru_wr vc1 s n) (ru_nt vr1 s n) :=
  ⟨K.1, K.2.1, fun j n z1 z2 z3 => ⟨(by unfold ru_nt; rw [q_a_si, q_a_sa, if_neg (by omega), q_a_sa, if_neg (by omega)]; exact (K.2.2.1 j n z1 z2 z3).1), (K.2.2.1 j n z1 z2 z3).2⟩, K.2.2.2.1, K.2.2.2.2.1, K.2.2.2.2.2⟩
theorem ru_NOTE {hb p p1 q q1 : Nat} (s1 : ru_SA Fin a T XL f0 1 hb p p1 q q1) (hhb : hb + 2 * nu ≤ 142) (h0 : 1 ≤ hb) (c0 : co_c T p1 35) (r0 : co_r T 0 q1 31) : ru_ST Fin a T XL f0 nu L p (p1 + 1) q (q1 + 1) := by
  refine ru_BES s1 hhb (by omega) (by omega) ?_
  intro c f h g np t cl vc vr d W bd E n x
  have E0 : q_a vc 802 h = q_a vr 2515 g := E 0 (by omega)
  obtain ⟨b1, b2, b3, b4, b5, b6, b7, b8, b9, b10⟩ := bd
  refine ru_mono (B := 40000 * f + c + 1) (ru_G_l (fun hl => ?_)) (by omega)
  refine ru_bb (vc1 := mC (ru_wr vc 0 (q_a vc 802 h)) (p1 + 1) h f np cl) (vr1 := mR (ru_nt vr 0 (q_a vc 802 h)) (q1 + 1) g f t cl) (by omega) ?_ ?_ d.2.2.2.2.1.2.2.1 W.1 d.2.2.2.2.1.2.2.2.1 d.2.2.2.2.1.2.2.2.2 ?_ ?_
  · rw [cs_step d.1 c0, cd_35, q_bv_id, cs_pop (by omega), q_bd_s, cs_wr, mC_wr]; rfl
  · rw [rs_step d.1 r0, rd_31, q_bv_id, rs_pop (by omega), q_bd_s, rs_note (by exact ru_n70 d.2.2.1), mR_nt, E0]; rfl
  · refine ⟨?_, Nat.le_refl _⟩
    show ru_l (ru_wr vc 0 _) ≤ ru_l vc + 2
    rw [ru_l_wr (ru_n16 d.2.2.1) hl]; omega
  · exact n f _ _ (ru_D_w d hl) (ru_wv W) (Nat.le_refl _) (ru_K_w ru_K_id)
theorem ru_K_f {np t h g cl k m : Nat} {vc vr vc1 vr1 : q_V} {x : Int32} (K : ru_K np t h g cl vc vr vc1 vr1) (hm : np ≤ m) (hk : 1200 ≤ k) : ru_K np t h g cl vc vr (q_sf vc1 k m x) vr1 :=
  ⟨fun j n z1 z2 => by rw [q_f_sf, if_neg (by omega)]; exact K.1 j n z1 z2, K.2.1, K.2.2.1, K.2.2.2.1, K.2.2.2.2.1, K.2.2.2.2.2.1, fun i z => by rw [q_f_sf, if_neg (by omega)]; exact K.2.2.2.2.2.2 i z⟩
theorem ru_K_be {np t h g cl : Nat} {vc vr vc1 vr1 : q_V} {s n : Int32} (K : ru_K np t h g cl vc vr vc1 vr1) (hm : np ≤ 168) : ru_K np t h g cl vc vr (ru_be vc1 s n) vr1 := ru_K_f (ru_K_f K hm (by omega)) hm (by omega)
theorem ru_K_j {np t h g cl k : Nat} {vc vr vc1 vr1 : q_V} {x : Int32} (K : ru_K np t h g cl vc vr vc1 vr1) : ru_K np t h g cl vc vr vc1 (q_si vr1 k x) := K
theorem ru_D_j {cl t np k : Nat} {vc vr : q_V} {x : Int32} (d : ru_D T XL cl t np vc vr) (hk : 2481 ≤ k) (hk2 : k ≤ 2486) : ru_D T XL cl t np vc (q_si vr k x) :=
  ⟨d.1, d.2.1, ru_Q_i (by omega) (by omega) d.2.2.1, d.2.2.2.1, ⟨d.2.2.2.2.1.1, d.2.2.2.2.1.2.1.trans (ru_z_c (v := vr) (w := q_si vr k x) (fun _ _ => rfl)).symm, d.2.2.2.2.1.2.2.1, by rw [q_i_si, if_neg (by omega)]; exact d.2.2.2.2.1.2.2.2.1, by rw [q_i_si, if_neg (by omega)]; exact d.2.2.2.2.1.2.2.2.2⟩, d.2.2.2.2.2⟩
theorem ru_D_f {cl t np k m : Nat} {vc vr : q_V} {x : Int32} (d : ru_D T XL cl t np vc vr) (hk : 1200 ≤ k) : ru_D T XL cl t np (q_sf vc k m x) vr :=
  ⟨d.1, d.2.1, d.2.2.1, fun i hi => by
    obtain ⟨h1, h2, h3, w, h4, h5, h6, h7⟩ := d.2.2.2.1 i hi
    exact ⟨h1, by rw [q_f_sf, if_neg (by omega)]; exact h2, by rw [q_f_sf, if_neg (by omega)]; exact h3, w, h4, by rw [q_f_sf, if_neg (by omega)]; exact h5, h6, h7⟩, d.2.2.2.2.1, d.2.2.2.2.2⟩
theorem ru_D_be {cl t np : Nat} {vc vr : q_V} {s n : Int32} (d : ru_D T XL cl t np vc vr) : ru_D T XL cl t np (ru_be vc s n) vr := ru_D_f (ru_D_f d (by omega)) (by omega)
/-- both set out on a way -/
theorem ru_away {c f h g np t cl p0 q0 h0 g0 p1 h1 q1 g1 w : Nat} {vc vr vc1 vr1 : q_V} (d : ru_D T XL cl t np vc vr) (W : q_f vc 2000 168 = 0) (hw : 1 ≤ w) (x : ru_x Fin a T XL L c f h g np t cl vc vr)
    (e1 : fX4_step (mC vc p0 h0 f np cl) = some (mC vc1 p1 h1 f np cl)) (e2 : fX12_step (mR vr q0 g0 f t cl) = fX12_leaves (mR vr1 q1 g1 f t cl)) (hl : ru_lw (mC vc p0 h0 f np cl) (mC vc1 p1 h1 f np cl)) (d1 : ru_D T XL cl t np vc1 vr1) (w1 : ru_wl L vc1 vr1) (K : ru_K np t h g cl vc vr vc1 vr1) :
    ru_G Fin a (40000 * f + c + w) (mC vc p0 h0 f np cl) (mR vr q0 g0 f t cl) :=
  ru_mono (ru_cs e1 d.2.2.2.2.1.2.2.1 W hl (ru_rl e2 d.2.2.2.2.1.2.2.2.1 d.2.2.2.2.1.2.2.2.2 (x f p1 h1 q1 g1 vc1 vr1 d1 w1 (Nat.le_refl _) K))) (by omega)
theorem ru_ANS {hb p p1 q q1 : Nat} (s1 : ru_SA Fin a T XL f0 1 hb p p1 q q1) (hhb : hb + 2 * nu ≤ 142) (h0 : 1 ≤ hb) (c0 : co_c T p1 42) (r0 : co_r T 0 q1 38) : ru_ST Fin a T XL f0 nu L p (p1 + 1) q (q1 + 1) := by
  refine ru_BES s1 hhb (by omega) (by omega) ?_
  intro c f h g np t cl vc vr d W bd E n x
  have E0 : q_a vc 802 h = q_a vr 2515 g := E 0 (by omega)
  obtain ⟨b1, b2, b3, b4, b5, b6, b7, b8, b9, b10⟩ := bd
  refine ru_away (vc1 := ru_be vc 2 (q_a vc 802 h)) (vr1 := q_si (q_si vr 2483 (q_a vc 802 h)) 2481 3) (p1 := p1 + 1) (h1 := h) (q1 := q1 + 1) (g1 := g) d W.1 (by omega) x ?_ ?_ ⟨Nat.le_add_right _ _, Nat.le_refl _⟩ (ru_D_be (ru_D_j (ru_D_j d (by omega) (by omega)) (by omega) (by omega))) ?_ (ru_K_be (ru_K_j (ru_K_j ru_K_id)) (by omega))
  · rw [cs_step d.1 c0, cd_42, q_bv_id, cs_pop (by omega), q_bd_s]; rfl
  · rw [rs_step d.1 r0, rd_38, q_bv_id, rs_pop (by omega), q_bd_s, q_lt_s, q_lt_s, mR_s2483, mR_s2481, E0]
    unfold fX12_stepOfStatement_b600
    rw [q_bv_id]
  · exact Or.inr (Or.inl ⟨rfl, rfl, rfl⟩)
theorem ru_LV {p q at_ d_ : Nat} {o : Bool} (he : (at_, d_) ∈ L) (c0 : co_c T p (if o then 40 else 41)) (c1 : co_c T (p + 1) (nI at_)) (r0 : co_r T 0 q (if o then 39 else 40)) (r1 : co_r T 1 q (nI d_)) : ru_SS Fin a T XL f0 nu L p (p + 2) q (q + 1) := by
  refine ⟨by omega, by omega, ?_⟩
  intro c f h g np t cl vc vr d W bd n x
  obtain ⟨b1, b2, b3, b4, b5, b6, b7, b8, b9, b10⟩ := bd
  refine ru_away (vc1 := ru_be vc (if o then 8 else 16) (nI at_)) (vr1 := q_si (q_si vr 2481 (if o then 1 else 2)) 2482 (nI d_)) (p1 := p + 2) (h1 := h) (q1 := q + 1) (g1 := g) d W.1 (by omega) x ?_ ?_ ⟨Nat.le_add_right _ _, Nat.le_refl _⟩ (ru_D_be (ru_D_j (ru_D_j d (by omega) (by omega)) (by omega) (by omega))) ?_ (ru_K_be (ru_K_j (ru_K_j ru_K_id)) (by omega))
  · cases o
    · rw [cs_step d.1 c0, if_neg (by decide), cd_41, q_bv_id, cs_S d.1 c1, q_bd_s]; rfl
    · rw [cs_step d.1 c0, if_pos rfl, cd_40, q_bv_id, cs_S d.1 c1, q_bd_s]; rfl
  · cases o
    · rw [rs_step d.1 r0, if_neg (by decide), rd_40, q_bv_id, r1.2]
      unfold fX12_stepOfStatement_b238 fX12_stepOfStatement_b250 fX12_stepOfStatement_b600
      rw [if_neg (by decide), q_lt_s, q_lt_s, mR_s2481, mR_s2482, q_bv_id]; rfl
    · rw [rs_step d.1 r0, if_pos rfl, rd_39, q_bv_id, r1.2]
      unfold fX12_stepOfStatement_b238 fX12_stepOfStatement_b250 fX12_stepOfStatement_b600
      rw [if_pos rfl, q_lt_s, q_lt_s, mR_s2481, mR_s2482, q_bv_id]; rfl
  · refine Or.inr (Or.inr ⟨(at_, d_), he, ?_, rfl, rfl⟩)
    cases o
    · exact Or.inr ⟨rfl, rfl⟩
    · exact Or.inl ⟨rfl, rfl⟩
theorem ru_STOP {p q : Nat} (HO : ru_O Fin a T) (c0 : co_c T p 44) (r0 : co_r T 0 q 37) : ru_SS Fin a T XL f0 nu L p (p + 1) q (q + 1) := by
  refine ⟨by omega, by omega, ?_⟩
  intro c f h g np t cl vc vr d W bd n x
  obtain ⟨b1, b2, b3, b4, b5, b6, b7, b8, b9, b10⟩ := bd
  refine ru_bb (vc1 := mC (q_si vc 814 1) (p + 1) h f np cl) (vr1 := mR (q_si vr 2513 1) (q + 1) g f t cl) (by omega) ?_ ?_ d.2.2.2.2.1.2.2.1 W.1 d.2.2.2.2.1.2.2.2.1 d.2.2.2.2.1.2.2.2.2 ⟨Nat.le_add_right _ _, Nat.le_refl _⟩ ?_
  · rw [cs_step d.1 c0, cd_44, q_bv_id, q_lt_s, mC_s814]; rfl
  · rw [rs_step d.1 r0, rd_37, q_bv_id, q_lt_s, mR_s2513]; rfl
  · exact ru_over (o := 1) HO (Or.inl rfl) d.1 d.2.1 (ru_Q_i (by omega) (by omega) d.2.2.1) (by omega) rfl rfl
end
