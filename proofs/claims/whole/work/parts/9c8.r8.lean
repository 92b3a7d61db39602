section
variable {Fin : q_V → q_V → Prop} {a : ru_P} {T : co_T} {XL : Int32 → Int32 → Int32 → Prop} {f0 nu : Nat} {L : List (Nat × Nat)}
set_option maxHeartbeats 200000 in
theorem ru_lw_id {v v1 : q_V} {p h f np cl p1 h1 f1 np1 : Nat} (e : q_a v1 1400 = q_a v 1400) (e2 : q_f v1 = q_f v) : ru_lw (mC v p h f np cl) (mC v1 p1 h1 f1 np1 cl) := by
  refine ⟨?_, Nat.le_of_eq (ru_w_e (fun i => by rw [e2]))⟩
  rw [ru_l_mC, ru_l_mC]; unfold ru_l; rw [e]; exact Nat.le_add_right _ _
set_option maxHeartbeats 200000 in
theorem ru_rgn_e {t d g : Nat} {w w1 : q_V} (rg : ru_rgn t d g w) (e : ∀ j, 2488 ≤ j → j ≤ 2492 → q_a w1 j = q_a w j) : ru_rgn t d g w1 := by
  unfold ru_rgn
  rw [e 2488 (by omega) (by omega), e 2489 (by omega) (by omega), e 2490 (by omega) (by omega), e 2491 (by omega) (by omega), e 2492 (by omega) (by omega)]
  exact rg
set_option maxHeartbeats 200000 in
theorem ru_D_pc {cl t np h : Nat} {vc vr : q_V} {x : Int32} (d : ru_D T XL cl t np vc vr) : ru_D T XL cl t np (ru_pc vc h x) vr :=
  ⟨d.1, d.2.1, d.2.2.1, d.2.2.2.1, d.2.2.2.2.1, d.2.2.2.2.2⟩
set_option maxHeartbeats 200000 in
theorem ru_K_pc {np t h g cl h' : Nat} {vc vr v w : q_V} {x : Int32} (K : ru_K np t h g cl vc vr v w) (hh : h ≤ h') : ru_K np t h g cl vc vr (ru_pc v h' x) w :=
  ⟨K.1, fun i z => (by unfold ru_pc; rw [q_a_sa, if_pos rfl, upd_ne (by omega)]; exact K.2.1 i z), K.2.2.1, K.2.2.2.1, K.2.2.2.2.1, (by unfold ru_pc; rw [q_a_sa, if_neg (by omega)]; exact K.2.2.2.2.2.1), K.2.2.2.2.2.2⟩
set_option maxHeartbeats 200000 in
theorem pc_at {v : q_V} {h : Nat} {x : Int32} : q_a (ru_pc v h x) 802 h = x := by unfold ru_pc; rw [q_a_sa, if_pos rfl, upd_at]
set_option maxHeartbeats 200000 in
theorem pc_ne {v : q_V} {h i : Nat} {x : Int32} (hi : i ≠ h) : q_a (ru_pc v h x) 802 i = q_a v 802 i := by unfold ru_pc; rw [q_a_sa, if_pos rfl, upd_ne hi]
set_option maxHeartbeats 200000 in
theorem ru_EACH {hb p p1 ps q q1 qx d y : Nat} {z : Int32} {al : Bool} (HO : ru_O Fin a T) (s1 : ru_SA Fin a T XL f0 2 hb p p1 q q1) (hhb : hb + 2 * nu ≤ 142) (h2 : 2 ≤ hb) (hn : nu + 1 ≤ 14) (hd : d < 640) (hy : y < 24) (hp : ps ≤ 6016)
    (c0 : co_c T p1 33) (c1 : co_c T (p1 + 1) (nI y)) (c2 : co_c T (p1 + 2) (nI (ps + 2))) (c3 : co_c T ps 34) (c4 : co_c T (ps + 1) (nI p1)) (c5 : co_c T (ps + 2) 26) (c6 : co_c T (ps + 3) 2) (r0 : co_r T 0 q1 46) (r1 : co_r T 1 q1 (nI d)) (r2 : co_r T 0 (q1 + 1) 47) (r3 : co_r T 1 (q1 + 1) (nI d)) (r4 : co_d T 4 d z) (hz : decide (z ≠ -1) = al) (r5 : co_d T 5 d (nI qx)) (r7 : co_d T 7 d (nI y))
    (rnd : ru_RND Fin a T XL f0 nu L (p1 + 3) ps (q1 + 2) d ps (ps + 2) (q1 + 1) qx al) (oq : q1 ≤ qx) : ru_ST Fin a T XL f0 nu L p (ps + 4) q qx := by
  have o2 := rnd.1
  refine ru_BES s1 hhb (by omega) oq ?_
  intro c f h g np t cl vc vr d0 V0 bd E n x
  obtain ⟨b1, b2, b3, b4, b5, b6, b7, b8, b9, b10⟩ := id bd
  obtain ⟨cl, rfl⟩ : ∃ k, cl = k + 1 := ⟨cl - 1, by omega⟩
  -- the end of the loop: the class drops its two numbers
  have EX : ∀ f' v w, f' ≤ f → ru_D T XL (cl + 1) t np v w → ru_V v w → ru_K np t h g (cl + 1) vc vr v w → ru_G Fin a (40000 * f' + c + 1) (mC v (ps + 2) (h + 2) f' np (cl + 1)) (mR w qx g f' t (cl + 1)) := by
    intro f' v w hf D V K
    exact ru_cs (cs_DROP2 D.1 (by omega) c5 c6) D.2.2.2.2.1.2.2.1 V.1 (ru_lw_id rfl rfl) (n f' v w D V hf K)
  have HI : ∀ f1, ∀ v w (now last : Int32), f1 ≤ f → ru_D T XL (cl + 1) (t + 1) np v w → ru_V v w → ru_K np t h g (cl + 1) vc vr v w → ru_rgn t d g w → q_a v 802 h = now → q_a v 802 (h + 1) = last → q_b w 2493 t = now.toInt64 → q_b w 2494 t = last.toInt64 →
      ru_G Fin a (40000 * f1 + (c + 3)) (mC v p1 (h + 2) f1 np (cl + 1)) (mR w (q1 + 1) g f1 (t + 1) (cl + 1)) := by
    intro f1
    induction f1 using Nat.strongRecOn with
    | ind f1 ih =>
      intro v w now last hf1 D V K rg en el bn bl
      obtain ⟨g8, g1, g9, z91, eg⟩ := id rg
      have tst : (q_b w 2494 t < q_b w 2493 t) = (last < now) := by rw [bn, bl, i64_lt]
      by_cases le : now ≤ last
      · have nlt : ¬ q_b w 2494 t < q_b w 2493 t := by
          rw [tst, Int32.lt_iff_toInt_lt]; rw [Int32.le_iff_toInt_le] at le; omega
        have le' : q_a v 802 h ≤ q_a v 802 (h + 1) := by rw [en, el]; exact le
        cases f1 with
        | zero =>
          rw [show 40000 * 0 + (c + 3) = c + 2 + 1 from by omega]
          exact ru_cs (cs_EACH0 D.1 (by omega) c0 c1 c2 le') D.2.2.2.2.1.2.2.1 V.1 (ru_lw_id rfl rfl) (ru_rs (rs_ET0 D.1 (by omega) r2 r3 nlt) D.2.2.2.2.1.2.2.2.1 D.2.2.2.2.1.2.2.2.2 (ru_over (o := 2) HO (Or.inr rfl) D.1 D.2.1 (ru_Q_i (by omega) (by omega) D.2.2.1) (by omega) rfl rfl))
        | succ f2 =>
          have D5 : ru_D T XL (cl + 1) (t + 1) np (q_sc v 600 cl (upd (q_c v 600 cl) y (q_a v 802 h))) (ru_et w t (24 * (cl + 1) + y)) := by
            unfold ru_et
            rw [bn, i64_back, ← en]
            exact ru_D_b (ru_D_s D hy)
          have K5 : ru_K np t h g (cl + 1) vc vr (q_sc v 600 cl (upd (q_c v 600 cl) y (q_a v 802 h))) (ru_et w t (24 * (cl + 1) + y)) := by
            unfold ru_et
            exact ru_K_b (j0 := 2493) (vr1 := q_sa w 2509 _) (ru_K_s K) (Nat.le_refl _)
          have rg5 : ru_rgn t d g (ru_et w t (24 * (cl + 1) + y)) := ru_rgn_e rg (fun j h1 h2 => by unfold ru_et; rw [q_a_sb, q_a_sa, if_neg (by omega)])
          have bn5 : q_b (ru_et w t (24 * (cl + 1) + y)) 2493 t = now.toInt64 + 1 := by unfold ru_et; rw [q_b_sb, if_pos rfl, vpL_at, bn]
          have bl5 : q_b (ru_et w t (24 * (cl + 1) + y)) 2494 t = last.toInt64 := by unfold ru_et; rw [q_b_sb, if_neg (by omega), q_b_sa, bl]
          have st2 := rs_ET2 (g := g) (cl := cl + 1) D.1 (show t < 240 by omega) hd (show f2 < 20000 by omega) (by omega) hy r2 r3 r4 r7 nlt
          rw [hz] at st2
          rw [show 40000 * (f2 + 1) + (c + 3) = 40000 * (f2 + 1) + (c + 2) + 1 from by omega]
          refine ru_cs (cs_EACH2 D.1 (by omega) (by omega) (by omega) hy c0 c1 c2 le') D.2.2.2.2.1.2.2.1 V.1 (ru_lw_id rfl rfl) (ru_rs st2 D.2.2.2.2.1.2.2.2.1 D.2.2.2.2.1.2.2.2.2 ?_)
          refine ru_mono (rnd.2 (c + 4) f2 (h + 2) g np t (cl + 1) _ _ D5 ⟨V.1, V.2⟩ (ru_bd_up bd hn (by omega) (by omega) (by omega)) rg5 ?_ ?_ ?_) (by omega)
          · intro f4 v4 w4 D4 V4 hf4 K4 rg4 bb
            have K6 : ru_K np t h g (cl + 1) vc vr v4 w4 := ru_K_tr K5 K4 (Nat.le_refl _) (Nat.le_refl _) (by omega) (Nat.le_refl _) (Nat.le_refl _)
            have en4 : q_a v4 802 h = now := (K4.2.1 h (by omega)).trans en
            have el4 : q_a v4 802 (h + 1) = last := (K4.2.1 (h + 1) (by omega)).trans el
            have bn4 : q_b w4 2493 t = now.toInt64 + 1 := bb.1.trans bn5
            have bl4 : q_b w4 2494 t = last.toInt64 := bb.2.trans bl5
            obtain ⟨g8', g1', g9', z91', eg'⟩ := id rg4
            rw [show 40000 * f4 + (c + 4) = 40000 * f4 + (c + 3) + 1 from by omega]
            by_cases eq : now = last
            · refine ru_cs (cs_STEP0 D4.1 (by omega) c3 c4 (by rw [en4, el4]; exact eq)) D4.2.2.2.2.1.2.2.1 V4.1 (ru_lw_id rfl rfl) ?_
              refine ru_rs (rs_ET1 D4.1 (by omega) hd r2 r3 r5 eg' (by rw [bn4, bl4, eq]; exact i64_over)) D4.2.2.2.2.1.2.2.2.1 D4.2.2.2.2.1.2.2.2.2 ?_
              refine ru_mono (EX f4 _ _ (by omega) (ru_D_pc (ru_D_pc (ru_D_j (ru_D_t0 D4 z91') (by omega) (by omega)))) ⟨V4.1, rfl⟩ (ru_K_pc (ru_K_pc (ru_K_j K6) (Nat.le_refl _)) (by omega))) (by omega)
            · have lt : now < last := i32_ltne le eq
              refine ru_cs (cs_STEP1 D4.1 (by omega) c3 c4 (by rw [en4, el4]; exact eq)) D4.2.2.2.2.1.2.2.1 V4.1 (ru_lw_id rfl rfl) ?_
              refine ih f4 (by omega) _ w4 (now + 1) last (by omega) (ru_D_pc (ru_D_pc D4)) ⟨V4.1, V4.2⟩ (ru_K_pc (ru_K_pc K6 (Nat.le_refl _)) (by omega)) rg4 ?_ ?_ ?_ bl4
              · rw [pc_ne (by omega), pc_at, en4]
              · rw [pc_at]; exact el4
              · rw [bn4]; exact i64_inc lt
          · intro f4 v4 w4 D4 V4 hf4 K4
            exact ru_mono (EX f4 v4 w4 (by omega) D4 V4 (ru_K_tr K5 K4 (Nat.le_refl _) (Nat.le_refl _) (by omega) (Nat.le_refl _) (Nat.le_refl _))) (by omega)
          · intro f4 p'' h'' q'' g'' v4 w4 D4 V4 hf4 K4
            exact ru_monoL (x f4 p'' h'' q'' g'' v4 w4 D4 V4 (by omega) (ru_K_tr K5 K4 (Nat.le_refl _) (Nat.le_refl _) (by omega) (Nat.le_refl _) (Nat.le_refl _))) (by omega)
      · have lt : q_b w 2494 t < q_b w 2493 t := by rw [tst]; exact i32_nle le
        rw [show 40000 * f1 + (c + 3) = 40000 * f1 + (c + 2) + 1 from by omega]
        refine ru_cs (cs_EACH1 D.1 (by omega) c0 c1 c2 (by rw [en, el]; exact le)) D.2.2.2.2.1.2.2.1 V.1 (ru_lw_id rfl rfl) (ru_rs (rs_ET1 D.1 (by omega) hd r2 r3 r5 eg lt) D.2.2.2.2.1.2.2.2.1 D.2.2.2.2.1.2.2.2.2 ?_)
        exact ru_mono (EX f1 _ _ (by omega) (ru_D_j (ru_D_t0 D z91) (by omega) (by omega)) ⟨V.1, rfl⟩ (ru_K_j K)) (by omega)
  have E0 : q_a vc 802 h = q_a vr 2515 g := E 0 (by omega)
  have E1 : q_a vc 802 (h + 1) = q_a vr 2515 (g + 1) := E 1 (by omega)
  refine ru_rs (rs_EB d0.1 (by omega) (by omega) r0 r1) d0.2.2.2.2.1.2.2.2.1 d0.2.2.2.2.1.2.2.2.2 ?_
  have rge : ru_rgn t d g (ru_eb vr t g d (q_a vr 2515 g) (q_a vr 2515 (g + 1))) := ru_rgn_e (ru_rgn_op (vr := vr)) (fun j h1 h2 => by unfold ru_eb; rw [q_a_sb, q_a_sb])
  refine ru_mono (HI f vc _ (q_a vr 2515 g) (q_a vr 2515 (g + 1)) (Nat.le_refl _) (ru_D_t1 (ru_D_b (ru_D_b (ru_D_op d0))) rge.2.2.2.1) ⟨V0.1, V0.2.1⟩ ?_ rge E0 E1 ?_ ?_) (by omega)
  · unfold ru_eb
    exact ru_K_b (j0 := 2494) (ru_K_b (j0 := 2493) (ru_K_op ru_K_id (Nat.le_refl _)) (Nat.le_refl _)) (Nat.le_refl _)
  · unfold ru_eb; rw [q_b_sb, if_neg (by omega), q_b_sb, if_pos rfl, vpL_at]
  · unfold ru_eb; rw [q_b_sb, if_pos rfl, vpL_at]
end
