section
variable {Fin : q_V → q_V → Prop} {a : ru_P} {T : co_T} {XL : Int32 → Int32 → Int32 → Prop} {f0 nu : Nat} {L : List (Nat × Nat)}
set_option maxHeartbeats 200000 in
theorem ru_REPEAT {hb p pa p1 q qa q1 d : Nat} {pl z : Int32} {al : Bool} (HO : ru_O Fin a T) (s1 : ru_SA Fin a T XL f0 1 hb (pa + 2) p1 (qa + 1) q1) (hhb : hb + 2 * nu ≤ 142) (hn : nu + 1 ≤ 14) (hd : d < 640) (hp : p1 ≤ 6016)
    (c0 : co_c T p 32) (c1 : co_c T pa 31) (c2 : co_c T (pa + 1) pl) (c3 : co_c T p1 23) (c4 : co_c T (p1 + 1) (nI p)) (r0 : co_r T 0 q 43) (r1 : co_r T 1 q (nI d)) (r2 : co_r T 0 (q + 1) 56) (r3 : co_r T 1 (q + 1) (nI d)) (r4 : co_r T 0 qa 55) (r5 : co_r T 1 qa pl) (r6 : co_r T 0 q1 57) (r7 : co_r T 1 q1 (nI d)) (r8 : co_r T 2 q1 (nI (q + 1))) (r9 : co_d T 4 d z) (hz : decide (z ≠ -1) = al) (r10 : co_d T 5 d (nI (q1 + 1)))
    (rnd : ru_RND Fin a T XL f0 nu L (p + 1) pa (q + 2) d pa (p1 + 2) qa (q1 + 1) al) (oq : q ≤ q1) : ru_SS Fin a T XL f0 nu L p (p1 + 2) q (q1 + 1) := by
  have o1 := s1.1
  have o2 := rnd.1
  refine ⟨by omega, by omega, ?_⟩
  intro c f h g np t cl vc vr d0 V0 bd n x
  obtain ⟨b1, b2, b3, b4, b5, b6, b7, b8, b9, b10⟩ := id bd
  have LI : ∀ f1, ∀ v w, f1 ≤ f → ru_D T XL cl (t + 1) np v w → ru_V v w → ru_K np t h g cl vc vr v w → ru_rgn t d g w → ru_G Fin a (40000 * f1 + (c + 1)) (mC v p h f1 np cl) (mR w (q + 1) g f1 (t + 1) cl) := by
    intro f1
    induction f1 using Nat.strongRecOn with
    | ind f1 ih =>
      intro v w hf1 D V K rg
      cases f1 with
      | zero =>
        rw [show 40000 * 0 + (c + 1) = c + 1 from by omega]
        refine ru_bb (w := 1) (vc1 := mC (q_si v 814 2) (p + 1) h 0 np cl) (vr1 := mR (q_si w 2513 2) (q + 2) g 0 (t + 1) cl) (by omega) ?_ ?_ D.2.2.2.2.1.2.2.1 V.1 D.2.2.2.2.1.2.2.2.1 D.2.2.2.2.1.2.2.2.2 ⟨Nat.le_add_right _ _, Nat.le_refl _⟩ ?_
        · rw [cs_step D.1 c0, cd_32, q_bv_id, cs_spend0, q_bd_s]; rfl
        · rw [rs_step D.1 r2, rd_56, q_bv_id, rs_burn0, q_bd_s, if_pos rfl]; rfl
        · exact ru_over (o := 2) HO (Or.inr rfl) D.1 D.2.1 (ru_Q_i (by omega) (by omega) D.2.2.1) (by omega) rfl rfl
      | succ f2 =>
        rw [show 40000 * (f2 + 1) + (c + 1) = 40000 * (f2 + 1) + c + 1 from by omega]
        refine ru_bb (w := 1) (vc1 := mC v (p + 1) h f2 np cl) (vr1 := mR (ru_rd w t al) (q + 2) g f2 (t + 1) cl) (by omega) ?_ ?_ D.2.2.2.2.1.2.2.1 V.1 D.2.2.2.2.1.2.2.2.1 D.2.2.2.2.1.2.2.2.2 ⟨Nat.le_add_right _ _, Nat.le_refl _⟩ ?_
        · rw [cs_step D.1 c0, cd_32, q_bv_id, cs_spend (by omega), q_bd_s]; rfl
        · rw [rs_step D.1 r2, rd_56, q_bv_id, rs_burn (by omega), q_bd_s, if_neg (by decide), r3.2, rs_rounds1 hd (by omega) (rs_4 D.1 r9), q_bv_s, hz]; rfl
        · refine ru_mono (rnd.2 (c + 4 * (p1 + 2 - pa) + 2) f2 h g np t cl v w D V (ru_bd_up bd hn (by omega) (by omega) b6) rg ?_ ?_ ?_) (by omega)
          · intro f4 v4 w4 D4 V4 hf4 K4 rg4 _
            have K5 : ru_K np t h g cl vc vr v4 w4 := ru_K_tr K K4 (Nat.le_refl _) (Nat.le_refl _) (Nat.le_refl _) (Nat.le_refl _) (Nat.le_refl _)
            have K6 : ru_K np t h g cl vc vr (q_si v4 811 pl) (q_si w4 2511 pl) := ru_K_i K5
            rw [show 40000 * f4 + (c + 4 * (p1 + 2 - pa) + 2) = 40000 * f4 + (c + 4 * (p1 + 2 - pa) + 1) + 1 from by omega]
            refine ru_bb (w := 1) (vc1 := mC (q_si v4 811 pl) (pa + 2) h f4 np cl) (vr1 := mR (q_si w4 2511 pl) (qa + 1) g f4 (t + 1) cl) (by omega) ?_ ?_ D4.2.2.2.2.1.2.2.1 V4.1 D4.2.2.2.2.1.2.2.2.1 D4.2.2.2.2.1.2.2.2.2 ⟨Nat.le_add_right _ _, Nat.le_refl _⟩ ?_
            · rw [cs_step D4.1 c1, cd_31, q_bv_id, cs_S D4.1 c2, q_bd_s, q_lt_s, mC_s811]; rfl
            · rw [rs_step D4.1 r4, rd_55, q_bv_id, r5.2, q_lt_s, mR_s2511]; rfl
            refine ru_mono (ru_EIN (c := c) (c1 := c + 2) s1 hhb hn hd r10 bd (Nat.le_refl _) (Nat.le_refl _) rfl (ru_D_i1 D4) ⟨V4.1, V4.2, rfl⟩ rg4 K6 (by omega) x (by omega) ?_) (by omega)
            intro f3 v3 w3 D3 W3 hf3 K3 rg3 E
            have K7 : ru_K np t h g cl vc vr v3 w3 := ru_K_tr K6 K3 (Nat.le_refl _) (by omega) (Nat.le_refl _) (Nat.le_refl _) (Nat.le_refl _)
            obtain ⟨g8, g1, g9, z91, eg⟩ := id rg3
            rw [show 40000 * f3 + (c + 2) = 40000 * f3 + (c + 1) + 1 from by omega]
            by_cases zz : q_a v3 802 h = 0
            · refine ru_bb (w := 1) (vc1 := mC v3 p h f3 np cl) (vr1 := mR w3 (q + 1) g f3 (t + 1) cl) (by omega) ?_ ?_ D3.2.2.2.2.1.2.2.1 W3.1 D3.2.2.2.2.1.2.2.2.1 D3.2.2.2.2.1.2.2.2.2 ⟨Nat.le_add_right _ _, Nat.le_refl _⟩ (ih f3 (by omega) v3 w3 (by omega) D3 (ru_wv W3) K7 rg3)
              · rw [cs_step D3.1 c3, cd_23, q_bv_id, cs_S D3.1 c4, q_bd_s, cs_pop (by omega), q_bd_s, if_pos zz]
                unfold fX4_flow_b101 fX4_jumpIf
                rw [if_neg (by decide), q_lt_s, mC_s810]; rfl
              · rw [rs_step D3.1 r6, rd_57, q_bv_id, r8.2, rs_pop (by omega), q_bd_s, if_pos (by rw [← E]; exact zz), q_lt_s, mR_s2510]; rfl
            · refine ru_bb (w := 1) (vc1 := mC v3 (p1 + 2) h f3 np cl) (vr1 := mR (q_si w3 2481 0) (q1 + 1) g f3 t cl) (by omega) ?_ ?_ D3.2.2.2.2.1.2.2.1 W3.1 D3.2.2.2.2.1.2.2.2.1 D3.2.2.2.2.1.2.2.2.2 ⟨Nat.le_add_right _ _, Nat.le_refl _⟩ (ru_mono (n f3 v3 _ (ru_D_j (ru_D_t0 D3 z91) (by omega) (by omega)) ⟨W3.1, rfl⟩ (by omega) (ru_K_j K7)) (by omega))
              · rw [cs_step D3.1 c3, cd_23, q_bv_id, cs_S D3.1 c4, q_bd_s, cs_pop (by omega), q_bd_s, if_neg zz]
                unfold fX4_flow_b101 fX4_jumpIf
                rw [if_pos rfl]; rfl
              · rw [rs_step D3.1 r6, rd_57, q_bv_id, r7.2, rs_pop (by omega), q_bd_s, if_neg (by rw [← E]; exact zz), rs_rounds0 hd (by omega) (rs_5 D3.1 r10) eg, q_bv_s]; rfl
          · intro f4 v4 w4 D4 V4 hf4 K5
            exact ru_mono (n f4 v4 w4 D4 V4 (by omega) (ru_K_tr K K5 (Nat.le_refl _) (Nat.le_refl _) (Nat.le_refl _) (Nat.le_refl _) (Nat.le_refl _))) (by omega)
          · intro f4 p'' h'' q'' g'' v4 w4 D4 V4 hf4 K5
            exact ru_monoL (x f4 p'' h'' q'' g'' v4 w4 D4 V4 (by omega) (ru_K_tr K K5 (Nat.le_refl _) (Nat.le_refl _) (Nat.le_refl _) (Nat.le_refl _) (Nat.le_refl _))) (by omega)
  refine ru_rs (rs_LOOP d0.1 (by omega) r0 r1) d0.2.2.2.2.1.2.2.2.1 d0.2.2.2.2.1.2.2.2.2 ?_
  refine ru_mono (LI f vc (ru_op vr t g 3 0 (nI d)) (Nat.le_refl _) (ru_D_t1 (ru_D_op d0) ru_op_w.2.2.2.1) ⟨V0.1, V0.2⟩ (ru_K_op ru_K_id (Nat.le_refl _)) ru_rgn_op) (by omega)
end
