section
variable {Fin : q_V → q_V → Prop} {a : ru_P} {T : co_T} {XL : Int32 → Int32 → Int32 → Prop} {f0 nu : Nat} {L : List (Nat × Nat)}
/-- a round: its part, its block, its always part -/
def ru_RND (Fin : q_V → q_V → Prop) (a : ru_P) (T : co_T) (XL : Int32 → Int32 → Int32 → Prop) (f0 nu : Nat) (L : List (Nat × Nat)) (p pe q d pn px qa qx : Nat) (al : Bool) : Prop :=
  p ≤ pe ∧ ∀ c f h g np t cl vc w, ru_D T XL cl (t + 1) np vc w → ru_V vc w → ru_bd (nu + 1) f f0 h g (np + 1) (t + 1) cl → ru_rgn t d g w → ru_nx Fin a T XL c f h g np t cl d pn qa vc w → ru_n Fin a T XL c f h g np t cl px qx vc w → ru_x Fin a T XL L c f h g np t cl vc w →
    ru_G Fin a (40000 * f + c + 4 * (pe - p)) (mC vc p h f np cl) (mR (ru_rd w t al) q g f (t + 1) cl)
set_option maxHeartbeats 200000 in
theorem ru_RND0 {p p2 q q2 d pn px qa qx : Nat} (hL : ∀ e ∈ L, e.1 < p ∧ e.2 < d) (hat : p < 2147483648) (hd : d < 640) (c0 : co_c T p 46) (c2 : co_c T (p + 2) (nI pn)) (c3 : co_c T (p + 3) (nI px)) (c4 : co_c T (p + 4) 0) (r3 : co_d T 3 d (nI qa)) (r4 : co_d T 4 d (-1)) (r5 : co_d T 5 d (nI qx))
    (s : ru_SS Fin a T XL f0 (nu + 1) ((p, d) :: L) (p + 5) p2 q q2) (c5 : co_c T p2 54) (r6 : co_r T 0 q2 48) : ru_RND Fin a T XL f0 nu L p (p2 + 1) q d pn px qa qx false :=
  ⟨by have := s.1; omega, fun c f h g np t cl vc w D V bd rg nx n x => ru_ROUND0 hL hat hd c0 c2 c3 c4 r3 r4 r5 s c5 r6 D V bd rg nx n x⟩
set_option maxHeartbeats 200000 in
theorem ru_RND1 {p p2 p3 q q2 q3 d pn px qa qx : Nat} {pl : Int32} (hL : ∀ e ∈ L, e.1 < p ∧ e.2 < d) (hp2 : p3 < 6016) (hq2 : q3 < 4000) (hd : d < 640) (c0 : co_c T p 46) (c1 : co_c T (p + 1) pl) (c2 : co_c T (p + 2) (nI pn)) (c3 : co_c T (p + 3) (nI px)) (c4 : co_c T (p + 4) (nI (p2 + 1))) (r3 : co_d T 3 d (nI qa)) (r4 : co_d T 4 d (nI (q2 + 1))) (r5 : co_d T 5 d (nI qx)) (r6 : co_d T 6 d pl)
    (s : ru_SS Fin a T XL f0 (nu + 1) ((p, d) :: L) (p + 5) p2 q q2) (c5 : co_c T p2 54) (r7 : co_r T 0 q2 48) (s3 : ru_SS Fin a T XL f0 (nu + 1) ((p, d) :: L) (p2 + 1) p3 (q2 + 1) q3) (c6 : co_c T p3 54) (r8 : co_r T 0 q3 48) : ru_RND Fin a T XL f0 nu L p (p3 + 1) q d pn px qa qx true :=
  ⟨by have := s.1; have := s3.1; omega, fun c f h g np t cl vc w D V bd rg nx n x => ru_ROUND1 hL hp2 hq2 hd c0 c1 c2 c3 c4 r3 r4 r5 r6 s c5 r7 s3 c6 r8 D V bd rg nx n x⟩
set_option maxHeartbeats 200000 in
/-- a loop that is between rounds is left -/
theorem rs_lr9 {w v' : q_V} {q g f t cl d qx : Nat} (s : ru_S T v' w) (hd : d < 640) (ht : t < 240) (g8 : q_a w 2488 t = 3) (g1 : q_a w 2489 t = 0) (g9 : q_a w 2490 t = nI d) (r5 : co_d T 5 d (nI qx)) : rs_it (mR w q g f (t + 1) cl) = q_bd (fX12_closes (nI t) (nI qx) (mR w q g f (t + 1) cl)) rs_01 := by
  rw [rs_it3 ht g8]
  unfold fX12_leavesLoop
  rw [if_neg (by rw [ni_in ht (by omega)]; exact id), ni_clamp (by omega), mR_a, g9, q_lt_s, if_neg (by rw [ni_neg (by omega), false_or]; omega), g1, if_pos rfl, if_neg (by rw [ni_in hd (by omega)]; exact id), ni_clamp (by omega), rs_5 s r5]; rfl
set_option maxHeartbeats 200000 in
theorem ru_rgn_K {np t h g cl d g' : Nat} {vc w v w1 : q_V} (rg : ru_rgn t d g' w) (K : ru_K np (t + 1) h g cl vc w v w1) : ru_rgn t d g' w1 := by
  have ka : ∀ j, 2488 ≤ j → j ≤ 2500 → q_a w1 j t = q_a w j t := fun j x y => (K.2.2.1 j t x y (by omega)).1
  unfold ru_rgn
  rw [ka 2488 (by omega) (by omega), ka 2489 (by omega) (by omega), ka 2490 (by omega) (by omega), ka 2491 (by omega) (by omega), ka 2492 (by omega) (by omega)]
  exact rg
set_option maxHeartbeats 200000 in
/-- an E of a loop that is between rounds -/
theorem ru_EIN {hb pA p1 qA q1 c c1 f h g np t cl d qx hA gA : Nat} {vc vr vA wA : q_V} (s1 : ru_SA Fin a T XL f0 1 hb pA p1 qA q1) (hhb : hb + 2 * nu ≤ 142) (hn : nu + 1 ≤ 14) (hd : d < 640) (r5 : co_d T 5 d (nI qx)) (bd : ru_bd nu f f0 h g np t cl) (hA1 : h ≤ hA) (hA2 : hA ≤ h) (hg : gA = g)
    (D : ru_D T XL cl (t + 1) np vA wA) (W : ru_W vA wA) (rg : ru_rgn t d g wA) (K : ru_K np t h g cl vc vr vA wA) {fA : Nat} (hfA : fA ≤ f) (x : ru_x Fin a T XL L c f h g np t cl vc vr) (hc : c ≤ c1)
    (k : ∀ f' v w, ru_D T XL cl (t + 1) np v w → ru_W v w → f' ≤ fA → ru_K np (t + 1) h g cl vA wA v w → ru_rgn t d g w → q_a v 802 h = q_a w 2515 g → ru_G Fin a (40000 * f' + c1) (mC v p1 (h + 1) f' np cl) (mR w q1 (g + 1) f' (t + 1) cl)) :
    ru_G Fin a (40000 * fA + c1 + 4 * (p1 - pA)) (mC vA pA h fA np cl) (mR wA qA g fA (t + 1) cl) := by
  obtain ⟨b1, b2, b3, b4, b5, b6, b7, b8, b9, b10⟩ := bd
  refine s1.2.2 c1 fA h g np (t + 1) cl vA wA D W (by omega) b2 (by omega) b6 (by omega) (by omega) b9 b10 ?_ ?_
  · intro f' v w d' W' hf' K' E
    exact k f' v w d' W' hf' K' (ru_rgn_K rg K') (E 0 (by omega))
  · intro f' p'' h'' q'' g'' v w d' wt hf' K'
    obtain ⟨g8, g1, g9, z91, eg⟩ := ru_rgn_K rg K'
    have wl : ru_wl L v w := ru_wl_t wt
    have e2 : rs_it (mR w q'' g'' f' (t + 1) cl) = some (1, mR w q'' g'' f' t cl) := by
      rw [rs_lr9 d'.1 hd (by omega) g8 g1 g9 r5, rs_closes2 (ru_wl_c wl).2.2, q_bd_s, rs_01_1]
    exact ru_monoL (ru_le e2 (t := t + 1) (t1 := t) rfl rfl (by omega) (by omega) (x f' p'' h'' q'' g'' v w (ru_D_t0 d' z91) wl (by omega) (ru_K_tr K K' (Nat.le_refl _) (by omega) (Nat.le_refl _) (Nat.le_refl _) (Nat.le_refl _)))) (by omega)
set_option maxHeartbeats 200000 in
theorem ru_D_i1 {cl t np : Nat} {vc vr : q_V} {pl : Int32} (d : ru_D T XL cl t np vc vr) : ru_D T XL cl t np (q_si vc 811 pl) (q_si vr 2511 pl) :=
  ⟨d.1, d.2.1, ru_Q_i (by omega) (by omega) d.2.2.1, d.2.2.2.1, ⟨trivial, d.2.2.2.2.1.2.1.trans (ru_z_e (by rfl)).symm, d.2.2.2.2.1.2.2⟩, d.2.2.2.2.2⟩
set_option maxHeartbeats 200000 in
/-- both spend, at a place or not -/
theorem ru_SP44 {B p q h g f np t cl : Nat} {vc vr : q_V} {pl : Int32} (HO : ru_O Fin a T) (d : ru_D T XL cl t np vc vr) (W : ru_V vc vr) (hf : f ≤ 20000) (c0 : co_c T p 30) (c1 : co_c T (p + 1) pl) (r0 : co_r T 0 q 44) (r1 : co_r T 1 q pl)
    (k : ∀ f1, f = f1 + 1 → ru_D T XL cl t np (q_si vc 811 pl) (q_si vr 2511 pl) → ru_G Fin a B (mC (q_si vc 811 pl) (p + 2) h f1 np cl) (mR (q_si vr 2511 pl) (q + 1) g f1 t cl)) :
    ru_G Fin a (B + 1) (mC vc p h f np cl) (mR vr q g f t cl) := by
  cases f with
  | zero =>
    refine ru_bb (w := 1) (vc1 := mC (q_si vc 814 2) (p + 2) h 0 np cl) (vr1 := mR (q_si (q_si vr 2511 pl) 2513 2) (q + 1) g 0 t cl) (by omega) ?_ ?_ d.2.2.2.2.1.2.2.1 W.1 d.2.2.2.2.1.2.2.2.1 d.2.2.2.2.1.2.2.2.2 ⟨Nat.le_add_right _ _, Nat.le_refl _⟩ ?_
    · rw [cs_step d.1 c0, cd_30, q_bv_id, cs_S d.1 c1, q_bd_s, cs_spend0, q_bd_s, if_pos rfl]; rfl
    · rw [rs_step d.1 r0, rd_44, q_bv_id, r1.2, q_lt_s, mR_s2511, rs_burn0, q_bd_s]; rfl
    · exact ru_over (o := 2) HO (Or.inr rfl) d.1 d.2.1 (ru_Q_i (by omega) (by omega) (ru_Q_i (by omega) (by omega) d.2.2.1)) (by omega) rfl rfl
  | succ f =>
    refine ru_bb (w := 1) (vc1 := mC (q_si vc 811 pl) (p + 2) h f np cl) (vr1 := mR (q_si vr 2511 pl) (q + 1) g f t cl) (by omega) ?_ ?_ d.2.2.2.2.1.2.2.1 W.1 d.2.2.2.2.1.2.2.2.1 d.2.2.2.2.1.2.2.2.2 ⟨Nat.le_add_right _ _, Nat.le_refl _⟩ ?_
    · rw [cs_step d.1 c0, cd_30, q_bv_id, cs_S d.1 c1, q_bd_s, cs_spend (by omega), q_bd_s, if_neg (by decide), q_lt_s, mC_s811]; rfl
    · rw [rs_step d.1 r0, rd_44, q_bv_id, r1.2, q_lt_s, mR_s2511, rs_burn (by omega), q_bd_s]; rfl
    · exact k f rfl (ru_D_i1 d)
set_option maxHeartbeats 200000 in
/-- a loop's region opens -/
theorem rs_LOOP {vc vr : q_V} {q g f t cl d : Nat} (s : ru_S T vc vr) (ht : t < 240) (r0 : co_r T 0 q 43) (r1 : co_r T 1 q (nI d)) : fX12_step (mR vr q g f t cl) = some (mR (ru_op vr t g 3 0 (nI d)) (q + 1) g f (t + 1) cl) := by
  rw [rs_step s r0, rd_43, q_bv_id, r1.2, rs_opens ht, q_bv_s]; rfl
set_option maxHeartbeats 200000 in
theorem ru_rgn_op {vr : q_V} {t g d : Nat} : ru_rgn t d g (ru_op vr t g 3 0 (nI d)) := by
  obtain ⟨h1, h2, h3, h4, h5⟩ := ru_op_w (vr := vr) (t := t) (g := g) (s := 3) (st := 0) (e := nI d)
  exact ⟨h1, h2, h3, h4, h5⟩
set_option maxHeartbeats 200000 in
theorem ru_WHILE {hb p p1 px q q1 qx d : Nat} {pl z : Int32} {al : Bool} (HO : ru_O Fin a T) (s1 : ru_SA Fin a T XL f0 1 hb (p + 2) p1 (q + 2) q1) (hhb : hb + 2 * nu ≤ 142) (hn : nu + 1 ≤ 14) (hd : d < 640) (hp : px ≤ 6016)
    (c0 : co_c T p 30) (c1 : co_c T (p + 1) pl) (c2 : co_c T p1 23) (c3 : co_c T (p1 + 1) (nI px)) (r0 : co_r T 0 q 43) (r1 : co_r T 1 q (nI d)) (r2 : co_r T 0 (q + 1) 44) (r3 : co_r T 1 (q + 1) pl) (r4 : co_r T 0 q1 45) (r5 : co_r T 1 q1 (nI d)) (r6 : co_d T 4 d z) (hz : decide (z ≠ -1) = al) (r7 : co_d T 5 d (nI qx))
    (rnd : ru_RND Fin a T XL f0 nu L (p1 + 2) px (q1 + 1) d p px (q + 1) qx al) (oq : q ≤ qx) : ru_SS Fin a T XL f0 nu L p px q qx := by
  have o1 := s1.1
  have o2 := rnd.1
  refine ⟨by omega, oq, ?_⟩
  intro c f h g np t cl vc vr d0 V0 bd n x
  obtain ⟨b1, b2, b3, b4, b5, b6, b7, b8, b9, b10⟩ := id bd
  have LI : ∀ f1, ∀ v w, f1 ≤ f → ru_D T XL cl (t + 1) np v w → ru_V v w → ru_K np t h g cl vc vr v w → ru_rgn t d g w → ru_G Fin a (40000 * f1 + (c + 1)) (mC v p h f1 np cl) (mR w (q + 1) g f1 (t + 1) cl) := by
    intro f1
    induction f1 using Nat.strongRecOn with
    | ind f1 ih =>
      intro v w hf1 D V K rg
      refine ru_SP44 (B := 40000 * f1 + c) HO D V (by omega) c0 c1 r2 r3 ?_
      intro f2 e2 D2
      subst e2
      have K2 : ru_K np t h g cl vc vr (q_si v 811 pl) (q_si w 2511 pl) := ru_K_i K
      refine ru_mono (ru_EIN (c1 := (c + 1) + 4 * (px - (p1 + 2)) + 1) s1 hhb hn hd r7 bd (Nat.le_refl _) (Nat.le_refl _) rfl D2 ⟨V.1, V.2, rfl⟩ rg K2 (by omega) x (by omega) ?_) (by omega)
      intro f3 v3 w3 D3 W3 hf3 K3 rg3 E
      have K4 : ru_K np t h g cl vc vr v3 w3 := ru_K_tr K2 K3 (Nat.le_refl _) (by omega) (Nat.le_refl _) (Nat.le_refl _) (Nat.le_refl _)
      obtain ⟨g8, g1, g9, z91, eg⟩ := id rg3
      rw [show 40000 * f3 + ((c + 1) + 4 * (px - (p1 + 2)) + 1) = 40000 * f3 + (c + 1) + 4 * (px - (p1 + 2)) + 1 from by omega]
      by_cases zz : q_a v3 802 h = 0
      · refine ru_bb (w := 1) (vc1 := mC v3 px h f3 np cl) (vr1 := mR (q_si w3 2481 0) qx g f3 t cl) (by omega) ?_ ?_ D3.2.2.2.2.1.2.2.1 W3.1 D3.2.2.2.2.1.2.2.2.1 D3.2.2.2.2.1.2.2.2.2 ⟨Nat.le_add_right _ _, Nat.le_refl _⟩ (ru_mono (n f3 v3 _ (ru_D_j (ru_D_t0 D3 z91) (by omega) (by omega)) ⟨W3.1, rfl⟩ (by omega) (ru_K_j K4)) (by omega))
        · rw [cs_step D3.1 c2, cd_23, q_bv_id, cs_S D3.1 c3, q_bd_s, cs_pop (by omega), q_bd_s, if_pos zz]
          unfold fX4_flow_b101 fX4_jumpIf
          rw [if_neg (by decide), q_lt_s, mC_s810]; rfl
        · rw [rs_step D3.1 r4, rd_45, q_bv_id, r5.2, rs_pop (by omega), q_bd_s, if_pos (by rw [← E]; exact zz)]
          unfold fX12_stepOfStatement_b450 fX12_stepOfStatement_b600
          rw [rs_rounds0 hd (by omega) (rs_5 D3.1 r7) eg, q_bv_s]
      · refine ru_bb (w := 1) (vc1 := mC v3 (p1 + 2) h f3 np cl) (vr1 := mR (ru_rd w3 t al) (q1 + 1) g f3 (t + 1) cl) (by omega) ?_ ?_ D3.2.2.2.2.1.2.2.1 W3.1 D3.2.2.2.2.1.2.2.2.1 D3.2.2.2.2.1.2.2.2.2 ⟨Nat.le_add_right _ _, Nat.le_refl _⟩ ?_
        · rw [cs_step D3.1 c2, cd_23, q_bv_id, cs_S D3.1 c3, q_bd_s, cs_pop (by omega), q_bd_s, if_neg zz]
          unfold fX4_flow_b101 fX4_jumpIf
          rw [if_pos rfl]; rfl
        · rw [rs_step D3.1 r4, rd_45, q_bv_id, r5.2, rs_pop (by omega), q_bd_s, if_neg (by rw [← E]; exact zz)]
          unfold fX12_stepOfStatement_b450 fX12_stepOfStatement_b600
          rw [rs_rounds1 hd (by omega) (rs_4 D3.1 r6), q_bv_s, hz]
        · refine rnd.2 (c + 1) f3 h g np t cl v3 w3 D3 (ru_wv W3) (ru_bd_up bd hn (by omega) (by omega) b6) rg3 ?_ ?_ ?_
          · intro f4 v4 w4 D4 V4 hf4 K5 rg4 _
            exact ih f4 (by omega) v4 w4 (by omega) D4 V4 (ru_K_tr K4 K5 (Nat.le_refl _) (Nat.le_refl _) (Nat.le_refl _) (Nat.le_refl _) (Nat.le_refl _)) rg4
          · intro f4 v4 w4 D4 V4 hf4 K5
            exact ru_mono (n f4 v4 w4 D4 V4 (by omega) (ru_K_tr K4 K5 (Nat.le_refl _) (Nat.le_refl _) (Nat.le_refl _) (Nat.le_refl _) (Nat.le_refl _))) (by omega)
          · intro f4 p'' h'' q'' g'' v4 w4 D4 V4 hf4 K5
            exact ru_monoL (x f4 p'' h'' q'' g'' v4 w4 D4 V4 (by omega) (ru_K_tr K4 K5 (Nat.le_refl _) (Nat.le_refl _) (Nat.le_refl _) (Nat.le_refl _) (Nat.le_refl _))) (by omega)
  refine ru_rs (rs_LOOP d0.1 (by omega) r0 r1) d0.2.2.2.2.1.2.2.2.1 d0.2.2.2.2.1.2.2.2.2 ?_
  refine ru_mono (LI f vc (ru_op vr t g 3 0 (nI d)) (Nat.le_refl _) (ru_D_t1 (ru_D_op d0) ru_op_w.2.2.2.1) ⟨V0.1, V0.2⟩ (ru_K_op ru_K_id (Nat.le_refl _)) ru_rgn_op) (by omega)
end
