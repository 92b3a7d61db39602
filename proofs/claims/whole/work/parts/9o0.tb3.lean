/-- the reference's writing of a duty -/
def r60 (D : Nat) (x : Int64) (y : Int32) (w : q_V) : q_V := q_si (q_si (q_si (q_si (q_si (q_sa (q_sb w 2427 (vp_updL (q_b w 2427) D x)) 2431 (upd (q_a w 2431) D y)) 2433 (nI (D + 1))) 2441 0) 2442 0) 2445 0) 2446 0
section
variable {g : rd_G} {i n p i' n' q d k s l b e e' D Bd : Nat} {C : Nat → Int32} {r : Int32} {R : Nat → Nat → Int32} {K : rd_K} {A : rd_A} {v w v0 w0 v1 w1 : q_V} {f x : Int32} {Y : rd_Y}
set_option maxHeartbeats 200000 in
theorem re_60 {x : Int64} {y : Int32} : re w (r60 D x y w) := re_i (re_i (re_i (re_i (re_i (re_a (re_b re_0) (by omega)) (by omega)) (by omega)) (by omega)) (by omega)) (by omega)
set_option maxHeartbeats 200000 in
theorem r_60 {t : Nat} (h3 : q_i w 2433 = nI D) (hD : D < 320) (ht : t < 3002) : fX12_duty_b60 (nI t) w = q_bv (fX12_takeSign 40 (r60 D (q_b w 2406 t) (q_a w 2405 t) w)) (fun T => q_bd (fX12_isSign 41 T) (fun y3015 T3014 => if y3015 = 0 then fX12_duty_L134 q_N (nI D) T3014 else fX12_duty_b148 (nI D) T3014)) := by
  have hin : ¬ (nI D < 0 ∨ 320 ≤ (nI D).toNatClampNeg) := ni_nin hD (by omega)
  have hit : ¬ (nI t < 0 ∨ 3002 ≤ (nI t).toNatClampNeg) := ni_nin ht (by omega)
  unfold fX12_duty_b60 r60
  rw [h3, q_lt_s, if_neg hit, if_neg hin, q_lt_s, if_neg hit, if_neg hin, q_lt_s, q_lt_s, q_lt_s, q_lt_s, q_lt_s, q_lt_s, ni_clamp (show D < 2147483648 by omega), ni_clamp (show t < 2147483648 by omega), q_i_sa, q_i_sb, h3, ni_add1, q_a_sb]
set_option maxHeartbeats 200000 in
theorem HR_reb : ∀ m j c h, HR (reb g v w) m j c h ↔ HR g m j c h := by
  intro m
  induction m with
  | zero => intro j c h; exact Iff.rfl
  | succ m ih =>
    intro j c h
    constructor
    · rintro ⟨h1, c', h2, h3⟩
      exact ⟨h1, c', h2, (ih _ _ _).1 h3⟩
    · rintro ⟨h1, c', h2, h3⟩
      exact ⟨h1, c', h2, (ih _ _ _).2 h3⟩
set_option maxHeartbeats 200000 in
/-- a duty -/
theorem t_duty {dl : List rd_R} (G : GT g) (X : TY g v0 w0 dl i p C q d r R K e e' Y v w) : jd v0 w0 (fun v w => ∃ rc i p C q d r R K A e e' Y, TX g v0 w0 (dl ++ [rc]) i p C q d r R K A e e' Y v w) (fX8_readDuty (nI dl.length) v) (fX12_duty w) := by
  have X' := X
  obtain ⟨⟨ok, kv, kw⟩, ⟨hT0, hB0, hR0, hM0⟩, ⟨z1, z2, z3, z4, z5⟩, ⟨nC, cr⟩, ⟨fn, f3, f33⟩, FT, FE, SEM⟩ := X'
  have hL : gL g ≤ 3000 := ok.1
  have hm3 : gm g ≤ 3000 := ok.2.2.1.2.2
  have hi : i ≤ gm g := hT0.2.2.2.2.2.2.2.1
  have ta : tka g i ≤ gL g := (tk_al ok.1 i).2
  unfold fX8_readDuty fX12_duty
  by_cases c300 : tkc g i = 300
  · obtain ⟨v1, a1, s1, l1⟩ := e_exp ok hT0 c300 (by decide) (by decide)
    obtain ⟨b1, r1⟩ := f_take (c := 300) (y := 10) ok hR0 rfl (by decide) c300 (by decide) (by decide)
    have hi1 : i + 1 ≤ gm g := s1.2.2.2.2.2.2.2.1
    have fv1 : rdf v v1 := rdf_l rdf_0 l1
    have fw1 : rdF w (q_si w 2410 (nI (i + 1))) := rdF_i rdF_0 (by omega)
    have ok1 : rd_ok (reb g v1 (q_si w 2410 (nI (i + 1)))) := ok_reb (g := reb g v w) ok fv1 fw1
    rw [a1, q_bv_s, q_lt_s, q_lt_s, b1, q_bv_s, q_lt_e (show q_i (q_si w 2410 (nI (i + 1))) 2410 = nI (i + 1) from q_i_at)]
    by_cases c259 : tkc g (i + 1) = 259
    · obtain ⟨v2, a2, s2, l2⟩ := e_exp ok1 s1 c259 (by decide) (by decide)
      obtain ⟨b2, r2⟩ := f_take (c := 259) (y := 2) ok1 r1 rfl (by decide) c259 (by decide) (by decide)
      have fw2 : rdF w (q_si (q_si w 2410 (nI (i + 1))) 2410 (nI (i + 1 + 1))) := rdF_i fw1 (by omega)
      have bw2 : br e' (q_si (q_si w 2410 (nI (i + 1))) 2410 (nI (i + 1 + 1))) := by
        have := hM0.2.1
        unfold br at this ⊢
        rw [q_i_ne (by omega), q_i_ne (by omega), q_i_ne (by omega), q_i_ne (by omega)]; exact this
      have qjw : q_j (q_si (q_si w 2410 (nI (i + 1))) 2410 (nI (i + 1 + 1))) = q_j w := rfl
      have hwx : ∃ w2, w2 = q_si (q_si w 2410 (nI (i + 1))) 2410 (nI (i + 1 + 1)) := ⟨_, rfl⟩
      obtain ⟨w2, hw2⟩ := hwx
      rw [← hw2] at b2 r2 fw2 bw2 qjw
      have hi2 : i + 2 ≤ gm g := s2.2.2.2.2.2.2.2.1
      have hta1 : tka g (i + 1) ≤ gL g := (tk_al ok.1 (i + 1)).2
      have t4 : tka g i + 4 ≤ tka g (i + 1) := kw_4 (g := reb g v w) (j := 0) ok (by omega) c300
      have hD : dl.length < 300 := by omega
      have hDm : (dl.map (fun r : rd_R => (r.1, r.2.1))).length = dl.length := List.length_map ..
      obtain ⟨g1, g2, g3⟩ := GT_next G cr c300 c259 (by rw [hDm]; exact hD)
      rw [hDm] at g1 g2
      have fv2 : rdf v v2 := rdf_l fv1 l2
      have ok2 : rd_ok (reb g v2 w2) := ok_reb (g := reb g v w) ok fv2 fw2
      have hB2 : sB p C v2 := ⟨(l2.1 1 (by omega)).trans ((l1.1 1 (by omega)).trans hB0.1), by rw [l2.2.2.1, l1.2.2.1]; exact hB0.2⟩
      have bv2 : bl 1011 1012 e v2 := by
        have := hM0.1
        unfold bl at this ⊢
        rw [l2.1 1011 (by omega), l2.1 1012 (by omega), l1.1 1011 (by omega), l1.1 1012 (by omega)]; exact this
      obtain ⟨v3, a3, e3, c3, z30, f30, q30, l30⟩ := d_cb (D := dl.length) (t := i + 1) ok2 bv2 g2 g1
      obtain ⟨w3, b3, e3', c3'⟩ := d_rb (D := dl.length) (t := i + 1) ok2 hi1 c259 r2.1.1 bw2 g2 g1 ((fw2.1 2433 (by omega)).1.trans f33) (fun j hj => by
        rw [(fw2.1 2427 (by omega)).2.2]
        have hj3 : ∃ r, dl[j]? = some r := ⟨_, List.getElem?_eq_getElem hj⟩
        obtain ⟨rc, hr⟩ := hj3
        rw [(FT j rc hr).2.1]
        exact (g3 j (rc.1, rc.2.1) (by rw [List.getElem?_map, hr]; rfl)).symm)
      have hin := f_in ok1 r1
      have n3 : q_n (q_si v3 3 (nI (dl.length + 1))) 2 = 150 := by rw [q_n_si, c3.2.2.2.2.2.2, fv2.2.2.2.2.2]; exact fn
      have e1p : q_i v3 1 = nI p := (c3.1 1 (by omega)).trans hB2.1
      have tk := ok2.2.2.2.2.2.2.2 (i + 1) (by show i + 1 < gm g + 1; omega)
      have hnm : q_b w2 2406 (i + 1) = tkw g (i + 1) := tk.2.2.1 c259
      have hpl : q_a w2 2405 (i + 1) = nI (tka g (i + 1)) := tk.2.1
      rw [a2, q_bv_s, e_stop ok2 s2, q_bd_s, if_pos rfl, s1.2.2.2.2.1 c259, s1.2.2.2.1, a3, q_bv_s, b2, q_bv_s, f_fine r2, q_bd_s, if_neg (show ¬ (1 : Int32) = 0 by decide), if_neg hin.1, hin.2.1, b3]
      unfold fX0_addDuty
      rw [q_lt_s, ni_add1]
      rw [show fX0_setFact (nI dl.length) 2 = fX0_setFact (nI dl.length) (nI 2) from rfl, show fX0_setFact (nI dl.length) 4 = fX0_setFact (nI dl.length) (nI 4) from rfl]
      rw [c_fact n3 (by omega) (by omega), q_bv_s, cF_i, q_i_ne (by omega), e1p, c_fact (by rw [cF_n]; exact n3) (by omega) (by omega), q_bv_s, q_bv_s, r_60 (D := dl.length) ((sb2_i c3' (by omega)).trans ((fw2.1 2433 (by omega)).1.trans f33)) (by omega) (by omega), (sb2_r c3').1, (sb2_r c3').2, hnm, hpl]
      have cev : ce v2 (cF dl.length 4 (nI p) (cF dl.length 2 (nI (tka g (i + 1))) (q_si v3 3 (nI (dl.length + 1))))) := cF_ce (cF_ce (ce_i c3 (by omega)))
      have rew : re w2 (r60 dl.length (tkw g (i + 1)) (nI (tka g (i + 1))) w3) := by
        obtain ⟨xa, xb, rfl⟩ := c3'
        have : re w2 (q_si (q_si w2 2412 xa) 2413 xb) := re_i (re_i re_0 (by omega)) (by omega)
        exact re_i (re_i (re_i (re_i (re_i (re_a (re_b this) (by omega)) (by omega)) (by omega)) (by omega)) (by omega)) (by omega)
      have iv : ∀ j, j ≠ 3 → q_i (cF dl.length 4 (nI p) (cF dl.length 2 (nI (tka g (i + 1))) (q_si v3 3 (nI (dl.length + 1))))) j = q_i v3 j := fun j hj => by rw [cF_i, cF_i, q_i_ne hj]
      have sc4 := SC_new (A' := (fun _ => (0, 0), q_i v2 1604, q_j w2 2426, fun _ => (0, 0))) (e1 := dE g dl.length (i + 1) e) (e1' := dE g dl.length (i + 1) e') ⟨s2, hB2, r2⟩ cev rew (by rw [iv 1005 (by omega), iv 1006 (by omega), iv 1009 (by omega), iv 1010 (by omega)]; exact z30) ⟨rfl, rfl, rfl, rfl⟩ ⟨by rw [iv 1604 (by omega), l30], by
          rw [show q_j (r60 dl.length (tkw g (i + 1)) (nI (tka g (i + 1))) w3) = q_j w3 from rfl]
          obtain ⟨xa, xb, rfl⟩ := c3'
          rfl⟩ ⟨by unfold bl at e3 ⊢; rw [iv 1011 (by omega), iv 1012 (by omega)]; exact e3, e3', by rw [hM0.2.2, dE_min]⟩
      have ok4 : rd_ok (reb g (cF dl.length 4 (nI p) (cF dl.length 2 (nI (tka g (i + 1))) (q_si v3 3 (nI (dl.length + 1))))) (r60 dl.length (tkw g (i + 1)) (nI (tka g (i + 1))) w3)) := ok_ce ok2 cev rew
      have k4 : rdk v0 (cF dl.length 4 (nI p) (cF dl.length 2 (nI (tka g (i + 1))) (q_si v3 3 (nI (dl.length + 1))))) := rdk_ce (rdk_f kv fv2) cev
      have K4 : rdK w0 (r60 dl.length (tkw g (i + 1)) (nI (tka g (i + 1))) w3) := rdK_re (rdK_f kw fw2) rew
      have n4 : q_n (cF dl.length 4 (nI p) (cF dl.length 2 (nI (tka g (i + 1))) (q_si v3 3 (nI (dl.length + 1))))) 2 = 150 := by rw [cF_n, cF_n]; exact n3
      have b3' : q_i (cF dl.length 4 (nI p) (cF dl.length 2 (nI (tka g (i + 1))) (q_si v3 3 (nI (dl.length + 1))))) 3 = nI (dl.length + 1) := by rw [cF_i, cF_i, q_i_at]
      have b33 : q_i (r60 dl.length (tkw g (i + 1)) (nI (tka g (i + 1))) w3) 2433 = nI (dl.length + 1) := rfl
      have a2e : ∀ y, (y < 5 * dl.length) → q_a (cF dl.length 4 (nI p) (cF dl.length 2 (nI (tka g (i + 1))) (q_si v3 3 (nI (dl.length + 1))))) 2 y = q_a v 2 y := fun y hy => by
        rw [cF_2, if_neg (by omega), cF_2, if_neg (by omega), q_a_si, q30, (fv2.2.2.1 2 (by omega)).1]
      have FB : ∀ j rc, dl[j]? = some rc → dF (cF dl.length 4 (nI p) (cF dl.length 2 (nI (tka g (i + 1))) (q_si v3 3 (nI (dl.length + 1))))) (r60 dl.length (tkw g (i + 1)) (nI (tka g (i + 1))) w3) j rc := by
        intro j rc hj
        have hj2 : j < dl.length := by
          rcases Nat.lt_or_ge j dl.length with z | z
          · exact z
          · rw [List.getElem?_eq_none z] at hj; cases hj
        obtain ⟨h1, h2, h3, h4, h5, h6, h7⟩ := FT j rc hj
        have ra : ∀ kk, 2427 ≤ kk → kk ≤ 2432 → q_a w3 kk = q_a w kk := fun kk h1 h2 => by rw [(sb2_r c3').1, (fw2.1 kk (by omega)).2.1]
        have r7 : q_b w3 2427 = q_b w 2427 := by rw [(sb2_r c3').2, (fw2.1 2427 (by omega)).2.2]
        unfold r60 dF
        rw [a2e _ (by omega), a2e (5 * j + 1) (by omega), a2e (5 * j + 2) (by omega), a2e (5 * j + 3) (by omega), a2e (5 * j + 4) (by omega)]
        refine ⟨h1, ?_, ?_, ?_, ?_, ?_, ?_⟩
        · rw [q_b_si, q_b_si, q_b_si, q_b_si, q_b_si, q_b_sa, q_b_sb, if_pos rfl, r7]
          unfold vp_updL; rw [if_neg (by omega)]; exact h2
        · rw [q_a_si, q_a_si, q_a_si, q_a_si, q_a_si, q_a_sa, if_neg (by omega), q_a_sb, ra 2428 (by omega) (by omega)]; exact h3
        · rw [q_a_si, q_a_si, q_a_si, q_a_si, q_a_si, q_a_sa, if_neg (by omega), q_a_sb, ra 2429 (by omega) (by omega)]; exact h4
        · rw [q_a_si, q_a_si, q_a_si, q_a_si, q_a_si, q_a_sa, if_neg (by omega), q_a_sb, ra 2430 (by omega) (by omega)]; exact h5
        · rw [q_a_si, q_a_si, q_a_si, q_a_si, q_a_si, q_a_sa, if_pos rfl, upd_ne (by omega), ra 2431 (by omega) (by omega)]; exact h6
        · rw [q_a_si, q_a_si, q_a_si, q_a_si, q_a_si, q_a_sa, if_neg (by omega), q_a_sb, ra 2432 (by omega) (by omega)]; exact h7
      have FD : (dl.length < 30 → q_a (cF dl.length 4 (nI p) (cF dl.length 2 (nI (tka g (i + 1))) (q_si v3 3 (nI (dl.length + 1))))) 2 (5 * dl.length + 2) = nI (tka g (i + 1)) ∧ q_a (cF dl.length 4 (nI p) (cF dl.length 2 (nI (tka g (i + 1))) (q_si v3 3 (nI (dl.length + 1))))) 2 (5 * dl.length + 4) = nI p) ∧ q_b (r60 dl.length (tkw g (i + 1)) (nI (tka g (i + 1))) w3) 2427 dl.length = tkw g (i + 1) ∧ q_a (r60 dl.length (tkw g (i + 1)) (nI (tka g (i + 1))) w3) 2431 dl.length = nI (tka g (i + 1)) := by
        refine ⟨fun h30 => ⟨by rw [cF_2, if_neg (by omega), cF_2, if_pos ⟨h30, rfl⟩], by rw [cF_2, if_pos ⟨h30, rfl⟩]⟩, ?_, ?_⟩
        · unfold r60
          rw [q_b_si, q_b_si, q_b_si, q_b_si, q_b_si, q_b_sa, q_b_sb, if_pos rfl]
          unfold vp_updL; rw [if_pos rfl]
        · unfold r60
          rw [q_a_si, q_a_si, q_a_si, q_a_si, q_a_si, q_a_sa, if_pos rfl, upd_at]
      have hN : rd_N = 1000000 := rfl
      have h30 : dE g dl.length (i + 1) e = rd_N → dl.length < 30 := fun z => dE_30 z (by omega)
      have hle1 : dE g dl.length (i + 1) e ≤ e := dE_le
      have hle2 : dE g dl.length (i + 1) e' ≤ e' := dE_le
      clear a2e iv cev rew FT FE SEM f33 f3 fn z1 z2 z4 z5 e1p n3 tk hnm hpl q30 l30 f30 z30 c3 c3' e3 e3' a3 b3 s2 s1 bw2 bv2 hw2 qjw r1 r2 b1 b2 ok1
      generalize cF dl.length 4 (nI p) (cF dl.length 2 (nI (tka g (i + 1))) (q_si v3 3 (nI (dl.length + 1)))) = vb at *
      generalize r60 dl.length (tkw g (i + 1)) (nI (tka g (i + 1))) w3 = wb at *
      have s5 := SC_St sc4
      have hi3 : i + 2 ≤ gm g := (St_im s5).1
      have ov0 : ∀ j a c, ov g j 0 a c := fun j a c z => absurd z (by omega)
      by_cases c40 : tkc g (i + 2) = 40
      · obtain ⟨v6, a6, s6⟩ := c_exp ok4 s5 c40 (by decide) (by decide)
        obtain ⟨w7, b7, s7⟩ := r_takeS (c := 40) ok4 s6 rfl (by decide) c40 (by decide) (by decide)
        have hi4 : i + 3 ≤ gm g := (St_im s7).1
        have t34 : tka g (i + 2) < tka g (i + 3) := tka_lt (g := reb g vb wb) ok4 (show i + 2 < i + 3 by omega) hi4
        have H0 : ∀ m c h, HR g m (i + 3) c h → ∃ m', HR g m' (i + 2) (c + 0) h := fun m c h hh => ⟨m + 1, Or.inl c40, c, by rw [if_neg (by rw [c40]; decide)], hh⟩
        rw [a6, q_bv_s, c_kind s7, b7, q_bv_s, r_sign (c := 41) ok4 s7 rfl (by decide), q_bd_s, lx_i0, show tkc (reb g vb wb) (i + 1 + 1 + 1) = tkc g (i + 3) from rfl]
        by_cases c41 : tkc g (i + 3) = 41
        · rw [if_pos c41, if_pos c41]
          exact d_tail ok4 X c300 c259 k4 K4 n4 b3' b33 FB FD s7 (Nat.le_refl _) H0 (by show 2 * 0 + tka g (i + 2) ≤ tka g (i + 3); omega) ⟨hle1, hle2⟩ h30 (fun _ => by omega) (ov0 _ _ _)
        · rw [if_neg c41, if_neg c41]
          unfold fX8_readParameters
          refine par_loop (g := reb g vb wb) (n := 0) (l := 0) (b := 0) (j0 := i + 2) (e := dE g dl.length (i + 1) e) (e' := dE g dl.length (i + 1) e') (Bd := 3011) ok4 (by omega) (fun f x v h => x_94 ok4 h k4 n4 (by omega)) (fun f x w h => y_148 h K4 (by omega) (by omega)) (fun i1 k1 s1 A1 e1 e1' v w hlt S H hs h1 h2 h8 o => ?_) (gm g - (i + 3)) 0 (i + 3) 0 0 _ _ _ v6 w7 q_N q_N rfl (by unfold q_N; omega) (by unfold q_N; omega) (by omega) s7 (fun m c h hh => by obtain ⟨m', q⟩ := H0 m c h ((HR_reb _ _ _ _).1 hh); exact ⟨m', (HR_reb _ _ _ _).2 q⟩) (by show 2 * 0 + tka g (i + 2) + 1 ≤ tka g (i + 3); omega) (Nat.le_refl _) (Nat.le_refl _) (fun _ => by omega) (ov0 _ _ _)
          exact d_tail ok4 X c300 c259 k4 K4 n4 b3' b33 FB FD S (by omega) (fun m c h hh => by obtain ⟨m', q⟩ := H m c h ((HR_reb _ _ _ _).2 hh); exact ⟨m', (HR_reb _ _ _ _).1 q⟩) hs ⟨by omega, by omega⟩ (fun z => h30 (by have := bl_le sc4.2.2.2.2.1; omega)) h8 o
      · obtain ⟨v6, a6, x6⟩ := c_expX s5 c40
        obtain ⟨w7, b7, y7⟩ := r_takeSX (c := 40) (Bd := 3011) ok4 s5 rfl (by decide) c40 (by omega)
        rw [a6, q_bv_s, b7, q_bv_s]
        exact jd_xx (x_par ok4 x6 k4 n4 (by omega)) (y_par y7 K4 (by omega) (by omega))
    · obtain ⟨v2, a2, x2⟩ := e_expX s1 (rdk_f kv fv1) c259
      obtain ⟨w2, b2, y2⟩ := f_takeX (c := 259) (y := 2) ok1 r1 (rdK_f kw fw1) rfl (by decide) c259
      rw [a2, q_bv_s, xC_stop x2, q_bd_s, if_neg (show ¬ (1 : Int32) = 0 by decide), b2, q_bv_s, xR_fine y2, q_bd_s, if_pos rfl]
      exact jd_xx ⟨v2, rfl, x2⟩ ⟨w2, rfl, y2⟩
  · obtain ⟨v1, a1, x1⟩ := e_expX hT0 kv c300
    obtain ⟨w1, b1, y1⟩ := f_takeX (c := 300) (y := 10) ok hR0 kw rfl (by decide) c300
    rw [a1, q_bv_s, q_lt_s, q_lt_s, xC_exp x1 (by decide), q_bv_s, xC_stop x1, q_bd_s, if_neg (show ¬ (1 : Int32) = 0 by decide), b1, q_bv_s, q_lt_s, xR_take y1, q_bv_s, xR_fine y1, q_bd_s, if_pos rfl]
    exact jd_xx ⟨v1, rfl, x1⟩ ⟨w1, rfl, y1⟩
end
