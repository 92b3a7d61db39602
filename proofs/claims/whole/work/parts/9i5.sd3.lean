section
variable {g : rd_G} {i n p i' n' q d k s l b e e' : Nat} {C : Nat → Int32} {r : Int32} {R : Nat → Nat → Int32} {K : rd_K} {A : rd_A} {v w : q_V} {T : co_T} {XL : Int32 → Int32 → Int32 → Prop}
set_option maxHeartbeats 200000 in
theorem sT_a {j : Nat} {x : Nat → Int32} (h : sT g i n v) : sT g i n (q_sa v j x) := h
set_option maxHeartbeats 200000 in
theorem sT_b {j : Nat} {x : Nat → Int64} (h : sT g i n v) : sT g i n (q_sb v j x) := h
set_option maxHeartbeats 200000 in
theorem m1_n {a : Nat} (h : a < 2147483648) : nI a ≠ -1 := by
  rw [show (-1 : Int32) = Int32.ofInt (-1) from rfl]
  intro z
  have := congrArg Int32.toInt z
  rw [ni_toInt h] at this
  have e : (Int32.ofInt (-1)).toInt = -1 := by decide
  rw [e] at this; omega
def upN (f : Nat → Int64 × Nat) (k : Nat) (x : Int64 × Nat) : Nat → Int64 × Nat := fun j => if j = k then x else f j
set_option maxHeartbeats 200000 in
/-- a variable is told to both -/
theorem j_tell {t : Nat} (ok : rd_ok g) (h : St g i n p C i' n' q d r R K k s l b A e e' v w) (ht : t ≤ gm g) (hc : tkc g t = 259) (o : ov g t s e e') (hs : s < 1600) : ∃ v' w' e1 e1', fX5_tellVariable (tkw g t) (nI (tka g t)) v = some (nI s, v') ∧ fX12_tell (nI t) w = some (nI s, w') ∧ St g i n p C i' n' q d r R K (k + 1) (s + 1) l b (A.1, A.2.1, A.2.2.1, upN A.2.2.2 k (tkw g t, s)) e1 e1' v' w' ∧ e1 ≤ e ∧ e1' ≤ e' ∧ (e1 = rd_N → s < 24) ∧ (24 < s + 1 → e1 ≤ 16 * tka g t + 8 ∧ e1' ≤ 16 * tka g t + 8) := by
  have N := h.2.2.2.2.2.1
  have hks := N.1.2.2.2.1
  have hm := ok.2.2.1.2.2
  have hN : rd_N = 1000000 := rfl
  have htL := tka_L ok t
  have hL := ok.1
  obtain ⟨c, c1, c2, c3⟩ := N.2.1
  obtain ⟨y, a1, a2⟩ := c_find (x := tkw g t) c1 c2
  obtain ⟨y', b1, b2⟩ := r_find (x := tkw g t) N.1.2.2.1 (by omega)
  have en := r_name ok h ht hc
  -- whether it is known already
  obtain ⟨v1, w1, e1, e1', f1, f2, s1, f3, f4, f5⟩ : ∃ v1 w1 e1 e1', (fX5_tellVariable (tkw g t) (nI (tka g t)) v = fX5_tellVariable_b15 (tkw g t) (nI (tka g t)) v1) ∧ (fX12_tell (nI t) w = fX12_tell_b20 (nI t) w1) ∧ St g i n p C i' n' q d r R K k s l b A e1 e1' v1 w1 ∧ e1 ≤ e ∧ e1' ≤ e' ∧ (e1 = rd_N → s ≤ 24 ∧ ∀ j, j < k → q_b w1 2439 j ≠ tkw g t) := by
    unfold fX5_tellVariable fX12_tell
    rw [a1, q_bd_s, if_neg (ni_nin (by omega) (by omega)), ni_clamp (by omega), en, b1, q_bd_s]
    by_cases hs2 : s ≤ 24
    · obtain ⟨ck, kk⟩ := c3 hs2
      subst ck
      rcases a2 with ⟨a2, a3⟩ | ⟨j, a2, a3, a4⟩
      · have y1 : y' = -1 := by
          rcases b2 with ⟨b2, _⟩ | ⟨m, b2, b3, _, _⟩
          · exact b2
          · exact absurd ((kk m b2).1.trans b3) (a3 m b2)
        rw [if_pos a2, if_pos y1]
        exact ⟨v, w, e, e', rfl, rfl, h, Nat.le_refl _, Nat.le_refl _, fun _ => ⟨hs2, fun j hj => by rw [← (kk j hj).1]; exact a3 j hj⟩⟩
      · obtain ⟨k1, k2, y1, k3, k4⟩ := kk j a2
        have yn : y ≠ -1 := by rw [a4, k2, k4]; exact m1_n (by omega)
        have yn' : y' ≠ -1 := by
          rcases b2 with ⟨b2, b3⟩ | ⟨m, b2, b3, b4, _⟩
          · exact absurd (k1.symm.trans a3) (b3 j a2)
          · obtain ⟨_, _, ym, l3, l4⟩ := kk m b2
            rw [b4, l4]; exact m1_n (by omega)
        obtain ⟨v1, w1, x1, x2, x3⟩ := j_blame (x := 4) (t := t) ok h ht (by omega) (by omega)
        rw [if_neg yn, if_neg yn', show (4 : Int32) = nI 4 from rfl, x1, x2, q_bv_s, q_bv_s]
        exact ⟨v1, w1, _, _, rfl, rfl, x3, by omega, by omega, fun z => by omega⟩
    · obtain ⟨o1, o2, o3, o4⟩ := o (by omega)
      obtain ⟨v1, x1, x2⟩ : ∃ v1, (if y = -1 then fX5_tellVariable_b15 (tkw g t) (nI (tka g t)) v else q_bv (fX5_blame 4 (nI (tka g t)) v) (fun T3 => fX5_tellVariable_b15 (tkw g t) (nI (tka g t)) T3)) = fX5_tellVariable_b15 (tkw g t) (nI (tka g t)) v1 ∧ St g i n p C i' n' q d r R K k s l b A e e' v1 w := by
        by_cases z : y = -1
        · rw [if_pos z]; exact ⟨v, rfl, h⟩
        · obtain ⟨v', x1, x2⟩ := c_blame0 (x := 4) (t := t) ok h (by omega) (by omega) (by omega)
          rw [if_neg z, show (4 : Int32) = nI 4 from rfl, x1, q_bv_s]; exact ⟨v', rfl, x2⟩
      obtain ⟨w1, x3, x4⟩ : ∃ w1, (if y' = -1 then fX12_tell_b20 (nI t) w else q_bv (fX12_bad 4 (nI t) w) (fun T4 => fX12_tell_b20 (nI t) T4)) = fX12_tell_b20 (nI t) w1 ∧ St g i n p C i' n' q d r R K k s l b A e e' v1 w1 := by
        by_cases z : y' = -1
        · rw [if_pos z]; exact ⟨w, rfl, x2⟩
        · obtain ⟨w', x3, x4⟩ := r_blame0 (x := 4) (t := t) ok x2 ht (by omega) (by omega) (by omega)
          rw [if_neg z, show (4 : Int32) = nI 4 from rfl, x3, q_bv_s]; exact ⟨w', rfl, x4⟩
      rw [x1, x3]
      exact ⟨v1, w1, e, e', rfl, rfl, x4, Nat.le_refl _, Nat.le_refl _, fun z => by omega⟩
  -- its place
  rw [f1, f2]
  obtain ⟨F1, F2, F3, F4, F5, F6, F7⟩ := s1
  have en1 : q_b w1 2406 t = tkw g t := r_name (v := v1) ok ⟨F1, F2, F3, F4, F5, F6, F7⟩ ht hc
  obtain ⟨c, c1, c2, c3⟩ := F6.2.1
  have ki : ¬ (nI k < 0 ∨ 1600 ≤ (nI k).toNatClampNeg) := ni_nin (by omega) (by omega)
  have kc : (nI k).toNatClampNeg = k := ni_clamp (by omega)
  -- the reference's writing, on any view that differs in what is blamed
  have know : ∀ u : q_V, q_i u 2441 = nI k → q_i u 2442 = nI s → q_b u 2406 t = tkw g t → fX12_tell_b36 (nI t) u = some (nI s, q_si (q_si (q_sa (q_sb u 2439 (vp_updL (q_b u 2439) k (tkw g t))) 2440 (upd (q_a u 2440) k (nI s))) 2441 (nI (k + 1))) 2442 (nI (s + 1))) := by
    intro u h1 h2 h3
    have gn : (nI k < 0) = False := ni_neg (by omega)
    have gl : (1600 ≤ k) = False := eq_false (by omega)
    unfold fX12_tell_b36 fX12_know
    rw [if_neg (ni_nin (by omega) (by omega)), ni_clamp (by omega), h3]
    simp only [h1, h2, kc, gn, gl, or_self, ↓reduceIte, q_lt_s, q_i_sb, q_i_sa, q_a_sb, ni_add1, q_i_at, q_bd_s, ni_pred, q_i_si, Nat.reduceEqDiff]
  have sRk : ∀ u : q_V, sR g i' n' q d r R K u → sR g i' n' q d r R K (q_si (q_si (q_sa (q_sb u 2439 (vp_updL (q_b u 2439) k (tkw g t))) 2440 (upd (q_a u 2440) k (nI s))) 2441 (nI (k + 1))) 2442 (nI (s + 1))) := by
    intro u hu
    refine sR_i (sR_i ⟨hu.1, fun j hj => ?_, sK_e (w := u) ?_ ?_ ?_ ?_ hu.2.2.1, hu.2.2.2⟩ (by omega)) (by omega)
    · have := rdj_b hj
      rw [q_a_sa, if_neg (by omega), q_a_sb]; exact hu.2.1 j hj
    · rw [q_b_sa, q_b_sb, if_neg (by omega)]
    · rw [q_a_sa, if_neg (by omega), q_a_sb]
    · rw [q_a_sa, if_neg (by omega), q_a_sb]
    · rw [q_a_sa, if_neg (by omega), q_a_sb]
  have sFk : ∀ u : q_V, rdF (gw g) u → rdF (gw g) (q_si (q_si (q_sa (q_sb u 2439 (vp_updL (q_b u 2439) k (tkw g t))) 2440 (upd (q_a u 2440) k (nI s))) 2441 (nI (k + 1))) 2442 (nI (s + 1))) := fun u hu => rdF_i (rdF_i (rdF_a (rdF_b hu (by omega)) (by omega)) (by omega)) (by omega)
  unfold fX5_tellVariable_b15 fX12_tell_b20 fX5_tellVariable_b88
  rw [F6.1.1, q_lt_s, q_lt_s, ni_add1, F6.1.2.1]
  by_cases h24 : s < 24
  · obtain ⟨ck, kk⟩ := c3 (by omega)
    subst ck
    have ki2 : ¬ (nI c < 0 ∨ 24 ≤ (nI c).toNatClampNeg) := ni_nin (by omega) (by omega)
    rw [if_pos (show nI s < 24 from ni_plt (b := 24) h24 (by omega)), if_pos (show nI s < 24 from ni_plt (b := 24) h24 (by omega)), q_i_ne (by omega), c1, if_neg (show ¬ (24 : Int32) ≤ nI c from ni_nle (a := 24) (by omega) (by omega)), if_neg ki2, kc, q_lt_s, q_i_sb, q_i_ne (by omega), c1, if_neg ki2, q_lt_s, q_lt_s, q_i_sa, q_i_sb, q_i_ne (by omega), c1, ni_add1, kc, know w1 F6.1.2.2.1 F6.1.2.1 en1, q_b_si, q_a_sb, q_a_si]
    refine ⟨_, _, e1, e1', rfl, rfl, ⟨rdf_i (rdf_a (rdf_b (rdf_i F1 (by omega)) (by omega)) (by omega)) (by omega), sFk w1 F2, ?_, ?_, sRk w1 F5, ?_, ?_⟩, f3, f4, fun _ => h24, fun z => absurd z (by omega)⟩
    · exact sT_ci (sT_a (sT_b (sT_ci F3 (by omega)))) (by omega)
    · refine sB_ci ?_ (by omega)
      have := F4
      unfold sB at this ⊢
      rw [q_i_sa, q_i_sb, q_i_ne (by omega), q_a_sa, if_neg (by omega), q_a_sb, q_a_si]; exact this
    · unfold sN
      have hl := F6.2.2.2.2.2
      refine ⟨⟨?_, ?_, ?_, by omega, by omega⟩, ⟨c + 1, ?_, by omega, fun _ => ⟨rfl, fun j hj => ?_⟩⟩, fun z j j' hj hj' hq => ?_, ⟨?_, ?_, F6.2.2.2.1.2.2.1, ?_, ?_, F6.2.2.2.1.2.2.2.2.2⟩, ⟨⟨?_, ?_⟩, fun j hj => ?_⟩, fun j hj => ?_⟩
      · rw [q_i_ne (by omega), q_i_sa, q_i_sb, q_i_at]
      · rw [q_i_at]
      · rw [q_i_ne (by omega), q_i_at]
      · rw [q_i_at]
      · rw [q_b_si, q_b_sa, q_b_sb, if_pos rfl, q_b_si, q_b_si, q_b_sa, q_b_sb, if_pos rfl, q_a_si, q_a_sa, if_pos rfl, q_a_si, q_a_si, q_a_sa, if_pos rfl]
        unfold vp_updL upd
        by_cases cj : j = c
        · rw [if_pos cj, if_pos cj, if_pos cj, if_pos cj]; exact ⟨rfl, rfl, s, h24, rfl⟩
        · rw [if_neg cj, if_neg cj, if_neg cj, if_neg cj]; exact kk j (by omega)
      · rw [q_b_si, q_b_si, q_b_sa, q_b_sb, if_pos rfl] at hq
        unfold vp_updL at hq
        have nf := (f5 z).2
        by_cases cj : j = c
        · rw [if_pos cj] at hq
          by_cases cj' : j' = c
          · rw [cj, cj']
          · rw [if_neg cj'] at hq; exact absurd hq.symm (nf j' (by omega))
        · rw [if_neg cj] at hq
          by_cases cj' : j' = c
          · rw [if_pos cj'] at hq; exact absurd hq (nf j (by omega))
          · rw [if_neg cj'] at hq; exact F6.2.2.1 z j j' (by omega) (by omega) hq
      · rw [q_i_ne (by omega), q_i_sa, q_i_sb, q_i_ne (by omega)]; exact F6.2.2.2.1.1
      · rw [q_i_ne (by omega), q_i_ne (by omega), q_i_sa, q_i_sb]; exact F6.2.2.2.1.2.1
      · rw [q_i_ne (by omega), q_i_sa, q_i_sb, q_i_ne (by omega)]; exact F6.2.2.2.1.2.2.2.1
      · rw [q_i_ne (by omega), q_i_ne (by omega), q_i_sa, q_i_sb]; exact F6.2.2.2.1.2.2.2.2.1
      · rw [q_i_ne (by omega), q_i_sa, q_i_sb, q_i_ne (by omega)]; exact F6.2.2.2.2.1.1.1
      · exact F6.2.2.2.2.1.1.2
      · rw [q_b_si, q_b_si, q_b_sa, q_b_sb, if_pos rfl, q_a_si, q_a_si, q_a_sa, if_pos rfl]
        unfold vp_updL upd upN
        dsimp only
        by_cases cj : j = c
        · rw [if_pos cj, if_pos cj, if_pos cj]; exact ⟨rfl, rfl⟩
        · rw [if_neg cj, if_neg cj, if_neg cj]; exact F6.2.2.2.2.1.2 j (by omega)
      · rw [q_b_si, q_b_sa, q_b_sb, if_neg (by omega), q_b_si, q_b_si, q_b_si, q_b_sa, q_b_sb, if_neg (by omega), q_a_si, q_a_sa, if_neg (by omega), q_a_sb, q_a_si, q_a_si, q_a_si, q_a_sa, if_neg (by omega), q_a_sb]
        exact hl j hj
    · unfold sM bl br at F7 ⊢
      rw [q_i_ne (by omega), q_i_sa, q_i_sb, q_i_ne (by omega), q_i_ne (by omega), q_i_sa, q_i_sb, q_i_ne (by omega), q_i_ne (by omega), q_i_ne (by omega), q_i_sa, q_i_sb, q_i_ne (by omega), q_i_ne (by omega), q_i_sa, q_i_sb]; exact F7
  · have hbl : bl 1011 1012 e1 (q_si v1 1006 (nI (s + 1))) := by
      have := F7.1
      unfold bl at this ⊢
      rw [q_i_ne (by omega), q_i_ne (by omega)]; exact this
    obtain ⟨v2, x1, x2, x3⟩ := c_blm (x := 8) (y := tka g t) hbl (by omega) (by omega) (by omega)
    obtain ⟨w2, y1, y2, y3⟩ := r_blm (g := g) (x := 8) F7.2.1 F5.1.1 (t := t) (by omega) (r_place (v := v1) ok ⟨F1, F2, F3, F4, F5, F6, F7⟩ ht) (by omega) (by omega) (by omega)
    have wB := r_B F2 F5 F6 y3
    rw [if_neg (show ¬ nI s < 24 from ni_nlt (b := 24) (by omega) (by omega)), if_neg (show ¬ nI s < 24 from ni_nlt (b := 24) (by omega) (by omega)), show (8 : Int32) = nI 8 from rfl, x1, q_bv_s, y1, q_bv_s]
    have g1 : q_i w2 2441 = nI k ∧ q_i w2 2442 = nI s := ⟨wB.2.2.1.2.2.1, wB.2.2.1.2.1⟩
    have g2 : q_b w2 2406 t = tkw g t := by
      rcases y3 with y3 | y3
      · rw [y3]; exact en1
      · rw [y3]; exact en1
    have vB : rdf (gv g) v2 ∧ sT g i n v2 ∧ sB p C v2 ∧ q_i v2 1006 = nI (s + 1) ∧ q_i v2 1005 = nI c ∧ q_i v2 1009 = nI l ∧ q_i v2 1010 = nI b ∧ q_i v2 1604 = A.2.1 ∧ q_a v2 = q_a v1 ∧ q_b v2 = q_b v1 := by
      have u0 : rdf (gv g) (q_si v1 1006 (nI (s + 1))) ∧ sT g i n (q_si v1 1006 (nI (s + 1))) ∧ sB p C (q_si v1 1006 (nI (s + 1))) := ⟨rdf_i F1 (by omega), sT_ci F3 (by omega), sB_ci F4 (by omega)⟩
      rcases x3 with x3 | x3
      · rw [x3]
        refine ⟨u0.1, u0.2.1, u0.2.2, q_i_at, ?_, ?_, ?_, ?_, rfl, rfl⟩
        · rw [q_i_ne (by omega)]; exact c1
        · rw [q_i_ne (by omega)]; exact F6.2.2.2.1.1
        · rw [q_i_ne (by omega)]; exact F6.2.2.2.1.2.2.2.1
        · rw [q_i_ne (by omega)]; exact F6.2.2.2.2.1.1.1
      · rw [x3]
        refine ⟨rdf_i (rdf_i u0.1 (by omega)) (by omega), sT_ci (sT_ci u0.2.1 (by omega)) (by omega), sB_ci (sB_ci u0.2.2 (by omega)) (by omega), ?_, ?_, ?_, ?_, ?_, rfl, rfl⟩
        · rw [q_i_ne (by omega), q_i_ne (by omega), q_i_at]
        · rw [q_i_ne (by omega), q_i_ne (by omega), q_i_ne (by omega)]; exact c1
        · rw [q_i_ne (by omega), q_i_ne (by omega), q_i_ne (by omega)]; exact F6.2.2.2.1.1
        · rw [q_i_ne (by omega), q_i_ne (by omega), q_i_ne (by omega)]; exact F6.2.2.2.1.2.2.2.1
        · rw [q_i_ne (by omega), q_i_ne (by omega), q_i_ne (by omega)]; exact F6.2.2.2.2.1.1.1
    obtain ⟨V1, V2, V3, V4, V5, V6, V7, V8, V9, V10⟩ := vB
    rw [know w2 g1.1 g1.2 g2]
    refine ⟨_, _, min e1 (16 * tka g t + 8), min e1' (16 * tka g t + 8), rfl, rfl, ⟨V1, sFk w2 wB.1, V2, V3, sRk w2 wB.2.1, ?_, x2, ?_, ?_⟩, by omega, by omega, fun z => by omega, fun _ => ⟨by omega, by omega⟩⟩
    · unfold sN
      have W := wB.2.2
      refine ⟨⟨V4, ?_, ?_, by omega, by omega⟩, ⟨c, V5, c2, fun z => absurd z (by omega)⟩, fun z => absurd z (by omega), ⟨V6, ?_, W.2.2.2.1.2.2.1, V7, ?_, W.2.2.2.1.2.2.2.2.2⟩, ⟨⟨V8, ?_⟩, fun j hj => ?_⟩, fun j hj => ?_⟩
      · rw [q_i_at]
      · rw [q_i_ne (by omega), q_i_at]
      · rw [q_i_ne (by omega), q_i_ne (by omega), q_i_sa, q_i_sb]; exact W.2.2.2.1.2.1
      · rw [q_i_ne (by omega), q_i_ne (by omega), q_i_sa, q_i_sb]; exact W.2.2.2.1.2.2.2.2.1
      · exact W.2.2.2.2.1.1.2
      · rw [q_b_si, q_b_si, q_b_sa, q_b_sb, if_pos rfl, q_a_si, q_a_si, q_a_sa, if_pos rfl]
        unfold vp_updL upd upN
        dsimp only
        by_cases cj : j = k
        · rw [if_pos cj, if_pos cj, if_pos cj]; exact ⟨rfl, rfl⟩
        · rw [if_neg cj, if_neg cj, if_neg cj]; exact W.2.2.2.2.1.2 j (by omega)
      · rw [q_b_si, q_b_si, q_b_sa, q_b_sb, if_neg (by omega), q_a_si, q_a_si, q_a_sa, if_neg (by omega), q_a_sb, V9, V10]
        exact W.2.2.2.2.2 j hj
    · unfold br at y2 ⊢
      rw [q_i_ne (by omega), q_i_ne (by omega), q_i_sa, q_i_sb, q_i_ne (by omega), q_i_ne (by omega), q_i_sa, q_i_sb]; exact y2
    · have := F7.2.2
      omega
end
