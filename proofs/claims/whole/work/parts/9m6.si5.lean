section
variable {g : rd_G} {i n p i' n' q d k s l b e e' : Nat} {C : Nat → Int32} {r : Int32} {R : Nat → Nat → Int32} {K : rd_K} {A : rd_A} {v w : q_V} {T : co_T} {XL : Int32 → Int32 → Int32 → Prop}
variable {B : q_V → Option (Int32 × q_V)} {B' : q_V → Option (Int64 × q_V)}
set_option maxHeartbeats 200000 in
/-- what stands behind the whens -/
theorem ch_end {hb iE pE qE eE eE' i1 p1 q1 d1 s1 e1 e1' : Nat} {CE C1 : Nat → Int32} {aE rE' r1 x a1 a2 a4 : Int32} {wn1 : Int64} {RE R1 : Nat → Nat → Int32} {KE K1 : rd_K} {A1 : rd_A} {Y : rd_Y} {ch : List Nat} {vE wE : q_V} (ok : rd_ok g) (hn2 : n + 1 ≤ 14) (hhb : hb + 2 * n ≤ 142) (h0 : 1 ≤ hb) (hB : BS g (n + 1) B B') (hc : tkc g i = 323) (cE : tkc g iE = 123) (z : z1 g n i p q K.length d s) (hln : l ≤ n ∧ LB A l p d) (h4 : a4 = 0 ∨ a4 = 1) (hw : wy l (a2 ||| a1) wn1)
    (E : EQ g (i + 1) n p C q d 0 R K k s l b A e e' hb aE iE pE CE qE rE' RE KE eE eE' vE wE) (X : CQ g (iE + 1) n pE CE qE d RE KE k s l b A eE eE' ch x i1 p1 C1 q1 d1 r1 R1 K1 s1 A1 e1 e1' Y v w) :
    jn g l (3300 + 20 * (15 - n)) (SPT g n i p C q d R K k s l b A e e') (fX8_choose_b193 B a1 a2 x a4 v) (chR B' (nI qE) a4 wn1 w) := by
  have hL := ok.1
  have S := X.1
  have hi1 := (St_im S).1
  have ta1 := tka_L ok i1
  have t0 : tka g i + 2 ≤ tka g (i + 1) := by
    have h1 := (tk_kl (kw := kw_c) (j := 23) (k := 1) ok.2.1 ok.1 (by omega) hc ((kw_len 23 (by omega)).1)).1
    have h2 := tk_al (tp := g.1) ok.1 (i + 1)
    unfold tka; unfold gL at *; omega
  have hx := X.2.1
  have he := E.2.1
  have tE := tka_lt ok (show iE < iE + 1 by omega) (by have := hx.1; omega)
  have tE' : tka g (i + 1) ≤ tka g iE := by
    have := tka_lt ok he.1 (by have := hx.1; omega); omega
  have P1 : p1 + 2 + 2 * tka g i + 4 ≤ p + 2 * tka g i1 := b_p he.2.1 hx.2.1 (Nat.le_refl _) t0 tE
  have P2 : q1 + 1 + tka g i + 2 ≤ q + tka g i1 := b_q he.2.2.1 hx.2.2.1 (Nat.le_refl _) t0 tE
  have P3 : 3 * K1.length + tka g i ≤ 3 * K.length + tka g i1 := b_k he.2.2.2.1 hx.2.2.2.1 (Nat.le_refl _) t0 tE
  have P4 : 5 * d1 + tka g i ≤ 5 * d + tka g i1 := b_d tE' hx.2.2.2.2.1 (Nat.le_refl _) t0 tE
  have P5 : 2 * s1 + tka g i ≤ 2 * s + tka g i1 := b_d tE' hx.2.2.2.2.2.1 (Nat.le_refl _) t0 tE
  have hpp : p ≤ p1 := by have := he.2.2.2.2.1; have := hx.2.2.2.2.2.2.1; omega
  have hdd : d ≤ d1 := hx.2.2.2.2.2.2.2.2.1
  have x6 := X.2.2.2.2.1.1
  have x10 := X.2.2.2.2.2.2.1
  have hqE : qE < 4000 := by
    have := hx.2.2.2.2.2.2.2.1
    obtain ⟨⟨_, z2, _⟩, _⟩ := z
    omega
  clear t0 tE tE' hx he
  have zz := z
  obtain ⟨⟨z1, z2, z3⟩, zd, zs⟩ := z
  obtain ⟨v2, b2, s2⟩ := c_add2 (x := 26) (y := 1) ok S (by omega)
  obtain ⟨w3, b3, s3⟩ := r_emit (o := 4) (a := 0) (c := 0) s2 (by omega)
  unfold fX8_choose_b193 chR fX8_choose_b242 fX12_choose_b190
  rw [b2, q_bd_s, c_kind s2, b3, q_bd_s]
  simp only [q_lt_s]
  by_cases c325 : tkc g i1 = 325
  · obtain ⟨v4, a4', s4⟩ := c_adv ok s3 (by rw [c325]; decide) (by rw [c325]; decide)
    obtain ⟨w5, b5, s5⟩ := r_skip (c := 325) (x := 49) ok s4 rfl (by decide) c325 (by decide) (by decide)
    have hi2 := (St_im s5).1
    have t1 := tka_lt ok (show i1 < i1 + 1 by omega) hi2
    have JB := hB (i1 + 1) (p1 + 2) _ (q1 + 1) d1 r1 _ K1 k s1 l b A1 e1 e1' v4 w5 s5 ⟨⟨by omega, by omega, by omega⟩, by omega, by omega⟩ (ov_m ok x10 (by omega) hi2 (Nat.le_refl _) (Nat.le_refl _)) ⟨by omega, LB_m hln.2 x6 (by omega) hdd⟩
    rw [if_pos c325, a4', q_bv_s, b5, q_bd_s, if_neg (show ¬ (1 : Int32) = 0 by decide)]
    refine jn_dd JB (fun f p a v h => cG_i (fun _ => x_c247 ok h) (fun _ => x_c247 ok h)) (fun f p a w h => rG_i (fun _ => rG_le (y_c203 hqE (by omega) h) (by omega)) (fun _ => rG_le (y_c203 hqE (by omega) h) (by omega))) ?_
    intro o2 v6 z6 w6 XX
    obtain ⟨i2, p2, C2, q2, d2, r2, R2, K2, s2', A2, e2, e2', Y2, ⟨F0, ⟨F1, F2, F3, F4, F5, F6, F7, F8, F9, F10, _⟩, ⟨G1, G2, G3, t2, G4⟩, F11, ⟨F12, F13, F14⟩, F15, F16, F17, F18⟩, cB, n14, H1, H2, H3, H4, H5⟩ := XX
    have L1 : i1 ≤ i2 ∧ p2 + 2 * tka g i1 ≤ p1 + 2 + 2 * tka g i2 ∧ q2 + tka g i1 ≤ q1 + 1 + tka g i2 ∧ 3 * K2.length + tka g i1 ≤ 3 * K1.length + tka g i2 ∧ 5 * d2 + tka g i1 ≤ 5 * d1 + tka g i2 ∧ 2 * s2' + tka g i1 ≤ 2 * s1 + tka g i2 ∧ p1 + 2 ≤ p2 ∧ q1 + 1 ≤ q2 ∧ d1 ≤ d2 ∧ s1 ≤ s2' := by
      clear P1 P2 P3 P4 P5 z1 z2 z3 zd zs ta1 H1 H2 H3 H4 H5
      exact ⟨by omega, by omega, by omega, by omega, by omega, by omega, F7, F8, F9, F10⟩
    clear P1 P2 P3 P4 P5 z1 z2 z3 zd zs ta1 H1 H2 H3 H4 H5 t1 F2 F3 F4 F5 F6
    have fin : ∀ (o3 : Int32) (z3' : Int64), wy l (o3 ||| a1) z3' → jn g l (3300 + 20 * (15 - n)) (SPT g n i p C q d R K k s l b A e e') (fX8_choose_b247 B a1 o3 x 1 v6) (fX12_choose_b203 B' z3' (nI qE) w6) := fun o3 z3' hh => by
      refine ch_fin (Y2 := Y2) ok hn2 hhb h0 hc cE zz E X F0 L1 ⟨G1, G2, fun j y hj hy => by rw [G3 j y hj hy, rE_j hj], t2, G4⟩ (fun u h1 h2 => ?_) ⟨F12, F14⟩ F15 F16 F17 (fun T XL g1 g2 g3 g4 => ?_) (by rw [if_neg (show ¬ (1 : Int32) = 0 by decide), Int32.or_zero]; exact hh)
      · by_cases c1 : u = i1
        · rw [c1, c325]; decide
        · exact F11 u (by omega) h2
      · have y := F18 T XL g1 g2 g3 g4
        rw [x6] at y
        exact ⟨fun Fin a S f0 H => ru_NEST hn2 (ru_NEST n14 (y.1 Fin a S f0 H)), y.2⟩
    by_cases c4 : a4 = 0
    · rw [if_pos c4, if_pos c4]
      refine fin _ _ ?_
      rw [Int32.or_assoc, Int32.or_comm o2 a1, ← Int32.or_assoc]
      exact wy_or hw F13
    · rw [if_neg c4, if_neg c4]
      refine fin _ _ ?_
      rw [Int32.or_zero]; exact hw
  · rw [if_neg c325, r_skipN (c := 325) (x := 49) ok s3 rfl (by decide) c325, q_bd_s, if_pos rfl]
    clear P1 P2 P3 P4 P5 z1 z2 z3 zd zs ta1
    have L1 : i1 ≤ i1 ∧ p1 + 2 + 2 * tka g i1 ≤ p1 + 2 + 2 * tka g i1 ∧ q1 + 1 + tka g i1 ≤ q1 + 1 + tka g i1 ∧ 3 * K1.length + tka g i1 ≤ 3 * K1.length + tka g i1 ∧ 5 * d1 + tka g i1 ≤ 5 * d1 + tka g i1 ∧ 2 * s1 + tka g i1 ≤ 2 * s1 + tka g i1 ∧ p1 + 2 ≤ p1 + 2 ∧ q1 + 1 ≤ q1 + 1 ∧ d1 ≤ d1 ∧ s1 ≤ s1 := ⟨Nat.le_refl _, Nat.le_refl _, Nat.le_refl _, Nat.le_refl _, Nat.le_refl _, Nat.le_refl _, Nat.le_refl _, Nat.le_refl _, Nat.le_refl _, Nat.le_refl _⟩
    have fin : ∀ (z3' : Int64), wy l ((a2 ||| a1) ||| (if a4 = 0 then 1 else 0)) z3' → jn g l (3300 + 20 * (15 - n)) (SPT g n i p C q d R K k s l b A e e') (fX8_choose_b247 B a1 a2 x a4 v2) (fX12_choose_b203 B' z3' (nI qE) w3) := fun z3' hh => by
      refine ch_fin (Y2 := []) ok hn2 hhb h0 hc cE zz E X s3 L1 ⟨fun _ _ => rfl, fun _ _ _ _ => rfl, fun j y hj _ => rE_j hj ▸ rfl, [], rfl⟩ (fun u h1 h2 => absurd h1 (by omega)) ⟨rfl, fun y => y⟩ ⟨Nat.le_refl _, Nat.le_refl _⟩ x10 (fun y h1 h2 => absurd h1 (by omega)) (fun T XL g1 g2 g3 g4 => ⟨fun Fin a S f0 H => ru_BN, fun y hy => absurd hy (by simp)⟩) hh
    by_cases c4 : a4 = 0
    · rw [if_pos c4]
      exact fin _ (by rw [if_pos c4]; exact wy_or hw wy_k.2.1)
    · rw [if_neg c4]
      exact fin _ (by rw [if_neg c4, Int32.or_zero]; exact hw)
set_option maxHeartbeats 200000 in
/-- choose -/
theorem t_choose (ok : rd_ok g) (hn : 1 ≤ n) (hn2 : n ≤ 14) (hB : n < 14 → BS g (n + 1) B B') (hxB : ∀ f p l v, xc g f p l v → cG g f p l (B v)) (hyB : ∀ f p Bd w, xr g f p Bd w → rG g f p Bd (B' w)) (hc : tkc g i = 323) : TS g n i (fX8_choose B) (fX12_choose B') := by
  intro p C q d R K k s l b A e e' v w h z o hln
  have zz := z
  obtain ⟨z, zd, zs⟩ := z
  have zp := z0_p ok z
  have hL := ok.1
  have hm3 := ok.2.2.1.2.2
  obtain ⟨v2, a2, s2⟩ := c_adv ok h (by rw [hc]; decide) (by rw [hc]; decide)
  have s3 := r_now ok s2 (by rw [hc]; decide) (by rw [hc]; decide)
  have him := (St_im s3).1
  have J := US_E ok hn2 (i + 1) p C q d 0 R K k s l b A e e' v2 _ s3 (z0_s ok z (by omega) him) (ov_m ok o (by omega) him (Nat.le_refl _) (Nat.le_refl _)) (Or.inl rfl)
  unfold fX8_choose fX12_choose
  rw [a2, q_bv_s, q_lt_s]
  refine jn_dv J (fun f p a v h => ?_) (fun f p w h => ?_) ?_
  · rw [tr_of, q_bd_s]
    exact cG_v (x_expN (by decide) h) (fun v h => by rw [q_N1]; exact x_cL ok h)
  · refine rG_d (y_risky h) (fun a w h => ?_)
    rw [y_sign h, q_bd_s, if_pos rfl, y_wrong h, q_bv_s]
    exact rG_s (xr_le h (by omega))
  · intro a v4 w4 E
    obtain ⟨iE, pE, CE, qE, rE', RE, KE, eE, eE', E⟩ := E
    have S := E.1
    have hiE := (St_im S).1
    have taE := tka_L ok iE
    have E5 := E.2.2.2.2.1
    obtain ⟨E1, E2, E3, E4, E5', E6⟩ := E.2.1
    have hE1 := E.2.2.2.2.2.1
    have hnr : a &&& 1 = 0 ↔ rE' = 0 := by
      rw [E5.2.2]
      rcases E5.1 with ca | ca | ca <;> (rw [ca]; decide)
    have t0 : tka g i + 2 ≤ tka g (i + 1) := by
      have h1 := (tk_kl (kw := kw_c) (j := 23) (k := 1) ok.2.1 ok.1 (by omega) hc ((kw_len 23 (by omega)).1)).1
      have h2 := tk_al (tp := g.1) ok.1 (i + 1)
      unfold tka; unfold gL at *; omega
    have tE' := tka_lt ok E1 hiE
    obtain ⟨z1, z2, z3⟩ := z
    have hq3 : qE ≤ 3111 := by omega
    rw [tr_of, q_bd_s, r_risky S.2.2.2.2.1.1.2.2.2.2.2.2, q_bd_s, r_sign (c := 123) ok S rfl (by decide), q_bd_s, lx_i0]
    by_cases c123 : tkc g iE = 123
    · rw [if_pos c123]
      by_cases h14 : n = 14
      · subst h14
        obtain ⟨v5, a5, x5⟩ := c_expN3 S c123
        obtain ⟨w5, b5, y5⟩ := r_nest3 (Bd := 3111) ok S hq3
        obtain ⟨qq, hq1, hq2⟩ := y5.2.2.2.2
        rw [a5, q_bv_s, b5, q_bv_s, q_N1, hq2, q_lt_s]
        exact jn_xx (x_cL ok x5) (rG_le (y_cL (by omega) (by omega) y5) (by omega))
      · obtain ⟨v5, a5, s5⟩ := c_expN ok S c123 (by decide) (by decide) (by omega)
        obtain ⟨w5, b5, s6⟩ := r_nest ok s5 (by omega) (by rw [c123]; decide) (by rw [c123]; decide)
        have hi6 := (St_im s6).1
        have t6 := tka_lt ok (show iE < iE + 1 by omega) hi6
        rw [a5, q_bv_s, b5, q_bv_s, s6.2.2.2.2.1.1.2.2.2.1, q_lt_s]
        have zC : (pE ≤ 2 * tka g (iE + 1) + 8 ∧ qE ≤ tka g (iE + 1) + 9 ∧ 3 * KE.length ≤ tka g (iE + 1) + 10) ∧ 5 * d ≤ tka g (iE + 1) + 10 + n ∧ 2 * s ≤ tka g (iE + 1) + 10 := ⟨⟨by omega, by omega, by omega⟩, by omega, by omega⟩
        have hln1 : l ≤ n := by have := hln.1; omega
        clear zp zd zs t0 tE' taE z1 z2 z3 E2 E3 E4 t6
        refine ch_loop (i := iE + 1) (p := pE) (q := qE) (d := d) (K := KE) (s := s) (A := A) (e := eE) (e' := eE') (k := k) (l := l) (b := b) (a1 := if a &&& 1 = 0 then 0 else 4) ok hn (by omega) (by omega) (hB (by omega)) hxB hyB zC ⟨hln1, LB_m hln.2 rfl E5' (Nat.le_refl _)⟩ (by omega) (fun ch x a2 a4 wn1 i1 p1 C1 q1 d1 r1 R1 K1 s1 A1 e1 e1' Y v w h4 hw X => ch_end ok (by omega) (by omega) (by omega) (hB (by omega)) hc c123 zz ⟨hln1, hln.2⟩ h4 hw E X) (gm g - (iE + 1)) 0 [] 0 0 0 _ (iE + 1) pE CE qE d rE' RE KE s A eE eE' [] v5 w5 q_N q_N rfl (by unfold q_N; omega) (by unfold q_N; omega) (by omega) (Or.inl rfl) (by rw [Int32.zero_or]; exact wy_t0 hnr) (CQ_0 s6 (ov_m ok o (by omega) hi6 hE1.1 hE1.2))
    · rw [if_neg c123]
      obtain ⟨v5, a5, x5⟩ := c_expNX S c123
      obtain ⟨w5, b5, y5⟩ := r_wrong (Bd := 3111) ok S hq3
      rw [a5, q_bv_s, b5, q_bv_s, q_N1]
      exact jn_xx (x_cL ok x5) (rG_s (xr_le y5 (by omega)))
end
