section
variable {Fin : q_V → q_V → Prop} {a : ru_P} {T : co_T} {XL : Int32 → Int32 → Int32 → Prop} {f0 nu : Nat} {L : List (Nat × Nat)}
set_option maxHeartbeats 200000 in
theorem ru_SLUICE {hb p p1 q q1 : Nat} (HO : ru_O Fin a T) (s1 : ru_SA Fin a T XL f0 3 hb p p1 q q1) (hhb : hb + 2 * nu ≤ 142) (h0 : 3 ≤ hb) (c0 : co_c T p1 38) (r0 : co_r T 0 q1 34) : ru_ST Fin a T XL f0 nu L p (p1 + 1) q (q1 + 1) := by
  refine ru_BES s1 hhb (by omega) (by omega) ?_
  intro c f h g np t cl vc vr d W bd E n x
  have E0 : q_a vc 802 h = q_a vr 2515 g := E 0 (by omega)
  have E1 : q_a vc 802 (h + 1) = q_a vr 2515 (g + 1) := E 1 (by omega)
  have E2 : q_a vc 802 (h + 2) = q_a vr 2515 (g + 2) := E 2 (by omega)
  obtain ⟨b1, b2, b3, b4, b5, b6, b7, b8, b9, b10⟩ := id bd
  have h70 : ¬ q_i vr 2470 < 0 := ru_n70 d.2.2.1
  have one : ¬ (1 : Int32) = 0 := by decide
  have sc : fX4_step (mC vc p1 (h + 3) f np cl) = q_bd (fX1_troubleToSluice (q_a vc 802 h) (q_a vc 802 (h + 1)) (q_a vc 802 (h + 2)) (mC vc (p1 + 1) h f np cl)) (fun y9 T8 =>
      if y9 = 0 then q_bd (fX1_headOf (q_a vc 802 h) (q_a vc 802 (h + 1)) T8) (fun y12 T11 =>
        if y12 ≤ 0 then fX4_sluice_b56 (q_a vc 802 (h + 2)) (q_a vc 802 (h + 1)) (q_a vc 802 h) 0 T11 else fX4_sluice_b56 (q_a vc 802 (h + 2)) (q_a vc 802 (h + 1)) (q_a vc 802 h) 1 T11)
      else q_bv (fX4_trouble y9 T8) (fun T14 => some T14)) := by
    rw [cs_step d.1 c0, cd_38, q_bv_id]
    unfold fX4_order_b152 fX4_sluice
    rw [q_bv_id, cs_pop (h := h + 2) (by omega), q_bd_s, cs_pop (h := h + 1) (by omega), q_bd_s, cs_pop (by omega), q_bd_s]
  have sr : fX12_step (mR vr q1 (g + 3) f t cl) = q_bd (fX12_in (q_a vc 802 (h + 2)) 0 1000 (mR vr (q1 + 1) g f t cl)) (fun y8 T7 =>
      if y8 = 0 then fX12_sluice_b36 (q_a vc 802 (h + 2)) (q_a vc 802 (h + 1)) (q_a vc 802 h) 3 T7
      else q_bd (fX12_wrongSide (q_a vc 802 h) (q_a vc 802 (h + 1)) T7) (fun y10 T9 => fX12_sluice_b36 (q_a vc 802 (h + 2)) (q_a vc 802 (h + 1)) (q_a vc 802 h) y10 T9)) := by
    rw [rs_step d.1 r0, rd_34, q_bv_id]
    unfold fX12_stepOfStatement_b600 fX12_sluice
    rw [q_bv_id, rs_pop (g := g + 2) (by omega), q_bd_s, rs_pop (g := g + 1) (by omega), q_bd_s, rs_pop (by omega), q_bd_s, ← E0, ← E1, ← E2]
  have tr : ∀ y : Int32, 0 < y → fX1_troubleToSluice (q_a vc 802 h) (q_a vc 802 (h + 1)) (q_a vc 802 (h + 2)) (mC vc (p1 + 1) h f np cl) = some (y, mC vc (p1 + 1) h f np cl) → fX12_step (mR vr q1 (g + 3) f t cl) = fX12_leaves (mR (ru_tr vr t y) (q1 + 1) g f t cl) → ru_G Fin a (40000 * f + c + 4 * (p1 + 1 - p1)) (mC vc p1 (h + 3) f np cl) (mR vr q1 (g + 3) f t cl) := by
    intro y hy e1 e2
    refine ru_ttS (x := y) (p1 := p1 + 1) (h1 := h) (q1 := q1 + 1) (g1 := g) d W (by omega) hy (by omega) x ?_ e2
    rw [sc, e1, q_bd_s, if_neg (by intro z; rw [z] at hy; exact absurd hy (by decide)), cs_trouble, mC_tc, q_bv_s]
  have t36 : ∀ k s z y : Int32, ¬ y = 0 → ¬ y ≤ 0 → fX12_sluice_b36 z s k y (mR vr (q1 + 1) g f t cl) = fX12_leaves (mR (ru_tr vr t y) (q1 + 1) g f t cl) := by
    intro k s z y hy hy2
    unfold fX12_sluice_b36 fX12_sluice_b62
    rw [if_neg hy, if_neg hy2, q_bv_id, rs_trouble (by omega) h70]
  have fin : ru_l vc ≤ 2000000000 → (∃ f' v w, fX4_step (mC vc p1 (h + 3) f np cl) = some (mC v (p1 + 1) h f' np cl) ∧ fX12_step (mR vr q1 (g + 3) f t cl) = some (mR w (q1 + 1) g f' t cl) ∧ ru_se T XL h g np t cl f vc vr v w f') → ru_G Fin a (40000 * f + c + 1) (mC vc p1 (h + 3) f np cl) (mR vr q1 (g + 3) f t cl) := by
    rintro hl ⟨f', v, w, e1, e2, s1, s2, s3, s4, s5⟩
    refine ru_mono (B := 40000 * f' + c + 1) ?_ (by omega)
    refine ru_cs e1 d.2.2.2.2.1.2.2.1 W.1 ⟨by rw [ru_l_mC, ru_l_mC]; omega, Nat.le_of_eq (ru_w_e (fun i => congrFun (congrFun s3 _) i))⟩ (ru_rs e2 d.2.2.2.2.1.2.2.2.1 d.2.2.2.2.1.2.2.2.2 ?_)
    rcases s5 with ⟨s5, s6⟩ | ⟨k1, k2, k3, k4, k5, k6⟩
    · exact n f' _ _ s5 ⟨by rw [s3]; exact W.1, s6.trans W.2.1⟩ s1 s2
    · exact ru_over (o := 2) HO (Or.inr rfl) k2 k3 k4 k1 k5 k6
  have fin2 : (ru_l vc ≤ 2000000000 → ∃ f' v w, fX4_step (mC vc p1 (h + 3) f np cl) = some (mC v (p1 + 1) h f' np cl) ∧ fX12_step (mR vr q1 (g + 3) f t cl) = some (mR w (q1 + 1) g f' t cl) ∧ ru_se T XL h g np t cl f vc vr v w f') → ru_G Fin a (40000 * f + c + 4 * (p1 + 1 - p1)) (mC vc p1 (h + 3) f np cl) (mR vr q1 (g + 3) f t cl) := by
    intro hh
    refine ru_mono (B := 40000 * f + c + 1) (ru_G_l (fun hl => ?_)) (by omega)
    rw [ru_l_mC] at hl
    exact fin hl (hh hl)
  by_cases hN : q_a vc 802 (h + 2) < 0 ∨ 1000 < q_a vc 802 (h + 2)
  · refine tr 3 (by decide) ?_ ?_
    · unfold fX1_troubleToSluice fX1_troubleToSluice_b11
      by_cases hN0 : q_a vc 802 (h + 2) < 0
      · rw [if_pos hN0]
      · rw [if_neg hN0, if_neg (Int32.not_le.mpr (hN.resolve_left hN0))]
    · rw [sr, rs_in, if_pos hN, q_bd_s, if_pos rfl]; exact t36 _ _ _ 3 (by decide) (by decide)
  have hN0 : ¬ q_a vc 802 (h + 2) < 0 := fun z => hN (Or.inl z)
  have hN1 : q_a vc 802 (h + 2) ≤ 1000 := Int32.not_lt.mp (fun z => hN (Or.inr z))
  rw [rs_in, if_neg hN, q_bd_s, if_neg one] at sr
  have ts : ∀ k s : Int32, fX1_troubleToSluice k s (q_a vc 802 (h + 2)) (mC vc (p1 + 1) h f np cl) = q_bd (fX1_troubleToShut k s (mC vc (p1 + 1) h f np cl)) (fun y2 T1 =>
      if y2 = 0 then q_bd (fX1_gateOf k (1 - s) T1) (fun y4 T3 => if y4 = 1 then fX1_troubleToSluice_b47 k s (q_a vc 802 (h + 2)) 6 T3 else fX1_troubleToSluice_b47 k s (q_a vc 802 (h + 2)) 0 T3) else some (y2, T1)) := by
    intro k s
    unfold fX1_troubleToSluice
    rw [if_neg hN0, if_pos hN1]
  rcases ru_gate (q_a vc 802 h) (q_a vc 802 (h + 1)) with ⟨z1, z2⟩ | ⟨m, j, hm, hj, e1, e2, -, -, -⟩
  · refine tr 3 (by decide) ?_ ?_
    · rw [ts, cs_shutB z1, q_bd_s, if_neg (by decide)]
    · rw [sr, rs_wsB z2, q_bd_s]; exact t36 _ _ _ 3 (by decide) (by decide)
  rw [e1, e2] at sc sr tr
  have eh : q_a vr 2465 m = q_a vc 203 m := by rw [d.2.1.2.2.2.1]
  rw [rs_wsG hm hj, q_bd_s, mR_a, eh] at sr
  by_cases z4 : q_a vc 203 m = 0
  · refine tr 4 (by decide) ?_ ?_
    · rw [ts, cs_shutG hm hj, mC_a, if_pos z4, q_bd_s, if_neg (by decide)]
    · rw [sr, if_pos z4]; exact t36 _ _ _ 4 (by decide) (by decide)
  rw [if_neg z4] at sr
  have ts2 : fX1_troubleToSluice (nI m) (nI j) (q_a vc 802 (h + 2)) (mC vc (p1 + 1) h f np cl) = if q_a vc 202 (2 * m + (1 - j)) = 1 then some (6, mC vc (p1 + 1) h f np cl) else some (0, mC vc (p1 + 1) h f np cl) := by
    rw [ts, cs_shutG hm hj, mC_a, if_neg z4, q_bd_s, if_pos rfl, cs_gateG hm hj, q_bd_s, mC_a]; rfl
  have sr2 : fX12_step (mR vr q1 (g + 3) f t cl) = if q_a vc 202 (2 * m + (1 - j)) = 0 then fX12_sluice_b62 (q_a vc 802 (h + 2)) (nI j) (nI m) 0 (mR vr (q1 + 1) g f t cl) else fX12_sluice_b62 (q_a vc 802 (h + 2)) (nI j) (nI m) 6 (mR vr (q1 + 1) g f t cl) := by
    rw [sr]
    unfold fX12_sluice_b36
    rw [if_pos rfl, ni_2s hj, if_neg (by rw [ni_in (show 2 * m + (1 - j) < 12 by omega) (by omega)]; exact id), ni_clamp (by omega), mR_a, ← d.2.1.2.2.1]
  have hg := d.2.1.2.2.2.2.2.1 (2 * m + (1 - j)) (by omega)
  by_cases z6 : q_a vc 202 (2 * m + (1 - j)) = 1
  · refine tr 6 (by decide) ?_ ?_
    · rw [ts2, if_pos z6]
    · rw [sr2, if_neg (by rw [z6]; decide)]
      unfold fX12_sluice_b62
      rw [if_neg (by decide), q_bv_id, rs_trouble (by omega) h70]
  have z60 : q_a vc 202 (2 * m + (1 - j)) = 0 := hg.resolve_right z6
  rw [ts2, if_neg z6, q_bd_s, if_pos rfl, cs_headG hm hj, q_bd_s, mC_a] at sc
  obtain ⟨nn, hnn, en⟩ := ni_ex hN0
  have hn : nn ≤ 1000 := by rw [en, show (1000 : Int32) = nI 1000 from rfl, ni_le (by omega) (by omega)] at hN1; exact hN1
  obtain ⟨c7a, c7b⟩ := d.2.1.2.2.2.2.2.2.1 m hm
  obtain ⟨c8a, c8b⟩ := d.2.1.2.2.2.2.2.2.2.1 (m + j) (by omega)
  obtain ⟨A, hA, eA⟩ := ni_ex c7a
  obtain ⟨B, hB, eB⟩ := ni_ex c8a
  have hA2 : A ≤ 20000 := by rw [eA, show (20000 : Int32) = nI 20000 from rfl, ni_le (by omega) (by omega)] at c7b; exact c7b
  have hB2 : B ≤ 200000 := by rw [eB, show (200000 : Int32) = nI 200000 from rfl, ni_le (by omega) (by omega)] at c8b; exact c8b
  have eA' : q_a vr 2463 m = nI A := by rw [← d.2.1.1]; exact eA
  have eB' : q_a vr 2466 (m + j) = nI B := by rw [← d.2.1.2.1]; exact eB
  have sr3 : fX12_step (mR vr q1 (g + 3) f t cl) = if nI A ≤ nI (B / 10) then fX12_sluice_b97 (nI nn) (nI j) (nI m) 0 0 (mR vr (q1 + 1) g f t cl) else fX12_sluice_b97 (nI nn) (nI j) (nI m) 0 1 (mR vr (q1 + 1) g f t cl) := by
    rw [sr2, if_pos z60]
    unfold fX12_sluice_b62
    rw [if_pos (by decide), if_neg (by rw [ni_in hm (by omega)]; exact id), rs_lbG hm hj, q_bd_s, ni_clamp (by omega), mR_a, eA', eB', show (10 : Int32) = nI 10 from rfl, ni_div (by omega) (by omega), en]
  rw [eA, eB, show (10 : Int32) = nI 10 from rfl, ni_div (by omega) (by omega), en] at sc
  refine fin2 (fun hl => ?_)
  by_cases z : A ≤ B / 10
  · rw [if_pos (by rw [ni_hd0 (by omega) (by omega)]; exact z)] at sc
    rw [if_pos (by rw [ni_le (by omega) (by omega)]; exact z)] at sr3
    obtain ⟨f', v, w, k1, k2, k3⟩ := ru_SLL0 (p := p1 + 1) (h := h) (q := q1 + 1) (g := g) hm hj hn nn 0 f q_N q_N vc vr (by omega) (by unfold q_N; omega) (by unfold q_N; omega) d hl (by omega)
    exact ⟨f', v, w, sc.trans k1, sr3.trans k2, k3⟩
  · rw [if_neg (by rw [ni_hd0 (by omega) (by omega)]; exact z)] at sc
    rw [if_neg (by rw [ni_le (by omega) (by omega)]; exact z)] at sr3
    obtain ⟨f', v, w, k1, k2, k3⟩ := ru_SLL1 (p := p1 + 1) (h := h) (q := q1 + 1) (g := g) hm hj hn nn 0 f q_N q_N vc vr (by omega) (by unfold q_N; omega) (by unfold q_N; omega) d hl (by omega)
    exact ⟨f', v, w, sc.trans k1, sr3.trans k2, k3⟩
end
