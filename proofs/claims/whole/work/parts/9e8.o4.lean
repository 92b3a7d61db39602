set_option maxHeartbeats 200000 in
theorem cs_isShip {x : Int32} {v : q_V} : fX1_isShip x v = some (if x < 0 ∨ 8 ≤ x then 0 else 1, v) := by
  unfold fX1_isShip fX1_isShip_b14 fX1_isShip_b15
  by_cases h1 : x < 0
  · simp (decide := true) only [h1, true_or, q_bd_s, q_bv_s, q_lt_s, q_i_si, q_i_sj, q_i_sa, q_i_sb, q_i_sf, q_i_sc, q_j_si, q_j_sj, q_j_sa, q_j_sb, q_j_sf, q_j_sc, q_a_si, q_a_sj, q_a_sa, q_a_sb, q_a_sf, q_a_sc, q_b_si, q_b_sj, q_b_sa, q_b_sb, q_b_sf, q_b_sc, q_f_si, q_f_sj, q_f_sa, q_f_sb, q_f_sf, q_f_sc, q_c_si, q_c_sj, q_c_sa, q_c_sb, q_c_sf, q_c_sc, q_n_si, q_n_sj, q_n_sa, q_n_sb, q_n_sf, q_n_sc, Nat.reduceEqDiff, Nat.reduceAdd, ↓reduceIte, Int32.reduceLT, Int32.reduceLE, Nat.reduceLeDiff, ni_neg, ni_clamp, ni_lef, or_self, or_false, false_or, ni_add1, ni_pred]
  · by_cases h2 : 8 ≤ x
    · simp (decide := true) only [h1, h2, or_true, q_bd_s, q_bv_s, q_lt_s, q_i_si, q_i_sj, q_i_sa, q_i_sb, q_i_sf, q_i_sc, q_j_si, q_j_sj, q_j_sa, q_j_sb, q_j_sf, q_j_sc, q_a_si, q_a_sj, q_a_sa, q_a_sb, q_a_sf, q_a_sc, q_b_si, q_b_sj, q_b_sa, q_b_sb, q_b_sf, q_b_sc, q_f_si, q_f_sj, q_f_sa, q_f_sb, q_f_sf, q_f_sc, q_c_si, q_c_sj, q_c_sa, q_c_sb, q_c_sf, q_c_sc, q_n_si, q_n_sj, q_n_sa, q_n_sb, q_n_sf, q_n_sc, Nat.reduceEqDiff, Nat.reduceAdd, ↓reduceIte, Int32.reduceLT, Int32.reduceLE, Nat.reduceLeDiff, ni_neg, ni_clamp, ni_lef, or_self, or_false, false_or, ni_add1, ni_pred]
    · simp (decide := true) only [h1, h2, or_self, q_bd_s, q_bv_s, q_lt_s, q_i_si, q_i_sj, q_i_sa, q_i_sb, q_i_sf, q_i_sc, q_j_si, q_j_sj, q_j_sa, q_j_sb, q_j_sf, q_j_sc, q_a_si, q_a_sj, q_a_sa, q_a_sb, q_a_sf, q_a_sc, q_b_si, q_b_sj, q_b_sa, q_b_sb, q_b_sf, q_b_sc, q_f_si, q_f_sj, q_f_sa, q_f_sb, q_f_sf, q_f_sc, q_c_si, q_c_sj, q_c_sa, q_c_sb, q_c_sf, q_c_sc, q_n_si, q_n_sj, q_n_sa, q_n_sb, q_n_sf, q_n_sc, Nat.reduceEqDiff, Nat.reduceAdd, ↓reduceIte, Int32.reduceLT, Int32.reduceLE, Nat.reduceLeDiff, ni_neg, ni_clamp, ni_lef, or_self, or_false, false_or, ni_add1, ni_pred]
set_option maxHeartbeats 200000 in
theorem sl_m : ∀ b, b < 13 → nI b - nI b / 2 * 2 = nI (b % 2) := by decide
set_option maxHeartbeats 200000 in
theorem sl_k : ∀ c, c < 13 → c % 2 = 1 → (nI c - 1) / 2 = nI ((c - 1) / 2) := by decide
set_option maxHeartbeats 200000 in
theorem cs_pb {x y : Int32} {v : q_V} : fX1_placeBeyond x y v = some (if y = 1 then x + 1 else x - 1, v) := by
  unfold fX1_placeBeyond fX1_placeBeyond_b14
  split <;> rfl
set_option maxHeartbeats 200000 in
theorem rs_tk1 {x1 x2 : Int32} {v : q_V} : ∀ r i n, i + r = 8 → r < n → fX12_isTaken_L5 x1 x2 n 1 (nI i) v = some (1, v) := by
  have one : ¬ (1 : Int32) = 0 := by decide
  intro r
  induction r with
  | zero =>
    intro i n hi hn
    obtain ⟨n, rfl⟩ : ∃ k, n = k + 1 := ⟨n - 1, by omega⟩
    obtain rfl : i = 8 := by omega
    rw [fX12_isTaken_L5, if_pos (by decide), if_neg (by decide)]
  | succ r ih =>
    intro i n hi hn
    obtain ⟨n, rfl⟩ : ∃ k, n = k + 1 := ⟨n - 1, by omega⟩
    rw [fX12_isTaken_L5, if_neg (by rw [show (8 : Int32) = nI 8 from rfl, ni_le (by omega) (by omega)]; omega), if_neg one]
    unfold fX12_isTaken_b33 fX12_isTaken_b38
    rw [q_lt_s, ni_add1]
    exact ih (i + 1) n (by omega) (by omega)
set_option maxHeartbeats 200000 in
theorem ru_tk {x1 x2 : Int32} {vc vr : q_V} (e : q_a vc 204 = q_a vr 2467) : ∀ r i n1 n2, i + r = 8 → r < n1 → r < n2 → ∃ y : Int32, (y = 0 ∨ y = 1) ∧ fX1_isTaken_L10 x1 x2 n1 (nI i) vc = some (y, vc) ∧ fX12_isTaken_L5 x1 x2 n2 0 (nI i) vr = some (y, vr) := by
  intro r
  induction r with
  | zero =>
    intro i n1 n2 hi h1 h2
    obtain ⟨n1, rfl⟩ : ∃ k, n1 = k + 1 := ⟨n1 - 1, by omega⟩
    obtain ⟨n2, rfl⟩ : ∃ k, n2 = k + 1 := ⟨n2 - 1, by omega⟩
    obtain rfl : i = 8 := by omega
    refine ⟨0, Or.inl rfl, ?_, ?_⟩
    · rw [fX1_isTaken_L10, if_pos (by decide)]
    · rw [fX12_isTaken_L5, if_pos (by decide), if_neg (by decide)]
  | succ r ih =>
    intro i n1 n2 hi h1 h2
    obtain ⟨n1, rfl⟩ : ∃ k, n1 = k + 1 := ⟨n1 - 1, by omega⟩
    obtain ⟨n2, rfl⟩ : ∃ k, n2 = k + 1 := ⟨n2 - 1, by omega⟩
    have n8 : ¬ 8 ≤ nI i := by rw [show (8 : Int32) = nI 8 from rfl, ni_le (by omega) (by omega)]; omega
    have ni : ¬ (nI i < 0 ∨ 8 ≤ (nI i).toNatClampNeg) := by rw [ni_in (show i < 8 by omega) (by omega)]; exact id
    obtain ⟨y, hy, k1, k2⟩ := ih (i + 1) n1 n2 (by omega) (by omega) (by omega)
    rw [fX1_isTaken_L10, fX12_isTaken_L5, if_neg n8, if_neg n8, if_pos rfl]
    unfold fX1_isTaken_b33 fX12_isTaken_b37 fX12_isTaken_b33 fX12_isTaken_b38
    rw [q_lt_s, q_lt_s, q_lt_s, ni_add1]
    by_cases c : nI i = x2
    · rw [if_pos c, if_pos c]; exact ⟨y, hy, k1, k2⟩
    · rw [if_neg c, if_neg c, if_neg ni, if_neg ni, e]
      by_cases c2 : q_a vr 2467 (nI i).toNatClampNeg = x1
      · rw [if_pos c2, if_pos c2]
        exact ⟨1, Or.inr rfl, rfl, rs_tk1 r (i + 1) n2 (by omega) (by omega)⟩
      · rw [if_neg c2, if_neg c2]; exact ⟨y, hy, k1, k2⟩
section
variable {Fin : q_V → q_V → Prop} {a : ru_P} {T : co_T} {XL : Int32 → Int32 → Int32 → Prop} {f0 nu : Nat} {L : List (Nat × Nat)}
set_option maxHeartbeats 200000 in
theorem ru_D_ship {cl t np i x : Nat} {vc vr : q_V} (d : ru_D T XL cl t np vc vr) (hx : x ≤ 12) : ru_D T XL cl t np (q_sa vc 204 (upd (q_a vc 204) i (nI x))) (q_sa vr 2467 (upd (q_a vr 2467) i (nI x))) := by
  obtain ⟨d1, d2, d3, d4, d5, d6⟩ := d
  obtain ⟨e1, e2, e3, e4, e5, e6, e7, e8, e9⟩ := d2
  refine ⟨d1, ⟨e1, e2, e3, e4, ?_, e6, e7, e8, ?_⟩, d3, d4, ⟨trivial, d5.2.1.trans (ru_z_e (by rw [q_a_sa, if_neg (by omega)])).symm, d5.2.2⟩, d6⟩
  · rw [q_a_sa, if_pos rfl, q_a_sa, if_pos rfl, e5]
  · intro k hk
    rw [q_a_sa, if_pos rfl]
    by_cases c : k = i
    · rw [c, upd_at]
      exact ⟨by rw [ni_neg (by omega)]; exact id, by rw [show (12 : Int32) = nI 12 from rfl, ni_le (by omega) (by omega)]; exact hx⟩
    · rw [upd_ne c]; exact e9 k hk
set_option maxHeartbeats 200000 in
theorem ru_K_ship {np t h g cl : Nat} {vc vr v w : q_V} {u u' : Nat → Int32} (K : ru_K np t h g cl vc vr v w) : ru_K np t h g cl vc vr (q_sa v 204 u) (q_sa w 2467 u') := by
  refine ⟨K.1, fun i z => by rw [q_a_sa, if_neg (by omega)]; exact K.2.1 i z, fun j n z1 z2 z3 => ⟨by rw [q_a_sa, if_neg (by omega)]; exact (K.2.2.1 j n z1 z2 z3).1, (K.2.2.1 j n z1 z2 z3).2⟩, fun i z => by rw [q_a_sa, if_neg (by omega)]; exact K.2.2.2.1 i z, fun i z => by rw [q_a_sa, if_neg (by omega), q_a_sa, if_neg (by omega)]; exact K.2.2.2.2.1 i z, by rw [q_a_sa, if_neg (by omega)]; exact K.2.2.2.2.2.1, K.2.2.2.2.2.2⟩
set_option maxHeartbeats 200000 in
/-- the class's trouble of a sailing from `A` to `b` by the gate `e` -/
theorem cs_sail {s A b e : Nat} {x2 : Int32} {v : q_V} (hs : s < 8) (hA : A ≤ 12) (hb : b ≤ 12) (eA : q_a v 204 s = nI A) (hp : (if x2 = 1 then nI A + 1 else nI A - 1) = nI b) (he : e < 12) (hm : (if nI A < nI b then nI A else nI b) = nI e) : fX1_troubleToSail_b18 (nI s) x2 v = if q_a v 203 (e / 2) = 0 then some (4, v) else if q_a v 202 e = 0 then some (7, v) else q_bd (fX1_isTaken (nI b) (nI s) v) (fun y T => if y = 0 then some (0, T) else some (8, T)) := by
  have n8 : ¬ (nI s < 0 ∨ 8 ≤ (nI s).toNatClampNeg) := by rw [ni_in hs (by omega)]; exact id
  unfold fX1_troubleToSail_b18 fX1_troubleToSail_b100
  rw [if_neg n8, cs_pb, q_bd_s, if_neg n8, q_lt_s, ni_clamp (by omega), eA, hp, hm, if_neg (show ¬ nI e < 0 by rw [ni_neg (by omega)]; exact id), if_pos (show nI e < 12 by rw [show (12 : Int32) = nI 12 from rfl, ni_lt (by omega) (by omega)]; exact he), show (2 : Int32) = nI 2 from rfl, ni_div (by omega) (by omega), cs_holdsOf, if_neg (ni_nb6 (show e / 2 < 6 by omega)), q_bd_s, if_neg (show ¬ (nI e < 0 ∨ 12 ≤ (nI e).toNatClampNeg) by rw [ni_in he (by omega)]; exact id), ni_clamp (a := e / 2) (by omega), ni_clamp (a := e) (by omega)]
set_option maxHeartbeats 200000 in
/-- the reference's sailing from `A` to `b` by the gate `e` -/
theorem rs_sail {s A b e : Nat} {x : Int32} {v : q_V} (hs : s < 8) (hA : A ≤ 12) (hb : b ≤ 12) (eA : q_a v 2467 s = nI A) (hp : nI A + x = nI b) (hab : A = e ∧ b = e + 1 ∨ A = e + 1 ∧ b = e) : fX12_sail_b51 (nI s) x (nI A) v = if q_a v 2465 (e / 2) = 0 then fX12_sail_b185 (nI s) (nI b) 4 v else if q_a v 2464 e = 0 then fX12_sail_b185 (nI s) (nI b) 7 v else if b % 2 = 1 then q_bd (fX12_isTaken (nI b) (nI s) v) (fun y T => if y = 0 then fX12_sail_b184 (nI s) (nI b) T else fX12_sail_b185 (nI s) (nI b) 8 T) else fX12_sail_b184 (nI s) (nI b) v := by
  have n8 : ¬ (nI s < 0 ∨ 8 ≤ (nI s).toNatClampNeg) := by rw [ni_in hs (by omega)]; exact id
  have one : ¬ (0 : Int32) = 1 := by decide
  have i12 : ¬ (nI b < 0 ∨ 12 < nI b) := by rw [ni_neg (by omega), show (12 : Int32) = nI 12 from rfl, ni_lt (by omega) (by omega), false_or]; omega
  have g128 : ∀ (ch k : Nat) (d : Nat), ch ≤ 12 → k < 6 → 2 * k + d = e → e / 2 = k → fX12_sail_b128 (nI s) (nI b) (nI ch) (nI k) (nI d) v = if q_a v 2465 (e / 2) = 0 then fX12_sail_b185 (nI s) (nI b) 4 v else if q_a v 2464 e = 0 then fX12_sail_b185 (nI s) (nI b) 7 v else if nI b = nI ch then q_bd (fX12_isTaken (nI b) (nI s) v) (fun y T => if y = 0 then fX12_sail_b184 (nI s) (nI b) T else fX12_sail_b185 (nI s) (nI b) 8 T) else fX12_sail_b184 (nI s) (nI b) v := by
    intro ch k d h1 h2 h3 h4
    unfold fX12_sail_b128
    have n6 : ¬ (nI k < 0 ∨ 6 ≤ (nI k).toNatClampNeg) := by rw [ni_in h2 (by omega)]; exact id
    have n12 : ¬ (nI e < 0 ∨ 12 ≤ (nI e).toNatClampNeg) := by rw [ni_in (show e < 12 by omega) (by omega)]; exact id
    rw [if_neg n6, ni_2, h3, if_neg n12, ni_clamp (a := k) (by omega), ni_clamp (a := e) (by omega), h4]
  unfold fX12_sail_b51 fX12_sail_b87 fX12_sail_b106
  rw [q_lt_s, hp, rs_in, if_neg i12, q_bd_s, if_neg (by decide), sl_m b (by omega), if_neg n8, if_neg n8, ni_clamp (a := s) (by omega), eA]
  by_cases o : b % 2 = 1
  · rw [o, if_pos (show nI 1 = 1 from rfl), if_pos (show nI 1 = 1 from rfl), q_lt_s, sl_k b (by omega) o, if_pos (show (1 : Nat) = 1 from rfl)]
    rcases hab with ⟨k1, k2⟩ | ⟨k1, k2⟩
    · rw [if_neg (by rw [ni_le (by omega) (by omega)]; omega), show (0 : Int32) = nI 0 from rfl, g128 b ((b - 1) / 2) 0 hb (by omega) (by omega) (by omega), if_pos (show nI b = nI b from rfl)]; rfl
    · rw [if_pos (by rw [ni_le (by omega) (by omega)]; omega), show (1 : Int32) = nI 1 from rfl, g128 b ((b - 1) / 2) 1 hb (by omega) (by omega) (by omega), if_pos (show nI b = nI b from rfl)]
  · have o0 : b % 2 = 0 := by omega
    rw [o0, if_neg (show ¬ nI 0 = 1 from one), if_neg (show ¬ nI 0 = 1 from one), q_lt_s, sl_k A (by omega) (by omega), if_neg (show ¬ (0 : Nat) = 1 by decide)]
    rcases hab with ⟨k1, k2⟩ | ⟨k1, k2⟩
    · rw [if_pos (by rw [ni_le (by omega) (by omega)]; omega), show (1 : Int32) = nI 1 from rfl, g128 A ((A - 1) / 2) 1 hA (by omega) (by omega) (by omega), if_neg (show ¬ nI b = nI A by rw [ni_eq (by omega) (by omega)]; omega)]
    · rw [if_neg (by rw [ni_le (by omega) (by omega)]; omega), show (0 : Int32) = nI 0 from rfl, g128 A ((A - 1) / 2) 0 hA (by omega) (by omega) (by omega), if_neg (show ¬ nI b = nI A by rw [ni_eq (by omega) (by omega)]; omega)]; rfl
set_option maxHeartbeats 200000 in
theorem ru_SAIL {hb p p1 q q1 : Nat} (s1 : ru_SA Fin a T XL f0 2 hb p p1 q q1) (hhb : hb + 2 * nu ≤ 142) (h0 : 2 ≤ hb) (c0 : co_c T p1 39) (r0 : co_r T 0 q1 35) : ru_ST Fin a T XL f0 nu L p (p1 + 1) q (q1 + 1) := by
  refine ru_BES s1 hhb (by omega) (by omega) ?_
  intro c f h g np t cl vc vr d W bd E n x
  have E0 : q_a vc 802 h = q_a vr 2515 g := E 0 (by omega)
  have E1 : q_a vc 802 (h + 1) = q_a vr 2515 (g + 1) := E 1 (by omega)
  obtain ⟨b1, b2, b3, b4, b5, b6, b7, b8, b9, b10⟩ := id bd
  have h70 : ¬ q_i vr 2470 < 0 := ru_n70 d.2.2.1
  have one : ¬ (1 : Int32) = 0 := by decide
  have sc : fX4_step (mC vc p1 (h + 2) f np cl) = q_bd (fX1_troubleToSail (q_a vc 802 h) (q_a vc 802 (h + 1)) (mC vc (p1 + 1) h f np cl)) (fun y7 T6 =>
      if y7 = 0 then q_bd (fX1_moveShip (q_a vc 802 h) (q_a vc 802 (h + 1)) T6) (fun y11 T10 => q_bv (fX7_write 6 (16 * q_a vc 802 h + y11) T10) (fun T12 => some T12))
      else q_bv (fX4_trouble y7 T6) (fun T14 => some T14)) := by
    rw [cs_step d.1 c0, cd_39, q_bv_id]
    unfold fX4_order_b152 fX4_sail
    rw [q_bv_id, cs_pop (h := h + 1) (by omega), q_bd_s, cs_pop (by omega), q_bd_s]
  have sr : fX12_step (mR vr q1 (g + 2) f t cl) = q_bd (fX12_in (q_a vc 802 h) 0 7 (mR vr (q1 + 1) g f t cl)) (fun y6 T5 =>
      if y6 = 0 then fX12_sail_b29 T5 else q_bd (fX12_in (q_a vc 802 (h + 1)) 0 1 T5) (fun y8 T7 =>
        if y8 = 0 then fX12_sail_b29 T7 else
        if (q_a vc 802 h) < 0 ∨ 8 ≤ (q_a vc 802 h).toNatClampNeg then none else
        if q_a vc 802 (h + 1) = 1 then fX12_sail_b51 (q_a vc 802 h) 1 (q_a T7 2467 (q_a vc 802 h).toNatClampNeg) T7
        else fX12_sail_b51 (q_a vc 802 h) (-1) (q_a T7 2467 (q_a vc 802 h).toNatClampNeg) T7)) := by
    rw [rs_step d.1 r0, rd_35, q_bv_id]
    unfold fX12_stepOfStatement_b600 fX12_sail
    rw [q_bv_id, rs_pop (g := g + 1) (by omega), q_bd_s, rs_pop (by omega), q_bd_s, ← E0, ← E1]
  have tr : ∀ y : Int32, 0 < y → fX1_troubleToSail (q_a vc 802 h) (q_a vc 802 (h + 1)) (mC vc (p1 + 1) h f np cl) = some (y, mC vc (p1 + 1) h f np cl) → fX12_step (mR vr q1 (g + 2) f t cl) = fX12_leaves (mR (ru_tr vr t y) (q1 + 1) g f t cl) → ru_G Fin a (40000 * f + c + 4 * (p1 + 1 - p1)) (mC vc p1 (h + 2) f np cl) (mR vr q1 (g + 2) f t cl) := by
    intro y hy e1 e2
    refine ru_ttS (x := y) (p1 := p1 + 1) (h1 := h) (q1 := q1 + 1) (g1 := g) d W (by omega) hy (by omega) x ?_ e2
    rw [sc, e1, q_bd_s, if_neg (by intro z; rw [z] at hy; exact absurd hy (by decide)), cs_trouble, mC_tc, q_bv_s]
  have t29 : fX12_sail_b29 (mR vr (q1 + 1) g f t cl) = fX12_leaves (mR (ru_tr vr t 3) (q1 + 1) g f t cl) := by
    unfold fX12_sail_b29
    rw [q_bv_id, rs_trouble (by omega) h70]
  have t185 : ∀ k z y : Int32, ¬ y ≤ 0 → fX12_sail_b185 k z y (mR vr (q1 + 1) g f t cl) = fX12_leaves (mR (ru_tr vr t y) (q1 + 1) g f t cl) := by
    intro k z y hy
    unfold fX12_sail_b185
    rw [if_neg hy, q_bv_id, rs_trouble (by omega) h70]
  by_cases hK : q_a vc 802 h < 0 ∨ 7 < q_a vc 802 h
  · have hK8 : q_a vc 802 h < 0 ∨ 8 ≤ q_a vc 802 h := by
      rcases hK with z | z
      · exact Or.inl z
      · exact Or.inr (by rw [Int32.le_iff_toInt_le]; rw [Int32.lt_iff_toInt_lt] at z; rw [show (8 : Int32).toInt = 8 from rfl]; rw [show (7 : Int32).toInt = 7 from rfl] at z; omega)
    refine tr 3 (by decide) ?_ ?_
    · unfold fX1_troubleToSail fX1_troubleToSail_b16
      rw [cs_isShip, if_pos hK8, q_bd_s, if_pos rfl]
    · rw [sr, rs_in, if_pos hK, q_bd_s, if_pos rfl]; exact t29
  have hK0 : ¬ q_a vc 802 h < 0 := fun z => hK (Or.inl z)
  obtain ⟨s, hs0, es⟩ := ni_ex hK0
  have hs : s < 8 := by
    have z : ¬ 7 < q_a vc 802 h := fun z => hK (Or.inr z)
    rw [es, show (7 : Int32) = nI 7 from rfl, ni_lt (by omega) hs0] at z; omega
  have n8 : ¬ (nI s < 0 ∨ 8 ≤ (nI s).toNatClampNeg) := by rw [ni_in hs (by omega)]; exact id
  have n8' : ¬ (nI s < 0 ∨ 8 ≤ nI s) := by rw [ni_neg (by omega), show (8 : Int32) = nI 8 from rfl, ni_le (by omega) (by omega), false_or]; omega
  rw [rs_in, if_neg hK, q_bd_s, if_neg one, rs_in, q_bd_s, es, if_neg n8, ni_clamp (a := s) (by omega), mR_a] at sr
  rw [es] at sc tr
  by_cases hD : q_a vc 802 (h + 1) < 0 ∨ 1 < q_a vc 802 (h + 1)
  · have hD0 : ¬ q_a vc 802 (h + 1) = 0 := by intro z; rw [z] at hD; exact absurd hD (by decide)
    have hD1 : ¬ q_a vc 802 (h + 1) = 1 := by intro z; rw [z] at hD; exact absurd hD (by decide)
    refine tr 3 (by decide) ?_ ?_
    · unfold fX1_troubleToSail fX1_troubleToSail_b16
      rw [cs_isShip, if_neg n8', q_bd_s, if_neg one, if_neg hD0, if_neg hD1]
    · rw [sr, if_pos hD, if_pos rfl]; exact t29
  rw [if_neg hD, if_neg one] at sr
  have hD01 : q_a vc 802 (h + 1) = 0 ∨ q_a vc 802 (h + 1) = 1 := by
    have z0 : ¬ q_a vc 802 (h + 1) < 0 := fun z => hD (Or.inl z)
    have z1 : ¬ 1 < q_a vc 802 (h + 1) := fun z => hD (Or.inr z)
    obtain ⟨k, hk, ek⟩ := ni_ex z0
    rw [ek] at z1 ⊢
    rw [show (1 : Int32) = nI 1 from rfl, ni_lt (by omega) hk] at z1
    rcases (show k = 0 ∨ k = 1 by omega) with rfl | rfl
    · exact Or.inl rfl
    · exact Or.inr rfl
  have ts : fX1_troubleToSail (nI s) (q_a vc 802 (h + 1)) (mC vc (p1 + 1) h f np cl) = fX1_troubleToSail_b18 (nI s) (q_a vc 802 (h + 1)) (mC vc (p1 + 1) h f np cl) := by
    unfold fX1_troubleToSail
    rw [cs_isShip, if_neg n8', q_bd_s, if_neg one]
    rcases hD01 with z | z
    · rw [z, if_pos rfl]
    · rw [z, if_neg one, if_pos rfl]
  obtain ⟨c9a, c9b⟩ := d.2.1.2.2.2.2.2.2.2.2 s hs
  obtain ⟨A, hA, eA⟩ := ni_ex c9a
  have hA2 : A ≤ 12 := by rw [eA, show (12 : Int32) = nI 12 from rfl, ni_le (by omega) (by omega)] at c9b; exact c9b
  have eA' : q_a vr 2467 s = nI A := by rw [← d.2.1.2.2.2.2.1]; exact eA
  rw [eA'] at sr
  have key : ∀ (b e : Nat) (y : Int32), b ≤ 12 → e < 12 → (A = e ∧ b = e + 1 ∨ A = e + 1 ∧ b = e) → (if q_a vc 802 (h + 1) = 1 then nI A + 1 else nI A - 1) = nI b → nI A + y = nI b → fX12_step (mR vr q1 (g + 2) f t cl) = fX12_sail_b51 (nI s) y (nI A) (mR vr (q1 + 1) g f t cl) → ru_G Fin a (40000 * f + c + 4 * (p1 + 1 - p1)) (mC vc p1 (h + 2) f np cl) (mR vr q1 (g + 2) f t cl) := by
    intro b e y hb he hab k1 k2 sr2
    have hm : (if nI A < nI b then nI A else nI b) = nI e := by
      rcases hab with ⟨z1, z2⟩ | ⟨z1, z2⟩
      · rw [if_pos (by rw [ni_lt (by omega) (by omega)]; omega), z1]
      · rw [if_neg (by rw [ni_lt (by omega) (by omega)]; omega), z2]
    rw [cs_sail hs hA2 hb (by rw [mC_a]; exact eA) k1 he hm, mC_a] at ts
    rw [rs_sail hs hA2 hb (by rw [mR_a]; exact eA') k2 hab, mR_a, ← d.2.1.2.2.2.1, ← d.2.1.2.2.1] at sr2
    by_cases z4 : q_a vc 203 (e / 2) = 0
    · refine tr 4 (by decide) (by rw [ts, if_pos z4]) ?_
      rw [sr2, if_pos z4]; exact t185 _ _ 4 (by decide)
    rw [if_neg z4] at ts sr2
    by_cases z7 : q_a vc 202 e = 0
    · refine tr 7 (by decide) (by rw [ts, if_pos z7]) ?_
      rw [sr2, if_pos z7]; exact t185 _ _ 7 (by decide)
    rw [if_neg z7] at ts sr2
    have ok : fX1_troubleToSail (nI s) (q_a vc 802 (h + 1)) (mC vc (p1 + 1) h f np cl) = some (0, mC vc (p1 + 1) h f np cl) → fX12_step (mR vr q1 (g + 2) f t cl) = fX12_sail_b184 (nI s) (nI b) (mR vr (q1 + 1) g f t cl) → ru_G Fin a (40000 * f + c + 4 * (p1 + 1 - p1)) (mC vc p1 (h + 2) f np cl) (mR vr q1 (g + 2) f t cl) := by
      intro m1 m2
      have st1 : fX4_step (mC vc p1 (h + 2) f np cl) = some (mC (ru_wr (q_sa vc 204 (upd (q_a vc 204) s (nI b))) 6 (16 * nI s + nI b)) (p1 + 1) h f np cl) := by
        rw [sc, m1, q_bd_s, if_pos rfl]
        unfold fX1_moveShip
        rw [cs_isShip, if_neg n8', q_bd_s, if_neg one, if_neg n8, cs_pb, q_bd_s, if_neg n8, q_lt_s, if_neg n8, q_bd_s, ni_clamp (a := s) (by omega), mC_a, eA, k1, mC_sa, mC_a, q_a_sa, if_pos rfl, upd_at, cs_wr, q_bv_s, mC_wr]
      have st2 : fX12_step (mR vr q1 (g + 2) f t cl) = some (mR (ru_nt (q_sa vr 2467 (upd (q_a vr 2467) s (nI b))) 6 (16 * nI s + nI b)) (q1 + 1) g f t cl) := by
        rw [m2]
        unfold fX12_sail_b184 fX12_sail_b185
        rw [if_pos (by decide), if_neg n8, q_lt_s, ni_clamp (a := s) (by omega), mR_a, mR_sa, rs_note (by exact h70), q_bv_s, mR_nt]
      refine ru_mono (B := 40000 * f + c + 1) (ru_G_l (fun hl => ?_)) (by omega)
      rw [ru_l_mC] at hl
      have dg := ru_D_ship (i := s) (x := b) d hb
      have lg : ru_l (q_sa vc 204 (upd (q_a vc 204) s (nI b))) = ru_l vc := by unfold ru_l; rw [q_a_sa, if_neg (by omega)]
      refine ru_cs st1 d.2.2.2.2.1.2.2.1 W.1 ⟨?_, Nat.le_of_eq (ru_w_e (fun i => by rw [wr_f]; rfl))⟩ (ru_rs st2 d.2.2.2.2.1.2.2.2.1 d.2.2.2.2.1.2.2.2.2 (n f _ _ (ru_D_w dg (by rw [lg]; exact hl)) ⟨by rw [wr_f]; exact W.1, by rw [nt_i (by omega)]; exact W.2.1⟩ (Nat.le_refl _) (ru_K_w (ru_K_ship ru_K_id))))
      rw [ru_l_mC, ru_l_mC, ru_l_wr (ru_n16 dg.2.2.1) (by rw [lg]; exact hl), lg]; omega
    by_cases o : b % 2 = 1
    · obtain ⟨y, hy, j1, j2⟩ := ru_tk (x1 := nI b) (x2 := nI s) (vc := mC vc (p1 + 1) h f np cl) (vr := mR vr (q1 + 1) g f t cl) (by rw [mC_a, mR_a]; exact d.2.1.2.2.2.2.1) 8 0 q_N q_N (by omega) (by unfold q_N; omega) (by unfold q_N; omega)
      have j1' : fX1_isTaken (nI b) (nI s) (mC vc (p1 + 1) h f np cl) = some (y, mC vc (p1 + 1) h f np cl) := by
        unfold fX1_isTaken
        rw [sl_m b (by omega), o, if_neg (by decide)]; exact j1
      have j2' : fX12_isTaken (nI b) (nI s) (mR vr (q1 + 1) g f t cl) = some (y, mR vr (q1 + 1) g f t cl) := j2
      rw [j1', q_bd_s] at ts
      rw [if_pos o, j2', q_bd_s] at sr2
      rcases hy with rfl | rfl
      · rw [if_pos rfl] at ts sr2
        exact ok ts sr2
      · rw [if_neg one] at ts sr2
        exact tr 8 (by decide) ts (by rw [sr2]; exact t185 _ _ 8 (by decide))
    · have j1' : fX1_isTaken (nI b) (nI s) (mC vc (p1 + 1) h f np cl) = some (0, mC vc (p1 + 1) h f np cl) := by
        unfold fX1_isTaken
        rw [sl_m b (by omega), show b % 2 = 0 by omega, if_pos (show nI 0 = 0 from rfl)]
      rw [j1', q_bd_s, if_pos rfl] at ts
      rw [if_neg o] at sr2
      exact ok ts sr2
  rcases hD01 with z | z
  · rw [z, if_neg (by decide)] at sr
    cases A with
    | zero =>
      refine tr 9 (by decide) ?_ ?_
      · rw [ts, z]
        unfold fX1_troubleToSail_b18 fX1_troubleToSail_b56
        rw [if_neg n8, cs_pb, q_bd_s, if_neg n8, q_lt_s, ni_clamp (a := s) (by omega), mC_a, eA, if_neg (show ¬ (0 : Int32) = 1 by decide), if_neg (show ¬ nI 0 < nI 0 - 1 by decide), if_pos (show nI 0 - 1 < 0 by decide)]
      · rw [sr]
        unfold fX12_sail_b51
        rw [q_lt_s, rs_in, if_pos (by decide), q_bd_s, if_pos rfl, q_bv_id, rs_trouble (by omega) h70]
    | succ A => exact key A A (-1) (by omega) (by omega) (Or.inr ⟨rfl, rfl⟩) (by rw [z, if_neg (by decide), show (1 : Int32) = nI 1 from rfl, ni_sub (by omega)]; rfl) (by rw [ni_m1 (by omega)]; rfl) sr
  · rw [z, if_pos rfl] at sr
    by_cases y12 : A = 12
    · subst y12
      refine tr 9 (by decide) ?_ ?_
      · rw [ts, z]
        unfold fX1_troubleToSail_b18 fX1_troubleToSail_b56
        rw [if_neg n8, cs_pb, q_bd_s, if_neg n8, q_lt_s, ni_clamp (a := s) (by omega), mC_a, eA, if_pos (show (1 : Int32) = 1 from rfl), if_pos (show nI 12 < nI 12 + 1 by decide), if_neg (show ¬ nI 12 < 0 by decide), if_neg (show ¬ nI 12 < 12 by decide)]
      · rw [sr]
        unfold fX12_sail_b51
        rw [q_lt_s, rs_in, if_pos (by decide), q_bd_s, if_pos rfl, q_bv_id, rs_trouble (by omega) h70]
    · exact key (A + 1) A 1 (by omega) (by omega) (Or.inl ⟨rfl, rfl⟩) (by rw [z, if_pos rfl, ni_add1]) ni_add1 sr
end
