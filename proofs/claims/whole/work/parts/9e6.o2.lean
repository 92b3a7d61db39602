def ru_un (v : q_V) (kc kr m r : Nat) (x y : Int32) : q_V := q_sa (q_sa v kc (upd (q_a v kc) m x)) kr (upd (q_a v kr) r y)
set_option maxHeartbeats 200000 in
theorem cs_moveU {v : q_V} {m j : Nat} {hd : Int32} (hm : m < 6) (hj : j < 2) : fX1_moveUnit (nI m) (nI j) hd v = some (ru_un v 200 201 m (m + j) (q_a v 200 m - (if hd ≤ 0 then -1 else 1)) (q_a v 201 (m + j) + (if hd ≤ 0 then -1 else 1))) := by
  have key : ∀ x : Int32, fX1_moveUnit_b9 (nI m) (nI j) hd x v = some (ru_un v 200 201 m (m + j) (q_a v 200 m - x) (q_a v 201 (m + j) + x)) := by
    intro x
    unfold fX1_moveUnit_b9 fX1_moveUnit_b51 ru_un
    rw [cs_isLock, if_neg (ni_nb6 hm), q_bd_s, if_neg (by decide), ni_add, cs_isReach, if_neg (ni_nb7 (show m + j < 7 by omega)), q_bd_s, if_neg (by decide), if_neg (by rw [ni_in hm (by omega)]; exact id), if_neg (by rw [ni_in hm (by omega)]; exact id), q_lt_s, if_neg (by rw [ni_in (show m + j < 7 by omega) (by omega)]; exact id), if_neg (by rw [ni_in (show m + j < 7 by omega) (by omega)]; exact id), q_lt_s, ni_clamp (a := m) (by omega), ni_clamp (a := m + j) (by omega), q_a_sa, if_neg (by omega)]
  unfold fX1_moveUnit
  by_cases c : hd ≤ 0
  · rw [if_pos c, if_pos c, key]
  · rw [if_neg c, if_neg c, key]
set_option maxHeartbeats 200000 in
theorem ni_hd {x y : Nat} (hx : x < 100000) (hy : y < 100000) : (nI x - nI y).toInt = (x : Int) - y := by
  rw [Int32.toInt_sub, ni_toInt (by omega), ni_toInt (by omega), Int.bmod_eq_of_le (by omega) (by omega)]
set_option maxHeartbeats 200000 in
theorem ni_hd0 {x y : Nat} (hx : x < 100000) (hy : y < 100000) : (nI x - nI y ≤ 0) = (x ≤ y) := by
  rw [Int32.le_iff_toInt_le, ni_hd hx hy, show (0 : Int32).toInt = 0 from rfl]; apply propext; omega
set_option maxHeartbeats 200000 in
theorem ni_hd1 {x y : Nat} (hx : x < 100000) (hy : y < 100000) : (0 ≤ nI x - nI y) = (y ≤ x) := by
  rw [Int32.le_iff_toInt_le, ni_hd hx hy, show (0 : Int32).toInt = 0 from rfl]; apply propext; omega
set_option maxHeartbeats 200000 in
theorem ni_m1 {x : Nat} (h : 1 ≤ x) : nI x + -1 = nI (x - 1) := by
  rw [← Int32.sub_eq_add_neg, show (1 : Int32) = nI 1 from rfl, ni_sub h]
set_option maxHeartbeats 200000 in
theorem ni_p1 {x : Nat} : nI x - -1 = nI (x + 1) := by
  rw [Int32.sub_eq_add_neg, show - (-1 : Int32) = 1 from by decide, ni_add1]
section
variable {Fin : q_V → q_V → Prop} {a : ru_P} {T : co_T} {XL : Int32 → Int32 → Int32 → Prop} {f0 nu : Nat} {L : List (Nat × Nat)}
set_option maxHeartbeats 200000 in
theorem mC_un {v : q_V} {m r p h f np cl : Nat} {x y : Int32} : ru_un (mC v p h f np cl) 200 201 m r x y = mC (ru_un v 200 201 m r x y) p h f np cl := by
  unfold ru_un; rw [mC_a, mC_sa, mC_sa]
set_option maxHeartbeats 200000 in
theorem un_f {v : q_V} {kc kr m r : Nat} {x y : Int32} : q_f (ru_un v kc kr m r x y) = q_f v := rfl
set_option maxHeartbeats 200000 in
theorem un_i {v : q_V} {kc kr m r : Nat} {x y : Int32} : q_i (ru_un v kc kr m r x y) = q_i v := rfl
set_option maxHeartbeats 200000 in
theorem un_a {v : q_V} {kc kr m r j : Nat} {x y : Int32} (h1 : j ≠ kc) (h2 : j ≠ kr) : q_a (ru_un v kc kr m r x y) j = q_a v j := by
  unfold ru_un; rw [q_a_sa, if_neg h2, q_a_sa, if_neg h1]
set_option maxHeartbeats 200000 in
theorem un_c {v : q_V} {kc kr m r : Nat} {x y : Int32} (h : kc ≠ kr) : q_a (ru_un v kc kr m r x y) kc = upd (q_a v kc) m x := by
  unfold ru_un; rw [q_a_sa, if_neg h, q_a_sa, if_pos rfl]
set_option maxHeartbeats 200000 in
theorem un_r {v : q_V} {kc kr m r : Nat} {x y : Int32} : q_a (ru_un v kc kr m r x y) kr = upd (q_a v kr) r y := by
  unfold ru_un; rw [q_a_sa, if_pos rfl]
set_option maxHeartbeats 200000 in
theorem ru_D_un {cl t np m r x y : Nat} {vc vr : q_V} (d : ru_D T XL cl t np vc vr) (hx : x ≤ 20000) (hy : y ≤ 200000) : ru_D T XL cl t np (ru_un vc 200 201 m r (nI x) (nI y)) (ru_un vr 2463 2466 m r (nI x) (nI y)) := by
  obtain ⟨d1, d2, d3, d4, d5, d6⟩ := d
  obtain ⟨e1, e2, e3, e4, e5, e6, e7, e8, e9⟩ := d2
  refine ⟨ru_S_e2 d1 (un_a (by omega) (by omega)) (un_a (by omega) (by omega)) (by rw [un_i]) (by rw [un_i]) rfl (fun j h1 h2 => un_a (by omega) (by omega)), ⟨?_, ?_, ?_, ?_, ?_, ?_, ?_, ?_, ?_⟩, ru_Q_e2 d3 (fun j h1 h2 => un_a (by omega) (by omega)) (fun j h1 h2 => un_a (by omega) (by omega)) (fun k hk => by rw [un_i]), ?_, ⟨trivial, d5.2.1.trans (ru_z_e (un_a (by omega) (by omega))).symm, d5.2.2⟩, ?_⟩
  · rw [un_c (by omega), un_c (by omega), e1]
  · rw [un_r, un_r, e2]
  · rw [un_a (by omega) (by omega), un_a (by omega) (by omega)]; exact e3
  · rw [un_a (by omega) (by omega), un_a (by omega) (by omega)]; exact e4
  · rw [un_a (by omega) (by omega), un_a (by omega) (by omega)]; exact e5
  · rw [un_a (by omega) (by omega)]; exact e6
  · intro k hk
    rw [un_c (by omega)]
    by_cases c : k = m
    · rw [c, upd_at]
      exact ⟨by rw [ni_neg (by omega)]; exact id, by rw [show (20000 : Int32) = nI 20000 from rfl, ni_le (by omega) (by omega)]; exact hx⟩
    · rw [upd_ne c]; exact e7 k hk
  · intro k hk
    rw [un_r]
    by_cases c : k = r
    · rw [c, upd_at]
      exact ⟨by rw [ni_neg (by omega)]; exact id, by rw [show (200000 : Int32) = nI 200000 from rfl, ni_le (by omega) (by omega)]; exact hy⟩
    · rw [upd_ne c]; exact e8 k hk
  · rw [un_a (by omega) (by omega)]; exact e9
  · intro i hi
    obtain ⟨h1, h2, h3, k, h4, h5, h6, h7⟩ := d4 i hi
    rw [un_a (j := 2504) (by omega) (by omega), un_a (j := 2505) (by omega) (by omega), un_a (j := 2506) (by omega) (by omega), un_a (j := 2507) (by omega) (by omega), un_a (j := 2508) (by omega) (by omega), un_a (j := 2509) (by omega) (by omega)]
    exact ⟨h1, h2, h3, k, h4, h5, h6, h7⟩
  · intro k hk
    rw [un_a (by omega) (by omega)]; exact d6 k hk
set_option maxHeartbeats 200000 in
theorem ru_K_un {np t h g cl m r : Nat} {vc vr v w : q_V} {x y x' y' : Int32} (K : ru_K np t h g cl vc vr v w) : ru_K np t h g cl vc vr (ru_un v 200 201 m r x y) (ru_un w 2463 2466 m r x' y') :=
  ⟨K.1, fun i z => by rw [un_a (by omega) (by omega)]; exact K.2.1 i z, fun j n z1 z2 z3 => ⟨by rw [un_a (by omega) (by omega)]; exact (K.2.2.1 j n z1 z2 z3).1, (K.2.2.1 j n z1 z2 z3).2⟩, fun i z => by rw [un_a (by omega) (by omega)]; exact K.2.2.2.1 i z, fun i z => by rw [un_a (by omega) (by omega), un_a (by omega) (by omega)]; exact K.2.2.2.2.1 i z, by rw [un_a (by omega) (by omega)]; exact K.2.2.2.2.2.1, K.2.2.2.2.2.2⟩
/-- the end of a sluicing -/
def ru_se (T : co_T) (XL : Int32 → Int32 → Int32 → Prop) (h g np t cl f : Nat) (vc vr v w : q_V) (f' : Nat) : Prop :=
  f' ≤ f ∧ ru_K np t h g cl vc vr v w ∧ q_f v = q_f vc ∧ ru_l v = ru_l vc + 1 ∧
  ((ru_D T XL cl t np v w ∧ q_i w 2481 = q_i vr 2481) ∨ (f' ≤ 20000 ∧ ru_S T v w ∧ ru_A v w ∧ ru_Q v w ∧ q_i v 814 = 2 ∧ q_i w 2513 = 2))
set_option maxHeartbeats 200000 in
theorem ru_SLo {m j n i p h f np cl q g t : Nat} {out : Int32} {vc vr : q_V} (d : ru_D T XL cl t np vc vr) (hl : ru_l vc ≤ 2000000000) (hf : f ≤ 20000) : ∃ v w, fX4_sluice_b140 (nI j) (nI m) (nI i) (mC vc p h f np cl) = some (mC v p h f np cl) ∧ fX12_sluice_b208 (nI j) (nI m) (nI i) (mR vr q g f t cl) = some (mR w q g f t cl) ∧ ru_se T XL h g np t cl f vc vr v w f := by
  refine ⟨ru_wr vc 5 (10000 * (2 * nI m + nI j) + nI i), ru_nt vr 5 (10000 * (2 * nI m + nI j) + nI i), ?_, ?_, Nat.le_refl _, ru_K_w ru_K_id, wr_f, ru_l_wr (ru_n16 d.2.2.1) hl, Or.inl ⟨ru_D_w d hl, nt_i (by omega)⟩⟩
  · unfold fX4_sluice_b140; rw [cs_wr, q_bv_s, mC_wr]
  · unfold fX12_sluice_b208; rw [rs_note (by exact ru_n70 d.2.2.1), q_bv_s, mR_nt]
set_option maxHeartbeats 200000 in
theorem ru_SLf {m j i p h np cl q g t : Nat} {vc vr : q_V} (d : ru_D T XL cl t np vc vr) (hl : ru_l vc ≤ 2000000000) : ∃ v w, fX4_sluice_b140 (nI j) (nI m) (nI i) (mC (q_si vc 814 2) p h 0 np cl) = some (mC v p h 0 np cl) ∧ fX12_sluice_b208 (nI j) (nI m) (nI i) (mR (q_si vr 2513 2) q g 0 t cl) = some (mR w q g 0 t cl) ∧ ru_se T XL h g np t cl 0 vc vr v w 0 := by
  have n70 : ¬ q_i (q_si vr 2513 2) 2470 < 0 := by rw [q_i_si, if_neg (by omega)]; exact ru_n70 d.2.2.1
  have Q2 : ru_Q (q_si vc 814 2) (q_si vr 2513 2) := ru_Q_i (by omega) (by omega) d.2.2.1
  have l2 : ru_l (q_si vc 814 2) ≤ 2000000000 := by rw [ru_l_si]; exact hl
  refine ⟨ru_wr (q_si vc 814 2) 5 (10000 * (2 * nI m + nI j) + nI i), ru_nt (q_si vr 2513 2) 5 (10000 * (2 * nI m + nI j) + nI i), ?_, ?_, Nat.le_refl _, ru_K_w (ru_K_i ru_K_id), by rw [wr_f, q_f_si], by rw [ru_l_wr (ru_n16 Q2) l2, ru_l_si], Or.inr ⟨by omega, ?_, ?_, ru_Q_wr Q2 l2, ?_, ?_⟩⟩
  · unfold fX4_sluice_b140; rw [cs_wr, q_bv_s, mC_wr]
  · unfold fX12_sluice_b208; rw [rs_note (by exact n70), q_bv_s, mR_nt]
  · exact ru_S_e2 d.1 (by rw [wr_a (by omega), q_a_si]) (by rw [wr_a (by omega), q_a_si]) (by rw [wr_i, q_i_si, if_neg (by omega)]) (by rw [wr_i, q_i_si, if_neg (by omega)]) rfl (fun j h1 h2 => by rw [nt_al (by omega), q_a_si])
  · exact ru_A_e2 d.2.1 (fun j h1 h2 => by rw [wr_a (by omega), q_a_si]) (fun j h1 h2 => by rw [nt_al (by omega), q_a_si])
  · rw [wr_i, q_i_si, if_pos rfl]
  · rw [nt_i (by omega), q_i_si, if_pos rfl]
set_option maxHeartbeats 200000 in
theorem ru_se_tr {h g np t cl f f1 f' : Nat} {vc vr vc1 vr1 v w : q_V} (s : ru_se T XL h g np t cl f1 vc1 vr1 v w f') (hf : f1 ≤ f) (K : ru_K np t h g cl vc vr vc1 vr1) (e1 : q_f vc1 = q_f vc) (e2 : ru_l vc1 = ru_l vc) (e3 : q_i vr1 2481 = q_i vr 2481) : ru_se T XL h g np t cl f vc vr v w f' := by
  obtain ⟨s1, s2, s3, s4, s5⟩ := s
  refine ⟨by omega, ru_K_tr K s2 (Nat.le_refl _) (Nat.le_refl _) (Nat.le_refl _) (Nat.le_refl _) (Nat.le_refl _), s3.trans e1, by omega, ?_⟩
  rcases s5 with ⟨s5, s6⟩ | s5
  · exact Or.inl ⟨s5, s6.trans e3⟩
  · exact Or.inr s5
set_option maxHeartbeats 200000 in
theorem ru_SLL1 {m j n p h np cl q g t : Nat} (hm : m < 6) (hj : j < 2) (hn : n ≤ 1000) : ∀ r i f n1 n2 vc vr, i + r = n → r < n1 → r + 1 < n2 → ru_D T XL cl t np vc vr → ru_l vc ≤ 2000000000 → f ≤ 20000 →
    ∃ f' v w, fX4_sluice_L61 n1 (nI n) (nI j) (nI m) 1 (nI i) (mC vc p h f np cl) = some (mC v p h f' np cl) ∧ fX12_sluice_L102 n2 (nI n) (nI j) (nI m) (nI i) 1 1 (mR vr q g f t cl) = some (mR w q g f' t cl) ∧ ru_se T XL h g np t cl f vc vr v w f' := by
  have one : ¬ (1 : Int32) = 0 := by decide
  intro r
  induction r with
  | zero =>
    intro i f n1 n2 vc vr hi h1 h2 d hl hf
    obtain ⟨n1, rfl⟩ : ∃ k, n1 = k + 1 := ⟨n1 - 1, by omega⟩
    obtain ⟨n2, rfl⟩ : ∃ k, n2 = k + 1 := ⟨n2 - 1, by omega⟩
    obtain ⟨v, w, e1, e2, e3⟩ := ru_SLo (m := m) (j := j) (n := n) (i := i) (p := p) (h := h) (q := q) (g := g) (out := 0) d hl hf
    have le : nI n ≤ nI i := by rw [ni_le (by omega) (by omega)]; omega
    refine ⟨f, v, w, ?_, ?_, e3⟩
    · rw [fX4_sluice_L61, if_pos le]; exact e1
    · rw [fX12_sluice_L102, if_neg one, if_pos le]; exact e2
  | succ r ih =>
    intro i f n1 n2 vc vr hi h1 h2 d hl hf
    obtain ⟨n1, rfl⟩ : ∃ k, n1 = k + 1 := ⟨n1 - 1, by omega⟩
    obtain ⟨n2, rfl⟩ : ∃ k, n2 = k + 1 := ⟨n2 - 1, by omega⟩
    obtain ⟨c7a, c7b⟩ := d.2.1.2.2.2.2.2.2.1 m hm
    obtain ⟨c8a, c8b⟩ := d.2.1.2.2.2.2.2.2.2.1 (m + j) (by omega)
    obtain ⟨A, hA, eA⟩ := ni_ex c7a
    obtain ⟨B, hB, eB⟩ := ni_ex c8a
    have hA2 : A ≤ 20000 := by rw [eA, show (20000 : Int32) = nI 20000 from rfl, ni_le (by omega) (by omega)] at c7b; exact c7b
    have hB2 : B ≤ 200000 := by rw [eB, show (200000 : Int32) = nI 200000 from rfl, ni_le (by omega) (by omega)] at c8b; exact c8b
    have hdv : B / 10 ≤ 20000 := by omega
    have eA' : q_a vr 2463 m = nI A := by rw [← d.2.1.1]; exact eA
    have eB' : q_a vr 2466 (m + j) = nI B := by rw [← d.2.1.2.1]; exact eB
    have eh : fX1_headOf (nI m) (nI j) (mC vc p h f np cl) = some (nI A - nI (B / 10), mC vc p h f np cl) := by
      rw [cs_headG hm hj, mC_a, eA, eB, show (10 : Int32) = nI 10 from rfl, ni_div (by omega) (by omega)]
    have el : fX12_levelBeside (nI m) (nI j) (mR vr q g f t cl) = some (nI (B / 10), mR vr q g f t cl) := by
      rw [rs_lbG hm hj, mR_a, eB', show (10 : Int32) = nI 10 from rfl, ni_div (by omega) (by omega)]
    have nle : ¬ nI n ≤ nI i := by rw [ni_le (by omega) (by omega)]; omega
    have n6 : ¬ (nI m < 0 ∨ 6 ≤ (nI m).toNatClampNeg) := by rw [ni_in hm (by omega)]; exact id
    have n7 : ¬ (nI (m + j) < 0 ∨ 7 ≤ (nI (m + j)).toNatClampNeg) := by rw [ni_in (show m + j < 7 by omega) (by omega)]; exact id
    have move : ∀ (f1 A' B' : Nat) (hd : Int32), A' ≤ 20000 → B' ≤ 200000 → f = f1 + 1 → nI A - (if hd ≤ 0 then -1 else 1) = nI A' → nI B + (if hd ≤ 0 then -1 else 1) = nI B' → nI A + -1 = nI A' → nI B + 1 = nI B' →
        ∃ f' v w, fX4_sluice_b106 (nI n) (nI j) (nI m) 1 (nI i) hd 1 (fun a1 a2 a3 a5 a6 S_ => fX4_sluice_L61 n1 a1 a2 a3 a5 a6 S_) (mC vc p h f np cl) = some (mC v p h f' np cl) ∧ fX12_sluice_b151 (nI n) (nI j) (nI m) (nI i) 1 (fun a1 a2 a3 a5 a6 a7 S_ => fX12_sluice_L102 n2 a1 a2 a3 a5 a6 a7 S_) (mR vr q g f t cl) = some (mR w q g f' t cl) ∧ ru_se T XL h g np t cl f vc vr v w f' := by
      intro f1 A' B' hd hA' hB' ef k1 k2 k3 k4
      subst ef
      have D2 := ru_D_un (m := m) (r := m + j) (x := A') (y := B') d hA' hB'
      obtain ⟨f', v, w, e1, e2, e3⟩ := ih (i + 1) f1 n1 n2 _ _ (by omega) (by omega) (by omega) D2 (by unfold ru_l; rw [un_a (by omega) (by omega)]; exact hl) (by omega)
      refine ⟨f', v, w, ?_, ?_, ru_se_tr e3 (by omega) (ru_K_un ru_K_id) un_f (by unfold ru_l; rw [un_a (by omega) (by omega)]) (by rw [un_i])⟩
      · unfold fX4_sluice_b106
        rw [if_neg one, cs_spend (by omega), q_bd_s, if_neg one, cs_moveU hm hj, q_bv_s, q_lt_s, ni_add1, mC_a, eA, eB, k1, k2, mC_un]; exact e1
      · unfold fX12_sluice_b151 fX12_sluice_b179 fX12_sluice_b200
        have e4 : ∀ u, q_a (q_sa vr 2463 u) 2466 = q_a vr 2466 := fun u => by rw [q_a_sa, if_neg (by omega)]
        rw [rs_burn (by omega), q_bd_s, if_neg one, if_neg n6, if_neg one, if_neg n6, q_lt_s, ni_clamp (a := m) (by omega), mR_a, eA', mR_sa, ni_add, if_neg n7, if_neg one, if_neg n7, q_lt_s, q_lt_s, ni_clamp (a := m + j) (by omega), mR_a, e4, eB', mR_sa, ni_add1, k3, k4]
        unfold ru_un at e2
        exact e2
    have dry : ∀ hd : Int32, f = 0 → ∃ f' v w, fX4_sluice_b106 (nI n) (nI j) (nI m) 1 (nI i) hd 1 (fun a1 a2 a3 a5 a6 S_ => fX4_sluice_L61 n1 a1 a2 a3 a5 a6 S_) (mC vc p h f np cl) = some (mC v p h f' np cl) ∧ fX12_sluice_b151 (nI n) (nI j) (nI m) (nI i) 1 (fun a1 a2 a3 a5 a6 a7 S_ => fX12_sluice_L102 n2 a1 a2 a3 a5 a6 a7 S_) (mR vr q g f t cl) = some (mR w q g f' t cl) ∧ ru_se T XL h g np t cl f vc vr v w f' := by
      intro hd ef
      subst ef
      obtain ⟨v, w, e1, e2, e3⟩ := ru_SLf (m := m) (j := j) (i := i) (p := p) (h := h) (q := q) (g := g) d hl
      refine ⟨0, v, w, ?_, ?_, e3⟩
      · unfold fX4_sluice_b106
        rw [if_neg one, cs_spend0, q_bd_s, if_pos rfl]; exact e1
      · unfold fX12_sluice_b151
        obtain ⟨n2, rfl⟩ : ∃ k, n2 = k + 1 := ⟨n2 - 1, by omega⟩
        rw [rs_burn0, q_bd_s, if_pos rfl]
        refine Eq.trans (fX12_sluice_L102.eq_2 _ _ _ _ _ _ _ _) ?_
        rw [if_pos rfl]; exact e2
    rw [fX4_sluice_L61, fX12_sluice_L102, if_neg nle, if_neg one, if_neg nle, eh, q_bd_s]
    rw [if_neg one, if_neg one, if_neg n6, el, q_bd_s, ni_clamp (a := m) (by omega), mR_a, eA']
    by_cases z : A ≤ B / 10
    · obtain ⟨v, w, e1, e2, e3⟩ := ru_SLo (m := m) (j := j) (n := n) (i := i) (p := p) (h := h) (q := q) (g := g) (out := 0) d hl hf
      refine ⟨f, v, w, ?_, ?_, e3⟩
      · rw [if_pos (by rw [ni_hd0 (by omega) (by omega)]; exact z)]
        unfold fX4_sluice_b106
        rw [if_pos rfl]; exact e1
      · rw [if_pos (by rw [ni_le (by omega) (by omega)]; exact z)]; exact e2
    · rw [if_neg (by rw [ni_hd0 (by omega) (by omega)]; exact z), if_neg (by rw [ni_le (by omega) (by omega)]; exact z)]
      cases f with
      | zero => exact dry _ rfl
      | succ f =>
        have hd : ¬ nI A - nI (B / 10) ≤ 0 := by rw [ni_hd0 (by omega) (by omega)]; exact z
        refine move f (A - 1) (B + 1) _ (by omega) (by omega) rfl ?_ ?_ ?_ ?_
        · rw [if_neg hd, Int32.sub_eq_add_neg, ni_m1 (by omega)]
        · rw [if_neg hd, ni_add1]
        · exact ni_m1 (by omega)
        · exact ni_add1
set_option maxHeartbeats 200000 in
theorem ru_SLL0 {m j n p h np cl q g t : Nat} (hm : m < 6) (hj : j < 2) (hn : n ≤ 1000) : ∀ r i f n1 n2 vc vr, i + r = n → r < n1 → r + 1 < n2 → ru_D T XL cl t np vc vr → ru_l vc ≤ 2000000000 → f ≤ 20000 →
    ∃ f' v w, fX4_sluice_L61 n1 (nI n) (nI j) (nI m) 0 (nI i) (mC vc p h f np cl) = some (mC v p h f' np cl) ∧ fX12_sluice_L102 n2 (nI n) (nI j) (nI m) (nI i) 0 1 (mR vr q g f t cl) = some (mR w q g f' t cl) ∧ ru_se T XL h g np t cl f vc vr v w f' := by
  have one : ¬ (1 : Int32) = 0 := by decide
  intro r
  induction r with
  | zero =>
    intro i f n1 n2 vc vr hi h1 h2 d hl hf
    obtain ⟨n1, rfl⟩ : ∃ k, n1 = k + 1 := ⟨n1 - 1, by omega⟩
    obtain ⟨n2, rfl⟩ : ∃ k, n2 = k + 1 := ⟨n2 - 1, by omega⟩
    obtain ⟨v, w, e1, e2, e3⟩ := ru_SLo (m := m) (j := j) (n := n) (i := i) (p := p) (h := h) (q := q) (g := g) (out := 0) d hl hf
    have le : nI n ≤ nI i := by rw [ni_le (by omega) (by omega)]; omega
    refine ⟨f, v, w, ?_, ?_, e3⟩
    · rw [fX4_sluice_L61, if_pos le]; exact e1
    · rw [fX12_sluice_L102, if_neg one, if_pos le]; exact e2
  | succ r ih =>
    intro i f n1 n2 vc vr hi h1 h2 d hl hf
    obtain ⟨n1, rfl⟩ : ∃ k, n1 = k + 1 := ⟨n1 - 1, by omega⟩
    obtain ⟨n2, rfl⟩ : ∃ k, n2 = k + 1 := ⟨n2 - 1, by omega⟩
    obtain ⟨c7a, c7b⟩ := d.2.1.2.2.2.2.2.2.1 m hm
    obtain ⟨c8a, c8b⟩ := d.2.1.2.2.2.2.2.2.2.1 (m + j) (by omega)
    obtain ⟨A, hA, eA⟩ := ni_ex c7a
    obtain ⟨B, hB, eB⟩ := ni_ex c8a
    have hA2 : A ≤ 20000 := by rw [eA, show (20000 : Int32) = nI 20000 from rfl, ni_le (by omega) (by omega)] at c7b; exact c7b
    have hB2 : B ≤ 200000 := by rw [eB, show (200000 : Int32) = nI 200000 from rfl, ni_le (by omega) (by omega)] at c8b; exact c8b
    have hdv : B / 10 ≤ 20000 := by omega
    have eA' : q_a vr 2463 m = nI A := by rw [← d.2.1.1]; exact eA
    have eB' : q_a vr 2466 (m + j) = nI B := by rw [← d.2.1.2.1]; exact eB
    have eh : fX1_headOf (nI m) (nI j) (mC vc p h f np cl) = some (nI A - nI (B / 10), mC vc p h f np cl) := by
      rw [cs_headG hm hj, mC_a, eA, eB, show (10 : Int32) = nI 10 from rfl, ni_div (by omega) (by omega)]
    have el : fX12_levelBeside (nI m) (nI j) (mR vr q g f t cl) = some (nI (B / 10), mR vr q g f t cl) := by
      rw [rs_lbG hm hj, mR_a, eB', show (10 : Int32) = nI 10 from rfl, ni_div (by omega) (by omega)]
    have nle : ¬ nI n ≤ nI i := by rw [ni_le (by omega) (by omega)]; omega
    have n6 : ¬ (nI m < 0 ∨ 6 ≤ (nI m).toNatClampNeg) := by rw [ni_in hm (by omega)]; exact id
    have n7 : ¬ (nI (m + j) < 0 ∨ 7 ≤ (nI (m + j)).toNatClampNeg) := by rw [ni_in (show m + j < 7 by omega) (by omega)]; exact id
    have move : ∀ (f1 A' B' : Nat) (hd : Int32), A' ≤ 20000 → B' ≤ 200000 → f = f1 + 1 → nI A - (if hd ≤ 0 then -1 else 1) = nI A' → nI B + (if hd ≤ 0 then -1 else 1) = nI B' → nI A + 1 = nI A' → nI B + -1 = nI B' →
        ∃ f' v w, fX4_sluice_b106 (nI n) (nI j) (nI m) 0 (nI i) hd 1 (fun a1 a2 a3 a5 a6 S_ => fX4_sluice_L61 n1 a1 a2 a3 a5 a6 S_) (mC vc p h f np cl) = some (mC v p h f' np cl) ∧ fX12_sluice_b151 (nI n) (nI j) (nI m) (nI i) 0 (fun a1 a2 a3 a5 a6 a7 S_ => fX12_sluice_L102 n2 a1 a2 a3 a5 a6 a7 S_) (mR vr q g f t cl) = some (mR w q g f' t cl) ∧ ru_se T XL h g np t cl f vc vr v w f' := by
      intro f1 A' B' hd hA' hB' ef k1 k2 k3 k4
      subst ef
      have D2 := ru_D_un (m := m) (r := m + j) (x := A') (y := B') d hA' hB'
      obtain ⟨f', v, w, e1, e2, e3⟩ := ih (i + 1) f1 n1 n2 _ _ (by omega) (by omega) (by omega) D2 (by unfold ru_l; rw [un_a (by omega) (by omega)]; exact hl) (by omega)
      refine ⟨f', v, w, ?_, ?_, ru_se_tr e3 (by omega) (ru_K_un ru_K_id) un_f (by unfold ru_l; rw [un_a (by omega) (by omega)]) (by rw [un_i])⟩
      · unfold fX4_sluice_b106
        rw [if_neg one, cs_spend (by omega), q_bd_s, if_neg one, cs_moveU hm hj, q_bv_s, q_lt_s, ni_add1, mC_a, eA, eB, k1, k2, mC_un]; exact e1
      · unfold fX12_sluice_b151 fX12_sluice_b179 fX12_sluice_b200
        have e4 : ∀ u, q_a (q_sa vr 2463 u) 2466 = q_a vr 2466 := fun u => by rw [q_a_sa, if_neg (by omega)]
        rw [rs_burn (by omega), q_bd_s, if_neg one, if_neg n6, if_pos rfl, if_neg n6, q_lt_s, ni_clamp (a := m) (by omega), mR_a, eA', mR_sa, ni_add, if_neg n7, if_pos rfl, if_neg n7, q_lt_s, q_lt_s, ni_clamp (a := m + j) (by omega), mR_a, e4, eB', mR_sa, ni_add1, k3, k4]
        unfold ru_un at e2
        exact e2
    have dry : ∀ hd : Int32, f = 0 → ∃ f' v w, fX4_sluice_b106 (nI n) (nI j) (nI m) 0 (nI i) hd 1 (fun a1 a2 a3 a5 a6 S_ => fX4_sluice_L61 n1 a1 a2 a3 a5 a6 S_) (mC vc p h f np cl) = some (mC v p h f' np cl) ∧ fX12_sluice_b151 (nI n) (nI j) (nI m) (nI i) 0 (fun a1 a2 a3 a5 a6 a7 S_ => fX12_sluice_L102 n2 a1 a2 a3 a5 a6 a7 S_) (mR vr q g f t cl) = some (mR w q g f' t cl) ∧ ru_se T XL h g np t cl f vc vr v w f' := by
      intro hd ef
      subst ef
      obtain ⟨v, w, e1, e2, e3⟩ := ru_SLf (m := m) (j := j) (i := i) (p := p) (h := h) (q := q) (g := g) d hl
      refine ⟨0, v, w, ?_, ?_, e3⟩
      · unfold fX4_sluice_b106
        rw [if_neg one, cs_spend0, q_bd_s, if_pos rfl]; exact e1
      · unfold fX12_sluice_b151
        obtain ⟨n2, rfl⟩ : ∃ k, n2 = k + 1 := ⟨n2 - 1, by omega⟩
        rw [rs_burn0, q_bd_s, if_pos rfl]
        refine Eq.trans (fX12_sluice_L102.eq_2 _ _ _ _ _ _ _ _) ?_
        rw [if_pos rfl]; exact e2
    rw [fX4_sluice_L61, fX12_sluice_L102, if_neg nle, if_neg one, if_neg nle, eh, q_bd_s]
    rw [if_pos rfl, if_pos rfl, if_neg n6, el, q_bd_s, ni_clamp (a := m) (by omega), mR_a, eA']
    by_cases z : B / 10 ≤ A
    · obtain ⟨v, w, e1, e2, e3⟩ := ru_SLo (m := m) (j := j) (n := n) (i := i) (p := p) (h := h) (q := q) (g := g) (out := 0) d hl hf
      refine ⟨f, v, w, ?_, ?_, e3⟩
      · rw [if_pos (by rw [ni_hd1 (by omega) (by omega)]; exact z)]
        unfold fX4_sluice_b106
        rw [if_pos rfl]; exact e1
      · rw [if_pos (by rw [ni_le (by omega) (by omega)]; exact z)]; exact e2
    · rw [if_neg (by rw [ni_hd1 (by omega) (by omega)]; exact z), if_neg (by rw [ni_le (by omega) (by omega)]; exact z)]
      cases f with
      | zero => exact dry _ rfl
      | succ f =>
        have hd : nI A - nI (B / 10) ≤ 0 := by rw [ni_hd0 (by omega) (by omega)]; omega
        refine move f (A + 1) (B - 1) _ (by omega) (by omega) rfl ?_ ?_ ?_ ?_
        · rw [if_pos hd, ni_p1]
        · rw [if_pos hd, ni_m1 (by omega)]
        · exact ni_add1
        · exact ni_m1 (by omega)
end
