section
variable {Fin : q_V → q_V → Prop} {a : ru_P} {T : co_T} {XL : Int32 → Int32 → Int32 → Prop} {f0 nu : Nat} {L : List (Nat × Nat)}
set_option maxHeartbeats 200000 in
theorem ru_D_i8 {cl t np : Nat} {vc vr : q_V} {x : Int32} (d : ru_D T XL cl t np vc vr) : ru_D T XL cl t np (q_si vc 811 x) vr := ⟨d.1, d.2.1, d.2.2.1, d.2.2.2.1, d.2.2.2.2.1, d.2.2.2.2.2⟩
set_option maxHeartbeats 200000 in
theorem ru_K_i8 {np t h g cl k : Nat} {vc vr vc1 vr1 : q_V} {x : Int32} (K : ru_K np t h g cl vc vr vc1 vr1) : ru_K np t h g cl vc vr (q_si vc1 k x) vr1 := K
set_option maxHeartbeats 200000 in
theorem cs_ecA {v : q_V} {p h f np cl : Nat} (hn : 1 ≤ np) (hn2 : np < 168) (w4 : q_f v 2000 168 = 4) : fX4_endCall np (mC v p h f (np + 1) (cl + 1)) = some (mC v p h f np cl) := by
  unfold fX4_endCall fX4_endCall_b36 fX4_endCall_b109
  rw [mC_807, ni_pred, mC_s807, q_lt_s, mC_805, ni_pred, mC_s805, q_lt_s, mC_f, if_pos w4, mC_807, if_pos (by rw [show (0 : Int32) = nI 0 from rfl, ni_lt (by omega) (by omega)]; omega), if_neg (by decide)]
set_option maxHeartbeats 200000 in
theorem cs_ecB {v : q_V} {p h f np cl h' rt : Nat} {rp : Int32} (hn : 1 ≤ np) (hn2 : np < 168) (w4 : q_f v 2000 168 ≠ 4) (hh : h' < 1680) (a3 : q_f v 1203 np = nI h') (a5 : q_f v 1205 np = nI rt) (a6 : q_f v 1206 np = rp) : fX4_endCall np (mC v p h f (np + 1) (cl + 1)) = some (mC (ru_pc (q_si (q_sf v 2000 168 0) 811 rp) h' (if q_f v 2000 168 = 2 then q_f v 2001 168 else 0)) rt (h' + 1) f np cl) := by
  have key : ∀ x : Int32, fX4_endCall_b86 np x (mC v p h f np cl) = some (mC (ru_pc (q_si (q_sf v 2000 168 0) 811 rp) h' x) rt (h' + 1) f np cl) := by
    intro x
    unfold fX4_endCall_b86 fX4_endCall_b109 fX4_goOn
    rw [mC_f, a5, a3, q_lt_s, mC_s803, q_lt_s, mC_sf, q_lt_s, mC_s810, q_bv_s, mC_f, q_f_sf, if_neg (by omega), a6, q_lt_s, mC_s811, cs_push hh, q_bv_s]; rfl
  unfold fX4_endCall fX4_endCall_b36
  rw [mC_807, ni_pred, mC_s807, q_lt_s, mC_805, ni_pred, mC_s805, q_lt_s, mC_f, if_neg w4, mC_807, if_pos (by rw [show (0 : Int32) = nI 0 from rfl, ni_lt (by omega) (by omega)]; omega), if_pos rfl]
  by_cases c : q_f v 2000 168 = 2
  · rw [if_pos c, if_pos c, key]
  · rw [if_neg c, if_neg c, key]
set_option maxHeartbeats 200000 in
theorem cs_ecC {v : q_V} {p h f cl : Nat} : fX4_endCall 0 (mC v p h f 1 (cl + 1)) = some (mC (q_si v 814 (if q_f v 2000 168 = 4 then 3 else 0)) p h f 0 cl) := by
  unfold fX4_endCall fX4_endCall_b36 fX4_endCall_b54 fX4_endCall_b109
  rw [mC_807, show nI 1 - 1 = nI 0 from ni_pred, mC_s807, q_lt_s, mC_805, ni_pred, mC_s805, q_lt_s, mC_f, mC_807]
  by_cases c : q_f v 2000 168 = 4
  · rw [if_pos c, if_pos c, if_neg (by decide), if_neg (by decide), q_lt_s, mC_s814]
  · rw [if_neg c, if_neg c, if_neg (by decide), if_pos rfl, q_lt_s, mC_s814]
def ru_ez (w : q_V) (t : Nat) (rp x : Int32) : q_V := q_si (q_si (ru_s (ru_kw w t) t 7) 2511 rp) 2514 x
set_option maxHeartbeats 200000 in
theorem ez_i {w : q_V} {t k : Nat} {rp x : Int32} (h : k ≠ 2511) (h2 : k ≠ 2514) : q_i (ru_ez w t rp x) k = q_i w k := by
  unfold ru_ez; rw [q_i_si, if_neg h2, q_i_si, if_neg h]; rfl
set_option maxHeartbeats 200000 in
theorem ez_a {w : q_V} {t j : Nat} {rp x : Int32} : q_a (ru_ez w t rp x) j = q_a (ru_s (ru_kw w t) t 7) j := by
  unfold ru_ez; rw [q_a_si, q_a_si]
set_option maxHeartbeats 200000 in
theorem rs_b31z {w : q_V} {q g f t cl rq g' : Nat} {rp : Int32} (ht : t < 240) (hcl : cl < 12) (hg : g' < 4000) (ew : q_a w 2506 (cl + 1) = nI 0) (e2 : q_a w 2502 (cl + 1) = nI rq) (e3 : q_a w 2503 (cl + 1) = rp) (eg : q_a w 2492 t = nI g') : fX12_leavesCall_b31 (nI t) (mR w q g f (t + 1) (cl + 1)) =
    if cl = 0 then some (0, mR (ru_ez w t rp 1) q g f t cl) else if q_i w 2481 = 4 then some (1, mR (ru_ez w t rp 0) q g f t cl) else some (0, mR (ru_pr (q_si (ru_ez w t rp 0) 2481 0) g' (if q_i w 2481 = 3 then q_i w 2483 else 0)) rq (g' + 1) f t cl) := by
  have a6 : q_a (ru_s (ru_kw w t) t 7) 2506 = q_a w 2506 := by rw [s_a (by omega), kw_a (by omega)]
  have a2 : ∀ x, q_a (q_si (ru_s (ru_kw w t) t 7) 2511 x) 2502 (cl + 1) = nI rq := fun x => by rw [q_a_si, s_a (by omega), kw_a (by omega)]; exact e2
  have a3 : q_a (ru_s (ru_kw w t) t 7) 2503 (cl + 1) = rp := by rw [s_a (by omega), kw_a (by omega)]; exact e3
  have key : ∀ x : Int32, fX12_leavesCall_b233 (nI t) (nI rq) x (mR (ru_ez w t rp 0) q g f t cl) = some (0, mR (ru_pr (q_si (ru_ez w t rp 0) 2481 0) g' x) rq (g' + 1) f t cl) := by
    intro x
    unfold fX12_leavesCall_b233
    rw [rs_goes ht (by rw [ez_a, s_a (by omega), kw_a (by omega)]; exact eg), q_bv_s, rs_push hg, q_bv_s]; rfl
  unfold fX12_leavesCall_b31
  rw [rs_keep ht, q_bv_s, mR_kw, if_neg (by rw [ni_in ht (by omega)]; exact id), q_lt_s, ni_clamp (a := t) (by omega), mR_a, mR_sa, show q_sa (ru_kw w t) 2489 (upd (q_a (ru_kw w t) 2489) t 7) = ru_s (ru_kw w t) t 7 from rfl, mR_2501, if_neg (by rw [ni_in (show cl + 1 < 13 by omega) (by omega)]; exact id), ni_clamp (a := cl + 1) (by omega), mR_a, a6, ew, if_pos (by decide), mR_s2487, q_lt_s, mR_2501, if_neg (by rw [ni_in (show cl + 1 < 13 by omega) (by omega)]; exact id), ni_clamp (a := cl + 1) (by omega), mR_a, a3, mR_s2511, q_lt_s, mR_2501, if_neg (by rw [ni_in (show cl + 1 < 13 by omega) (by omega)]; exact id), ni_clamp (a := cl + 1) (by omega), mR_a, a2, q_lt_s, ni_pred, mR_s2501, q_lt_s, mR_2501]
  by_cases c : cl = 0
  · subst c
    rw [if_pos (by decide), if_pos rfl]
    unfold fX12_leavesCall_b195
    rw [if_neg (by decide), q_lt_s, mR_s2514, show q_i (mR (q_si (q_si (ru_s (ru_kw w t) t 7) 2511 rp) 2514 1) q g f t 0) 2514 = 1 from rfl, if_neg (by decide)]; rfl
  · have nz : nI cl ≠ 0 := ni_n0 (by omega) (by omega)
    rw [if_neg nz, if_neg c]
    unfold fX12_leavesCall_b195
    rw [if_neg (by decide), q_lt_s, mR_s2514, show q_si (q_si (ru_s (ru_kw w t) t 7) 2511 rp) 2514 0 = ru_ez w t rp 0 from rfl, show q_i (mR (ru_ez w t rp 0) q g f t cl) 2514 = 0 from rfl, if_pos rfl, mR_oi (k := 2481) (by omega), mR_oi (k := 2483) (by omega), ez_i (by omega) (by omega), ez_i (by omega) (by omega)]
    by_cases c4 : q_i w 2481 = 4
    · rw [if_pos c4, if_pos c4]
    · rw [if_neg c4, if_neg c4]
      by_cases c3 : q_i w 2481 = 3
      · rw [if_pos c3, if_pos c3, key]
      · rw [if_neg c3, if_neg c3, key]
set_option maxHeartbeats 200000 in
theorem ru_z_ez {w : q_V} {t : Nat} {rp x : Int32} : ru_z (ru_ez w t rp x) t = ru_z w t := ru_z_e (by rw [ez_a, s_a (by omega), kw_a (by omega)])
set_option maxHeartbeats 200000 in
/-- one call less -/
theorem ru_D_ez {cl t np : Nat} {v w : q_V} {rp : Int32} (d : ru_D T XL (cl + 1) t np v w) : ru_D T XL cl t np v (ru_ez w t rp 0) := by
  obtain ⟨d1, d2, d3, d4, d5, d6⟩ := d
  have e : ∀ j, j < 2488 ∨ 2500 < j → q_a (ru_ez w t rp 0) j = q_a w j := fun j hj => by rw [ez_a, s_a (by omega), kw_a (by omega)]
  have e0 : ∀ k, k ≠ 2511 → k ≠ 2514 → q_i (ru_ez w t rp 0) k = q_i w k := fun k h1 h2 => ez_i h1 h2
  refine ⟨?_, ?_, ?_, ?_, ⟨trivial, d5.2.1.trans ru_z_ez.symm, d5.2.2.1, ?_, ?_⟩, d6⟩
  · unfold ru_S at d1 ⊢
    rw [e 2448 (by omega), e 2449 (by omega), e 2450 (by omega), e 2451 (by omega), e 2452 (by omega), e 2453 (by omega), e 2454 (by omega), e 2455 (by omega), e 2456 (by omega), e 2457 (by omega)]
    exact d1
  · unfold ru_A at d2 ⊢
    rw [e 2463 (by omega), e 2464 (by omega), e 2465 (by omega), e 2466 (by omega), e 2467 (by omega)]
    exact d2
  · exact ru_Q_e2 d3 (fun _ _ _ => rfl) (fun j h1 h2 => e j (by omega)) (fun k hk => e0 k (by omega) (by omega))
  · intro i hi
    obtain ⟨h1, h2, h3, x, h4, h5, h6, h7⟩ := d4 i (by omega)
    rw [e 2504 (by omega), e 2505 (by omega), e 2506 (by omega), e 2507 (by omega), e 2508 (by omega), e 2509 (by omega)]
    exact ⟨h1, h2, h3, x, h4, h5, h6, h7⟩
  · rw [e0 2513 (by omega) (by omega)]; exact d5.2.2.2.1
  · unfold ru_ez; rw [q_i_si, if_pos rfl]
set_option maxHeartbeats 200000 in
theorem ru_K_ez {np t h g cl : Nat} {vc vr v w : q_V} {rp x : Int32} (K : ru_K np t h g cl vc vr v w) : ru_K np t h g cl vc vr v (ru_ez w t rp x) := by
  have kn : ∀ j n, n < t → q_a (ru_ez w t rp x) j n = q_a w j n := fun j n hn => by
    rw [ez_a]; unfold ru_s; rw [q_a_sa]
    split
    · next e => subst e; rw [upd_ne (by omega), kw_n (by omega)]
    · rw [kw_n (by omega)]
  refine ⟨K.1, K.2.1, fun j n y z z2 => ⟨?_, ?_⟩, fun i y => ?_, fun i y => ?_, K.2.2.2.2.2⟩
  · rw [kn j n z2]; exact (K.2.2.1 j n y z z2).1
  · unfold ru_ez; rw [q_b_si, q_b_si, s_b, kw_b]; exact (K.2.2.1 j n y z z2).2
  · rw [ez_a, s_a (by omega), kw_a (by omega)]; exact K.2.2.2.1 i y
  · rw [ez_a, s_a (by omega), kw_a (by omega), ez_a, s_a (by omega), kw_a (by omega)]; exact K.2.2.2.2.1 i y
set_option maxHeartbeats 200000 in
/-- no call's own loops stand around its leaving -/
theorem ru_we_n {v w : q_V} (we : ru_we [] v w) : (q_f v 2000 168 = 4 ∧ q_i w 2481 = 4 ∧ ru_wt v w) ∨ (q_f v 2000 168 ≠ 4 ∧ q_i w 2481 ≠ 4 ∧ (if q_f v 2000 168 = 2 then q_f v 2001 168 else 0) = (if q_i w 2481 = 3 then q_i w 2483 else 0)) := by
  rcases we with ⟨h1, h2⟩ | ⟨h1, h2, h3, h4, h5, h6⟩ | ⟨h1, h2, h3⟩ | ⟨e, he, -⟩
  · right; rw [h1, h2]; exact ⟨by decide, by decide, by rw [if_neg (by decide), if_neg (by decide)]⟩
  · left; exact ⟨h1, h2, h1, h2, h3, h4, h5, h6⟩
  · right; rw [h1, h2]; exact ⟨by decide, by decide, by rw [if_pos rfl, if_pos rfl]; exact h3⟩
  · cases he
set_option maxHeartbeats 200000 in
/-- a call within a call ends -/
theorem ru_EHc {c f1 h g np t cl rt rq : Nat} {rp : Int32} {vc vr vB wB : q_V} (hn : 1 ≤ np) (hn2 : np < 168) (ht : t < 240) (hcl : 1 ≤ cl) (hcl2 : cl < 12) (hh : h < 1680) (hg : g < 4000) (a3 : q_f vB 1203 np = nI h) (a5 : q_f vB 1205 np = nI rt) (a6 : q_f vB 1206 np = rp) (e2 : q_a wB 2502 (cl + 1) = nI rq) (e3 : q_a wB 2503 (cl + 1) = rp) (KB : ru_K np t h g cl vc vr vB wB) (w602 : q_f vB 602 (cl - 1) = q_f vc 602 (cl - 1))
    (k1 : ∀ f' vc' vr', ru_D T XL cl t np vc' vr' → ru_W vc' vr' → f' ≤ f1 → ru_K np t h g cl vc vr vc' vr' → (∀ i, i < 1 → q_a vc' 802 (h + i) = q_a vr' 2515 (g + i)) → ru_G Fin a (40000 * f' + c) (mC vc' rt (h + 1) f' np cl) (mR vr' rq (g + 1) f' t cl))
    (k2 : ∀ f' p'' h'' q'' g'' vc' vr', ru_D T XL cl t np vc' vr' → ru_wt vc' vr' → f' ≤ f1 → ru_K np t h g cl vc vr vc' vr' → ru_L Fin a (40000 * f' + c) (mC vc' p'' h'' f' np cl) (mR vr' q'' g'' f' t cl)) :
    ru_EH Fin a T XL (c + 25000 * (q_f vc 602 (cl - 1)).toNatClampNeg + 1) f1 h g np t cl vB wB := by
  intro f p0 h0 q0 g0 p1 h1 q1 g1 v0 w0 v w hf e1 er a0 b0 D we K m0 m0' kf eg hl hv
  obtain ⟨cl, rfl⟩ : ∃ k, cl = k + 1 := ⟨cl - 1, by omega⟩
  have K' : ru_K np t h g (cl + 1) vB wB v w := ⟨K.1, K.2.1, K.2.2.1, K.2.2.2.1, fun i hi => K.2.2.2.2.1 i (by omega), K.2.2.2.2.2.1, fun i hi => K.2.2.2.2.2.2 i (by omega)⟩
  have KC : ru_K np t h g (cl + 1) vc vr v w := ru_K_tr KB K' (Nat.le_refl _) (Nat.le_refl _) (Nat.le_refl _) (Nat.le_refl _) (Nat.le_refl _)
  have f602 : q_f v 602 cl = q_f vc 602 cl := (K.2.2.2.2.2.2 cl (by omega)).trans (by simpa using w602)
  have b3 : q_f v 1203 np = nI h := (kf 1203 (by omega) (by omega) (by omega)).trans a3
  have b5 : q_f v 1205 np = nI rt := (kf 1205 (by omega) (by omega) (by omega)).trans a5
  have b6 : q_f v 1206 np = rp := (kf 1206 (by omega) (by omega) (by omega)).trans a6
  have r2 : q_a w 2502 (cl + 1 + 1) = nI rq := ((K.2.2.2.2.1 (cl + 1 + 1) (by omega)).1).trans e2
  have r3 : q_a w 2503 (cl + 1 + 1) = rp := ((K.2.2.2.2.1 (cl + 1 + 1) (by omega)).2).trans e3
  rw [rs_b31z ht (by omega) hg m0' r2 r3 eg, if_neg (by omega)] at er
  have wv : ∀ (x : q_V) p h f np', (∀ i, q_f x 602 i = q_f v 602 i) → ru_w (mC x p h f np' (cl + 1)) = 25000 * (q_f vc 602 cl).toNatClampNeg := fun x p h f np' hx => by
    unfold ru_w; rw [mC_805, mC_f, ni_clamp (by omega), show cl + 1 - 1 = cl from by omega, hx, f602]
  have D2 : ru_D T XL (cl + 1) t np v (ru_ez w t rp 0) := ru_D_ez D
  rw [show cl + 1 - 1 = cl from by omega, show 40000 * f + (c + 25000 * (q_f vc 602 cl).toNatClampNeg + 1) = 40000 * f + c + 25000 * (q_f vc 602 cl).toNatClampNeg + 1 from by omega]
  rcases ru_we_n we with ⟨w4, w4', wt⟩ | ⟨w4, w4', wx⟩
  · rw [cs_ecA hn hn2 w4] at e1
    rw [if_pos w4'] at er
    refine ru_cgL (B1 := 40000 * f + c) ⟨a0, Or.inr ⟨b0, e1⟩⟩ (by rw [ru_l_mC, ru_l_mC]; omega) (by rw [wv v p1 h1 f np (fun _ => rfl)]; omega) (ru_dL (ru_le er (t := t + 1) (t1 := t) rfl rfl (by omega) (by omega) ?_))
    refine k2 f p1 h1 q1 g1 v _ D2 ?_ hf (ru_K_ez KC)
    unfold ru_wt
    rw [ez_i (by omega) (by omega), ez_i (by omega) (by omega), ez_i (by omega) (by omega), ez_i (by omega) (by omega)]
    exact wt
  · rw [cs_ecB hn hn2 w4 hh b3 b5 b6] at e1
    rw [if_neg w4'] at er
    have lx : ∀ x, ru_l (ru_pc (q_si (q_sf v 2000 168 0) 811 rp) h x) = ru_l v := fun x => by
      unfold ru_l ru_pc; rw [q_a_sa, if_neg (by omega), q_a_si, q_a_sf]
    refine ru_cgL (B1 := 40000 * f + c) ⟨a0, Or.inr ⟨b0, e1⟩⟩ (by rw [ru_l_mC, ru_l_mC, lx]; omega) (by rw [wv _ rt (h + 1) f np (fun i => by unfold ru_pc; rw [q_f_sa, q_f_si, q_f_sf, if_neg (by omega)])]; omega) (ru_dL (ru_lz er rfl (by omega) ?_))
    rw [wx]
    have Dx : ru_D T XL (cl + 1) t np (q_si (q_sf v 2000 168 0) 811 rp) (q_si (ru_ez w t rp 0) 2481 0) := ru_D_j (ru_D_i8 (ru_D_f D2 (by omega))) (by omega) (by omega)
    refine k1 f _ _ (ru_D_p Dx) ⟨?_, ?_, ?_⟩ hf (ru_K_p (ru_K_j (ru_K_i8 (ru_K_f (ru_K_ez KC) (by omega) (by omega)))) (Nat.le_refl _) (Nat.le_refl _)) ?_
    · unfold ru_pc; rw [q_f_sa, q_f_si, q_f_sf, if_pos ⟨rfl, rfl⟩]
    · unfold ru_pr; rw [q_i_sa, q_i_si, if_pos rfl]
    · unfold ru_pc ru_pr ru_ez
      rw [q_i_sa, q_i_si, if_pos rfl, q_i_sa, q_i_si, if_neg (by omega), q_i_si, if_neg (by omega), q_i_si, if_pos rfl]
    · intro i hi
      have : i = 0 := by omega
      subst this
      unfold ru_pc ru_pr
      rw [q_a_sa, if_pos rfl, q_a_sa, if_pos rfl]
      show upd _ h _ h = upd _ g _ g
      rw [upd_at, upd_at]
end
