def ru_tb (v : q_V) (n : Nat) : q_V := if q_f v 2000 168 = 1 then ru_cp (q_si v 812 (q_f v 1207 n)) 168 n else if q_f v 2000 n = 4 then ru_wr (ru_ct (q_si v 812 (q_f v 1207 n)) 14) 9 (q_f v 2001 n) else q_si v 812 (q_f v 1207 n)
set_option maxHeartbeats 200000 in
theorem cs_tb {v : q_V} {n p h f np cl : Nat} : fX4_takeWayBack n (mC v p h f np cl) = some (mC (ru_tb v n) p h f np cl) := by
  unfold fX4_takeWayBack fX4_takeWayBack_b69 ru_tb
  rw [mC_f, mC_s812, q_lt_s, mC_f, q_f_si]
  by_cases c : q_f v 2000 168 = 1
  · rw [if_pos c, if_pos c, cs_copy, q_bv_s, mC_cp]
  · rw [if_neg c, if_neg c]
    by_cases c2 : q_f v 2000 n = 4
    · rw [if_pos c2, if_pos c2, cs_ct14, q_bv_s, mC_ct, mC_f, ct_f, q_f_si, cs_wr, q_bv_s, mC_wr]
    · rw [if_neg c2, if_neg c2]
def ru_lo (w : q_V) (t : Nat) : q_V := if q_a w 2495 t = 4 then ru_nt (q_si w 2479 (q_i w 2479 + 1)) 9 (q_a w 2498 t) else w
def ru_el (w : q_V) (t : Nat) : q_V := if q_i w 2481 = 0 then ru_tw w t else ru_lo w t
def ru_w0 (w : q_V) (t : Nat) : q_V := q_sa w 2491 (upd (q_a w 2491) t 0)
set_option maxHeartbeats 200000 in
theorem rs_loses {w : q_V} {q g f t t' cl : Nat} (ht : t < 240) (h70 : ¬ q_i w 2470 < 0) : fX12_loses (nI t) (mR w q g f t' cl) = some (mR (ru_lo w t) q g f t' cl) := by
  unfold fX12_loses fX12_loses_b32 ru_lo
  rw [if_neg (by rw [ni_in ht (by omega)]; exact id), ni_clamp (by omega), mR_a]
  by_cases c : q_a w 2495 t = 4
  · rw [if_pos c, if_pos c, q_lt_s, mR_s2479, if_neg (by rw [ni_neg (by omega), false_or]; omega), mR_a, q_a_si, rs_note (by exact h70), q_bv_s, mR_nt]; rfl
  · rw [if_neg c, if_neg c]
set_option maxHeartbeats 200000 in
theorem rs_el {w : q_V} {q g f t t' cl : Nat} {k : q_V → Option q_V} (ht : t < 240) (h70 : ¬ q_i w 2470 < 0) : (if q_i (mR w q g f t' cl) 2481 = 0 then q_bv (fX12_takeWay (nI t) (mR w q g f t' cl)) k else q_bv (fX12_loses (nI t) (mR w q g f t' cl)) k) = k (mR (ru_el w t) q g f t' cl) := by
  unfold ru_el
  rw [show q_i (mR w q g f t' cl) 2481 = q_i w 2481 from rfl]
  by_cases c : q_i w 2481 = 0
  · rw [if_pos c, if_pos c, rs_take ht, q_bv_s, mR_tw]
  · rw [if_neg c, if_neg c, rs_loses ht h70, q_bv_s]
set_option maxHeartbeats 200000 in
theorem rs_ea {w : q_V} {q g f t t' cl : Nat} (ht : t < 240) (h70 : ¬ q_i w 2470 < 0) : fX12_endsAlways (nI t) (mR w q g f t' cl) = some (mR (ru_w0 (ru_el w t) t) q g f t' cl) := by
  unfold fX12_endsAlways
  rw [rs_el (k := fun T => fX12_endsAlways_b20 (nI t) T) ht h70]
  unfold fX12_endsAlways_b20
  rw [if_neg (by rw [ni_in ht (by omega)]; exact id), ni_clamp (by omega), q_lt_s, mR_sa, mR_a]; rfl
set_option maxHeartbeats 200000 in
theorem tb_f {v : q_V} {n k m : Nat} (h : m ≠ 168 ∨ k < 2000) : q_f (ru_tb v n) k m = q_f v k m := by
  unfold ru_tb
  split
  · rw [cp_f (by omega), q_f_si]
  · split
    · rw [wr_f, ct_f, q_f_si]
    · rw [q_f_si]
set_option maxHeartbeats 200000 in
theorem tb_a {v : q_V} {n j : Nat} (h : j < 1400) : q_a (ru_tb v n) j = q_a v j := by
  unfold ru_tb
  split
  · rfl
  · split
    · rw [wr_a h, ct_a (by omega), q_a_si]
    · rfl
set_option maxHeartbeats 200000 in
theorem tb_i {v : q_V} {n k : Nat} (h : k ≠ 812) : q_i (ru_tb v n) k = q_i v k := by
  unfold ru_tb
  split
  · rw [cp_i, q_i_si, if_neg h]
  · split
    · rw [wr_i, ct_i, q_i_si, if_neg h]
    · rw [q_i_si, if_neg h]
set_option maxHeartbeats 200000 in
theorem tw_a {w : q_V} {t : Nat} : q_a (ru_tw w t) = q_a w := rfl
set_option maxHeartbeats 200000 in
theorem tw_b {w : q_V} {t : Nat} : q_b (ru_tw w t) = q_b w := rfl
set_option maxHeartbeats 200000 in
theorem lo_a {w : q_V} {t j : Nat} (h : 2469 < j) : q_a (ru_lo w t) j = q_a w j := by
  unfold ru_lo
  split
  · rw [nt_a h, q_a_si]
  · rfl
set_option maxHeartbeats 200000 in
theorem lo_b {w : q_V} {t : Nat} : q_b (ru_lo w t) = q_b w := by
  unfold ru_lo
  split <;> rfl
set_option maxHeartbeats 200000 in
theorem lo_i {w : q_V} {t k : Nat} (h : 2480 < k) : q_i (ru_lo w t) k = q_i w k := by
  unfold ru_lo
  split
  · rw [nt_i (by omega), q_i_si, if_neg (by omega)]
  · rfl
set_option maxHeartbeats 200000 in
theorem el_a {w : q_V} {t j : Nat} (h : 2469 < j) : q_a (ru_el w t) j = q_a w j := by
  unfold ru_el
  split
  · rw [tw_a]
  · exact lo_a h
set_option maxHeartbeats 200000 in
theorem el_b {w : q_V} {t : Nat} : q_b (ru_el w t) = q_b w := by
  unfold ru_el
  split
  · rfl
  · exact lo_b
set_option maxHeartbeats 200000 in
theorem tw_i {w : q_V} {t k : Nat} (h : k < 2481 ∨ 2486 < k) : q_i (ru_tw w t) k = q_i w k := by
  unfold ru_tw
  rw [q_i_si, if_neg (by omega), q_i_si, if_neg (by omega), q_i_si, if_neg (by omega), q_i_si, if_neg (by omega), q_i_si, if_neg (by omega), q_i_si, if_neg (by omega)]
set_option maxHeartbeats 200000 in
theorem tw_at {w : q_V} {t : Nat} : q_i (ru_tw w t) 2481 = q_a w 2495 t ∧ q_i (ru_tw w t) 2482 = q_a w 2496 t ∧ q_i (ru_tw w t) 2483 = q_a w 2497 t ∧ q_i (ru_tw w t) 2484 = q_a w 2498 t ∧ q_i (ru_tw w t) 2485 = q_a w 2499 t ∧ q_i (ru_tw w t) 2486 = q_a w 2500 t := by
  unfold ru_tw
  refine ⟨?_, ?_, ?_, ?_, ?_, ?_⟩
  · rw [q_i_si, if_neg (by omega), q_i_si, if_neg (by omega), q_i_si, if_neg (by omega), q_i_si, if_neg (by omega), q_i_si, if_neg (by omega), q_i_si, if_pos rfl]
  · rw [q_i_si, if_neg (by omega), q_i_si, if_neg (by omega), q_i_si, if_neg (by omega), q_i_si, if_neg (by omega), q_i_si, if_pos rfl]
  · rw [q_i_si, if_neg (by omega), q_i_si, if_neg (by omega), q_i_si, if_neg (by omega), q_i_si, if_pos rfl]
  · rw [q_i_si, if_neg (by omega), q_i_si, if_neg (by omega), q_i_si, if_pos rfl]
  · rw [q_i_si, if_neg (by omega), q_i_si, if_pos rfl]
  · rw [q_i_si, if_pos rfl]
set_option maxHeartbeats 200000 in
theorem w0_a {w : q_V} {t j : Nat} (h : j ≠ 2491) : q_a (ru_w0 w t) j = q_a w j := by unfold ru_w0; rw [q_a_sa, if_neg h]
set_option maxHeartbeats 200000 in
theorem w0_at {w : q_V} {t : Nat} : q_a (ru_w0 w t) 2491 t = 0 := by unfold ru_w0; rw [q_a_sa, if_pos rfl, upd_at]
set_option maxHeartbeats 200000 in
theorem w0_i {w : q_V} {t : Nat} : q_i (ru_w0 w t) = q_i w := rfl
set_option maxHeartbeats 200000 in
theorem w0_b {w : q_V} {t : Nat} : q_b (ru_w0 w t) = q_b w := rfl
section
variable {Fin : q_V → q_V → Prop} {a : ru_P} {T : co_T} {XL : Int32 → Int32 → Int32 → Prop} {f0 nu : Nat} {L : List (Nat × Nat)}
set_option maxHeartbeats 200000 in
theorem ru_kk_4 {v w : q_V} {n t : Nat} (h : ru_kk L n t v w) : (q_f v 2000 n = 4 ∧ q_a w 2495 t = 4 ∧ q_f v 2001 n = q_a w 2498 t ∧ q_f v 2002 n = q_a w 2499 t ∧ 0 < q_a w 2498 t) ∨ (q_f v 2000 n ≠ 4 ∧ q_a w 2495 t ≠ 4) := by
  rcases h with ⟨h1, h2⟩ | ⟨h1, h2, h3, h4, h5, h6⟩ | ⟨h1, h2, -⟩ | ⟨e, -, ⟨h1, h2⟩ | ⟨h1, h2⟩, -⟩
  · right; rw [h1, h2]; decide
  · left; exact ⟨h1, h2, h3, h4, h6⟩
  · right; rw [h1, h2]; decide
  · right; rw [h1, h2]; decide
  · right; rw [h1, h2]; decide
set_option maxHeartbeats 200000 in
theorem ru_we_e {v w : q_V} (we : ru_we L v w) : (q_f v 2000 168 = 1 ∧ q_i w 2481 = 0) ∨ (q_f v 2000 168 ≠ 1 ∧ q_i w 2481 ≠ 0 ∧ ru_wl L v w) := by
  rcases we with h | h
  · exact Or.inl h
  · exact Or.inr ⟨(ru_wl_c h).2.1, (ru_wl_c h).2.2, h⟩
set_option maxHeartbeats 200000 in
theorem ru_we_tb {v w : q_V} {n t : Nat} (we : ru_we L v w) (kk : ru_kk L n t v w) : ru_we L (ru_tb v n) (ru_el w t) := by
  rcases ru_we_e we with ⟨h1, h2⟩ | ⟨h1, h2, h3⟩
  · unfold ru_tb ru_el
    rw [if_pos h1, if_pos h2]
    unfold ru_we ru_wl
    obtain ⟨k1, k2, k3, k4, k5, k6⟩ := tw_at (w := w) (t := t)
    rw [k1, k2, k3, k4, k5, k6, cp_at (by omega) (by omega), cp_at (by omega) (by omega), cp_at (by omega) (by omega), cp_at (by omega) (by omega), q_f_si]
    exact kk
  · refine ru_we_i we (fun k x y => ?_) (fun k x y => ?_)
    · unfold ru_tb
      rw [if_neg h1]
      split
      · rw [wr_f, ct_f, q_f_si]
      · rw [q_f_si]
    · unfold ru_el
      rw [if_neg h2, lo_i (by omega)]
set_option maxHeartbeats 200000 in
theorem ru_D_tb {cl t np t1 np1 n : Nat} {v w : q_V} (d : ru_D T XL cl t1 np1 v w) (we : ru_we L v w) (kk : ru_kk L n t v w) (z : q_f v 1207 n = ru_z w t) (H : ru_H np v) (hl : ru_l v ≤ 2000000000) : ru_D T XL cl t np (ru_tb v n) (ru_el w t) := by
  have d' : ru_D T XL cl t np (q_si v 812 (q_f v 1207 n)) w := ⟨d.1, d.2.1, d.2.2.1, d.2.2.2.1, ⟨trivial, z, d.2.2.2.2.1.2.2⟩, H⟩
  rcases ru_we_e we with ⟨h1, h2⟩ | ⟨h1, h2, h3⟩
  · unfold ru_tb ru_el
    rw [if_pos h1, if_pos h2]
    unfold ru_cp ru_tw
    exact ru_D_f (ru_D_f (ru_D_f (ru_D_f (ru_D_j (ru_D_j (ru_D_j (ru_D_j (ru_D_j (ru_D_j d' (by omega) (by omega)) (by omega) (by omega)) (by omega) (by omega)) (by omega) (by omega)) (by omega) (by omega)) (by omega) (by omega)) (by omega)) (by omega)) (by omega)) (by omega)
  · unfold ru_tb ru_el ru_lo
    rw [if_neg h1, if_neg h2]
    rcases ru_kk_4 kk with ⟨x1, x2, x3, x4, x5⟩ | ⟨x1, x2⟩
    · rw [if_pos x1, if_pos x2, x3]
      exact ru_D_w (ru_D_c14 d') hl
    · rw [if_neg x1, if_neg x2]; exact d'
set_option maxHeartbeats 200000 in
theorem ru_lw_tb {v w : q_V} {n : Nat} (h0 : ru_Q v w) (hl : ru_l v ≤ 2000000000) : ru_l (ru_tb v n) ≤ ru_l v + 2 := by
  unfold ru_tb
  split
  · exact Nat.le_add_right _ _
  · split
    · rw [ru_l_wr (vc := ru_ct (q_si v 812 (q_f v 1207 n)) 14) (show ¬ q_a v 1400 16 < 0 from ru_n16 h0) hl]
      show ru_l v + 1 ≤ _
      omega
    · exact Nat.le_add_right _ _
set_option maxHeartbeats 200000 in
theorem ru_D_w0 {cl t np : Nat} {v w : q_V} (d : ru_D T XL cl t np v w) : ru_D T XL cl t np v (ru_w0 w t) := by
  have e : ∀ j, j ≠ 2491 → q_a (ru_w0 w t) j = q_a w j := fun j hj => w0_a hj
  obtain ⟨d1, d2, d3, d4, d5, d6⟩ := d
  refine ⟨?_, ?_, ?_, ?_, ⟨trivial, ?_, d5.2.2⟩, d6⟩
  · unfold ru_S at d1 ⊢
    rw [e 2448 (by omega), e 2449 (by omega), e 2450 (by omega), e 2451 (by omega), e 2452 (by omega), e 2453 (by omega), e 2454 (by omega), e 2455 (by omega), e 2456 (by omega), e 2457 (by omega)]
    exact d1
  · unfold ru_A at d2 ⊢
    rw [e 2463 (by omega), e 2464 (by omega), e 2465 (by omega), e 2466 (by omega), e 2467 (by omega)]
    exact d2
  · unfold ru_Q at d3 ⊢
    rw [e 2468 (by omega), e 2469 (by omega), w0_i]
    exact d3
  · intro i hi
    obtain ⟨h1, h2, h3, x, h4, h5, h6, h7⟩ := d4 i hi
    rw [e 2504 (by omega), e 2505 (by omega), e 2506 (by omega), e 2507 (by omega), e 2508 (by omega), e 2509 (by omega)]
    exact ⟨h1, h2, h3, x, h4, h5, h6, h7⟩
  · refine d5.2.1.trans (ru_z_c (fun n hn => ?_)).symm
    unfold ru_w0
    rw [q_a_sa, if_pos rfl, upd_ne (by omega)]
set_option maxHeartbeats 200000 in
theorem ru_K_tb {np t h g cl n : Nat} {vc vr v w : q_V} (K : ru_K np t h g cl vc vr v w) (hn2 : np ≤ 168) : ru_K np t h g cl vc vr (ru_tb v n) w := by
  refine ⟨fun k m x y => ?_, fun i x => ?_, K.2.2.1, K.2.2.2.1, K.2.2.2.2.1, ?_, fun i x => ?_⟩
  · rw [tb_f (by omega)]; exact K.1 k m x y
  · rw [tb_a (by omega)]; exact K.2.1 i x
  · rw [tb_a (by omega)]; exact K.2.2.2.2.2.1
  · rw [tb_f (by omega)]; exact K.2.2.2.2.2.2 i x
set_option maxHeartbeats 200000 in
theorem ru_K_el {np t h g cl t' : Nat} {vc vr v w : q_V} (K : ru_K np t h g cl vc vr v w) : ru_K np t h g cl vc vr v (ru_el w t') := by
  refine ⟨K.1, K.2.1, fun j n x y z => ⟨?_, ?_⟩, fun i x => ?_, fun i x => ?_, K.2.2.2.2.2⟩
  · rw [el_a (by omega)]; exact (K.2.2.1 j n x y z).1
  · rw [el_b]; exact (K.2.2.1 j n x y z).2
  · rw [el_a (by omega)]; exact K.2.2.2.1 i x
  · rw [el_a (by omega), el_a (by omega)]; exact K.2.2.2.2.1 i x
set_option maxHeartbeats 200000 in
theorem ru_K_w0 {np t h g cl t' : Nat} {vc vr v w : q_V} (K : ru_K np t h g cl vc vr v w) (ht : t ≤ t') : ru_K np t h g cl vc vr v (ru_w0 w t') := ru_K_a K ht (by omega) (by omega)
end
