set_option maxHeartbeats 200000 in
theorem q_sa_sw {v : q_V} {k j : Nat} {x y : Nat → Int32} (h : k ≠ j) : q_sa (q_sa v k x) j y = q_sa (q_sa v j y) k x := by
  refine q_ext (fun _ => rfl) rfl (funext fun i => ?_) rfl rfl rfl rfl
  rw [q_a_sa, q_a_sa, q_a_sa, q_a_sa]
  by_cases h1 : i = j
  · rw [if_pos h1, if_neg (by omega), if_pos h1]
  · rw [if_neg h1, if_neg h1]
set_option maxHeartbeats 200000 in
theorem kw_sa {w : q_V} {t k : Nat} {u : Nat → Int32} (h : k < 2495 ∨ 2500 < k) : q_sa (ru_kw w t) k u = ru_kw (q_sa w k u) t := by
  have e : ∀ j, 2495 ≤ j → j ≤ 2500 → q_a (q_sa w k u) j = q_a w j := fun j h1 h2 => by rw [q_a_sa, if_neg (by omega)]
  unfold ru_kw
  rw [e 2495 (by omega) (by omega), e 2496 (by omega) (by omega), e 2497 (by omega) (by omega), e 2498 (by omega) (by omega), e 2499 (by omega) (by omega), e 2500 (by omega) (by omega), q_i_sa]
  rw [q_sa_sw (k := 2500) (j := k) (by omega), q_sa_sw (k := 2499) (j := k) (by omega), q_sa_sw (k := 2498) (j := k) (by omega), q_sa_sw (k := 2497) (j := k) (by omega), q_sa_sw (k := 2496) (j := k) (by omega), q_sa_sw (k := 2495) (j := k) (by omega)]
set_option maxHeartbeats 200000 in
theorem s_sa {w : q_V} {t k : Nat} {st : Int32} {u : Nat → Int32} (h : k ≠ 2489) : q_sa (ru_s w t st) k u = ru_s (q_sa w k u) t st := by
  unfold ru_s
  rw [q_sa_sw (k := 2489) (j := k) (by omega), q_a_sa (k := k), if_neg (by omega)]
set_option maxHeartbeats 200000 in
theorem nt_sa {w : q_V} {k : Nat} {s n : Int32} {u : Nat → Int32} (h : k ≠ 2468) (h2 : k ≠ 2469) : q_sa (ru_nt w s n) k u = ru_nt (q_sa w k u) s n := by
  unfold ru_nt
  rw [q_i_sa, show q_a (q_sa w k u) 2468 = q_a w 2468 from by rw [q_a_sa, if_neg (by omega)], show q_a (q_sa w k u) 2469 = q_a w 2469 from by rw [q_a_sa, if_neg (by omega)]]
  show q_si (q_sa (q_sa (q_sa w 2468 _) 2469 _) k u) 2470 _ = _
  rw [q_sa_sw (k := 2469) (j := k) (by omega), q_sa_sw (k := 2468) (j := k) (by omega)]
set_option maxHeartbeats 200000 in
theorem si_sa {w : q_V} {k j : Nat} {x : Int32} {u : Nat → Int32} : q_sa (q_si w j x) k u = q_si (q_sa w k u) j x := rfl
/-- a later begins: the reference -/
def ru_lb (w : q_V) (t d m : Nat) (pl : Int32) : q_V := ru_nt (q_si (q_si (ru_kr (q_sa w 2506 (upd (q_a w 2506) d (nI m))) t 7) 2481 0) 2476 (q_i w 2476 + 1)) 10 pl
/-- the class -/
def ru_lc (v : q_V) (np i m : Nat) (pl : Int32) : q_V := ru_kc (ru_wr (ru_ct (q_sf v 602 i (nI m)) 11) 10 pl) np 3
section
variable {Fin : q_V → q_V → Prop} {a : ru_P} {T : co_T} {XL : Int32 → Int32 → Int32 → Prop} {f0 nu : Nat} {L : List (Nat × Nat)}
set_option maxHeartbeats 200000 in
theorem cs_lc0 {v : q_V} {p h f np cl : Nat} (hnp : np < 168) (a0 : q_f v 1200 np = 53) (a1 : q_f v 1201 np ≠ 3) : fX4_leaveTop (mC v p h f (np + 1) cl) = fX4_leaveCall_b13 np (mC v p h f (np + 1) cl) := by
  rw [cs_lt53 hnp a0]
  unfold fX4_leaveCall
  rw [mC_f, if_neg a1]
set_option maxHeartbeats 200000 in
theorem cs_lc3 {v : q_V} {p h f np cl : Nat} (hnp : np < 168) (a0 : q_f v 1200 np = 53) (a1 : q_f v 1201 np = 3) : fX4_leaveTop (mC v p h f (np + 1) cl) = fX4_leaveCall_b13 np (mC (ru_tb v np) p h f (np + 1) cl) := by
  rw [cs_lt53 hnp a0]
  unfold fX4_leaveCall
  rw [mC_f, if_pos a1, cs_tb, q_bv_s]
set_option maxHeartbeats 200000 in
theorem rs_lc0 {w : q_V} {q g f t cl : Nat} (ht : t < 240) (g8 : q_a w 2488 t = 1) (g1 : q_a w 2489 t ≠ 7) : rs_it (mR w q g f (t + 1) cl) = fX12_leavesCall_b31 (nI t) (mR w q g f (t + 1) cl) := by
  rw [rs_it1 ht g8]
  unfold fX12_leavesCall
  rw [if_neg (by rw [ni_in ht (by omega)]; exact id), ni_clamp (by omega), mR_a, if_neg g1]
set_option maxHeartbeats 200000 in
theorem rs_el2 {w : q_V} {q g f t t' cl : Nat} {k : q_V → Option (Int32 × q_V)} (ht : t < 240) (h70 : ¬ q_i w 2470 < 0) : (if q_i (mR w q g f t' cl) 2481 = 0 then q_bv (fX12_takeWay (nI t) (mR w q g f t' cl)) k else q_bv (fX12_loses (nI t) (mR w q g f t' cl)) k) = k (mR (ru_el w t) q g f t' cl) := by
  unfold ru_el
  rw [mR_oi (by omega)]
  by_cases c : q_i w 2481 = 0
  · rw [if_pos c, if_pos c, rs_take ht, q_bv_s, mR_tw]
  · rw [if_neg c, if_neg c, rs_loses ht h70, q_bv_s]
set_option maxHeartbeats 200000 in
theorem rs_lc7 {w : q_V} {q g f t cl : Nat} (ht : t < 240) (g8 : q_a w 2488 t = 1) (g1 : q_a w 2489 t = 7) (h70 : ¬ q_i w 2470 < 0) : rs_it (mR w q g f (t + 1) cl) = fX12_leavesCall_b31 (nI t) (mR (ru_el w t) q g f (t + 1) cl) := by
  rw [rs_it1 ht g8]
  unfold fX12_leavesCall
  rw [if_neg (by rw [ni_in ht (by omega)]; exact id), ni_clamp (by omega), mR_a, if_pos g1, rs_el2 (k := fun T => fX12_leavesCall_b31 (nI t) T) ht h70]
set_option maxHeartbeats 200000 in
theorem cs_b13a {v v' : q_V} {p h f np cl m pq h' : Nat} {pl : Int32} (s : ru_S T v v') (hn : np ≠ 168) (hcl : cl < 12) (hm : m < 40) (ew : q_f v 602 cl = nI (m + 1)) (el : q_c v 601 cl m = nI pq) (c1 : co_c T (pq + 1) pl) (eh : q_f v 1203 np = nI h') : fX4_leaveCall_b13 np (mC v p h f (np + 1) (cl + 1)) = some (mC (ru_lc v np cl m pl) (pq + 5) h' f (np + 1) (cl + 1)) := by
  have e1 : fX3_hasLater cl (mC v p h f (np + 1) (cl + 1)) = some (1, mC v p h f (np + 1) (cl + 1)) := by
    unfold fX3_hasLater fX3_hasLater_b24
    rw [mC_f, ew, if_neg (by rw [show (0 : Int32) = nI 0 from rfl, ni_le (by omega) (by omega)]; omega), if_neg (by rw [show (40 : Int32) = nI 40 from rfl, ni_lt (by omega) (by omega)]; omega), if_neg (by decide)]
  have e2 : q_f (q_sf v 602 cl (nI m)) 602 cl = nI m := by rw [q_f_sf, if_pos ⟨rfl, rfl⟩]
  have s2 : ru_S T (ru_ct (q_sf v 602 cl (nI m)) 11) v' := ⟨s.1, s.2.1, s.2.2⟩
  unfold fX4_leaveCall_b13 fX4_leaveCall_b76 ru_lc
  rw [cs_frame hcl, q_bd_s, e1, q_bd_s, if_neg (by decide), cs_frame hcl, q_bd_s]
  unfold fX3_takeLater
  rw [e1, q_bd_s, if_neg (by decide), q_lt_s, mC_f, ew, ni_pred, mC_sf, mC_f, e2, if_neg (by rw [ni_in hm (by omega)]; exact id), ni_clamp (by omega), mC_c, q_c_sf, el, q_bd_s, cs_ct11, q_bv_s, mC_ct, ni_a1, cs_gt s2 c1, q_bd_s, cs_wr, q_bv_s, mC_wr, ni_a5, cs_keep (v := ru_wr (ru_ct (q_sf v 602 cl (nI m)) 11) 10 pl) hn (by rw [wr_f, ct_f, q_f_sf, if_neg (by omega)]; exact eh), q_bv_s]
set_option maxHeartbeats 200000 in
theorem cs_b13z {v : q_V} {p h f np cl : Nat} (hcl : cl < 12) (ew : q_f v 602 cl = nI 0) : fX4_leaveCall_b13 np (mC v p h f (np + 1) (cl + 1)) = fX4_endCall np (mC v p h f (np + 1) (cl + 1)) := by
  unfold fX4_leaveCall_b13 fX4_leaveCall_b76 fX3_hasLater fX3_hasLater_b23 fX3_hasLater_b24
  rw [cs_frame hcl, q_bd_s, mC_f, ew, if_pos (by decide), if_neg (by decide), q_bd_s, if_pos rfl, q_bv_id]
set_option maxHeartbeats 200000 in
theorem rs_b31a {w : q_V} {q g f t cl m qq g' : Nat} {pl : Int32} (ht : t < 240) (hcl : cl < 13) (hm : m < 40) (ew : q_a w 2506 cl = nI (m + 1)) (e7 : q_a w 2507 (40 * cl + m) = nI qq) (e8 : q_a w 2508 (40 * cl + m) = pl) (eg : q_a w 2492 t = nI g') (h70 : ¬ q_i w 2470 < 0) : fX12_leavesCall_b31 (nI t) (mR w q g f (t + 1) cl) = some (0, mR (ru_lb w t cl m pl) qq g' f (t + 1) cl) := by
  have i1 : ∀ (x : q_V) k, q_i (ru_s (ru_kw x t) t 7) k = q_i x k := fun x k => rfl
  have a6 : q_a (ru_s (ru_kw w t) t 7) 2506 = q_a w 2506 := by rw [s_a (by omega), kw_a (by omega)]
  have key : ∀ xx : Int32, xx = (if q_i w 2481 = 4 then q_i w 2484 else 0) → fX12_leavesCall_b130 (nI t) (nI (40 * cl + m)) xx (nI t) (mR (ru_nt (q_si (q_sa (ru_s (ru_kw w t) t 7) 2506 (upd (q_a w 2506) cl (nI m))) 2476 (q_i w 2476 + 1)) 10 pl) q g f (t + 1) cl) = some (0, mR (ru_lb w t cl m pl) qq g' f (t + 1) cl) := by
    intro xx hx
    have e91 : q_a (ru_nt (q_si (q_sa (ru_s (ru_kw w t) t 7) 2506 (upd (q_a w 2506) cl (nI m))) 2476 (q_i w 2476 + 1)) 10 pl) 2491 = q_a w 2491 := by rw [nt_a (by omega), q_a_si, q_a_sa, if_neg (by omega), s_a (by omega), kw_a (by omega)]
    have e0 : q_sa (ru_nt (q_si (q_sa (ru_s (ru_kw w t) t 7) 2506 (upd (q_a w 2506) cl (nI m))) 2476 (q_i w 2476 + 1)) 10 pl) 2491 (upd (q_a w 2491) t xx) = ru_nt (q_si (ru_kr (q_sa w 2506 (upd (q_a w 2506) cl (nI m))) t 7) 2476 (q_i w 2476 + 1)) 10 pl := by
      rw [nt_sa (by omega) (by omega), si_sa, s_sa (by omega), kw_sa (by omega), hx]
      unfold ru_kr ru_s
      rw [show q_a (ru_kw (q_sa w 2506 (upd (q_a w 2506) cl (nI m))) t) 2491 = q_a w 2491 from by rw [kw_a (by omega), q_a_sa, if_neg (by omega)], q_i_sa]
    have e2 : q_a (ru_nt (q_si (ru_kr (q_sa w 2506 (upd (q_a w 2506) cl (nI m))) t 7) 2476 (q_i w 2476 + 1)) 10 pl) 2507 (40 * cl + m) = nI qq := by rw [nt_a (by omega), q_a_si, kr_lo (by omega), q_a_sa, if_neg (by omega)]; exact e7
    have e3 : q_a (ru_nt (q_si (ru_kr (q_sa w 2506 (upd (q_a w 2506) cl (nI m))) t 7) 2476 (q_i w 2476 + 1)) 10 pl) 2492 t = nI g' := by rw [nt_a (by omega), q_a_si, kr_lo (by omega), q_a_sa, if_neg (by omega)]; exact eg
    unfold fX12_leavesCall_b130
    rw [if_neg (by rw [ni_in ht (by omega)]; exact id), q_lt_s, ni_clamp (a := t) (by omega), mR_a, e91, mR_sa, e0, if_neg (by rw [ni_in (show 40 * cl + m < 520 by omega) (by omega)]; exact id), ni_clamp (by omega), mR_a, e2, rs_goes ht e3, q_bv_s]
    unfold ru_lb
    rw [q_si_sw (k := 2481) (j := 2476) (by omega), nt_si (k := 2481) (by omega)]
  have e82 : ∀ u, q_a (q_si (q_sa (ru_s (ru_kw w t) t 7) 2506 u) 2476 (q_i w 2476 + 1)) 2508 (40 * cl + m) = pl := fun u => by rw [q_a_si, q_a_sa, if_neg (by omega), s_a (by omega), kw_a (by omega)]; exact e8
  have e66 : q_a (q_sa (ru_s (ru_kw w t) t 7) 2506 (upd (q_a w 2506) cl (nI m))) 2506 cl = nI m := by rw [q_a_sa, if_pos rfl, upd_at]
  have i81 : q_i (ru_nt (q_si (q_sa (ru_s (ru_kw w t) t 7) 2506 (upd (q_a w 2506) cl (nI m))) 2476 (q_i w 2476 + 1)) 10 pl) 2481 = q_i w 2481 := by rw [nt_i (by omega), q_i_si, if_neg (by omega), q_i_sa, i1]
  have i84 : q_i (ru_nt (q_si (q_sa (ru_s (ru_kw w t) t 7) 2506 (upd (q_a w 2506) cl (nI m))) 2476 (q_i w 2476 + 1)) 10 pl) 2484 = q_i w 2484 := by rw [nt_i (by omega), q_i_si, if_neg (by omega), q_i_sa, i1]
  unfold fX12_leavesCall_b31
  rw [rs_keep ht, q_bv_s, mR_kw, if_neg (by rw [ni_in ht (by omega)]; exact id), q_lt_s, ni_clamp (a := t) (by omega), mR_a, mR_sa, show q_sa (ru_kw w t) 2489 (upd (q_a (ru_kw w t) 2489) t 7) = ru_s (ru_kw w t) t 7 from rfl, mR_2501, if_neg (by rw [ni_in hcl (by omega)]; exact id), ni_clamp (a := cl) (by omega), mR_a, a6, ew, if_neg (by rw [show (0 : Int32) = nI 0 from rfl, ni_le (by omega) (by omega)]; omega), if_neg (by rw [ni_neg (by omega), false_or]; omega), if_neg (by rw [ni_neg (by omega), false_or]; omega), q_lt_s, ni_pred, mR_sa, mR_2501, if_neg (by rw [ni_in hcl (by omega)]; exact id), ni_clamp (a := cl) (by omega), mR_a, e66, ni_40, q_lt_s, q_lt_s, mR_s2476, mR_oi (k := 2476) (by omega), show q_i (q_sa (ru_s (ru_kw w t) t 7) 2506 (upd (q_a w 2506) cl (nI m))) 2476 = q_i w 2476 from rfl, if_neg (by rw [ni_in (show 40 * cl + m < 520 by omega) (by omega)]; exact id), ni_clamp (by omega), mR_a, e82, rs_note (by exact h70), q_bv_s, mR_nt, mR_oi (k := 2481) (by omega), mR_oi (k := 2484) (by omega), i81, i84]
  by_cases c : q_i w 2481 = 4
  · rw [if_pos c, key _ (by rw [if_pos c])]
  · rw [if_neg c, key _ (by rw [if_neg c])]
end
