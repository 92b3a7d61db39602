/-! A WAY IS KEPT, AND TAKEN BACK -/
def ru_cp (v : q_V) (a b : Nat) : q_V := q_sf (q_sf (q_sf (q_sf v 2000 a (q_f v 2000 b)) 2001 a (q_f v 2001 b)) 2002 a (q_f v 2002 b)) 2003 a (q_f v 2003 b)
set_option maxHeartbeats 200000 in
theorem cs_copy {v : q_V} {a b : Nat} : fX10_copy a b v = some (ru_cp v a b) := by
  unfold fX10_copy ru_cp
  simp only [q_lt_s]
  rw [q_f_sf (k := 2000) (j := 2001), if_neg (by omega), q_f_sf (k := 2001) (j := 2002), if_neg (by omega), q_f_sf (k := 2000) (j := 2002), if_neg (by omega), q_f_sf (k := 2002) (j := 2003), if_neg (by omega), q_f_sf (k := 2001) (j := 2003), if_neg (by omega), q_f_sf (k := 2000) (j := 2003), if_neg (by omega)]
set_option maxHeartbeats 200000 in
theorem cp_f {v : q_V} {a b k n : Nat} (h : n ≠ a ∨ k < 2000 ∨ 2003 < k) : q_f (ru_cp v a b) k n = q_f v k n := by
  unfold ru_cp
  rw [q_f_sf, if_neg (by omega), q_f_sf, if_neg (by omega), q_f_sf, if_neg (by omega), q_f_sf, if_neg (by omega)]
set_option maxHeartbeats 200000 in
theorem cp_at {v : q_V} {a b k : Nat} (h : 2000 ≤ k) (h2 : k ≤ 2003) : q_f (ru_cp v a b) k a = q_f v k b := by
  unfold ru_cp
  rcases (show k = 2000 ∨ k = 2001 ∨ k = 2002 ∨ k = 2003 by omega) with rfl | rfl | rfl | rfl
  · rw [q_f_sf, if_neg (by omega), q_f_sf, if_neg (by omega), q_f_sf, if_neg (by omega), q_f_sf, if_pos ⟨rfl, rfl⟩]
  · rw [q_f_sf, if_neg (by omega), q_f_sf, if_neg (by omega), q_f_sf, if_pos ⟨rfl, rfl⟩]
  · rw [q_f_sf, if_neg (by omega), q_f_sf, if_pos ⟨rfl, rfl⟩]
  · rw [q_f_sf, if_pos ⟨rfl, rfl⟩]
set_option maxHeartbeats 200000 in
theorem cp_i {v : q_V} {a b : Nat} : q_i (ru_cp v a b) = q_i v := rfl
set_option maxHeartbeats 200000 in
theorem cp_a {v : q_V} {a b : Nat} : q_a (ru_cp v a b) = q_a v := rfl
set_option maxHeartbeats 200000 in
theorem mC_cp {v : q_V} {a b p h f np cl : Nat} : ru_cp (mC v p h f np cl) a b = mC (ru_cp v a b) p h f np cl := rfl
def ru_kc (v : q_V) (n : Nat) (ph : Int32) : q_V := q_sf (q_si (q_sf (ru_cp v n 168) 1201 n ph) 812 (if q_f v 2000 168 = 4 then q_f v 2001 168 else q_i v 812)) 2000 168 0
set_option maxHeartbeats 200000 in
theorem cs_keep {v : q_V} {n p h f np cl p' h' : Nat} {ph : Int32} (hn : n ≠ 168) (eh : q_f v 1203 n = nI h') : fX4_keepWay n ph (nI p') (mC v p h f np cl) = some (mC (ru_kc v n ph) p' h' f np cl) := by
  have e1 : q_f (q_sf (ru_cp v n 168) 1201 n ph) 2000 168 = q_f v 2000 168 := by rw [q_f_sf, if_neg (by omega), cp_f (by omega)]
  have e2 : q_f (q_sf (ru_cp v n 168) 1201 n ph) 2001 168 = q_f v 2001 168 := by rw [q_f_sf, if_neg (by omega), cp_f (by omega)]
  have e3 : q_f (q_sf (ru_cp v n 168) 1201 n ph) 1203 n = nI h' := by rw [q_f_sf, if_neg (by omega), cp_f (by omega), eh]
  unfold fX4_keepWay fX4_keepWay_b38 fX4_goOn ru_kc
  rw [cs_copy, q_bv_s, q_lt_s, mC_cp, mC_sf, mC_f, e1]
  by_cases c : q_f v 2000 168 = 4
  · rw [if_pos c, if_pos c, q_lt_s, e2, mC_s812, q_lt_s, mC_f, q_f_si, e3, mC_s803, q_lt_s, mC_sf, q_lt_s, mC_s810]; rfl
  · rw [if_neg c, if_neg c, q_lt_s, e3, mC_s803, q_lt_s, mC_sf, q_lt_s, mC_s810, show q_i v 812 = q_i (q_sf (ru_cp v n 168) 1201 n ph) 812 from rfl, q_si_id]; rfl
set_option maxHeartbeats 200000 in
theorem kc_f {v : q_V} {n k m : Nat} {ph : Int32} (h : m ≠ n) (h2 : m ≠ 168) : q_f (ru_kc v n ph) k m = q_f v k m := by
  unfold ru_kc
  rw [q_f_sf, if_neg (by omega), q_f_si, q_f_sf, if_neg (by omega), cp_f (by omega)]
set_option maxHeartbeats 200000 in
theorem kc_n {v : q_V} {n k : Nat} {ph : Int32} (h2 : n ≠ 168) (h : k < 2000) (h3 : k ≠ 1201) : q_f (ru_kc v n ph) k n = q_f v k n := by
  unfold ru_kc
  rw [q_f_sf, if_neg (by omega), q_f_si, q_f_sf, if_neg (by omega), cp_f (by omega)]
set_option maxHeartbeats 200000 in
theorem kc_ph {v : q_V} {n : Nat} {ph : Int32} : q_f (ru_kc v n ph) 1201 n = ph := by
  unfold ru_kc
  rw [q_f_sf, if_neg (by omega), q_f_si, q_f_sf, if_pos ⟨rfl, rfl⟩]
set_option maxHeartbeats 200000 in
theorem kc_k {v : q_V} {n k : Nat} {ph : Int32} (h2 : n ≠ 168) (h : 2000 ≤ k) (h3 : k ≤ 2003) : q_f (ru_kc v n ph) k n = q_f v k 168 := by
  unfold ru_kc
  rw [q_f_sf, if_neg (by omega), q_f_si, q_f_sf, if_neg (by omega), cp_at h h3]
set_option maxHeartbeats 200000 in
theorem kc_w {v : q_V} {n : Nat} {ph : Int32} : q_f (ru_kc v n ph) 2000 168 = 0 := by
  unfold ru_kc
  rw [q_f_sf, if_pos ⟨rfl, rfl⟩]
set_option maxHeartbeats 200000 in
theorem kc_i {v : q_V} {n k : Nat} {ph : Int32} (h : k ≠ 812) : q_i (ru_kc v n ph) k = q_i v k := by
  unfold ru_kc
  rw [q_i_sf, q_i_si, if_neg h]; rfl
set_option maxHeartbeats 200000 in
theorem kc_812 {v : q_V} {n : Nat} {ph : Int32} : q_i (ru_kc v n ph) 812 = if q_f v 2000 168 = 4 then q_f v 2001 168 else q_i v 812 := by
  unfold ru_kc
  rw [q_i_sf, q_i_si, if_pos rfl]
set_option maxHeartbeats 200000 in
theorem kc_a {v : q_V} {n : Nat} {ph : Int32} : q_a (ru_kc v n ph) = q_a v := rfl
set_option maxHeartbeats 200000 in
theorem kc_c {v : q_V} {n : Nat} {ph : Int32} : q_c (ru_kc v n ph) = q_c v := rfl
set_option maxHeartbeats 200000 in
theorem kc_602 {v : q_V} {n k m : Nat} {ph : Int32} (h : k < 1200) : q_f (ru_kc v n ph) k m = q_f v k m := by
  unfold ru_kc
  rw [q_f_sf, if_neg (by omega), q_f_si, q_f_sf, if_neg (by omega), cp_f (by omega)]
/-- the reference's side: the way, the region's state, its WITHIN -/
def ru_kr (w : q_V) (t : Nat) (st : Int32) : q_V := q_sa (q_sa (ru_kw w t) 2489 (upd (q_a (ru_kw w t) 2489) t st)) 2491 (upd (q_a (ru_kw w t) 2491) t (if q_i w 2481 = 4 then q_i w 2484 else 0))
set_option maxHeartbeats 200000 in
theorem kw_i {w : q_V} {t : Nat} : q_i (ru_kw w t) = q_i w := rfl
set_option maxHeartbeats 200000 in
theorem kw_b {w : q_V} {t : Nat} : q_b (ru_kw w t) = q_b w := rfl
set_option maxHeartbeats 200000 in
theorem kw_a {w : q_V} {t j : Nat} (h : j < 2495 ∨ 2500 < j) : q_a (ru_kw w t) j = q_a w j := by
  unfold ru_kw
  rw [q_a_sa, if_neg (by omega), q_a_sa, if_neg (by omega), q_a_sa, if_neg (by omega), q_a_sa, if_neg (by omega), q_a_sa, if_neg (by omega), q_a_sa, if_neg (by omega)]
set_option maxHeartbeats 200000 in
theorem kw_n {w : q_V} {t j n : Nat} (h : n ≠ t) : q_a (ru_kw w t) j n = q_a w j n := by
  unfold ru_kw
  repeat (rw [q_a_sa]; split; (next e => subst e; rw [upd_ne h]))
  rfl
set_option maxHeartbeats 200000 in
theorem kw_at {w : q_V} {t : Nat} : q_a (ru_kw w t) 2495 t = q_i w 2481 ∧ q_a (ru_kw w t) 2496 t = q_i w 2482 ∧ q_a (ru_kw w t) 2497 t = q_i w 2483 ∧ q_a (ru_kw w t) 2498 t = q_i w 2484 ∧ q_a (ru_kw w t) 2499 t = q_i w 2485 ∧ q_a (ru_kw w t) 2500 t = q_i w 2486 := by
  unfold ru_kw
  refine ⟨?_, ?_, ?_, ?_, ?_, ?_⟩
  · rw [q_a_sa, if_neg (by omega), q_a_sa, if_neg (by omega), q_a_sa, if_neg (by omega), q_a_sa, if_neg (by omega), q_a_sa, if_neg (by omega), q_a_sa, if_pos rfl, upd_at]
  · rw [q_a_sa, if_neg (by omega), q_a_sa, if_neg (by omega), q_a_sa, if_neg (by omega), q_a_sa, if_neg (by omega), q_a_sa, if_pos rfl, upd_at]
  · rw [q_a_sa, if_neg (by omega), q_a_sa, if_neg (by omega), q_a_sa, if_neg (by omega), q_a_sa, if_pos rfl, upd_at]
  · rw [q_a_sa, if_neg (by omega), q_a_sa, if_neg (by omega), q_a_sa, if_pos rfl, upd_at]
  · rw [q_a_sa, if_neg (by omega), q_a_sa, if_pos rfl, upd_at]
  · rw [q_a_sa, if_pos rfl, upd_at]
set_option maxHeartbeats 200000 in
theorem kr_i {w : q_V} {t : Nat} {st : Int32} : q_i (ru_kr w t st) = q_i w := rfl
set_option maxHeartbeats 200000 in
theorem kr_b {w : q_V} {t : Nat} {st : Int32} : q_b (ru_kr w t st) = q_b w := rfl
set_option maxHeartbeats 200000 in
theorem kr_a {w : q_V} {t j : Nat} {st : Int32} (h : j < 2489 ∨ j = 2490 ∨ 2491 < j) : q_a (ru_kr w t st) j = q_a (ru_kw w t) j := by
  unfold ru_kr
  rw [q_a_sa, if_neg (by omega), q_a_sa, if_neg (by omega)]
set_option maxHeartbeats 200000 in
theorem kr_st {w : q_V} {t : Nat} {st : Int32} : q_a (ru_kr w t st) 2489 t = st := by
  unfold ru_kr
  rw [q_a_sa, if_neg (by omega), q_a_sa, if_pos rfl, upd_at]
set_option maxHeartbeats 200000 in
theorem kr_wi {w : q_V} {t : Nat} {st : Int32} : q_a (ru_kr w t st) 2491 t = if q_i w 2481 = 4 then q_i w 2484 else 0 := by
  unfold ru_kr
  rw [q_a_sa, if_pos rfl, upd_at]
set_option maxHeartbeats 200000 in
theorem kr_n {w : q_V} {t j n : Nat} {st : Int32} (h : n ≠ t) : q_a (ru_kr w t st) j n = q_a w j n := by
  unfold ru_kr
  rw [q_a_sa]; split
  · next e => subst e; rw [upd_ne h, kw_n h]
  · rw [q_a_sa]; split
    · next e => subst e; rw [upd_ne h, kw_n h]
    · rw [kw_n h]
set_option maxHeartbeats 200000 in
theorem kr_lo {w : q_V} {t j : Nat} {st : Int32} (h : j < 2489 ∨ 2500 < j ∨ j = 2490 ∨ j = 2492 ∨ j = 2493 ∨ j = 2494) : q_a (ru_kr w t st) j = q_a w j := by
  rw [kr_a (by omega), kw_a (by omega)]
/-- a way that is kept -/
def ru_kk (L : List (Nat × Nat)) (n r : Nat) (v w : q_V) : Prop := (q_f v 2000 n = 1 ∧ q_a w 2495 r = 0) ∨ ru_wy L (q_f v 2000 n) (q_f v 2001 n) (q_f v 2002 n) (q_f v 2003 n) (q_a w 2495 r) (q_a w 2496 r) (q_a w 2497 r) (q_a w 2498 r) (q_a w 2499 r) (q_a w 2500 r)
set_option maxHeartbeats 200000 in
theorem ru_kk_k {L : List (Nat × Nat)} {v w : q_V} {n t : Nat} {ph st : Int32} (h : ru_we L v w) (hn : n ≠ 168) : ru_kk L n t (ru_kc v n ph) (ru_kr w t st) := by
  unfold ru_kk
  obtain ⟨k1, k2, k3, k4, k5, k6⟩ := kw_at (w := w) (t := t)
  rw [kc_k hn (by omega) (by omega), kc_k hn (by omega) (by omega), kc_k hn (by omega) (by omega), kc_k hn (by omega) (by omega), kr_a (by omega), kr_a (by omega), kr_a (by omega), kr_a (by omega), kr_a (by omega), kr_a (by omega), k1, k2, k3, k4, k5, k6]
  exact h
set_option maxHeartbeats 200000 in
theorem ru_kk_c {L : List (Nat × Nat)} {v w v1 w1 : q_V} {n t : Nat} (h : ru_kk L n t v w) (h1 : ∀ k, 1200 ≤ k → q_f v1 k n = q_f v k n) (h2 : ∀ j, 2488 ≤ j → j ≤ 2500 → q_a w1 j t = q_a w j t) : ru_kk L n t v1 w1 := by
  unfold ru_kk
  rw [h1 2000 (by omega), h1 2001 (by omega), h1 2002 (by omega), h1 2003 (by omega), h2 2495 (by omega) (by omega), h2 2496 (by omega) (by omega), h2 2497 (by omega) (by omega), h2 2498 (by omega) (by omega), h2 2499 (by omega) (by omega), h2 2500 (by omega) (by omega)]
  exact h
section
variable {Fin : q_V → q_V → Prop} {a : ru_P} {T : co_T} {XL : Int32 → Int32 → Int32 → Prop} {f0 nu : Nat} {L : List (Nat × Nat)}
set_option maxHeartbeats 200000 in
/-- troubles of both sides -/
theorem ru_we_4 {v w : q_V} (h : ru_we L v w) : (q_f v 2000 168 = 4 ∧ q_i w 2481 = 4 ∧ q_f v 2001 168 = q_i w 2484 ∧ 0 < q_i w 2484) ∨ (q_f v 2000 168 ≠ 4 ∧ q_i w 2481 ≠ 4) := by
  rcases h with ⟨h1, h2⟩ | ⟨h1, h2, h3, h4, h5, h6⟩ | ⟨h1, h2, -⟩ | ⟨e, -, ⟨h1, h2⟩ | ⟨h1, h2⟩, -⟩
  · right; rw [h1, h2]; decide
  · left; exact ⟨h1, h2, h3, h6⟩
  · right; rw [h1, h2]; decide
  · right; rw [h1, h2]; decide
  · right; rw [h1, h2]; decide
set_option maxHeartbeats 200000 in
theorem ru_z_kr {w : q_V} {t : Nat} {st : Int32} : ru_z (ru_kr w t st) t = ru_z w t := ru_z_c (fun n hn => kr_n (by omega))
set_option maxHeartbeats 200000 in
theorem ru_D_kp {cl t np n : Nat} {v w : q_V} {ph st : Int32} (d : ru_D T XL cl t np v w) (we : ru_we L v w) : ru_D T XL cl (t + 1) np (ru_kc v n ph) (q_si (ru_kr w t st) 2481 0) := by
  obtain ⟨d1, d2, d3, d4, d5, d6⟩ := d
  have e : ∀ j, j < 2488 ∨ 2500 < j → q_a (q_si (ru_kr w t st) 2481 0) j = q_a w j := fun j hj => by rw [q_a_si, kr_lo (by omega)]
  have e0 : ∀ k, k ≠ 2481 → q_i (q_si (ru_kr w t st) 2481 0) k = q_i w k := fun k hk => by rw [q_i_si, if_neg hk, kr_i]
  refine ⟨?_, ?_, ?_, ?_, ⟨trivial, ?_, ?_, ?_, ?_⟩, ?_⟩
  · unfold ru_S at d1 ⊢
    rw [e 2448 (by omega), e 2449 (by omega), e 2450 (by omega), e 2451 (by omega), e 2452 (by omega), e 2453 (by omega), e 2454 (by omega), e 2455 (by omega), e 2456 (by omega), e 2457 (by omega), kc_a, kc_i (by omega)]
    refine ⟨d1.1, ?_, d1.2.2⟩
    unfold ru_B
    rw [kc_i (by omega)]; exact d1.2.1
  · unfold ru_A at d2 ⊢
    rw [e 2463 (by omega), e 2464 (by omega), e 2465 (by omega), e 2466 (by omega), e 2467 (by omega), kc_a]
    exact d2
  · unfold ru_Q at d3 ⊢
    rw [e 2468 (by omega), e 2469 (by omega), e0 2470 (by omega), e0 2471 (by omega), e0 2472 (by omega), e0 2473 (by omega), e0 2474 (by omega), e0 2475 (by omega), e0 2476 (by omega), e0 2477 (by omega), e0 2478 (by omega), e0 2479 (by omega), e0 2480 (by omega), e0 2524 (by omega), kc_a]
    exact d3
  · intro i hi
    obtain ⟨h1, h2, h3, x, h4, h5, h6, h7⟩ := d4 i hi
    rw [e 2504 (by omega), e 2505 (by omega), e 2506 (by omega), e 2507 (by omega), e 2508 (by omega), e 2509 (by omega), kc_c, kc_602 (by omega), kc_602 (by omega), kc_602 (by omega)]
    exact ⟨h1, h2, h3, x, h4, h5, h6, h7⟩
  · rw [kc_812, ru_z_s, q_a_si, kr_wi, ru_z_e (v := ru_kr w t st) (w := q_si (ru_kr w t st) 2481 0) rfl, ru_z_kr]
    rcases ru_we_4 we with ⟨x1, x2, x3, x4⟩ | ⟨x1, x2⟩
    · rw [if_pos x1, if_pos x2, if_neg (by
        rw [Int32.le_iff_toInt_le]
        rw [Int32.lt_iff_toInt_lt] at x4
        omega), x3]
    · rw [if_neg x1, if_neg x2, if_pos (by decide)]; exact d5.2.1
  · rw [kc_i (by omega)]; exact d5.2.2.1
  · rw [e0 2513 (by omega)]; exact d5.2.2.2.1
  · rw [e0 2514 (by omega)]; exact d5.2.2.2.2
  · unfold ru_H; rw [kc_a]; exact d6
set_option maxHeartbeats 200000 in
theorem ru_K_kc {np t h g cl n : Nat} {vc vr v w : q_V} {ph : Int32} (K : ru_K np t h g cl vc vr v w) (hn : np ≤ n) (hn2 : np ≤ 168) : ru_K np t h g cl vc vr (ru_kc v n ph) w := by
  refine ⟨fun k m x y => ?_, fun i x => ?_, K.2.2.1, K.2.2.2.1, K.2.2.2.2.1, ?_, fun i x => ?_⟩
  · rw [kc_f (by omega) (by omega)]; exact K.1 k m x y
  · rw [kc_a]; exact K.2.1 i x
  · rw [kc_a]; exact K.2.2.2.2.2.1
  · rw [kc_602 (by omega)]; exact K.2.2.2.2.2.2 i x
set_option maxHeartbeats 200000 in
theorem ru_K_kr {np t h g cl t' : Nat} {vc vr v w : q_V} {st : Int32} (K : ru_K np t h g cl vc vr v w) (ht : t ≤ t') : ru_K np t h g cl vc vr v (ru_kr w t' st) := by
  refine ⟨K.1, K.2.1, fun j n x y z => ⟨?_, ?_⟩, fun i x => ?_, fun i x => ?_, K.2.2.2.2.2⟩
  · rw [kr_n (by omega)]; exact (K.2.2.1 j n x y z).1
  · rw [kr_b]; exact (K.2.2.1 j n x y z).2
  · rw [kr_lo (by omega)]; exact K.2.2.2.1 i x
  · rw [kr_lo (by omega), kr_lo (by omega)]; exact K.2.2.2.2.1 i x
end
