theorem q_bv_id {o : Option q_V} : q_bv o (fun T => some T) = o := by cases o <;> rfl
theorem q_si_si {v : q_V} {k : Nat} {x y : Int32} : q_si (q_si v k x) k y = q_si v k y := by
  refine q_ext (fun j => ?_) rfl rfl rfl rfl rfl rfl
  rw [q_i_si, q_i_si, q_i_si]; split <;> rfl
theorem q_si_id {v : q_V} {k : Nat} : q_si v k (q_i v k) = v := by
  refine q_ext (fun j => ?_) rfl rfl rfl rfl rfl rfl
  rw [q_i_si]; split
  · next h => rw [h]
  · rfl
theorem cs_wr {v : q_V} {s n : Int32} : fX7_write s n v = some (ru_wr v s n) := by
  unfold fX7_write fX7_write_b33 ru_wr
  simp only [show (16 : Int32).toNatClampNeg = 16 from rfl, q_bd_s, q_bv_s, q_lt_s, q_i_si, q_i_sj, q_i_sa, q_i_sb, q_i_sf, q_i_sc, q_j_si, q_j_sj, q_j_sa, q_j_sb, q_j_sf, q_j_sc, q_a_si, q_a_sj, q_a_sa, q_a_sb, q_a_sf, q_a_sc, q_b_si, q_b_sj, q_b_sa, q_b_sb, q_b_sf, q_b_sc, q_f_si, q_f_sj, q_f_sa, q_f_sb, q_f_sf, q_f_sc, q_c_si, q_c_sj, q_c_sa, q_c_sb, q_c_sf, q_c_sc, q_n_si, q_n_sj, q_n_sa, q_n_sb, q_n_sf, q_n_sc, Nat.reduceEqDiff, Nat.reduceAdd, ↓reduceIte, Int32.reduceLT, Int32.reduceLE, Nat.reduceLeDiff, ni_neg, ni_clamp, ni_lef, or_self, or_false, false_or, ni_add1, ni_pred]
  by_cases h1 : q_a v 1400 16 < 0
  · simp only [h1, true_or, q_sa_id, q_bd_s, q_bv_s, q_lt_s, q_i_si, q_i_sj, q_i_sa, q_i_sb, q_i_sf, q_i_sc, q_j_si, q_j_sj, q_j_sa, q_j_sb, q_j_sf, q_j_sc, q_a_si, q_a_sj, q_a_sa, q_a_sb, q_a_sf, q_a_sc, q_b_si, q_b_sj, q_b_sa, q_b_sb, q_b_sf, q_b_sc, q_f_si, q_f_sj, q_f_sa, q_f_sb, q_f_sf, q_f_sc, q_c_si, q_c_sj, q_c_sa, q_c_sb, q_c_sf, q_c_sc, q_n_si, q_n_sj, q_n_sa, q_n_sb, q_n_sf, q_n_sc, Nat.reduceEqDiff, Nat.reduceAdd, ↓reduceIte, Int32.reduceLT, Int32.reduceLE, Nat.reduceLeDiff, ni_neg, ni_clamp, ni_lef, or_self, or_false, false_or, ni_add1, ni_pred]
  · by_cases h2 : (300 : Int32) ≤ q_a v 1400 16
    · simp only [h1, h2, or_true, q_sa_id, q_bd_s, q_bv_s, q_lt_s, q_i_si, q_i_sj, q_i_sa, q_i_sb, q_i_sf, q_i_sc, q_j_si, q_j_sj, q_j_sa, q_j_sb, q_j_sf, q_j_sc, q_a_si, q_a_sj, q_a_sa, q_a_sb, q_a_sf, q_a_sc, q_b_si, q_b_sj, q_b_sa, q_b_sb, q_b_sf, q_b_sc, q_f_si, q_f_sj, q_f_sa, q_f_sb, q_f_sf, q_f_sc, q_c_si, q_c_sj, q_c_sa, q_c_sb, q_c_sf, q_c_sc, q_n_si, q_n_sj, q_n_sa, q_n_sb, q_n_sf, q_n_sc, Nat.reduceEqDiff, Nat.reduceAdd, ↓reduceIte, Int32.reduceLT, Int32.reduceLE, Nat.reduceLeDiff, ni_neg, ni_clamp, ni_lef, or_self, or_false, false_or, ni_add1, ni_pred]
    · obtain ⟨m, hm, e⟩ := ni_ex h1
      have h3 : m < 300 := by
        rw [e, show (300 : Int32) = nI 300 from rfl, ni_le (by omega) hm] at h2; omega
      simp only [h1, h2, ↓reduceIte, or_self]
      simp (disch := omega) only [e, q_bd_s, q_bv_s, q_lt_s, q_i_si, q_i_sj, q_i_sa, q_i_sb, q_i_sf, q_i_sc, q_j_si, q_j_sj, q_j_sa, q_j_sb, q_j_sf, q_j_sc, q_a_si, q_a_sj, q_a_sa, q_a_sb, q_a_sf, q_a_sc, q_b_si, q_b_sj, q_b_sa, q_b_sb, q_b_sf, q_b_sc, q_f_si, q_f_sj, q_f_sa, q_f_sb, q_f_sf, q_f_sc, q_c_si, q_c_sj, q_c_sa, q_c_sb, q_c_sf, q_c_sc, q_n_si, q_n_sj, q_n_sa, q_n_sb, q_n_sf, q_n_sc, Nat.reduceEqDiff, Nat.reduceAdd, ↓reduceIte, Int32.reduceLT, Int32.reduceLE, Nat.reduceLeDiff, ni_neg, ni_clamp, ni_lef, or_self, or_false, false_or, ni_add1, ni_pred]
def ru_be (v : q_V) (s n : Int32) : q_V := q_sf (q_sf v 2000 168 s) 2001 168 n
def ru_tc (v : q_V) (k : Int32) : q_V := q_sf (q_sf (ru_be (ru_wr (ru_ct v 12) 7 k) 4 k) 2002 168 (q_i v 812)) 2003 168 (q_i v 811)
theorem cs_trouble {v : q_V} {k : Int32} : fX4_trouble k v = some (ru_tc v k) := by
  unfold fX4_trouble fX10_become
  simp only [cs_ct12, cs_wr, q_bv_s, q_lt_s]
  unfold ru_tc ru_be
  rfl
theorem mC_ct {v : q_V} {p h f np cl k : Nat} : ru_ct (mC v p h f np cl) k = mC (ru_ct v k) p h f np cl := rfl
theorem mC_wr {v : q_V} {s n : Int32} {p h f np cl : Nat} : ru_wr (mC v p h f np cl) s n = mC (ru_wr v s n) p h f np cl := by
  rfl
theorem mC_be {v : q_V} {s n : Int32} {p h f np cl : Nat} : ru_be (mC v p h f np cl) s n = mC (ru_be v s n) p h f np cl := rfl
theorem mC_tc {v : q_V} {k : Int32} {p h f np cl : Nat} : ru_tc (mC v p h f np cl) k = mC (ru_tc v k) p h f np cl := by
  rfl
/-! the reference -/
theorem rs_push {v : q_V} {x : Int32} {q g f t cl : Nat} (hg : g < 4000) : fX12_push x (mR v q g f t cl) = some (mR (q_sa v 2515 (upd (q_a v 2515) g x)) q (g + 1) f t cl) := by
  unfold fX12_push
  simp (disch := omega) only [mR_2516, ni_neg, ni_clamp, ni_lef, or_self, ↓reduceIte, q_lt_s, mR_sa, ni_add1, mR_s2516, mR_a]
theorem rs_pop {v : q_V} {q g f t cl : Nat} (hg : g < 4000) : fX12_pop (mR v q (g + 1) f t cl) = some (q_a v 2515 g, mR v q g f t cl) := by
  unfold fX12_pop
  simp (disch := omega) only [mR_2516, ni_pred, mR_s2516, ni_neg, ni_clamp, ni_lef, or_self, ↓reduceIte, q_lt_s, mR_a]
theorem rs_burn {v : q_V} {q g f t cl : Nat} (hf : f < 20000) : fX12_burns (mR v q g (f + 1) t cl) = some (1, mR v q g f t cl) := by
  unfold fX12_burns
  simp (disch := omega) only [mR_2512, ni_e0, ni_pred, mR_s2512, ↓reduceIte, q_lt_s]
theorem rs_burn0 {v : q_V} {q g t cl : Nat} : fX12_burns (mR v q g 0 t cl) = some (0, mR (q_si v 2513 2) q g 0 t cl) := by
  unfold fX12_burns
  rw [mR_2512, if_pos (by decide), q_lt_s, mR_s2513]
def ru_op (v : q_V) (t g : Nat) (s st d : Int32) : q_V := q_sa (q_sa (q_sa (q_sa (q_sa v 2488 (upd (q_a v 2488) t s)) 2489 (upd (q_a v 2489) t st)) 2490 (upd (q_a v 2490) t d)) 2491 (upd (q_a v 2491) t 0)) 2492 (upd (q_a v 2492) t (nI g))
theorem rs_opens {v : q_V} {x1 x2 x3 : Int32} {q g f t cl : Nat} (ht : t < 240) : fX12_opens x1 x2 x3 (mR v q g f t cl) = some (mR (ru_op v t g x1 x2 x3) q g f (t + 1) cl) := by
  unfold fX12_opens
  rw [mR_2487]
  rw [if_neg (by rw [ni_in ht (by omega)]; exact id), q_lt_s, mR_sa, mR_2487]
  rw [if_neg (by rw [ni_in ht (by omega)]; exact id), q_lt_s, mR_sa, mR_2487]
  rw [if_neg (by rw [ni_in ht (by omega)]; exact id), q_lt_s, mR_sa, mR_2487]
  rw [if_neg (by rw [ni_in ht (by omega)]; exact id), q_lt_s, mR_sa, mR_2487]
  rw [if_neg (by rw [ni_in ht (by omega)]; exact id), q_lt_s, mR_sa, mR_2487]
  rw [q_lt_s, ni_add1, mR_s2487, mR_2516, ni_clamp (by omega)]
  rfl
def ru_kw (v : q_V) (r : Nat) : q_V := q_sa (q_sa (q_sa (q_sa (q_sa (q_sa v 2495 (upd (q_a v 2495) r (q_i v 2481))) 2496 (upd (q_a v 2496) r (q_i v 2482))) 2497 (upd (q_a v 2497) r (q_i v 2483))) 2498 (upd (q_a v 2498) r (q_i v 2484))) 2499 (upd (q_a v 2499) r (q_i v 2485))) 2500 (upd (q_a v 2500) r (q_i v 2486))
theorem rs_keep {v : q_V} {r : Nat} (h : r < 240) : fX12_keepWay (nI r) v = some (ru_kw v r) := by
  unfold fX12_keepWay
  simp (disch := omega) only [ru_kw, q_bd_s, q_bv_s, q_lt_s, q_i_si, q_i_sj, q_i_sa, q_i_sb, q_i_sf, q_i_sc, q_j_si, q_j_sj, q_j_sa, q_j_sb, q_j_sf, q_j_sc, q_a_si, q_a_sj, q_a_sa, q_a_sb, q_a_sf, q_a_sc, q_b_si, q_b_sj, q_b_sa, q_b_sb, q_b_sf, q_b_sc, q_f_si, q_f_sj, q_f_sa, q_f_sb, q_f_sf, q_f_sc, q_c_si, q_c_sj, q_c_sa, q_c_sb, q_c_sf, q_c_sc, q_n_si, q_n_sj, q_n_sa, q_n_sb, q_n_sf, q_n_sc, Nat.reduceEqDiff, Nat.reduceAdd, ↓reduceIte, Int32.reduceLT, Int32.reduceLE, Nat.reduceLeDiff, ni_neg, ni_clamp, ni_lef, or_self, or_false, false_or, ni_add1, ni_pred]
def ru_tw (v : q_V) (r : Nat) : q_V := q_si (q_si (q_si (q_si (q_si (q_si v 2481 (q_a v 2495 r)) 2482 (q_a v 2496 r)) 2483 (q_a v 2497 r)) 2484 (q_a v 2498 r)) 2485 (q_a v 2499 r)) 2486 (q_a v 2500 r)
theorem rs_take {v : q_V} {r : Nat} (h : r < 240) : fX12_takeWay (nI r) v = some (ru_tw v r) := by
  unfold fX12_takeWay
  simp (disch := omega) only [ru_tw, q_bd_s, q_bv_s, q_lt_s, q_i_si, q_i_sj, q_i_sa, q_i_sb, q_i_sf, q_i_sc, q_j_si, q_j_sj, q_j_sa, q_j_sb, q_j_sf, q_j_sc, q_a_si, q_a_sj, q_a_sa, q_a_sb, q_a_sf, q_a_sc, q_b_si, q_b_sj, q_b_sa, q_b_sb, q_b_sf, q_b_sc, q_f_si, q_f_sj, q_f_sa, q_f_sb, q_f_sf, q_f_sc, q_c_si, q_c_sj, q_c_sa, q_c_sb, q_c_sf, q_c_sc, q_n_si, q_n_sj, q_n_sa, q_n_sb, q_n_sf, q_n_sc, Nat.reduceEqDiff, Nat.reduceAdd, ↓reduceIte, Int32.reduceLT, Int32.reduceLE, Nat.reduceLeDiff, ni_neg, ni_clamp, ni_lef, or_self, or_false, false_or, ni_add1, ni_pred]
theorem mR_kw {v : q_V} {q g f t cl r : Nat} : ru_kw (mR v q g f t cl) r = mR (ru_kw v r) q g f t cl := rfl
theorem mR_tw {v : q_V} {q g f t cl r : Nat} : ru_tw (mR v q g f t cl) r = mR (ru_tw v r) q g f t cl := by
  unfold ru_tw; simp only [mR_s2481, mR_s2482, mR_s2483, mR_s2484, mR_s2485, mR_s2486, mR_a]
def ru_nt (v : q_V) (s n : Int32) : q_V :=
  q_si (q_sa (q_sa v 2468 (if 300 ≤ q_i v 2470 then q_a v 2468 else upd (q_a v 2468) (q_i v 2470).toNatClampNeg s)) 2469 (if 300 ≤ q_i v 2470 then q_a v 2469 else upd (q_a v 2469) (q_i v 2470).toNatClampNeg n)) 2470 (q_i v 2470 + 1)
theorem rs_note {v : q_V} {s n : Int32} (h : ¬ q_i v 2470 < 0) : fX12_note s n v = some (ru_nt v s n) := by
  unfold fX12_note fX12_note_b30 ru_nt
  by_cases h2 : (300 : Int32) ≤ q_i v 2470
  · simp only [h2, ↓reduceIte, q_lt_s, q_sa_id]
  · obtain ⟨m, hm, e⟩ := ni_ex h
    have h3 : m < 300 := by
      rw [e, show (300 : Int32) = nI 300 from rfl, ni_le (by omega) hm] at h2; omega
    simp only [h2, ↓reduceIte, or_self]
    simp (disch := omega) only [e, q_bd_s, q_bv_s, q_lt_s, q_i_si, q_i_sj, q_i_sa, q_i_sb, q_i_sf, q_i_sc, q_j_si, q_j_sj, q_j_sa, q_j_sb, q_j_sf, q_j_sc, q_a_si, q_a_sj, q_a_sa, q_a_sb, q_a_sf, q_a_sc, q_b_si, q_b_sj, q_b_sa, q_b_sb, q_b_sf, q_b_sc, q_f_si, q_f_sj, q_f_sa, q_f_sb, q_f_sf, q_f_sc, q_c_si, q_c_sj, q_c_sa, q_c_sb, q_c_sf, q_c_sc, q_n_si, q_n_sj, q_n_sa, q_n_sb, q_n_sf, q_n_sc, Nat.reduceEqDiff, Nat.reduceAdd, ↓reduceIte, Int32.reduceLT, Int32.reduceLE, Nat.reduceLeDiff, ni_neg, ni_clamp, ni_lef, or_self, or_false, false_or, ni_add1, ni_pred]
theorem mR_nt {v : q_V} {s n : Int32} {q g f t cl : Nat} : ru_nt (mR v q g f t cl) s n = mR (ru_nt v s n) q g f t cl := by
  unfold ru_nt
  rw [mR_a, show q_i (mR v q g f t cl) 2470 = q_i v 2470 from rfl, mR_sa, mR_sa, mR_s2470]
theorem rs_goes {v : q_V} {r q' g' q g f t cl : Nat} (hr : r < 240) (e : q_a v 2492 r = nI g') : fX12_goes (nI r) (nI q') (mR v q g f t cl) = some (mR (q_si v 2481 0) q' g' f t cl) := by
  unfold fX12_goes
  simp (disch := omega) only [ni_neg, ni_clamp, ni_lef, or_self, ↓reduceIte, q_lt_s, mR_s2481, mR_a, q_a_si, e, mR_s2516, mR_s2510]
/-- the kind of trouble within which things are done -/
def ru_z (v : q_V) : Nat → Int32
  | 0 => 0
  | k + 1 => if q_a v 2491 k ≤ 0 then ru_z v k else q_a v 2491 k
def ru_tr (v : q_V) (t : Nat) (k : Int32) : q_V := ru_nt (q_si (q_si (q_si (q_si (q_si v 2481 4) 2484 k) 2485 (ru_z v t)) 2486 (q_i v 2511)) 2477 (q_i v 2477 + 1)) 7 k
theorem rs_tr_L {v : q_V} {k : Int32} {q g f t cl : Nat} (ht : t < 240) (hl : ¬ q_i v 2470 < 0) : ∀ (j n : Nat), j ≤ t → t < n + j → fX12_trouble_L17 k n (nI j) (mR (q_si v 2485 (ru_z v j)) q g f t cl) = fX12_leaves (mR (ru_nt (q_si (q_si (q_si v 2485 (ru_z v t)) 2486 (q_i v 2511)) 2477 (q_i v 2477 + 1)) 7 k) q g f t cl) := by
  intro j n
  induction n generalizing j with
  | zero => intro h1 h2; omega
  | succ n ih =>
    intro h1 h2
    unfold fX12_trouble_L17
    rw [mR_2487]
    by_cases c : t = j
    · subst c
      rw [if_pos (by rw [ni_le (by omega) (by omega)]; omega)]
      simp only [q_lt_s, q_bv_id, mR_s2486, mR_s2477]
      rw [rs_note (by simp only [mR_2510, mR_2516, mR_2512, mR_2487, mR_2501, mR_s2510, mR_s2516, mR_s2512, mR_s2487, mR_s2501, mR_s2470, mR_s2471, mR_s2472, mR_s2473, mR_s2474, mR_s2475, mR_s2476, mR_s2477, mR_s2478, mR_s2479, mR_s2480, mR_s2481, mR_s2482, mR_s2483, mR_s2484, mR_s2485, mR_s2486, mR_s2511, mR_s2513, mR_s2514, mR_i, mR_j, mR_a, mR_b, mR_f, mR_c, mR_n, mR_sa, mR_sb, mR_sf, mR_sc, q_bd_s, q_bv_s, q_lt_s, q_i_si, q_i_sj, q_i_sa, q_i_sb, q_i_sf, q_i_sc, q_j_si, q_j_sj, q_j_sa, q_j_sb, q_j_sf, q_j_sc, q_a_si, q_a_sj, q_a_sa, q_a_sb, q_a_sf, q_a_sc, q_b_si, q_b_sj, q_b_sa, q_b_sb, q_b_sf, q_b_sc, q_f_si, q_f_sj, q_f_sa, q_f_sb, q_f_sf, q_f_sc, q_c_si, q_c_sj, q_c_sa, q_c_sb, q_c_sf, q_c_sc, q_n_si, q_n_sj, q_n_sa, q_n_sb, q_n_sf, q_n_sc, Nat.reduceEqDiff, Nat.reduceAdd, ↓reduceIte, Int32.reduceLT, Int32.reduceLE, Nat.reduceLeDiff, ni_neg, ni_clamp, ni_lef, or_self, or_false, false_or, ni_add1, ni_pred]; exact hl), q_bv_s, mR_nt]
      simp only [mR_2510, mR_2516, mR_2512, mR_2487, mR_2501, mR_s2510, mR_s2516, mR_s2512, mR_s2487, mR_s2501, mR_s2470, mR_s2471, mR_s2472, mR_s2473, mR_s2474, mR_s2475, mR_s2476, mR_s2477, mR_s2478, mR_s2479, mR_s2480, mR_s2481, mR_s2482, mR_s2483, mR_s2484, mR_s2485, mR_s2486, mR_s2511, mR_s2513, mR_s2514, mR_i, mR_j, mR_a, mR_b, mR_f, mR_c, mR_n, mR_sa, mR_sb, mR_sf, mR_sc, q_bd_s, q_bv_s, q_lt_s, q_i_si, q_i_sj, q_i_sa, q_i_sb, q_i_sf, q_i_sc, q_j_si, q_j_sj, q_j_sa, q_j_sb, q_j_sf, q_j_sc, q_a_si, q_a_sj, q_a_sa, q_a_sb, q_a_sf, q_a_sc, q_b_si, q_b_sj, q_b_sa, q_b_sb, q_b_sf, q_b_sc, q_f_si, q_f_sj, q_f_sa, q_f_sb, q_f_sf, q_f_sc, q_c_si, q_c_sj, q_c_sa, q_c_sb, q_c_sf, q_c_sc, q_n_si, q_n_sj, q_n_sa, q_n_sb, q_n_sf, q_n_sc, Nat.reduceEqDiff, Nat.reduceAdd, ↓reduceIte, Int32.reduceLT, Int32.reduceLE, Nat.reduceLeDiff, ni_neg, ni_clamp, ni_lef, or_self, or_false, false_or, ni_add1, ni_pred]
    · rw [if_neg (by rw [ni_le (by omega) (by omega)]; omega)]
      have ih' := ih (j + 1) (by omega) (by omega)
      unfold fX12_trouble_b48
      simp (disch := omega) only [ni_neg, ni_clamp, ni_lef, or_self, ↓reduceIte, q_lt_s, mR_a, q_a_si, mR_s2485, ni_add1, q_si_si]
      have e9 : ru_z v (j + 1) = if q_a v 2491 j ≤ 0 then ru_z v j else q_a v 2491 j := rfl
      rw [e9] at ih'
      by_cases c2 : q_a v 2491 j ≤ 0
      · simp only [c2, ↓reduceIte] at ih' ⊢
        exact ih'
      · simp only [c2, ↓reduceIte] at ih' ⊢
        exact ih'
