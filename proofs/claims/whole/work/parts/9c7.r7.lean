set_option maxHeartbeats 200000 in
theorem lg_pos {x y : Int64} : (0 < lg_cmp x y) = (y < x) := by
  unfold lg_cmp
  apply propext
  by_cases h : x > y
  · rw [if_pos h]; exact ⟨fun _ => h, fun _ => by decide⟩
  · rw [if_neg h]
    refine ⟨fun k => ?_, fun k => absurd k h⟩
    by_cases h2 : x = y
    · rw [if_pos h2] at k; exact absurd k (by decide)
    · rw [if_neg h2] at k; exact absurd k (by decide)
set_option maxHeartbeats 200000 in
theorem i64_lt {x y : Int32} : (x.toInt64 < y.toInt64) = (x < y) := by
  rw [Int64.lt_iff_toInt_lt, Int32.lt_iff_toInt_lt, Int32.toInt_toInt64, Int32.toInt_toInt64]
set_option maxHeartbeats 200000 in
theorem i64_succ {x : Int32} (h : x.toInt < 2147483647) : (x.toInt64 + 1).toInt = x.toInt + 1 := by
  have h1 := Int32.le_toInt x
  rw [Int64.toInt_add, Int32.toInt_toInt64, show (1 : Int64).toInt = 1 from rfl, Int.bmod_eq_of_le (by omega) (by omega)]
set_option maxHeartbeats 200000 in
theorem i64_succ' {x : Int32} : (x.toInt64 + 1).toInt = x.toInt + 1 := by
  have h1 := Int32.le_toInt x
  have h2 := Int32.toInt_lt x
  rw [Int64.toInt_add, Int32.toInt_toInt64, show (1 : Int64).toInt = 1 from rfl, Int.bmod_eq_of_le (by omega) (by omega)]
set_option maxHeartbeats 200000 in
theorem i64_inc {x y : Int32} (h : x < y) : x.toInt64 + 1 = (x + 1).toInt64 := by
  have h1 := Int32.le_toInt x
  have h2 := Int32.toInt_lt y
  rw [Int32.lt_iff_toInt_lt] at h
  apply Int64.toInt_inj.1
  rw [i64_succ', Int32.toInt_toInt64, Int32.toInt_add, show (1 : Int32).toInt = 1 from rfl, Int.bmod_eq_of_le (by omega) (by omega)]
set_option maxHeartbeats 200000 in
theorem i64_over {x : Int32} : x.toInt64 < x.toInt64 + 1 := by
  rw [Int64.lt_iff_toInt_lt, i64_succ', Int32.toInt_toInt64]; omega
set_option maxHeartbeats 200000 in
theorem i32_nle {x y : Int32} (h : ¬ x ≤ y) : y < x := by
  rw [Int32.le_iff_toInt_le] at h; rw [Int32.lt_iff_toInt_lt]; omega
set_option maxHeartbeats 200000 in
theorem i32_ltne {x y : Int32} (h : x ≤ y) (h2 : x ≠ y) : x < y := by
  rw [Int32.le_iff_toInt_le] at h; rw [Int32.lt_iff_toInt_lt]
  have : x.toInt ≠ y.toInt := fun e => h2 (Int32.toInt_inj.1 e)
  omega
set_option maxHeartbeats 200000 in
theorem vpL_at {f : Nat → Int64} {k : Nat} {x : Int64} : vp_updL f k x k = x := by unfold vp_updL; rw [if_pos rfl]
def ru_eb (v : q_V) (t g d : Nat) (x y : Int32) : q_V := q_sb (q_sb (ru_op v t g 3 0 (nI d)) 2493 (vp_updL (q_b v 2493) t x.toInt64)) 2494 (vp_updL (q_b v 2494) t y.toInt64)
section
variable {Fin : q_V → q_V → Prop} {a : ru_P} {T : co_T} {XL : Int32 → Int32 → Int32 → Prop} {f0 nu : Nat} {L : List (Nat × Nat)}
set_option maxHeartbeats 200000 in
theorem rs_EB {vc vr : q_V} {q g f t cl d : Nat} (s : ru_S T vc vr) (ht : t < 240) (hg : g + 1 < 4000) (r0 : co_r T 0 q 46) (r1 : co_r T 1 q (nI d)) : fX12_step (mR vr q (g + 2) f t cl) = some (mR (ru_eb vr t g d (q_a vr 2515 g) (q_a vr 2515 (g + 1))) (q + 1) g f (t + 1) cl) := by
  rw [rs_step s r0, rd_46, q_bv_id, r1.2]
  unfold fX12_beginsEach fX12_stepOfStatement_b600 ru_eb
  rw [rs_pop (by omega), q_bd_s, rs_pop (by omega), q_bd_s, rs_opens ht, q_bv_s, mR_2487, ni_pred, if_neg (by rw [ni_in ht (by omega)]; exact id), q_lt_s, ni_clamp (by omega), mR_b, mR_sb, mR_2487, ni_pred, if_neg (by rw [ni_neg (by omega), ni_clamp (by omega), false_or]; omega), q_lt_s, mR_b, mR_sb, q_b_sb, if_neg (by omega), op_b, q_bv_s, ni_clamp (by omega)]
set_option maxHeartbeats 200000 in
theorem cs_EACH1 {vc vr : q_V} {p h f np cl px y : Nat} (s : ru_S T vc vr) (hh : h + 1 < 1680) (c0 : co_c T p 33) (c1 : co_c T (p + 1) (nI y)) (c2 : co_c T (p + 2) (nI px)) (z : ¬ q_a vc 802 h ≤ q_a vc 802 (h + 1)) : fX4_step (mC vc p (h + 2) f np cl) = some (mC vc px (h + 2) f np cl) := by
  rw [cs_step s c0, cd_33, q_bv_id, cs_S s c1, q_bd_s, cs_S s c2, q_bd_s]
  unfold fX4_beginRoundOfEach fX4_beginRoundOfEach_b41 fX4_flow_b272
  rw [cs_peek1 (by omega), q_bd_s, cs_peek0 (by omega), q_bd_s, if_neg z, q_lt_s, mC_s810, q_bv_s]
set_option maxHeartbeats 200000 in
theorem cs_EACH0 {vc vr : q_V} {p h np cl px y : Nat} (s : ru_S T vc vr) (hh : h + 1 < 1680) (c0 : co_c T p 33) (c1 : co_c T (p + 1) (nI y)) (c2 : co_c T (p + 2) (nI px)) (z : q_a vc 802 h ≤ q_a vc 802 (h + 1)) : fX4_step (mC vc p (h + 2) 0 np cl) = some (mC (q_si vc 814 2) (p + 3) (h + 2) 0 np cl) := by
  rw [cs_step s c0, cd_33, q_bv_id, cs_S s c1, q_bd_s, cs_S s c2, q_bd_s]
  unfold fX4_beginRoundOfEach fX4_beginRoundOfEach_b41 fX4_flow_b272
  rw [cs_peek1 (by omega), q_bd_s, cs_peek0 (by omega), q_bd_s, if_pos z, cs_spend0, q_bd_s, if_pos rfl, q_bv_s]
set_option maxHeartbeats 200000 in
theorem cs_EACH2 {vc vr : q_V} {p h f np cl px y : Nat} (s : ru_S T vc vr) (hh : h + 1 < 1680) (hcl : cl < 12) (hf : f < 20000) (hy : y < 24) (c0 : co_c T p 33) (c1 : co_c T (p + 1) (nI y)) (c2 : co_c T (p + 2) (nI px)) (z : q_a vc 802 h ≤ q_a vc 802 (h + 1)) : fX4_step (mC vc p (h + 2) (f + 1) np (cl + 1)) = some (mC (q_sc vc 600 cl (upd (q_c vc 600 cl) y (q_a vc 802 h))) (p + 3) (h + 2) f np (cl + 1)) := by
  rw [cs_step s c0, cd_33, q_bv_id, cs_S s c1, q_bd_s, cs_S s c2, q_bd_s]
  unfold fX4_beginRoundOfEach fX4_beginRoundOfEach_b41 fX4_flow_b272
  rw [cs_peek1 (by omega), q_bd_s, cs_peek0 (by omega), q_bd_s, if_pos z, cs_spend hf, q_bd_s, if_neg (by decide), cs_frame hcl, q_bd_s, cs_peek1 (by omega), q_bd_s, cs_fset hy, q_bv_s, q_bv_s, mC_c, mC_sc]
set_option maxHeartbeats 200000 in
theorem rs_TE {w : q_V} {q g f t cl d : Nat} {s : ru_S T w w → True} (ht : t < 240) : fX12_testsEach (nI d) (mR w q g f (t + 1) cl) = if q_b w 2494 t < q_b w 2493 t then fX12_testsEach_b28 (nI d) (nI t) 0 (mR w q g f (t + 1) cl) else fX12_testsEach_b28 (nI d) (nI t) 1 (mR w q g f (t + 1) cl) := by
  unfold fX12_testsEach
  rw [mR_2487, ni_pred, q_lt_s, if_neg (by rw [ni_in ht (by omega)]; exact id), if_neg (by rw [ni_in ht (by omega)]; exact id), ni_clamp (by omega), mR_b]
  simp only [lg_pos]
set_option maxHeartbeats 200000 in
theorem rs_ET1 {vc w : q_V} {q g f t cl d qx g' : Nat} (s : ru_S T vc w) (ht : t < 240) (hd : d < 640) (r0 : co_r T 0 q 47) (r1 : co_r T 1 q (nI d)) (r5 : co_d T 5 d (nI qx)) (eg : q_a w 2492 t = nI g') (z : q_b w 2494 t < q_b w 2493 t) : fX12_step (mR w q g f (t + 1) cl) = some (mR (q_si w 2481 0) qx g' f t cl) := by
  rw [rs_step s r0, rd_47, q_bv_id, r1.2, rs_TE (s := fun _ => trivial) (T := T) ht, if_pos z]
  unfold fX12_testsEach_b28 fX12_testsEach_b41 fX12_testsEach_b81 fX12_stepOfStatement_b600
  rw [if_pos rfl, if_pos rfl, rs_rounds0 hd ht (rs_5 s r5) eg, q_bv_s, q_bv_s]
set_option maxHeartbeats 200000 in
theorem rs_ET0 {vc w : q_V} {q g t cl d : Nat} (s : ru_S T vc w) (ht : t < 240) (r0 : co_r T 0 q 47) (r1 : co_r T 1 q (nI d)) (z : ¬ q_b w 2494 t < q_b w 2493 t) : fX12_step (mR w q g 0 (t + 1) cl) = some (mR (q_si w 2513 2) (q + 1) g 0 (t + 1) cl) := by
  rw [rs_step s r0, rd_47, q_bv_id, r1.2, rs_TE (s := fun _ => trivial) (T := T) ht, if_neg z]
  unfold fX12_testsEach_b28 fX12_stepOfStatement_b600
  rw [if_neg (by decide), rs_burn0, q_bd_s, if_pos rfl, q_bv_s]
def ru_et (w : q_V) (t k : Nat) : q_V := q_sb (q_sa w 2509 (upd (q_a w 2509) k (q_b w 2493 t).toInt32)) 2493 (vp_updL (q_b w 2493) t (q_b w 2493 t + 1))
set_option maxHeartbeats 200000 in
theorem rs_ET2 {vc w : q_V} {q g f t cl d y : Nat} {zz : Int32} (s : ru_S T vc w) (ht : t < 240) (hd : d < 640) (hf : f < 20000) (hcl : cl ≤ 12) (hy : y < 24) (r0 : co_r T 0 q 47) (r1 : co_r T 1 q (nI d)) (r4 : co_d T 4 d zz) (r7 : co_d T 7 d (nI y)) (z : ¬ q_b w 2494 t < q_b w 2493 t) : fX12_step (mR w q g (f + 1) (t + 1) cl) = some (mR (ru_rd (ru_et w t (24 * cl + y)) t (decide (zz ≠ -1))) (q + 1) g f (t + 1) cl) := by
  have e7 := rs_7 s r7
  have e4 : q_a (ru_et w t (24 * cl + y)) 2452 d = zz := by
    unfold ru_et
    rw [q_a_sb, q_a_sa, if_neg (by omega)]; exact rs_4 s r4
  rw [rs_step s r0, rd_47, q_bv_id, r1.2, rs_TE (s := fun _ => trivial) (T := T) ht, if_neg z]
  unfold fX12_testsEach_b28 fX12_testsEach_b41 fX12_testsEach_b81 fX12_stepOfStatement_b600
  rw [if_neg (by decide), rs_burn hf, q_bd_s, if_neg (by decide), if_neg (by decide), if_neg (by rw [ni_in hd (by omega)]; exact id), if_neg (by rw [ni_in ht (by omega)]; exact id), ni_clamp (by omega), mR_a, e7, mR_2501, ni_24, if_neg (by rw [ni_in (show 24 * cl + y < 312 by omega) (by omega)]; exact id), q_lt_s, if_neg (by rw [ni_in ht (by omega)]; exact id), if_neg (by rw [ni_in ht (by omega)]; exact id), q_lt_s, ni_clamp (by omega), ni_clamp (by omega), mR_b, mR_sa, mR_b, mR_sb, q_b_sa]
  rw [show q_sb (q_sa w 2509 (upd (q_a w 2509) (24 * cl + y) (q_b w 2493 t).toInt32)) 2493 (vp_updL (q_b w 2493) t (q_b w 2493 t + 1)) = ru_et w t (24 * cl + y) from rfl, rs_rounds1 hd ht e4, q_bv_s, q_bv_s]
set_option maxHeartbeats 200000 in
theorem cs_STEP0 {vc vr : q_V} {p h f np cl p1 : Nat} (s : ru_S T vc vr) (hh : h + 1 < 1680) (c0 : co_c T p 34) (c1 : co_c T (p + 1) (nI p1)) (z : q_a vc 802 h = q_a vc 802 (h + 1)) : fX4_step (mC vc p (h + 2) f np cl) = some (mC (ru_pc (ru_pc vc h (q_a vc 802 h)) (h + 1) (q_a vc 802 (h + 1))) (p + 2) (h + 2) f np cl) := by
  rw [cs_step s c0, cd_34, q_bv_id, cs_S s c1, q_bd_s]
  unfold fX4_stepEach fX4_stepEach_b23 fX4_stepEach_b42 fX4_jumpIf fX4_jumpIf_b9 fX4_flow_b272
  rw [cs_pop (by omega), q_bd_s, cs_pop (by omega), q_bd_s, if_pos z, cs_push (by omega), q_bv_s, cs_push (by omega), q_bv_s, if_pos z, if_pos rfl, q_bv_s, q_bv_s]; rfl
set_option maxHeartbeats 200000 in
theorem cs_STEP1 {vc vr : q_V} {p h f np cl p1 : Nat} (s : ru_S T vc vr) (hh : h + 1 < 1680) (c0 : co_c T p 34) (c1 : co_c T (p + 1) (nI p1)) (z : ¬ q_a vc 802 h = q_a vc 802 (h + 1)) : fX4_step (mC vc p (h + 2) f np cl) = some (mC (ru_pc (ru_pc vc h (q_a vc 802 h + 1)) (h + 1) (q_a vc 802 (h + 1))) p1 (h + 2) f np cl) := by
  rw [cs_step s c0, cd_34, q_bv_id, cs_S s c1, q_bd_s]
  unfold fX4_stepEach fX4_stepEach_b23 fX4_stepEach_b42 fX4_jumpIf fX4_jumpIf_b9 fX4_flow_b272
  rw [cs_pop (by omega), q_bd_s, cs_pop (by omega), q_bd_s, if_neg z, cs_push (by omega), q_bv_s, cs_push (by omega), q_bv_s, if_neg z, if_neg (by decide), q_lt_s, mC_s810, q_bv_s, q_bv_s]; rfl
set_option maxHeartbeats 200000 in
theorem cs_DROP2 {vc vr : q_V} {p h f np cl : Nat} (s : ru_S T vc vr) (hh : h < 1680) (c0 : co_c T p 26) (c1 : co_c T (p + 1) 2) : fX4_step (mC vc p (h + 2) f np cl) = some (mC vc (p + 2) h f np cl) := by
  rw [cs_step s c0, cd_26, q_bv_id, cs_S s c1, q_bd_s, mC_803, show nI (h + 2) - 2 = nI h from by rw [show (2 : Int32) = nI 2 from rfl, ni_sub (by omega)]; rfl, if_neg (by rw [ni_neg (by omega)]; exact id), q_lt_s, mC_s803]; rfl
end
