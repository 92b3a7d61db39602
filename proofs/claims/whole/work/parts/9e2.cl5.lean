set_option maxHeartbeats 200000 in
theorem q_sc_sc {v : q_V} {k n : Nat} {x y : Nat → Int32} : q_sc (q_sc v k n x) k n y = q_sc v k n y := by
  refine q_ext (fun _ => rfl) rfl rfl rfl rfl (funext fun j => funext fun m => ?_) rfl
  rw [q_c_sc, q_c_sc, q_c_sc]; split <;> rfl
set_option maxHeartbeats 200000 in
theorem q_sc_id {v : q_V} {k n : Nat} : q_sc v k n (q_c v k n) = v := by
  refine q_ext (fun _ => rfl) rfl rfl rfl rfl (funext fun j => funext fun m => ?_) rfl
  rw [q_c_sc]; split
  · next h => rw [h.1, h.2]
  · rfl
set_option maxHeartbeats 200000 in
theorem q_sa_sa {v : q_V} {k : Nat} {x y : Nat → Int32} : q_sa (q_sa v k x) k y = q_sa v k y := by
  refine q_ext (fun _ => rfl) rfl (funext fun j => ?_) rfl rfl rfl rfl
  rw [q_a_sa, q_a_sa, q_a_sa]; split <;> rfl
def ru_cf (v : q_V) (i : Nat) : q_V := q_sf (q_sf (q_sf (q_sc v 600 i (fun x => if x < 24 then 0 else q_c v 600 i x)) 602 i 0) 603 i 0) 604 i 0
set_option maxHeartbeats 200000 in
theorem cs_clear_L {v : q_V} {i : Nat} : ∀ n j, j ≤ 24 → 24 < n + j → fX3_clear_L2 i n (nI j) (q_sc v 600 i (fun x => if x < j then 0 else q_c v 600 i x)) = some (ru_cf v i) := by
  intro n
  induction n with
  | zero => intro j h1 h2; omega
  | succ n ih =>
    intro j h1 h2
    unfold fX3_clear_L2
    by_cases c : j = 24
    · subst c
      rw [if_pos (by decide), q_lt_s, q_lt_s, q_lt_s]; rfl
    · rw [if_neg (by rw [show (24 : Int32) = nI 24 from rfl, ni_le (by omega) (by omega)]; omega), if_neg (by rw [ni_in (show j < 24 by omega) (by omega)]; exact id), q_lt_s, q_lt_s, ni_add1, ni_clamp (by omega), q_sc_sc, q_c_sc, if_pos ⟨rfl, rfl⟩]
      have e : upd (fun x => if x < j then 0 else q_c v 600 i x) j 0 = fun x => if x < j + 1 then 0 else q_c v 600 i x := by
        funext x
        unfold upd
        by_cases c2 : x = j
        · rw [if_pos c2, if_pos (by omega)]
        · rw [if_neg c2]
          show (if x < j then (0 : Int32) else q_c v 600 i x) = _
          by_cases c3 : x < j
          · rw [if_pos c3, if_pos (by omega)]
          · rw [if_neg c3, if_neg (by omega)]
      rw [e]; exact ih (j + 1) (by omega) (by omega)
set_option maxHeartbeats 200000 in
theorem cs_clear {v : q_V} {i : Nat} : fX3_clear i v = some (ru_cf v i) := by
  have h := cs_clear_L (v := v) (i := i) q_N 0 (by omega) (by unfold q_N; omega)
  have e : (fun x => if x < 0 then 0 else q_c v 600 i x) = q_c v 600 i := by
    funext x; rw [if_neg (by omega)]
  rw [e, q_sc_id] at h
  exact h
set_option maxHeartbeats 200000 in
theorem mC_cf {v : q_V} {i p h f np cl : Nat} : ru_cf (mC v p h f np cl) i = mC (ru_cf v i) p h f np cl := by
  unfold ru_cf
  rw [mC_c, mC_sc, mC_sf, mC_sf, mC_sf]
section
variable {Fin : q_V → q_V → Prop} {a : ru_P} {T : co_T} {XL : Int32 → Int32 → Int32 → Prop} {f0 nu : Nat} {L : List (Nat × Nat)}
set_option maxHeartbeats 200000 in
theorem ni_5 {d j : Nat} : 5 * nI d + nI j = nI (5 * d + j) := by
  rw [show (5 : Int32) = nI 5 from rfl, ← ni_add]; congr 1; exact (Int32.ofNat_mul 5 d).symm
set_option maxHeartbeats 200000 in
theorem cs_fact {vc vr : q_V} {d j k pe qe p h f np cl : Nat} (s : ru_S T vc vr) (hT : T.2.2.2 d = some (k, pe, qe)) (hj : j < 5) : fX0_fact (nI d) (nI j) (mC vc p h f np cl) = some (q_a vc 2 (5 * d + j), mC vc p h f np cl) := by
  obtain ⟨s1, s2, s3, s4, D, s5, s6, s7⟩ := s
  obtain ⟨t1, t2, t3, t4, t5⟩ := s7 d k pe qe hT
  unfold fX0_fact fX0_fact_b41
  rw [ni_5, q_lt_s, if_neg (by rw [ni_neg (by omega)]; exact id), show q_i (mC vc p h f np cl) 3 = q_i vc 3 from rfl, s6, if_neg (by rw [ni_le (by omega) (by omega)]; omega), if_neg (by rw [ni_neg (by omega)]; exact id), mC_n, s4, if_neg (by rw [ni_le (by omega) (by omega)]; omega), if_neg (by rw [ni_in (show 5 * d + j < 150 by omega) (by omega)]; exact id), ni_clamp (by omega), mC_a]
/-- the slots of a call -/
def ru_sl (v : q_V) (i h k j : Nat) : Nat → Int32 := fun x => if j ≤ x ∧ x < k then q_a v 802 (h + x) else if x < 24 then 0 else q_c v 600 i x
def ru_c1 (v : q_V) (i h k np p : Nat) : q_V := q_sf (q_sf (ru_bg (q_sc (ru_cf (ru_ct v 15) i) 600 i (ru_sl v i h k 0)) np h 53 (nI 0)) 1205 np (nI p)) 1206 np (q_i v 811)
set_option maxHeartbeats 200000 in
theorem cf_a {v : q_V} {i : Nat} : q_a (ru_cf v i) = q_a v := by unfold ru_cf; rw [q_a_sf, q_a_sf, q_a_sf, q_a_sc]
set_option maxHeartbeats 200000 in
theorem cf_i {v : q_V} {i : Nat} : q_i (ru_cf v i) = q_i v := by unfold ru_cf; rw [q_i_sf, q_i_sf, q_i_sf, q_i_sc]
set_option maxHeartbeats 200000 in
theorem cf_n {v : q_V} {i : Nat} : q_n (ru_cf v i) = q_n v := by unfold ru_cf; rw [q_n_sf, q_n_sf, q_n_sf, q_n_sc]
set_option maxHeartbeats 200000 in
theorem c1_a {v : q_V} {i h k np p j : Nat} (hj : j ≠ 1400) : q_a (ru_c1 v i h k np p) j = q_a v j := by
  unfold ru_c1; rw [q_a_sf, q_a_sf, bg_a, q_a_sc, cf_a, ct_a hj]
set_option maxHeartbeats 200000 in
theorem c1_i {v : q_V} {i h k np p : Nat} : q_i (ru_c1 v i h k np p) = q_i v := by
  unfold ru_c1; rw [q_i_sf, q_i_sf, bg_i, q_i_sc, cf_i, ct_i]
set_option maxHeartbeats 200000 in
theorem bg_n {v : q_V} {np h : Nat} {x y : Int32} : q_n (ru_bg v np h x y) = q_n v := by unfold ru_bg; rw [q_n_sf, q_n_sf, q_n_sf, q_n_sf, q_n_sf]
set_option maxHeartbeats 200000 in
theorem c1_n {v : q_V} {i h k np p : Nat} : q_n (ru_c1 v i h k np p) = q_n v := by
  unfold ru_c1; rw [q_n_sf, q_n_sf, bg_n, q_n_sc, cf_n]; rfl
set_option maxHeartbeats 200000 in
theorem ru_S_e2 {v v' w w' : q_V} (s : ru_S T v w) (e0 : q_a v' 0 = q_a v 0) (e1 : q_a v' 2 = q_a v 2) (e2 : q_i v' 1 = q_i v 1) (e3 : q_i v' 3 = q_i v 3) (e4 : q_n v' = q_n v) (e5 : ∀ j, 2448 ≤ j → j ≤ 2457 → q_a w' j = q_a w j) : ru_S T v' w' := by
  unfold ru_S ru_B at s ⊢
  rw [e0, e1, e2, e3, e4, e5 2448 (by omega) (by omega), e5 2449 (by omega) (by omega), e5 2450 (by omega) (by omega), e5 2451 (by omega) (by omega), e5 2452 (by omega) (by omega), e5 2453 (by omega) (by omega), e5 2454 (by omega) (by omega), e5 2455 (by omega) (by omega), e5 2456 (by omega) (by omega), e5 2457 (by omega) (by omega)]
  exact s
set_option maxHeartbeats 200000 in
theorem cs_call_L {vc vr : q_V} {d k pe qe i h p f np cl : Nat} (s : ru_S T vc vr) (hT : T.2.2.2 d = some (k, pe, qe)) (hnp : np < 168) (hh : h + k < 1680) (hk : k ≤ 8) : ∀ j n, j ≤ k → j < n → fX4_call_L62 (nI d) n i (nI j - 1) (mC (q_sc (ru_cf (ru_ct vc 15) i) 600 i (ru_sl vc i h k j)) p (h + j) f np cl) = some (mC (ru_c1 vc i h k np p) pe h f (np + 1) cl) := by
  intro j
  induction j with
  | zero =>
    intro n h1 h2
    obtain ⟨n, rfl⟩ : ∃ m, n = m + 1 := ⟨n - 1, by omega⟩
    have sb : ru_S T (ru_c1 vc i h k np p) vr := ru_S_e2 s (c1_a (by omega)) (c1_a (by omega)) (by rw [c1_i]) (by rw [c1_i]) c1_n (fun _ _ _ => rfl)
    have e5 := (s.2.2.2.2.choose_spec.2.2 d k pe qe hT).2.2.2.1
    have e811 : q_i (mC (q_sf (ru_bg (q_sc (ru_cf (ru_ct vc 15) i) 600 i (ru_sl vc i h k 0)) np h 53 (nI 0)) 1205 np (nI p)) p h f (np + 1) cl) 811 = q_i vc 811 := by
      rw [mC_i, if_neg (by omega), if_neg (by omega), if_neg (by omega), if_neg (by omega), if_neg (by omega), q_i_sf, bg_i, q_i_sc, cf_i, ct_i]
    have ef := cs_fact (p := p) (h := h) (f := f) (np := np + 1) (cl := cl) sb hT (show 4 < 5 by omega)
    unfold fX4_call_L62
    rw [if_pos (by decide), show (0 : Int32) = nI 0 from rfl, Nat.add_zero, cs_begin hnp, q_bd_s, mC_810, mC_sf, q_lt_s, e811, mC_sf, q_lt_s]
    unfold fX0_entry
    rw [show (4 : Int32) = nI 4 from rfl, show q_sf (q_sf (ru_bg (q_sc (ru_cf (ru_ct vc 15) i) 600 i (ru_sl vc i h k 0)) np h 53 (nI 0)) 1205 np (nI p)) 1206 np (q_i vc 811) = ru_c1 vc i h k np p from rfl, ef, q_bd_s, q_bd_s, c1_a (j := 2) (by omega), e5, mC_s810, q_lt_s]
  | succ j ih =>
    intro n h1 h2
    obtain ⟨n, rfl⟩ : ∃ m, n = m + 1 := ⟨n - 1, by omega⟩
    have ea : q_a (q_sc (ru_cf (ru_ct vc 15) i) 600 i (ru_sl vc i h k (j + 1))) 802 (h + j) = q_a vc 802 (h + j) := by
      rw [q_a_sc]; unfold ru_cf; rw [q_a_sf, q_a_sf, q_a_sf, q_a_sc, ct_a (by omega)]
    have e : upd (ru_sl vc i h k (j + 1)) j (q_a vc 802 (h + j)) = ru_sl vc i h k j := by
      funext x
      unfold upd ru_sl
      by_cases c : x = j
      · rw [if_pos c, if_pos (by omega), c]
      · rw [if_neg c]
        by_cases c2 : j + 1 ≤ x ∧ x < k
        · rw [if_pos c2, if_pos (by omega)]
        · rw [if_neg c2, if_neg (show ¬ (j ≤ x ∧ x < k) by omega)]
    unfold fX4_call_L62
    rw [ni_pred, if_neg (by rw [ni_neg (by omega)]; exact id), show h + (j + 1) = h + j + 1 from by omega, cs_pop (by omega), q_bd_s, ea, cs_fset (by omega), q_bv_s, mC_c, mC_sc, q_sc_sc, q_c_sc, if_pos ⟨rfl, rfl⟩, e, q_lt_s, ← Int32.sub_eq_add_neg]
    exact ih n (by omega) (by omega)
set_option maxHeartbeats 200000 in
theorem cs_CALL {vc vr : q_V} {d k pe qe h p f np cl : Nat} (s : ru_S T vc vr) (hT : T.2.2.2 d = some (k, pe, qe)) (hf : f < 20000) (hcl : cl < 12) (hnp : np < 168) (hh : h + k < 1680) (c0 : co_c T p 53) (c1 : co_c T (p + 1) (nI d)) : fX4_step (mC vc p (h + k) (f + 1) np cl) = some (mC (ru_c1 vc cl h k np (p + 2)) pe h f (np + 1) (cl + 1)) := by
  have hk := (s.2.2.2.2.choose_spec.2.2 d k pe qe hT).2.1
  have e0 := (s.2.2.2.2.choose_spec.2.2 d k pe qe hT).2.2.1
  have sb : ru_S T (ru_cf (ru_ct vc 15) cl) vr := ru_S_e2 s (by rw [cf_a, ct_a (by omega)]) (by rw [cf_a, ct_a (by omega)]) (by rw [cf_i, ct_i]) (by rw [cf_i, ct_i]) (by rw [cf_n]; rfl) (fun _ _ _ => rfl)
  have ef := cs_fact (p := p + 2) (h := h + k) (f := f) (np := np) (cl := cl + 1) sb hT (show 0 < 5 by omega)
  have el : ru_sl vc cl h k k = q_c (ru_cf (ru_ct vc 15) cl) 600 cl := by
    funext x
    have r : q_c (ru_cf (ru_ct vc 15) cl) 600 cl x = if x < 24 then 0 else q_c vc 600 cl x := by
      unfold ru_cf; rw [q_c_sf, q_c_sf, q_c_sf, q_c_sc, if_pos ⟨rfl, rfl⟩]; rfl
    rw [r]; unfold ru_sl; rw [if_neg (by omega)]
  have lo := cs_call_L (i := cl) (h := h) (p := p + 2) (f := f) (np := np) (cl := cl + 1) s hT hnp hh hk k q_N (Nat.le_refl _) (by unfold q_N; omega)
  rw [el, q_sc_id] at lo
  rw [cs_step s c0, cd_53, q_bv_id, mC_810, q_lt_s, cs_S s c1, q_bd_s]
  unfold fX4_call fX4_beginOrEnd_b185
  rw [cs_spend hf, q_bd_s, if_neg (by decide), mC_805, if_pos (by rw [show (12 : Int32) = nI 12 from rfl, ni_lt (by omega) (by omega)]; omega), cs_ct15, q_bv_s, mC_ct, mC_805, ni_add1, mC_s805, q_lt_s, cs_frame hcl, q_bd_s, cs_clear, q_bv_s, mC_cf]
  unfold fX0_parameters
  rw [show (0 : Int32) = nI 0 from rfl, ef, q_bd_s, q_bd_s, cf_a, ct_a (by omega), Nat.add_zero, e0, q_lt_s, lo, q_bv_s]
set_option maxHeartbeats 200000 in
theorem cs_CALL0 {vc vr : q_V} {d h p np cl : Nat} (s : ru_S T vc vr) (c0 : co_c T p 53) (c1 : co_c T (p + 1) (nI d)) : fX4_step (mC vc p h 0 np cl) = some (mC (q_si vc 814 2) (p + 2) h 0 np cl) := by
  rw [cs_step s c0, cd_53, q_bv_id, mC_810, q_lt_s, cs_S s c1, q_bd_s]
  unfold fX4_call fX4_beginOrEnd_b185
  rw [cs_spend0, q_bd_s, if_pos rfl, q_bv_s]
set_option maxHeartbeats 200000 in
theorem cs_CALLd {vc vr : q_V} {d h p f np : Nat} (s : ru_S T vc vr) (hf : f < 20000) (c0 : co_c T p 53) (c1 : co_c T (p + 1) (nI d)) : fX4_step (mC vc p h (f + 1) np 12) = some (mC (ru_tc vc 2) (p + 2) h f np 12) := by
  rw [cs_step s c0, cd_53, q_bv_id, mC_810, q_lt_s, cs_S s c1, q_bd_s]
  unfold fX4_call fX4_beginOrEnd_b185
  rw [cs_spend hf, q_bd_s, if_neg (by decide), mC_805, if_neg (by decide), cs_trouble, mC_tc, q_bv_s, q_bv_s]
end
