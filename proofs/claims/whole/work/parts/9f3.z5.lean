section
variable {T : co_T}
set_option maxHeartbeats 200000 in
theorem cs_callT {vc vr : q_V} {d k pe qe h p f np cl : Nat} (s : ru_S T vc vr) (hT : T.2.2.2 d = some (k, pe, qe)) (hf : f < 20000) (hcl : cl < 12) (hnp : np < 168) (hh : h + k < 1680) : fX4_call (nI d) (mC vc p (h + k) (f + 1) np cl) = some (mC (ru_c1 vc cl h k np p) pe h f (np + 1) (cl + 1)) := by
  have hk := (s.2.2.2.2.choose_spec.2.2 d k pe qe hT).2.1
  have e0 := (s.2.2.2.2.choose_spec.2.2 d k pe qe hT).2.2.1
  have sb : ru_S T (ru_cf (ru_ct vc 15) cl) vr := ru_S_e2 s (by rw [cf_a, ct_a (by omega)]) (by rw [cf_a, ct_a (by omega)]) (by rw [cf_i, ct_i]) (by rw [cf_i, ct_i]) (by rw [cf_n]; rfl) (fun _ _ _ => rfl)
  have ef := cs_fact (p := p) (h := h + k) (f := f) (np := np) (cl := cl + 1) sb hT (show 0 < 5 by omega)
  have el : ru_sl vc cl h k k = q_c (ru_cf (ru_ct vc 15) cl) 600 cl := by
    funext x
    have r : q_c (ru_cf (ru_ct vc 15) cl) 600 cl x = if x < 24 then 0 else q_c vc 600 cl x := by
      unfold ru_cf; rw [q_c_sf, q_c_sf, q_c_sf, q_c_sc, if_pos ⟨rfl, rfl⟩]; rfl
    rw [r]; unfold ru_sl; rw [if_neg (by omega)]
  have lo := cs_call_L (i := cl) (h := h) (p := p) (f := f) (np := np) (cl := cl + 1) s hT hnp hh hk k q_N (Nat.le_refl _) (by unfold q_N; omega)
  rw [el, q_sc_id] at lo
  unfold fX4_call
  rw [cs_spend hf, q_bd_s, if_neg (by decide), mC_805, if_pos (by rw [show (12 : Int32) = nI 12 from rfl, ni_lt (by omega) (by omega)]; omega), cs_ct15, q_bv_s, mC_ct, mC_805, ni_add1, mC_s805, q_lt_s, cs_frame hcl, q_bd_s, cs_clear, q_bv_s, mC_cf]
  unfold fX0_parameters
  rw [show (0 : Int32) = nI 0 from rfl, ef, q_bd_s, q_bd_s, cf_a, ct_a (by omega), Nat.add_zero, e0, q_lt_s, lo]
set_option maxHeartbeats 200000 in
theorem cs_callT0 {v : q_V} {x : Int32} {p h np cl : Nat} : fX4_call x (mC v p h 0 np cl) = some (mC (q_si v 814 2) p h 0 np cl) := by
  unfold fX4_call
  rw [cs_spend0, q_bd_s, if_pos rfl]
set_option maxHeartbeats 200000 in
theorem rs_callT {vc vr : q_V} {d k pe qe q g f t cl : Nat} (s : ru_S T vc vr) (hT : T.2.2.2 d = some (k, pe, qe)) (hf : f < 20000) (hcl : cl < 12) (ht : t < 240) (hg : g + 24 < 4000) : fX12_calls (nI d) (nI k) (mR vr q (g + k) (f + 1) t cl) = some (mR (ru_c3 (q_si vr 2480 (q_i vr 2480 + 1)) (cl + 1) g k t q (nI d)) qe g f (t + 1) (cl + 1)) := by
  obtain ⟨D, s5, s6, s7⟩ := s.2.2.2.2
  obtain ⟨t1, t2, t3, t4, t5⟩ := s7 d k pe qe hT
  have lo := rs_calls_L (v := q_si vr 2480 (q_i vr 2480 + 1)) (q := q) (f := f) (qe := qe) (d := d) (k := k) (dp := cl + 1) (g := g) (t := t) (by omega) (by omega) ht (by omega) hg (by rw [q_a_si]; exact t5) q_N 0 (by omega) (by unfold q_N; omega)
  have e : ru_vl (q_si vr 2480 (q_i vr 2480 + 1)) (cl + 1) g k 0 = q_a (q_si vr 2480 (q_i vr 2480 + 1)) 2509 := by
    funext y; unfold ru_vl; rw [if_neg (by omega)]
  rw [e, q_sa_id] at lo
  unfold fX12_calls
  rw [rs_burn hf, q_bd_s, if_neg (by decide), mR_2501, if_neg (by rw [show (12 : Int32) = nI 12 from rfl]; exact ni_ne (by omega) (by omega) (by omega)), ni_add1, mR_s2501, q_lt_s, mR_oi (k := 2480) (by omega), mR_s2480, q_lt_s, mR_2516, ni_sub (by omega), show g + k - k = g from by omega, mR_s2516, q_lt_s, show (0 : Int32) = nI 0 from rfl, lo]
set_option maxHeartbeats 200000 in
theorem rs_callT0 {v : q_V} {x y : Int32} {q g t cl : Nat} : fX12_calls x y (mR v q g 0 t cl) = some (mR (q_si v 2513 2) q g 0 t cl) := by
  unfold fX12_calls
  rw [rs_burn0, q_bd_s, if_pos rfl]
end
set_option maxHeartbeats 200000 in
/-- more turns do no harm -/
theorem cs_pm1 {a : ru_P} : ∀ n i v r, ru_C a n i v = some r → ru_C a (n + 1) i v = some r := by
  intro n
  induction n with
  | zero => intro i v r h; unfold ru_C at h; rw [fX4_perform_L112] at h; exact absurd h (by simp)
  | succ n ih =>
    intro i v r h
    unfold ru_C at h ih ⊢
    rw [fX4_perform_L112] at h ⊢
    by_cases c1 : 1000000000 ≤ i
    · rw [if_pos c1] at h ⊢; exact h
    · rw [if_neg c1] at h ⊢
      by_cases c2 : q_i v 814 = -1
      · rw [if_pos c2] at h ⊢
        by_cases c3 : q_f v 2000 168 = 0
        · rw [if_pos c3] at h ⊢
          cases e : fX4_step v with
          | none => rw [e] at h; exact absurd h (by simp [q_bv])
          | some w =>
            rw [e, q_bv_s] at h
            rw [q_bv_s]
            unfold fX4_perform_b148 at h ⊢
            rw [q_lt_s] at h ⊢
            exact ih _ _ _ h
        · rw [if_neg c3] at h ⊢
          cases e : fX4_leaveTop v with
          | none => rw [e] at h; exact absurd h (by simp [q_bv])
          | some w =>
            rw [e, q_bv_s] at h
            rw [q_bv_s]
            unfold fX4_perform_b148 at h ⊢
            rw [q_lt_s] at h ⊢
            exact ih _ _ _ h
      · rw [if_neg c2] at h ⊢; exact h
set_option maxHeartbeats 200000 in
theorem cs_pm {a : ru_P} {n m : Nat} {i : Int32} {v : q_V} {r : Int32 × q_V} (h : ru_C a n i v = some r) (hm : n ≤ m) : ru_C a m i v = some r := by
  obtain ⟨k, rfl⟩ : ∃ k, m = n + k := ⟨m - n, by omega⟩
  induction k with
  | zero => exact h
  | succ k ih => exact cs_pm1 _ _ _ _ (ih (by omega))
