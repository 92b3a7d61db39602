def ru_mc (v : q_V) (np i : Nat) : q_V := q_sf (q_sf (q_sf (ru_wr (ru_ct v 13) 8 (q_f v 2001 np)) 603 i (q_f v 2001 np)) 604 i (q_f v 2002 np)) 1201 np 2
def ru_mm (w : q_V) (t cl : Nat) : q_V := q_si (ru_s (q_sa (q_sa (ru_nt (q_si w 2478 (q_i w 2478 + 1)) 8 (q_a w 2498 t)) 2504 (upd (q_a w 2504) cl (q_a w 2498 t))) 2505 (upd (q_a w 2505) cl (q_a w 2499 t))) t 5) 2481 0
section
variable {Fin : q_V → q_V → Prop} {a : ru_P} {T : co_T} {XL : Int32 → Int32 → Int32 → Prop} {f0 nu : Nat} {L : List (Nat × Nat)}
/-- how a try ends when its block, its asking or its mend is left -/
def ru_TF (Fin : q_V → q_V → Prop) (a : ru_P) (T : co_T) (XL : Int32 → Int32 → Int32 → Prop) (L : List (Nat × Nat)) (cF f1 h g np t cl p d : Nat) (vc vr : q_V) : Prop :=
  ∀ f p0 h0 q0 g0 p1 h1 q1 g1 v0 w0 v w, f ≤ f1 → fX4_leaveTop (mC v0 p0 h0 f (np + 1) cl) = fX4_leaveTry_b92 np (mC v p1 h1 f (np + 1) cl) → rs_it (mR w0 q0 g0 f (t + 1) cl) = fX12_leavesTrial_b122 (nI t) (nI d) (mR w q1 g1 f (t + 1) cl) → q_i v0 814 = -1 → q_f v0 2000 168 ≠ 0 →
    ru_D T XL cl t np v w → ru_we L v w → ru_K np t h g cl vc vr v w → q_f v 1200 np = 47 → q_f v 1201 np ≠ 3 → q_f v 1202 np = nI p → q_f v 1203 np = nI h → q_f v 1207 np = ru_z w t → q_a w 2488 t = 4 → q_a w 2490 t = nI d → q_a w 2492 t = nI g → ru_l v ≤ ru_l v0 + 1 → ru_l v ≤ 2000000000 → (∀ i, q_f v 602 i = q_f v0 602 i) → q_i v 805 = q_i v0 805 →
    ru_L Fin a (40000 * f + cF) (mC v0 p0 h0 f (np + 1) cl) (mR w0 q0 g0 f (t + 1) cl)
set_option maxHeartbeats 200000 in
theorem ru_TFn {p px qx d c f1 h g np t cl : Nat} {vc vr : q_V} (hd : d < 640) (ht : t < 240) (hnp : np < 168) (c3 : co_c T (p + 3) (nI px)) (c4 : co_c T (p + 4) 0) (r4 : co_d T 4 d (-1)) (r5 : co_d T 5 d (nI qx)) (n : ru_n Fin a T XL c f1 h g np t cl px qx vc vr) (x : ru_x Fin a T XL L c f1 h g np t cl vc vr) : ru_TF Fin a T XL L (c + 1) f1 h g np t cl p d vc vr :=
  fun f p0 h0 q0 g0 p1 h1 q1 g1 v0 w0 v w hf e1 e2 a0 b0 D we K k0 k1 a2 a3 zz g8 g9 eg hl hl0 hv h805 => ru_T92n hd ht hnp c3 c4 r4 r5 n x hf e1 e2 a0 b0 D we K a2 a3 eg (by omega) hv h805
set_option maxHeartbeats 200000 in
theorem ru_TFa {p px qx d p2 p3 q2 q3 c f1 h g np t cl : Nat} {y pl : Int32} {vc vr : q_V} (hd : d < 640) (hp2 : p3 < 6016) (hq2 : q3 < 4000) (hn : nu + 1 ≤ 14) (bd : ru_bd nu f1 f0 h g np t cl) (c1 : co_c T (p + 1) pl) (c2 : co_c T (p + 2) y) (c3 : co_c T (p + 3) (nI px)) (c4 : co_c T (p + 4) (nI (p2 + 1))) (r4 : co_d T 4 d (nI (q2 + 1))) (r5 : co_d T 5 d (nI qx)) (r6 : co_d T 6 d pl)
    (s3 : ru_SS Fin a T XL f0 (nu + 1) L (p2 + 1) p3 (q2 + 1) q3) (c5 : co_c T p3 54) (r8 : co_r T 0 q3 48) (n : ru_n Fin a T XL c f1 h g np t cl px qx vc vr) (x : ru_x Fin a T XL L c f1 h g np t cl vc vr) (D0 : ru_H np vc) : ru_TF Fin a T XL L (c + 1 + 4 * (p3 + 1 - (p2 + 1)) + 1) f1 h g np t cl p d vc vr :=
  fun f p0 h0 q0 g0 p1 h1 q1 g1 v0 w0 v w hf e1 e2 a0 b0 D we K k0 k1 a2 a3 zz g8 g9 eg hl hl0 hv h805 => ru_monoL (ru_T92a hd hp2 hq2 hn bd c1 c2 c3 c4 r4 r5 r6 s3 c5 r8 n x hf D0 e1 e2 a0 b0 (ru_D_n1 D (by omega)) we K k0 k1 a2 a3 zz g8 g9 eg hl hl0 hv h805) (by omega)
set_option maxHeartbeats 200000 in
theorem cs_lt0 {v v' : q_V} {p h f np cl at_ : Nat} {y : Int32} (s : ru_S T v v') (hnp : np < 168) (a0 : q_f v 1200 np = 47) (a1 : q_f v 1201 np = 0) (a2 : q_f v 1202 np = nI at_) (c2 : co_c T (at_ + 2) y) (hy : y = 0 ∨ q_f v 2000 168 ≠ 4) : fX4_leaveTop (mC v p h f (np + 1) cl) = fX4_leaveTry_b92 np (mC v p h f (np + 1) cl) := by
  rw [cs_lt47 hnp a0]
  unfold fX4_leaveTry fX4_leaveTry_b61
  rw [mC_f, a2, ni_a2, cs_gt s c2, q_bd_s, mC_f, a1, if_pos rfl]
  by_cases c : q_f v 2000 168 = 4
  · rw [if_pos c, if_pos (hy.resolve_right (fun x => x c)), if_neg (by decide), if_pos rfl]
  · rw [if_neg c, if_neg (by decide), if_pos rfl]
set_option maxHeartbeats 200000 in
theorem cs_lt0m {v v' : q_V} {p h f np cl at_ pm h' : Nat} {pl : Int32} (s : ru_S T v v') (hnp : np < 168) (a0 : q_f v 1200 np = 47) (a1 : q_f v 1201 np = 0) (a2 : q_f v 1202 np = nI at_) (a3 : q_f v 1203 np = nI h') (c1 : co_c T (at_ + 1) pl) (c2 : co_c T (at_ + 2) (nI pm)) (hm : nI pm ≠ 0) (hy : q_f v 2000 168 = 4) : fX4_leaveTop (mC v p h f (np + 1) cl) = some (mC (q_si (ru_kc v np 1) 811 pl) pm h' f (np + 1) cl) := by
  rw [cs_lt47 hnp a0]
  unfold fX4_leaveTry
  rw [mC_f, a2, ni_a2, cs_gt s c2, q_bd_s, mC_f, a1, if_pos rfl, if_pos hy, if_neg hm, a2, ni_a1, cs_gt s c1, q_bd_s, q_lt_s, mC_s811, cs_keep (v := q_si v 811 pl) (by omega) a3, q_bv_s, kc_si (by omega)]
set_option maxHeartbeats 200000 in
theorem cs_lt1 {v v' : q_V} {p h f np cl at_ : Nat} {y : Int32} (s : ru_S T v v') (hnp : np < 168) (a0 : q_f v 1200 np = 47) (a1 : q_f v 1201 np = 1) (a2 : q_f v 1202 np = nI at_) (c2 : co_c T (at_ + 2) y) : fX4_leaveTop (mC v p h f (np + 1) cl) = fX4_leaveTry_b92 np (mC (ru_tb v np) p h f (np + 1) cl) := by
  rw [cs_lt47 hnp a0]
  unfold fX4_leaveTry fX4_leaveTry_b61
  rw [mC_f, a2, ni_a2, cs_gt s c2, q_bd_s, mC_f, a1, if_neg (by decide), if_neg (by decide), if_neg (by decide), cs_tb, q_bv_s]
set_option maxHeartbeats 200000 in
theorem cs_lt2 {v v' : q_V} {p h f np cl at_ : Nat} {y : Int32} (s : ru_S T v v') (hnp : np < 168) (a0 : q_f v 1200 np = 47) (a1 : q_f v 1201 np = 2) (a2 : q_f v 1202 np = nI at_) (c2 : co_c T (at_ + 2) y) : fX4_leaveTop (mC v p h f (np + 1) cl) = fX4_leaveTry_b92 np (mC (q_si v 812 (q_f v 1207 np)) p h f (np + 1) cl) := by
  rw [cs_lt47 hnp a0]
  unfold fX4_leaveTry fX4_leaveTry_b61
  rw [mC_f, a2, ni_a2, cs_gt s c2, q_bd_s, mC_f, a1, if_neg (by decide), if_pos rfl, q_lt_s, mC_s812]
set_option maxHeartbeats 200000 in
theorem rs_lt0 {w v' : q_V} {q g f t cl d : Nat} {y : Int32} (s : ru_S T v' w) (hd : d < 640) (ht : t < 240) (g8 : q_a w 2488 t = 4) (g1 : q_a w 2489 t = 3) (g9 : q_a w 2490 t = nI d) (r8 : co_d T 8 d y) (hy : y = -1 ∨ q_i w 2481 ≠ 4) : rs_it (mR w q g f (t + 1) cl) = fX12_leavesTrial_b122 (nI t) (nI d) (mR w q g f (t + 1) cl) := by
  have e8 := rs_8 s r8
  have e : fX12_leavesTrial_b80 (nI t) (nI d) (mR w q g f (t + 1) cl) = fX12_leavesTrial_b122 (nI t) (nI d) (mR w q g f (t + 1) cl) := by
    unfold fX12_leavesTrial_b80
    rw [if_neg (by rw [ni_in ht (by omega)]; exact id), ni_clamp (by omega), mR_a, g1, if_neg (by decide), if_neg (by rw [ni_neg (by omega), false_or]; omega), if_neg (by decide)]
  rw [rs_it4 ht g8]
  unfold fX12_leavesTrial
  rw [if_neg (by rw [ni_in ht (by omega)]; exact id), ni_clamp (by omega), mR_a, g9, q_lt_s, if_neg (by rw [ni_neg (by omega), false_or]; omega), g1, if_pos rfl, show q_i (mR w q g f (t + 1) cl) 2481 = q_i w 2481 from rfl]
  by_cases c : q_i w 2481 = 4
  · rw [if_pos c, if_neg (by rw [ni_in hd (by omega)]; exact id), ni_clamp (by omega), e8, if_pos (hy.resolve_right (fun x => x c)), e]
  · rw [if_neg c, e]
set_option maxHeartbeats 200000 in
theorem rs_lt0m {w v' : q_V} {q g f t cl d qm g' : Nat} {pl : Int32} (s : ru_S T v' w) (hd : d < 640) (ht : t < 240) (g8 : q_a w 2488 t = 4) (g1 : q_a w 2489 t = 3) (g9 : q_a w 2490 t = nI d) (eg : q_a w 2492 t = nI g') (r6 : co_d T 6 d pl) (r8 : co_d T 8 d (nI qm)) (hm : nI qm ≠ -1) (hy : q_i w 2481 = 4) : rs_it (mR w q g f (t + 1) cl) = some (0, mR (ru_kt w t pl) qm g' f (t + 1) cl) := by
  have e8 := rs_8 s r8
  have e6 := rs_6 s r6
  have e0 : q_sa (ru_s (ru_kw w t) t 4) 2491 (upd (q_a (ru_s (ru_kw w t) t 4) 2491) t (q_i w 2484)) = ru_kr w t 4 := by
    unfold ru_kr ru_s; rw [q_a_sa, if_neg (by omega), if_pos hy]
  have e1 : q_a (ru_kr w t 4) 2454 d = pl := by rw [kr_lo (by omega)]; exact e6
  have e2 : q_a (q_si (ru_kr w t 4) 2511 pl) 2456 d = nI qm := by rw [q_a_si, kr_lo (by omega)]; exact e8
  have e4 : q_a (q_si (ru_kr w t 4) 2511 pl) 2492 t = nI g' := by rw [q_a_si, kr_lo (by omega)]; exact eg
  rw [rs_it4 ht g8]
  unfold fX12_leavesTrial
  rw [if_neg (by rw [ni_in ht (by omega)]; exact id), ni_clamp (a := t) (by omega), mR_a, g9, q_lt_s, if_neg (by rw [ni_neg (by omega), false_or]; omega), g1, if_pos rfl, if_pos (show q_i (mR w q g f (t + 1) cl) 2481 = 4 from hy), if_neg (by rw [ni_in hd (by omega)]; exact id), ni_clamp (by omega), e8, if_neg hm, rs_keep ht, q_bv_s, mR_kw, if_neg (by rw [ni_neg (by omega), false_or]; omega), q_lt_s, mR_a, mR_sa, show q_sa (ru_kw w t) 2489 (upd (q_a (ru_kw w t) 2489) t 4) = ru_s (ru_kw w t) t 4 from rfl, if_neg (by rw [ni_neg (by omega), false_or]; omega), q_lt_s, show q_i (mR (ru_s (ru_kw w t) t 4) q g f (t + 1) cl) 2484 = q_i w 2484 from rfl, mR_a, mR_sa, e0, if_neg (by rw [ni_neg (by omega), false_or]; omega), q_lt_s, mR_a, e1, mR_s2511, if_neg (by rw [ni_neg (by omega), false_or]; omega), mR_a, e2, rs_goes ht e4, q_bv_s, q_si_sw (k := 2511) (by omega)]; rfl
set_option maxHeartbeats 200000 in
theorem rs_lt4 {w : q_V} {q g f t cl d : Nat} (ht : t < 240) (g8 : q_a w 2488 t = 4) (g1 : q_a w 2489 t = 4) (g9 : q_a w 2490 t = nI d) (h70 : ¬ q_i w 2470 < 0) : rs_it (mR w q g f (t + 1) cl) = fX12_leavesTrial_b122 (nI t) (nI d) (mR (ru_lo w t) q g f (t + 1) cl) := by
  rw [rs_it4 ht g8]
  unfold fX12_leavesTrial fX12_leavesTrial_b80
  rw [if_neg (by rw [ni_in ht (by omega)]; exact id), ni_clamp (by omega), mR_a, g9, q_lt_s, if_neg (by rw [ni_neg (by omega), false_or]; omega), g1, if_neg (by decide), if_neg (by rw [ni_neg (by omega), false_or]; omega), if_neg (by decide), if_neg (by rw [ni_neg (by omega), false_or]; omega), if_pos rfl, rs_loses ht h70, q_bv_s]
set_option maxHeartbeats 200000 in
theorem rs_lt5 {w : q_V} {q g f t cl d : Nat} (ht : t < 240) (g8 : q_a w 2488 t = 4) (g1 : q_a w 2489 t = 5) (g9 : q_a w 2490 t = nI d) : rs_it (mR w q g f (t + 1) cl) = fX12_leavesTrial_b122 (nI t) (nI d) (mR w q g f (t + 1) cl) := by
  rw [rs_it4 ht g8]
  unfold fX12_leavesTrial fX12_leavesTrial_b80
  rw [if_neg (by rw [ni_in ht (by omega)]; exact id), ni_clamp (by omega), mR_a, g9, q_lt_s, if_neg (by rw [ni_neg (by omega), false_or]; omega), g1, if_neg (by decide), if_neg (by rw [ni_neg (by omega), false_or]; omega), if_neg (by decide), if_neg (by rw [ni_neg (by omega), false_or]; omega), if_neg (by decide)]
set_option maxHeartbeats 200000 in
/-- a trouble is mended -/
theorem cs_MENDED {vc vr : q_V} {p h f np cl : Nat} (s : ru_S T vc vr) (hnp : np < 168) (hcl : cl < 12) (c0 : co_c T p 48) : fX4_step (mC vc p h f (np + 1) (cl + 1)) = some (mC (ru_mc vc np cl) (p + 1) h f (np + 1) (cl + 1)) := by
  rw [cs_step s c0, cd_48, q_bv_id, mC_810, q_lt_s, cs_top hnp, q_bd_s]
  unfold fX4_mended fX4_beginOrEnd_b185 ru_mc
  rw [cs_ct13, q_bv_s, mC_ct, mC_f, ct_f, cs_wr, q_bv_s, mC_wr, cs_frame hcl, q_bd_s, q_lt_s, mC_f, wr_f, ct_f, mC_sf, cs_frame hcl, q_bd_s, q_lt_s, mC_f, q_f_sf, if_neg (by omega), wr_f, ct_f, mC_sf, q_lt_s, mC_sf, q_bv_s]
set_option maxHeartbeats 200000 in
theorem rs_mends {w : q_V} {q g f t cl qt g' : Nat} (ht : t < 240) (hcl : cl < 13) (eg : q_a w 2492 t = nI g') (h70 : ¬ q_i w 2470 < 0) : fX12_mends 1 (nI qt) (mR w q g f (t + 1) cl) = some (mR (ru_mm w t cl) qt g' f (t + 1) cl) := by
  have n1 : q_a (ru_nt (q_si w 2478 (q_i w 2478 + 1)) 8 (q_a w 2498 t)) 2498 = q_a w 2498 := by rw [nt_a (by omega), q_a_si]
  have n2 : q_a (ru_nt (q_si w 2478 (q_i w 2478 + 1)) 8 (q_a w 2498 t)) 2504 = q_a w 2504 := by rw [nt_a (by omega), q_a_si]
  have n3 : ∀ u, q_a (q_sa (ru_nt (q_si w 2478 (q_i w 2478 + 1)) 8 (q_a w 2498 t)) 2504 u) 2499 = q_a w 2499 := fun u => by rw [q_a_sa, if_neg (by omega), nt_a (by omega), q_a_si]
  have n4 : ∀ u, q_a (q_sa (ru_nt (q_si w 2478 (q_i w 2478 + 1)) 8 (q_a w 2498 t)) 2504 u) 2505 = q_a w 2505 := fun u => by rw [q_a_sa, if_neg (by omega), nt_a (by omega), q_a_si]
  unfold fX12_mends ru_mm
  rw [if_neg (by decide), mR_2487, ni_pred, q_lt_s, q_lt_s, mR_s2478, if_neg (by rw [ni_in ht (by omega)]; exact id), ni_clamp (a := t) (by omega), mR_a, q_a_si, rs_note (by exact h70), q_bv_s, mR_nt, if_neg (by rw [ni_neg (by omega), false_or]; omega), mR_2501, if_neg (by rw [ni_in hcl (by omega)]; exact id), q_lt_s, ni_clamp (by omega), show q_i (mR w q g f (t + 1) cl) 2478 = q_i w 2478 from rfl, mR_a, n1, n2, mR_sa, if_neg (by rw [ni_neg (by omega), false_or]; omega), mR_2501, if_neg (by rw [ni_in hcl (by omega)]; exact id), q_lt_s, ni_clamp (by omega), mR_a, n3, n4, mR_sa, if_neg (by rw [ni_neg (by omega), false_or]; omega), q_lt_s, mR_a, mR_sa]
  rw [rs_goes ht (by rw [q_a_sa, if_neg (by omega), q_a_sa, if_neg (by omega), q_a_sa, if_neg (by omega), nt_a (by omega), q_a_si]; exact eg), q_bv_s]; rfl
end
