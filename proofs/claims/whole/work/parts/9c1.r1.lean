set_option maxHeartbeats 200000 in
theorem ni_a1 {a : Nat} : nI a + 1 = nI (a + 1) := ni_add1
set_option maxHeartbeats 200000 in
theorem ni_a2 {a : Nat} : nI a + 2 = nI (a + 2) := ni_add (b := 2)
set_option maxHeartbeats 200000 in
theorem ni_a3 {a : Nat} : nI a + 3 = nI (a + 3) := ni_add (b := 3)
set_option maxHeartbeats 200000 in
theorem ni_a4 {a : Nat} : nI a + 4 = nI (a + 4) := ni_add (b := 4)
set_option maxHeartbeats 200000 in
theorem ni_a5 {a : Nat} : nI a + 5 = nI (a + 5) := ni_add (b := 5)
section
variable {Fin : q_V → q_V → Prop} {a : ru_P} {T : co_T} {XL : Int32 → Int32 → Int32 → Prop} {f0 nu : Nat} {L : List (Nat × Nat)}
set_option maxHeartbeats 200000 in
theorem cs_gt {vc vr : q_V} {x p h f np cl : Nat} {y : Int32} (s : ru_S T vc vr) (e : co_c T x y) : fX0_get (nI x) (mC vc p h f np cl) = some (y, mC vc p h f np cl) := by
  rw [cs_get (v := mC vc p h f np cl) s.2.1 e.1, mC_a, s.1, e.2]
/-- a round's part, a try's -/
def ru_rc (v : q_V) (np h at_ : Nat) (o : Int32) (al : Bool) : q_V := if al then ru_ct (ru_bg v np h o (nI at_)) 8 else ru_bg v np h o (nI at_)
def ru_al (v : q_V) (al : Bool) : q_V := if al then q_si v 2473 (q_i v 2473 + 1) else v
set_option maxHeartbeats 200000 in
theorem cs_RT {vc vr : q_V} {p h f np cl : Nat} {z : Int32} {tr : Bool} (s : ru_S T vc vr) (hnp : np < 168) (c0 : co_c T p (if tr then 47 else 46)) (c4 : co_c T (p + 4) z) : fX4_step (mC vc p h f np cl) = some (mC (ru_rc vc np h p (if tr then 47 else 46) (decide (z ≠ 0))) (p + 5) h f (np + 1) cl) := by
  have key : ∀ o : Int32, fX4_beginOrEnd_b72 o (nI p) (mC vc (p + 1) h f np cl) = some (mC (ru_rc vc np h p o (decide (z ≠ 0))) (p + 5) h f (np + 1) cl) := by
    intro o
    unfold fX4_beginOrEnd_b72 fX4_beginOrEnd_b101 fX4_beginOrEnd_b185 ru_rc
    rw [cs_begin hnp, q_bd_s, ni_a4, cs_gt (vc := ru_bg vc np h o (nI p)) (vr := vr) s c4, q_bd_s, ni_a5]
    by_cases c : z = 0
    · rw [if_pos c, q_lt_s, mC_s810, if_neg (by simp [c])]
    · rw [if_neg c, cs_ct8, q_bv_s, mC_ct, q_lt_s, mC_s810, if_pos (by simp [c])]
  cases tr
  · rw [cs_step s c0, if_neg (by decide), cd_46, q_bv_id, mC_810, ni_pred, q_lt_s, key]
  · rw [cs_step s c0, if_pos rfl, cd_47, q_bv_id, mC_810, ni_pred, q_lt_s, key]
set_option maxHeartbeats 200000 in
theorem rc_f {v : q_V} {np h at_ k n : Nat} {o : Int32} {al : Bool} : q_f (ru_rc v np h at_ o al) k n = q_f (ru_bg v np h o (nI at_)) k n := by
  unfold ru_rc; split
  · rw [ct_f]
  · rfl
set_option maxHeartbeats 200000 in
theorem rc_i {v : q_V} {np h at_ : Nat} {o : Int32} {al : Bool} : q_i (ru_rc v np h at_ o al) = q_i v := by
  unfold ru_rc; split <;> rfl
set_option maxHeartbeats 200000 in
theorem ru_D_rc {cl t np h at_ : Nat} {vc vr : q_V} {o : Int32} {al : Bool} (d : ru_D T XL cl t np vc vr) : ru_D T XL cl t np (ru_rc vc np h at_ o al) (ru_al vr al) := by
  unfold ru_rc ru_al
  cases al
  · exact ru_D_bg d
  · exact ru_D_c8 (ru_D_bg d)
set_option maxHeartbeats 200000 in
theorem ru_K_rc {np t h g cl h' at_ : Nat} {vc vr v w : q_V} {o : Int32} {al : Bool} (K : ru_K np t h g cl vc vr v w) : ru_K np t h g cl vc vr (ru_rc v np h' at_ o al) (ru_al w al) := by
  unfold ru_rc ru_al
  cases al
  · exact ru_K_bg K (Nat.le_refl _)
  · exact ru_K_j (ru_K_ct (ru_K_bg K (Nat.le_refl _)))
set_option maxHeartbeats 200000 in
theorem al_a {v : q_V} {al : Bool} : q_a (ru_al v al) = q_a v := by unfold ru_al; cases al <;> rfl
set_option maxHeartbeats 200000 in
theorem al_b {v : q_V} {al : Bool} : q_b (ru_al v al) = q_b v := by unfold ru_al; cases al <;> rfl
set_option maxHeartbeats 200000 in
theorem al_i {v : q_V} {al : Bool} {k : Nat} (h : k ≠ 2473) : q_i (ru_al v al) k = q_i v k := by
  unfold ru_al; cases al
  · rfl
  · show q_i (q_si v 2473 _) k = _
    rw [q_i_si, if_neg h]
/-- a region's state -/
def ru_s (v : q_V) (t : Nat) (st : Int32) : q_V := q_sa v 2489 (upd (q_a v 2489) t st)
set_option maxHeartbeats 200000 in
theorem s_a {v : q_V} {t j : Nat} {st : Int32} (h : j ≠ 2489) : q_a (ru_s v t st) j = q_a v j := by unfold ru_s; rw [q_a_sa, if_neg h]
set_option maxHeartbeats 200000 in
theorem s_at {v : q_V} {t : Nat} {st : Int32} : q_a (ru_s v t st) 2489 t = st := by unfold ru_s; rw [q_a_sa, if_pos rfl, upd_at]
set_option maxHeartbeats 200000 in
theorem s_i {v : q_V} {t : Nat} {st : Int32} : q_i (ru_s v t st) = q_i v := rfl
set_option maxHeartbeats 200000 in
theorem s_b {v : q_V} {t : Nat} {st : Int32} : q_b (ru_s v t st) = q_b v := rfl
set_option maxHeartbeats 200000 in
theorem ru_D_s9 {cl t t' np : Nat} {v w : q_V} {st : Int32} (d : ru_D T XL cl t np v w) : ru_D T XL cl t np v (ru_s w t' st) :=
  ⟨d.1, d.2.1, d.2.2.1, d.2.2.2.1, ⟨trivial, d.2.2.2.2.1.2.1.trans (ru_z_e (by rfl)).symm, d.2.2.2.2.1.2.2⟩, d.2.2.2.2.2⟩
set_option maxHeartbeats 200000 in
theorem ru_K_s9 {np t h g cl t' : Nat} {vc vr v w : q_V} {st : Int32} (K : ru_K np t h g cl vc vr v w) (ht : t ≤ t') : ru_K np t h g cl vc vr v (ru_s w t' st) := ru_K_a K ht (by omega) (by omega)
def ru_rd (w : q_V) (t : Nat) (al : Bool) : q_V := ru_al (ru_s w t 1) al
set_option maxHeartbeats 200000 in
theorem rs_rounds1 {w : q_V} {q g f t cl d : Nat} {z : Int32} (hd : d < 640) (ht : t < 240) (ez : q_a w 2452 d = z) : fX12_rounds (nI d) 1 (mR w q g f (t + 1) cl) = some (mR (ru_rd w t (decide (z ≠ -1))) q g f (t + 1) cl) := by
  have e9 : q_a (q_sa w 2489 (upd (q_a w 2489) t 1)) 2452 d = z := by rw [q_a_sa, if_neg (by omega)]; exact ez
  unfold fX12_rounds fX12_rounds_b55 ru_rd ru_al
  rw [mR_2487, ni_pred, q_lt_s, if_neg (by decide), if_neg (by rw [ni_in ht (by omega)]; exact id), q_lt_s, if_neg (by rw [ni_in hd (by omega)]; exact id), ni_clamp (by omega), ni_clamp (by omega), mR_a, mR_sa, mR_a, e9]
  by_cases c : z = -1
  · rw [if_pos c, if_neg (by simp [c]), Int32.add_zero, q_lt_s, q_si_id]; rfl
  · rw [if_neg c, if_pos (by simp [c]), q_lt_s, mR_s2473]; rfl
set_option maxHeartbeats 200000 in
theorem rs_rounds0 {w : q_V} {q g f t cl d qx g' : Nat} (hd : d < 640) (ht : t < 240) (ez : q_a w 2453 d = nI qx) (eg : q_a w 2492 t = nI g') : fX12_rounds (nI d) 0 (mR w q g f (t + 1) cl) = some (mR (q_si w 2481 0) qx g' f t cl) := by
  unfold fX12_rounds
  rw [mR_2487, ni_pred, q_lt_s, if_pos rfl, mR_s2487, q_lt_s, if_neg (by rw [ni_in hd (by omega)]; exact id), ni_clamp (by omega), mR_a, ez, rs_goes ht eg, q_bv_s]
/-- the region of a loop that is between rounds -/
def ru_rgn (t d g : Nat) (v : q_V) : Prop := q_a v 2488 t = 3 ∧ q_a v 2489 t = 0 ∧ q_a v 2490 t = nI d ∧ q_a v 2491 t = 0 ∧ q_a v 2492 t = nI g
def ru_nx (Fin : q_V → q_V → Prop) (a : ru_P) (T : co_T) (XL : Int32 → Int32 → Int32 → Prop) (c f h g np t cl d pn qa : Nat) (vc w : q_V) : Prop :=
  ∀ f' vc' vr', ru_D T XL cl (t + 1) np vc' vr' → ru_V vc' vr' → f' ≤ f → ru_K np t h g cl vc w vc' vr' → ru_rgn t d g vr' → (q_b vr' 2493 t = q_b w 2493 t ∧ q_b vr' 2494 t = q_b w 2494 t) → ru_G Fin a (40000 * f' + c) (mC vc' pn h f' np cl) (mR vr' qa g f' (t + 1) cl)
set_option maxHeartbeats 200000 in
theorem cs_b113 {v v' : q_V} {p h f np cl at_ pn : Nat} (s : ru_S T v v') (ea : q_f v 1202 np = nI at_) (c2 : co_c T (at_ + 2) (nI pn)) : fX4_leaveRound_b113 np (mC v p h f (np + 1) cl) = fX4_leave np (nI pn) (mC v p h f (np + 1) cl) := by
  unfold fX4_leaveRound_b113 fX4_leaveRound_b131
  rw [mC_f, ea, ni_a2, cs_gt s c2, q_bd_s, q_bv_id]
set_option maxHeartbeats 200000 in
theorem cs_b22 {v v' : q_V} {p h f np cl at_ pn px : Nat} (s : ru_S T v v') (ea : q_f v 1202 np = nI at_) (c2 : co_c T (at_ + 2) (nI pn)) (c3 : co_c T (at_ + 3) (nI px)) :
    fX4_leaveRound_b22 np (mC v p h f (np + 1) cl) = if q_f v 2001 168 = nI at_ ∧ q_f v 2000 168 = 16 then fX4_leave np (nI pn) (mC (ru_be v 1 0) p h f (np + 1) cl) else if q_f v 2001 168 = nI at_ ∧ q_f v 2000 168 = 8 then fX4_leave np (nI px) (mC (ru_be v 1 0) p h f (np + 1) cl) else fX4_leave np (nI pn) (mC v p h f (np + 1) cl) := by
  have eb : fX10_become 168 1 0 (mC v p h f (np + 1) cl) = some (mC (ru_be v 1 0) p h f (np + 1) cl) := rfl
  have eb2 : q_f (ru_be v 1 0) 2000 168 = 1 := rfl
  have eb3 : q_f (ru_be v 1 0) 1202 np = nI at_ := by
    unfold ru_be
    rw [q_f_sf, if_neg (by omega), q_f_sf, if_neg (by omega)]; exact ea
  unfold fX4_leaveRound_b22 fX4_leaveRound_b41
  rw [mC_f, ea]
  by_cases k1 : q_f v 2001 168 = nI at_
  · rw [if_pos k1]
    by_cases k2 : q_f v 2000 168 = 16
    · rw [if_pos k2, if_neg (show ¬ (1 : Int32) = 0 by decide), if_pos ⟨k1, k2⟩, eb, q_bv_s]
      unfold fX4_leaveRound_b67
      rw [mC_f, eb2, if_neg (by decide), cs_b113 (v := ru_be v 1 0) s eb3 c2]
    · rw [if_neg k2, if_neg (fun x => k2 x.2)]
      unfold fX4_leaveRound_b67 fX4_leaveRound_b131
      rw [mC_f]
      by_cases k3 : q_f v 2000 168 = 8
      · rw [if_pos k3, if_neg (show ¬ (1 : Int32) = 0 by decide), if_pos ⟨k1, k3⟩, eb, q_bv_s, mC_f, eb3, ni_a3, cs_gt (vc := ru_be v 1 0) s c3, q_bd_s, q_bv_id]
      · rw [if_neg k3, if_neg (fun x => k3 x.2), cs_b113 s ea c2]
  · rw [if_neg k1, if_pos rfl, ite_self, if_neg (show ¬ (q_f v 2001 168 = nI at_ ∧ q_f v 2000 168 = 16) from fun x => k1 x.1), if_neg (show ¬ (q_f v 2001 168 = nI at_ ∧ q_f v 2000 168 = 8) from fun x => k1 x.1)]
    unfold fX4_leaveRound_b67
    rw [if_pos rfl, ite_self, cs_b113 s ea c2]
set_option maxHeartbeats 200000 in
theorem rs_b70 {w : q_V} {q g f t cl d qa qx g' : Nat} (hd : d < 640) (ht : t < 240) (e1 : q_a w 2451 d = nI qa) (e3 : q_a w 2453 d = nI qx) (eg : q_a w 2492 t = nI g') :
    fX12_leavesLoop_b70 (nI t) (nI d) (mR w q g f (t + 1) cl) = if q_i w 2481 = 0 ∨ (q_i w 2481 = 2 ∧ q_i w 2482 = nI d) then some (0, mR (q_si (ru_s w t 0) 2481 0) qa g' f (t + 1) cl) else q_bd (fX12_closes (nI t) (nI qx) (mR (if q_i w 2481 = 1 ∧ q_i w 2482 = nI d then q_si w 2481 0 else w) q g f (t + 1) cl)) rs_01 := by
  have e93 : fX12_leavesLoop_b93 (nI t) (nI d) (mR w q g f (t + 1) cl) = some (0, mR (q_si (ru_s w t 0) 2481 0) qa g' f (t + 1) cl) := by
    unfold fX12_leavesLoop_b93
    rw [if_neg (by rw [ni_in ht (by omega)]; exact id), q_lt_s, if_neg (by rw [ni_in hd (by omega)]; exact id), ni_clamp (by omega), ni_clamp (by omega), mR_a, mR_sa, mR_a, q_a_sa, if_neg (by omega), e1, rs_goes ht (v := q_sa w 2489 (upd (q_a w 2489) t 0)) (by rw [q_a_sa, if_neg (by omega)]; exact eg), q_bv_s]; rfl
  have e134 : ∀ w' : q_V, q_a w' = q_a w → fX12_leavesLoop_b134 (nI t) (nI d) (mR w' q g f (t + 1) cl) = q_bd (fX12_closes (nI t) (nI qx) (mR w' q g f (t + 1) cl)) rs_01 := by
    intro w' hw
    unfold fX12_leavesLoop_b134
    rw [if_neg (by rw [ni_in hd (by omega)]; exact id), ni_clamp (by omega), mR_a, hw, e3]; rfl
  unfold fX12_leavesLoop_b70 fX12_leavesLoop_b113
  rw [show q_i (mR w q g f (t + 1) cl) 2481 = q_i w 2481 from rfl, show q_i (mR w q g f (t + 1) cl) 2482 = q_i w 2482 from rfl, mR_s2481]
  by_cases k0 : q_i w 2481 = 0
  · rw [if_pos k0, if_pos (Or.inl k0), e93]
  · rw [if_neg k0]
    by_cases k2 : q_i w 2481 = 2
    · rw [if_pos k2]
      by_cases k3 : q_i w 2482 = nI d
      · rw [if_pos k3, if_pos (Or.inr ⟨k2, k3⟩), e93]
      · rw [if_neg k3, if_neg (by rw [k2]; decide), if_neg (fun x => x.elim k0 (fun y => k3 y.2)), if_neg (fun x => k3 x.2), e134 w rfl]
    · rw [if_neg k2]
      by_cases k1 : q_i w 2481 = 1
      · rw [if_pos k1]
        by_cases k3 : q_i w 2482 = nI d
        · rw [if_pos k3, if_neg (fun x => x.elim k0 (fun y => k2 y.1)), if_pos ⟨k1, k3⟩, q_lt_s, e134 (q_si w 2481 0) rfl]
        · rw [if_neg k3, if_neg (fun x => x.elim k0 (fun y => k2 y.1)), if_neg (fun x => k3 x.2), e134 w rfl]
      · rw [if_neg k1, if_neg (fun x => x.elim k0 (fun y => k2 y.1)), if_neg (fun x => k1 x.1), e134 w rfl]
end
