/-! LEAVING: what is common to all parts. -/
section
variable {Fin : q_V → q_V → Prop} {a : ru_P} {T : co_T} {XL : Int32 → Int32 → Int32 → Prop} {f0 nu : Nat} {L : List (Nat × Nat)}
def ru_we (L : List (Nat × Nat)) (vc vr : q_V) : Prop := (q_f vc 2000 168 = 1 ∧ q_i vr 2481 = 0) ∨ ru_wl L vc vr
theorem ru_wl_c {vc vr : q_V} (h : ru_wl L vc vr) : q_f vc 2000 168 ≠ 0 ∧ q_f vc 2000 168 ≠ 1 ∧ q_i vr 2481 ≠ 0 := by
  rcases h with ⟨h1, h2, -⟩ | ⟨h1, h2, -⟩ | ⟨e, -, ⟨h1, h2⟩ | ⟨h1, h2⟩, -⟩ <;> rw [h1, h2] <;> decide
theorem ru_we_c {vc vr : q_V} (h : ru_we L vc vr) : q_f vc 2000 168 ≠ 0 := by
  rcases h with h | h
  · rw [h.1]; decide
  · exact (ru_wl_c h).1
theorem cs_leave1 {v : q_V} {p h f np cl p' h' : Nat} (e : q_f v 2000 168 = 1) (eh : q_f v 1203 np = nI h') : fX4_leave np (nI p') (mC v p h f (np + 1) cl) = some (mC (q_sf v 2000 168 0) p' h' f np cl) := by
  unfold fX4_leave fX4_goOn fX4_leave_b27
  rw [mC_807, ni_pred, mC_s807, q_lt_s, mC_f, if_pos e, q_lt_s, eh, mC_s803, q_lt_s, mC_sf, q_lt_s, mC_s810]; rfl
theorem cs_leave2 {v : q_V} {p h f np cl : Nat} {x : Int32} (e : q_f v 2000 168 ≠ 1) : fX4_leave np x (mC v p h f (np + 1) cl) = some (mC v p h f np cl) := by
  unfold fX4_leave fX4_leave_b27
  rw [mC_807, ni_pred, mC_s807, q_lt_s, mC_f, if_neg e]
theorem rs_closes1 {v : q_V} {q g f t cl q' g' : Nat} (ht : t < 240) (e : q_i v 2481 = 0) (eg : q_a v 2492 t = nI g') : fX12_closes (nI t) (nI q') (mR v q g f (t + 1) cl) = some (0, mR (q_si v 2481 0) q' g' f t cl) := by
  unfold fX12_closes
  rw [mR_s2487, q_lt_s, if_pos (show q_i (mR v q g f t cl) 2481 = 0 from e), rs_goes ht eg, q_bv_s]
theorem rs_closes2 {v : q_V} {q g f t cl : Nat} {x : Int32} (e : q_i v 2481 ≠ 0) : fX12_closes (nI t) x (mR v q g f (t + 1) cl) = some (1, mR v q g f t cl) := by
  unfold fX12_closes
  rw [mR_s2487, q_lt_s, if_neg (show ¬ q_i (mR v q g f t cl) 2481 = 0 from e)]
def rs_01 (y : Int32) (T : q_V) : Option (Int32 × q_V) := if ¬ (y = 0 ∨ y = 1) then none else some (y, T)
theorem ru_lw_f {v v1 : q_V} {k n : Nat} {x : Int32} (hk : 1200 ≤ k) (h : ru_lw v v1) : ru_lw v (q_sf v1 k n x) := by
  refine ⟨h.1, ?_⟩
  have : ru_w (q_sf v1 k n x) = ru_w v1 := by
    unfold ru_w
    rw [q_f_sf, if_neg (by omega), q_i_sf]
  rw [this]; exact h.2
/-- a part is left behind: its way stays -/
theorem ru_OUT {c f f1 h g np t cl pe qe p0 h0 q0 g0 p1 h1 q1 g1 : Nat} {vc vr v0 w0 v1 w1 : q_V} (n : ru_n Fin a T XL c f1 h g np t cl pe qe vc vr) (x : ru_x Fin a T XL L c f1 h g np t cl vc vr) (hf : f ≤ f1)
    (e1 : fX4_leaveTop (mC v0 p0 h0 f (np + 1) cl) = fX4_leave np (nI pe) (mC v1 p1 h1 f (np + 1) cl)) (e2 : rs_it (mR w0 q0 g0 f (t + 1) cl) = q_bd (fX12_closes (nI t) (nI qe) (mR w1 q1 g1 f (t + 1) cl)) rs_01)
    (a0 : q_i v0 814 = -1) (b0 : q_f v0 2000 168 ≠ 0) (ht : t < 240) (hn : np ≤ 168) (d : ru_D T XL cl t np v1 w1) (we : ru_we L v1 w1) (K : ru_K np t h g cl vc vr v1 w1) (eh : q_f v1 1203 np = nI h) (eg : q_a w1 2492 t = nI g) (hl : ru_lw v0 v1) (hv : ru_w (mC v1 p1 h1 f (np + 1) cl) = ru_w (mC v0 p0 h0 f (np + 1) cl)) :
    ru_L Fin a (40000 * f + c + 1) (mC v0 p0 h0 f (np + 1) cl) (mR w0 q0 g0 f (t + 1) cl) := by
  rcases we with ⟨w2, w3⟩ | we
  · rw [cs_leave1 w2 eh] at e1
    rw [rs_closes1 ht w3 eg, q_bd_s] at e2
    refine ru_clL e1 a0 b0 ⟨hl.1, ?_⟩ (ru_lz e2 rfl (by omega) (n f _ _ (ru_D_f (ru_D_j d (by omega) (by omega)) (by omega)) ⟨rfl, rfl⟩ hf (ru_K_f (ru_K_j K) hn (by omega))))
    rw [← hv]; exact Nat.le_refl _
  · have w2 := ru_wl_c we
    rw [cs_leave2 w2.2.1] at e1
    rw [rs_closes2 w2.2.2, q_bd_s] at e2
    refine ru_clL e1 a0 b0 ⟨hl.1, ?_⟩ (ru_le e2 (t := t + 1) (t1 := t) rfl rfl (by omega) (by omega) (x f _ _ _ _ _ _ d we hf K))
    rw [← hv]; exact Nat.le_refl _
theorem ru_D_lo {cl t np t1 np1 : Nat} {vc vr v w : q_V} (d0 : ru_D T XL cl t np vc vr) (d1 : ru_D T XL cl t1 np1 v w) (e : q_a v 203 = q_a vc 203) (z : q_i v 812 = ru_z w t) : ru_D T XL cl t np v w :=
  ⟨d1.1, d1.2.1, d1.2.2.1, d1.2.2.2.1, ⟨trivial, z, d1.2.2.2.2.1.2.2⟩, fun k hk => by rw [e]; exact d0.2.2.2.2.2 k hk⟩
theorem ru_D_bg {cl t np m h : Nat} {vc vr : q_V} {x y : Int32} (d : ru_D T XL cl t np vc vr) : ru_D T XL cl t np (ru_bg vc m h x y) vr :=
  ru_D_f (ru_D_f (ru_D_f (ru_D_f (ru_D_f d (by omega)) (by omega)) (by omega)) (by omega)) (by omega)
theorem ru_K_bg {np t h g cl m h' : Nat} {vc vr vc1 vr1 : q_V} {x y : Int32} (K : ru_K np t h g cl vc vr vc1 vr1) (hm : np ≤ m) : ru_K np t h g cl vc vr (ru_bg vc1 m h' x y) vr1 :=
  ru_K_f (ru_K_f (ru_K_f (ru_K_f (ru_K_f K hm (by omega)) hm (by omega)) hm (by omega)) hm (by omega)) hm (by omega)
theorem ru_z_op {vr : q_V} {t g : Nat} {s st e : Int32} : ru_z (ru_op vr t g s st e) t = ru_z vr t := ru_z_c (fun n hn => by
  show upd (q_a vr 2491) t 0 n = _
  unfold upd; rw [if_neg (by omega)])
theorem ru_D_op {cl t np g : Nat} {vc vr : q_V} {s st e : Int32} (d : ru_D T XL cl t np vc vr) : ru_D T XL cl t np vc (ru_op vr t g s st e) :=
  ⟨d.1, d.2.1, d.2.2.1, d.2.2.2.1, ⟨trivial, d.2.2.2.2.1.2.1.trans ru_z_op.symm, d.2.2.2.2.1.2.2⟩, d.2.2.2.2.2⟩
theorem ru_z_s {v : q_V} {t : Nat} : ru_z v (t + 1) = if q_a v 2491 t ≤ 0 then ru_z v t else q_a v 2491 t := rfl
/-- one region more whose WITHIN is nothing; one part more -/
theorem ru_D_t1 {cl t np : Nat} {vc vr : q_V} (d : ru_D T XL cl t np vc vr) (e : q_a vr 2491 t = 0) : ru_D T XL cl (t + 1) np vc vr :=
  ⟨d.1, d.2.1, d.2.2.1, d.2.2.2.1, ⟨trivial, d.2.2.2.2.1.2.1.trans (by rw [ru_z_s, e, if_pos (by decide)]), d.2.2.2.2.1.2.2⟩, d.2.2.2.2.2⟩
theorem ru_D_n1 {cl t np np1 : Nat} {vc vr : q_V} (d : ru_D T XL cl t np vc vr) (hn : np ≤ np1) : ru_D T XL cl t np1 vc vr :=
  ⟨d.1, d.2.1, d.2.2.1, d.2.2.2.1, d.2.2.2.2.1, fun k hk => by obtain ⟨m, h1, h2⟩ := d.2.2.2.2.2 k hk; exact ⟨m, by omega, h2⟩⟩
theorem ru_op_w {vr : q_V} {t g : Nat} {s st e : Int32} : q_a (ru_op vr t g s st e) 2488 t = s ∧ q_a (ru_op vr t g s st e) 2489 t = st ∧ q_a (ru_op vr t g s st e) 2490 t = e ∧ q_a (ru_op vr t g s st e) 2491 t = 0 ∧ q_a (ru_op vr t g s st e) 2492 t = nI g := by
  refine ⟨?_, ?_, ?_, ?_, ?_⟩ <;> (show upd _ t _ t = _) <;> (unfold upd; rw [if_pos rfl])
theorem ru_bg_w {vc : q_V} {np h : Nat} {x y : Int32} : q_f (ru_bg vc np h x y) 1200 np = x ∧ q_f (ru_bg vc np h x y) 1201 np = 0 ∧ q_f (ru_bg vc np h x y) 1202 np = y ∧ q_f (ru_bg vc np h x y) 1203 np = nI h ∧ q_f (ru_bg vc np h x y) 1207 np = q_i vc 812 := by
  unfold ru_bg
  refine ⟨?_, ?_, ?_, ?_, ?_⟩
  · rw [q_f_sf, if_neg (by omega), q_f_sf, if_neg (by omega), q_f_sf, if_neg (by omega), q_f_sf, if_neg (by omega), q_f_sf, if_pos ⟨rfl, rfl⟩]
  · rw [q_f_sf, if_neg (by omega), q_f_sf, if_neg (by omega), q_f_sf, if_neg (by omega), q_f_sf, if_pos ⟨rfl, rfl⟩]
  · rw [q_f_sf, if_neg (by omega), q_f_sf, if_neg (by omega), q_f_sf, if_pos ⟨rfl, rfl⟩]
  · rw [q_f_sf, if_neg (by omega), q_f_sf, if_pos ⟨rfl, rfl⟩]
  · rw [q_f_sf, if_pos ⟨rfl, rfl⟩]
theorem ru_K_a {np t h g cl j0 n0 : Nat} {vc vr vc1 vr1 : q_V} {x : Int32} (K : ru_K np t h g cl vc vr vc1 vr1) (hn : t ≤ n0) (h1 : 2488 ≤ j0) (h2 : j0 ≤ 2500) : ru_K np t h g cl vc vr vc1 (q_sa vr1 j0 (upd (q_a vr1 j0) n0 x)) := by
  refine ⟨K.1, K.2.1, fun j n z1 z2 z3 => ⟨?_, (K.2.2.1 j n z1 z2 z3).2⟩, fun i z => ?_, fun i z => ?_, K.2.2.2.2.2⟩
  · rw [q_a_sa]
    split
    · next e => subst e; unfold upd; rw [if_neg (by omega)]; exact (K.2.2.1 j n z1 z2 z3).1
    · exact (K.2.2.1 j n z1 z2 z3).1
  · rw [q_a_sa, if_neg (by omega)]; exact K.2.2.2.1 i z
  · rw [q_a_sa, if_neg (by omega), q_a_sa, if_neg (by omega)]; exact K.2.2.2.2.1 i z
theorem ru_K_op {np t h g cl t' g' : Nat} {vc vr vc1 vr1 : q_V} {s st e : Int32} (K : ru_K np t h g cl vc vr vc1 vr1) (ht : t ≤ t') : ru_K np t h g cl vc vr vc1 (ru_op vr1 t' g' s st e) :=
  ru_K_a (ru_K_a (ru_K_a (ru_K_a (ru_K_a K ht (by omega) (by omega)) ht (by omega) (by omega)) ht (by omega) (by omega)) ht (by omega) (by omega)) ht (by omega) (by omega)
/-- the end of a block, and every other way out of it -/
def ru_y (Fin : q_V → q_V → Prop) (a : ru_P) (T : co_T) (XL : Int32 → Int32 → Int32 → Prop) (L : List (Nat × Nat)) (c f h g np t cl pe : Nat) (vc vr : q_V) : Prop :=
  ∀ f' p'' h'' q'' g'' vc' vr', ru_D T XL cl t np vc' vr' → ru_we L vc' vr' → (q_f vc' 2000 168 = 1 → p'' = pe) → f' ≤ f → ru_K np t h g cl vc vr vc' vr' → ru_L Fin a (40000 * f' + c) (mC vc' p'' h'' f' np cl) (mR vr' q'' g'' f' t cl)
theorem ru_END {B p q h g f np t cl : Nat} {vc vr : q_V} (d : ru_D T XL cl t np vc vr) (W : ru_V vc vr) (c1 : co_c T p 54) (r1 : co_r T 0 q 48) (k : ru_L Fin a B (mC (ru_be vc 1 0) (p + 1) h f np cl) (mR vr (q + 1) g f t cl)) : ru_G Fin a (B + 1) (mC vc p h f np cl) (mR vr q g f t cl) := by
  refine ru_cs (v1 := mC (ru_be vc 1 0) (p + 1) h f np cl) ?_ d.2.2.2.2.1.2.2.1 W.1 ⟨Nat.le_add_right _ _, Nat.le_refl _⟩ (ru_rl (v1 := mR vr (q + 1) g f t cl) ?_ d.2.2.2.2.1.2.2.2.1 d.2.2.2.2.1.2.2.2.2 k)
  · rw [cs_step d.1 c1, cd_54, q_bv_id]; rfl
  · rw [rs_step d.1 r1, rd_48, q_bv_id]
    unfold fX12_stepOfStatement_b600
    rw [q_bv_id]
theorem ru_BODY {p p' q q' : Nat} (s : ru_SS Fin a T XL f0 nu L p p' q q') (c1 : co_c T p' 54) (r1 : co_r T 0 q' 48) {c f h g np t cl : Nat} {vc vr : q_V} (d : ru_D T XL cl t np vc vr) (W : ru_V vc vr) (bd : ru_bd nu f f0 h g np t cl) (y : ru_y Fin a T XL L c f h g np t cl (p' + 1) vc vr) :
    ru_G Fin a (40000 * f + c + 4 * (p' + 1 - p)) (mC vc p h f np cl) (mR vr q g f t cl) := by
  have o1 := s.1
  have bd' := bd
  obtain ⟨b1, b2, b3, b4, b5, b6, b7, b8, b9, b10⟩ := bd'
  refine ru_mono (s.2.2 (c + 1) f h g np t cl vc vr d W bd ?_ ?_) (by omega)
  · intro f1 vc1 vr1 d1 W1 hf1 K1
    rw [show 40000 * f1 + (c + 1) = 40000 * f1 + c + 1 from by omega]
    exact ru_END d1 W1 c1 r1 (y f1 _ _ _ _ _ _ (ru_D_be d1) (Or.inl ⟨rfl, W1.2⟩) (fun _ => rfl) hf1 (ru_K_be K1 (by omega)))
  · intro f1 p2 h2 q2 g2 vc1 vr1 d1 w1 hf1 K1
    exact ru_monoL (y f1 p2 h2 q2 g2 vc1 vr1 d1 (Or.inr w1) (fun e => absurd e (ru_wl_c w1).2.1) hf1 K1) (by omega)
end
