/-- how a WAY of the class and one of the reference are the same -/
def ru_wy (L : List (Nat × Nat)) (s n ca pl w lo nu ki cu pl' : Int32) : Prop :=
  (s = 4 ∧ w = 4 ∧ n = ki ∧ ca = cu ∧ pl = pl' ∧ 0 < ki) ∨ (s = 2 ∧ w = 3 ∧ n = nu) ∨ (∃ e, e ∈ L ∧ (s = 8 ∧ w = 1 ∨ s = 16 ∧ w = 2) ∧ n = nI e.1 ∧ lo = nI e.2)
def ru_wl (L : List (Nat × Nat)) (vc vr : q_V) : Prop := ru_wy L (q_f vc 2000 168) (q_f vc 2001 168) (q_f vc 2002 168) (q_f vc 2003 168) (q_i vr 2481) (q_i vr 2482) (q_i vr 2483) (q_i vr 2484) (q_i vr 2485) (q_i vr 2486)
theorem ru_wl_t {L : List (Nat × Nat)} {vc vr : q_V} (h : ru_wt vc vr) : ru_wl L vc vr := Or.inl ⟨h.1, h.2.1, h.2.2.1, h.2.2.2.1, h.2.2.2.2.1, h.2.2.2.2.2⟩
def ru_bd (nu f f0 h g np t cl : Nat) : Prop := f ≤ f0 ∧ f0 ≤ 20000 ∧ 1 ≤ nu ∧ nu ≤ 14 ∧ h + 142 ≤ 140 * cl + 2 * nu ∧ g ≤ h ∧ (1 ≤ np ∧ np + 14 ≤ 14 * cl + nu) ∧ t + 15 ≤ 15 * cl + nu ∧ 1 ≤ cl ∧ cl ≤ 12
/-- going on at the end of a piece; on the way out of it -/
def ru_n (Fin : q_V → q_V → Prop) (a : ru_P) (T : co_T) (XL : Int32 → Int32 → Int32 → Prop) (c f h g np t cl p' q' : Nat) (vc vr : q_V) : Prop :=
  ∀ f' vc' vr', ru_D T XL cl t np vc' vr' → ru_V vc' vr' → f' ≤ f → ru_K np t h g cl vc vr vc' vr' → ru_G Fin a (40000 * f' + c) (mC vc' p' h f' np cl) (mR vr' q' g f' t cl)
def ru_x (Fin : q_V → q_V → Prop) (a : ru_P) (T : co_T) (XL : Int32 → Int32 → Int32 → Prop) (L : List (Nat × Nat)) (c f h g np t cl : Nat) (vc vr : q_V) : Prop :=
  ∀ f' p'' h'' q'' g'' vc' vr', ru_D T XL cl t np vc' vr' → ru_wl L vc' vr' → f' ≤ f → ru_K np t h g cl vc vr vc' vr' → ru_L Fin a (40000 * f' + c) (mC vc' p'' h'' f' np cl) (mR vr' q'' g'' f' t cl)
def ru_SS (Fin : q_V → q_V → Prop) (a : ru_P) (T : co_T) (XL : Int32 → Int32 → Int32 → Prop) (f0 nu : Nat) (L : List (Nat × Nat)) (p p' q q' : Nat) : Prop :=
  p ≤ p' ∧ q ≤ q' ∧ ∀ c f h g np t cl vc vr, ru_D T XL cl t np vc vr → ru_V vc vr → ru_bd nu f f0 h g np t cl → ru_n Fin a T XL c f h g np t cl p' q' vc vr → ru_x Fin a T XL L c f h g np t cl vc vr →
    ru_G Fin a (40000 * f + c + 4 * (p' - p)) (mC vc p h f np cl) (mR vr q g f t cl)
/-- the same of a statement behind its beginning -/
def ru_ST (Fin : q_V → q_V → Prop) (a : ru_P) (T : co_T) (XL : Int32 → Int32 → Int32 → Prop) (f0 nu : Nat) (L : List (Nat × Nat)) (p p' q q' : Nat) : Prop :=
  p ≤ p' ∧ q ≤ q' ∧ ∀ c f h g np t cl vc vr, ru_D T XL cl t np vc vr → ru_W vc vr → ru_bd nu f f0 h g np t cl → ru_n Fin a T XL c f h g np t cl p' q' vc vr → ru_x Fin a T XL L c f h g np t cl vc vr →
    ru_G Fin a (40000 * f + c + 4 * (p' - p)) (mC vc p h f np cl) (mR vr q g f t cl)
/-- a run that is over -/
def ru_O (Fin : q_V → q_V → Prop) (a : ru_P) (T : co_T) : Prop :=
  ∀ (o : Int32) (p h f np cl q g t : Nat) (vc vr : q_V), o = 1 ∨ o = 2 → ru_S T vc vr → ru_A vc vr → ru_Q vc vr → f ≤ 20000 → q_i vc 814 = o → q_i vr 2513 = o →
    ∃ y vc' vr', fX4_perform_b154 a.1 a.2.1 a.2.2.1 a.2.2.2.1 (mC vc p h f np cl) = some (y, vc') ∧ fX12_run_b147 a.1 a.2.1 a.2.2.1 a.2.2.2.1 (mR vr q g f t cl) = some (y, vr') ∧ Fin vc' vr'
section
variable {Fin : q_V → q_V → Prop} {a : ru_P} {T : co_T} {XL : Int32 → Int32 → Int32 → Prop} {f0 nu : Nat} {L : List (Nat × Nat)}
theorem ru_n_tr {c f h g np t cl p' q' f1 : Nat} {vc vr vc1 vr1 : q_V} (n : ru_n Fin a T XL c f h g np t cl p' q' vc vr) (hf : f1 ≤ f) (k : ru_K np t h g cl vc vr vc1 vr1) : ru_n Fin a T XL c f1 h g np t cl p' q' vc1 vr1 :=
  fun f' vc' vr' d W x y => n f' vc' vr' d W (by omega) (ru_K_tr k y (Nat.le_refl _) (Nat.le_refl _) (Nat.le_refl _) (Nat.le_refl _) (Nat.le_refl _))
theorem ru_x_tr {c f h g np t cl f1 : Nat} {vc vr vc1 vr1 : q_V} (n : ru_x Fin a T XL L c f h g np t cl vc vr) (hf : f1 ≤ f) (k : ru_K np t h g cl vc vr vc1 vr1) : ru_x Fin a T XL L c f1 h g np t cl vc1 vr1 :=
  fun f' p'' h'' q'' g'' vc' vr' d W x y => n f' p'' h'' q'' g'' vc' vr' d W (by omega) (ru_K_tr k y (Nat.le_refl _) (Nat.le_refl _) (Nat.le_refl _) (Nat.le_refl _) (Nat.le_refl _))
theorem ru_x_c {c c' f h g np t cl : Nat} {vc vr : q_V} (n : ru_x Fin a T XL L c f h g np t cl vc vr) (hc : c ≤ c') : ru_x Fin a T XL L c' f h g np t cl vc vr :=
  fun f' p'' h'' q'' g'' vc' vr' d W x y => ru_monoL (n f' p'' h'' q'' g'' vc' vr' d W x y) (by omega)
theorem ru_over {B p h f np cl q g t : Nat} {vc vr : q_V} {o : Int32} (HO : ru_O Fin a T) (ho : o = 1 ∨ o = 2) (d1 : ru_S T vc vr) (d2 : ru_A vc vr) (d3 : ru_Q vc vr) (hf : f ≤ 20000) (e1 : q_i vc 814 = o) (e2 : q_i vr 2513 = o) : ru_G Fin a B (mC vc p h f np cl) (mR vr q g f t cl) := by
  intro s h1 hS h2 h3
  obtain ⟨y, vc', vr', x1, x2, x3⟩ := HO o p h f np cl q g t vc vr ho d1 d2 d3 hf e1 e2
  have n1 : ¬ q_i (mC vc p h f np cl) 814 = -1 := by
    rw [show q_i (mC vc p h f np cl) 814 = q_i vc 814 from rfl, e1]; rcases ho with x | x <;> rw [x] <;> decide
  have n2 : ¬ q_i (mR vr q g f t cl) 2513 = 0 := by
    rw [show q_i (mR vr q g f t cl) 2513 = q_i vr 2513 from rfl, e2]; rcases ho with x | x <;> rw [x] <;> decide
  refine ⟨y, vc', vr', 1, ?_, ?_, x3⟩
  · unfold ru_C fX4_perform_L112
    split
    · exact x1
    · first | exact x1 | (rw [if_neg n1]; exact x1)
  · unfold ru_R fX12_run_L126
    rw [if_neg n2]; exact x2
/-- a STATEMENT begins -/
theorem ru_SP {B p q h g f np t cl : Nat} {vc vr : q_V} {pl : Int32} (HO : ru_O Fin a T) (d : ru_D T XL cl t np vc vr) (W : ru_V vc vr) (hf : f ≤ 20000) (c0 : co_c T p 30) (c1 : co_c T (p + 1) pl) (r0 : co_r T 0 q 30) (r1 : co_r T 1 q pl)
    (k : ∀ f1, f = f1 + 1 → ru_D T XL cl t np (q_si vc 811 pl) (q_si vr 2511 pl) → ru_G Fin a B (mC (q_si vc 811 pl) (p + 2) h f1 np cl) (mR (q_si vr 2511 pl) (q + 1) g f1 t cl)) :
    ru_G Fin a (B + 1) (mC vc p h f np cl) (mR vr q g f t cl) := by
  cases f with
  | zero =>
    refine ru_bb (w := 1) (vc1 := mC (q_si vc 814 2) (p + 2) h 0 np cl) (vr1 := mR (q_si (q_si vr 2511 pl) 2513 2) (q + 1) g 0 t cl) (by omega) ?_ ?_ d.2.2.2.2.1.2.2.1 W.1 d.2.2.2.2.1.2.2.2.1 d.2.2.2.2.1.2.2.2.2 ⟨Nat.le_add_right _ _, Nat.le_refl _⟩ ?_
    · rw [cs_step d.1 c0, cd_30, q_bv_id, cs_S d.1 c1, q_bd_s, cs_spend0, q_bd_s, if_pos rfl]; rfl
    · rw [rs_step d.1 r0, rd_30, q_bv_id, r1.2, q_lt_s, mR_s2511, rs_burn0, q_bd_s]; rfl
    · exact ru_over (o := 2) HO (Or.inr rfl) d.1 d.2.1 (ru_Q_i (by omega) (by omega) (ru_Q_i (by omega) (by omega) d.2.2.1)) (by omega) rfl rfl
  | succ f =>
    refine ru_bb (w := 1) (vc1 := mC (q_si vc 811 pl) (p + 2) h f np cl) (vr1 := mR (q_si vr 2511 pl) (q + 1) g f t cl) (by omega) ?_ ?_ d.2.2.2.2.1.2.2.1 W.1 d.2.2.2.2.1.2.2.2.1 d.2.2.2.2.1.2.2.2.2 ⟨Nat.le_add_right _ _, Nat.le_refl _⟩ ?_
    · rw [cs_step d.1 c0, cd_30, q_bv_id, cs_S d.1 c1, q_bd_s, cs_spend (by omega), q_bd_s, if_neg (by decide), q_lt_s, mC_s811]; rfl
    · rw [rs_step d.1 r0, rd_30, q_bv_id, r1.2, q_lt_s, mR_s2511, rs_burn (by omega), q_bd_s]; rfl
    · exact k f rfl ⟨d.1, d.2.1, ru_Q_i (by omega) (by omega) d.2.2.1, d.2.2.2.1, ⟨trivial, d.2.2.2.2.1.2.1.trans (ru_z_c (v := vr) (w := q_si vr 2511 pl) (fun _ _ => rfl)).symm, d.2.2.2.2.1.2.2⟩, d.2.2.2.2.2⟩
theorem ru_K_i {np t h g cl k k' : Nat} {vc vr vc1 vr1 : q_V} {x y : Int32} (K : ru_K np t h g cl vc vr vc1 vr1) : ru_K np t h g cl vc vr (q_si vc1 k x) (q_si vr1 k' y) := K
theorem ru_STMT {p p' q q' : Nat} {pl : Int32} (HO : ru_O Fin a T) (c0 : co_c T p 30) (c1 : co_c T (p + 1) pl) (r0 : co_r T 0 q 30) (r1 : co_r T 1 q pl) (s : ru_ST Fin a T XL f0 nu L (p + 2) p' (q + 1) q') : ru_SS Fin a T XL f0 nu L p p' q q' := by
  have o1 := s.1
  have o2 := s.2.1
  refine ⟨by omega, by omega, ?_⟩
  intro c f h g np t cl vc vr d W bd n x
  obtain ⟨b1, b2, b3, b4, b5, b6, b7, b8, b9, b10⟩ := bd
  refine ru_mono (ru_SP (B := 40000 * f + c + 4 * (p' - (p + 2))) HO d W (by omega) c0 c1 r0 r1 ?_) (by omega)
  intro f1 e1 d1
  subst e1
  exact ru_mono (s.2.2 c f1 h g np t cl _ _ d1 ⟨W.1, W.2, rfl⟩ ⟨by omega, b2, b3, b4, b5, b6, b7, b8, b9, b10⟩ (ru_n_tr n (by omega) (ru_K_i ru_K_id)) (ru_x_tr x (by omega) (ru_K_i ru_K_id))) (by omega)
theorem ru_STS {p p' q q' : Nat} (s : ru_SS Fin a T XL f0 nu L p p' q q') : ru_ST Fin a T XL f0 nu L p p' q q' := ⟨s.1, s.2.1, fun c f h g np t cl vc vr d W bd n x => s.2.2 c f h g np t cl vc vr d (ru_wv W) bd n x⟩
theorem ru_BN {p q : Nat} : ru_SS Fin a T XL f0 nu L p p q q :=
  ⟨Nat.le_refl _, Nat.le_refl _, fun c f h g np t cl vc vr d W bd n x => ru_mono (n f vc vr d W (Nat.le_refl _) ru_K_id) (by omega)⟩
theorem ru_BC {p p1 p' q q1 q' : Nat} (s1 : ru_SS Fin a T XL f0 nu L p p1 q q1) (s2 : ru_SS Fin a T XL f0 nu L p1 p' q1 q') : ru_SS Fin a T XL f0 nu L p p' q q' := by
  have o1 := s1.1
  have o2 := s1.2.1
  have o3 := s2.1
  have o4 := s2.2.1
  refine ⟨by omega, by omega, ?_⟩
  intro c f h g np t cl vc vr d W bd n x
  refine ru_mono (s1.2.2 (c + 4 * (p' - p1)) f h g np t cl vc vr d W bd ?_ (ru_x_c x (by omega))) (by omega)
  intro f1 vc1 vr1 d1 W1 hf1 K1
  refine ru_mono (s2.2.2 c f1 h g np t cl vc1 vr1 d1 W1 ⟨by have := bd.1; omega, bd.2⟩ (ru_n_tr n hf1 K1) (ru_x_tr x hf1 K1)) (by omega)
/-- values, then an order -/
theorem ru_BES {m hb p p1 p' q q1 q' : Nat} (s1 : ru_SA Fin a T XL f0 m hb p p1 q q1) (hhb : hb + 2 * nu ≤ 142) (o1 : p1 < p') (o2 : q1 ≤ q')
    (st : ∀ c f h g np t cl vc vr, ru_D T XL cl t np vc vr → ru_W vc vr → ru_bd nu f f0 h g np t cl → (∀ i, i < m → q_a vc 802 (h + i) = q_a vr 2515 (g + i)) → ru_n Fin a T XL c f h g np t cl p' q' vc vr → ru_x Fin a T XL L c f h g np t cl vc vr →
      ru_G Fin a (40000 * f + c + 4 * (p' - p1)) (mC vc p1 (h + m) f np cl) (mR vr q1 (g + m) f t cl)) : ru_ST Fin a T XL f0 nu L p p' q q' := by
  have x1 := s1.1
  have x2 := s1.2.1
  refine ⟨by omega, by omega, ?_⟩
  intro c f h g np t cl vc vr d W bd n x
  obtain ⟨b1, b2, b3, b4, b5, b6, b7, b8, b9, b10⟩ := bd
  refine ru_mono (s1.2.2 (c + 4 * (p' - p1)) f h g np t cl vc vr d W b1 b2 (by omega) b6 (by omega) (by omega) b9 b10 ?_ ?_) (by omega)
  · intro f1 vc1 vr1 d1 W1 hf1 K1 E1
    refine ru_mono (st c f1 h g np t cl vc1 vr1 d1 W1 ⟨by omega, b2, b3, b4, b5, b6, b7, b8, b9, b10⟩ E1 (ru_n_tr n hf1 K1) (ru_x_tr x hf1 K1)) (by omega)
  · intro f1 p2 h2 q2 g2 vc1 vr1 d1 W1 hf1 K1
    exact ru_monoL (x f1 p2 h2 q2 g2 vc1 vr1 d1 (ru_wl_t W1) hf1 K1) (by omega)
end
