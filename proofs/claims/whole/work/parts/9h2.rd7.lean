/-! after a token's fault both readers come to their end -/
section
variable {g : rd_G} {f p : Int32} {l l1 B B1 : Nat} {v w : q_V} {α β γ : Type}
set_option maxHeartbeats 200000 in
theorem q_N1 : q_N = 1999999999 + 1 := rfl
set_option maxHeartbeats 200000 in
theorem vu_bv {o : Option q_V} {k : q_V → Option q_V} : vu (q_bv o k) = q_bv o (fun v => vu (k v)) := by cases o <;> rfl
set_option maxHeartbeats 200000 in
theorem vu_bd {o : Option (α × q_V)} {k : α → q_V → Option q_V} : vu (q_bd o k) = q_bd o (fun a v => vu (k a v)) := by
  cases o with
  | none => rfl
  | some x => cases x; rfl
set_option maxHeartbeats 200000 in
theorem vu_some : vu (some v) = some ((), v) := rfl
set_option maxHeartbeats 200000 in
theorem vu_lt {x : α} {k : α → Option q_V} : vu (q_lt x k) = q_lt x (fun a => vu (k a)) := rfl
set_option maxHeartbeats 200000 in
theorem vu_if {c : Prop} [Decidable c] {a b : Option q_V} : vu (if c then a else b) = if c then vu a else vu b := by split <;> rfl
set_option maxHeartbeats 200000 in
theorem cG_s {a : α} (h : xc g f p l v) : cG g f p l (some (a, v)) := ⟨a, v, rfl, h⟩
set_option maxHeartbeats 200000 in
theorem rG_s {a : α} (h : xr g f p B v) : rG g f p B (some (a, v)) := ⟨a, v, rfl, h⟩
set_option maxHeartbeats 200000 in
theorem cG_d {X : Option (α × q_V)} {k : α → q_V → Option (β × q_V)} (h : cG g f p l1 X) (hk : ∀ a v, xc g f p l1 v → cG g f p l (k a v)) : cG g f p l (q_bd X k) := by
  obtain ⟨a, v, e, h⟩ := h
  rw [e, q_bd_s]; exact hk a v h
set_option maxHeartbeats 200000 in
theorem cG_v {X : Option q_V} {k : q_V → Option (β × q_V)} (h : cG g f p l1 (vu X)) (hk : ∀ v, xc g f p l1 v → cG g f p l (k v)) : cG g f p l (q_bv X k) := by
  obtain ⟨a, v, e, h⟩ := h
  cases X with
  | none => exact absurd e (by simp [vu, q_bv])
  | some x =>
    have := (Prod.mk.inj (Option.some.inj e)).2
    subst this
    rw [q_bv_s]; exact hk _ h
set_option maxHeartbeats 200000 in
theorem rG_d {X : Option (α × q_V)} {k : α → q_V → Option (β × q_V)} (h : rG g f p B1 X) (hk : ∀ a v, xr g f p B1 v → rG g f p B (k a v)) : rG g f p B (q_bd X k) := by
  obtain ⟨a, v, e, h⟩ := h
  rw [e, q_bd_s]; exact hk a v h
set_option maxHeartbeats 200000 in
theorem rG_v {X : Option q_V} {k : q_V → Option (β × q_V)} (h : rG g f p B1 (vu X)) (hk : ∀ v, xr g f p B1 v → rG g f p B (k v)) : rG g f p B (q_bv X k) := by
  obtain ⟨a, v, e, h⟩ := h
  cases X with
  | none => exact absurd e (by simp [vu, q_bv])
  | some x =>
    have := (Prod.mk.inj (Option.some.inj e)).2
    subst this
    rw [q_bv_s]; exact hk _ h
set_option maxHeartbeats 200000 in
theorem cG_i {c : Prop} [Decidable c] {X Y : Option (α × q_V)} (h1 : c → cG g f p l X) (h2 : ¬ c → cG g f p l Y) : cG g f p l (if c then X else Y) := by
  split
  · exact h1 (by assumption)
  · exact h2 (by assumption)
set_option maxHeartbeats 200000 in
theorem rG_i {c : Prop} [Decidable c] {X Y : Option (α × q_V)} (h1 : c → rG g f p B X) (h2 : ¬ c → rG g f p B Y) : rG g f p B (if c then X else Y) := by
  split
  · exact h1 (by assumption)
  · exact h2 (by assumption)
set_option maxHeartbeats 200000 in
theorem cG_u {X : Option q_V} {k : q_V → Option q_V} (h : cG g f p l1 (vu X)) (hk : ∀ v, xc g f p l1 v → cG g f p l (vu (k v))) : cG g f p l (vu (q_bv X k)) := by rw [vu_bv]; exact cG_v h hk
set_option maxHeartbeats 200000 in
theorem rG_u {X : Option q_V} {k : q_V → Option q_V} (h : rG g f p B1 (vu X)) (hk : ∀ v, xr g f p B1 v → rG g f p B (vu (k v))) : rG g f p B (vu (q_bv X k)) := by rw [vu_bv]; exact rG_v h hk
set_option maxHeartbeats 200000 in
theorem cG_e {X : Option (α × q_V)} {k : α → q_V → Option q_V} (h : cG g f p l1 X) (hk : ∀ a v, xc g f p l1 v → cG g f p l (vu (k a v))) : cG g f p l (vu (q_bd X k)) := by rw [vu_bd]; exact cG_d h hk
set_option maxHeartbeats 200000 in
theorem rG_e {X : Option (α × q_V)} {k : α → q_V → Option q_V} (h : rG g f p B1 X) (hk : ∀ a v, xr g f p B1 v → rG g f p B (vu (k a v))) : rG g f p B (vu (q_bd X k)) := by rw [vu_bd]; exact rG_d h hk
/-! the class's orders, stopped -/
set_option maxHeartbeats 200000 in
theorem xc_i {k : Nat} {x : Int32} (h : xc g f p l v) (hk : k < 2 ∨ 1003 ≤ k ∧ k < 1009 ∨ 1009 < k ∧ k < 1013 ∨ k = 1604 ∨ k = 1803 ∨ k = 1804 ∨ 1805 < k ∧ k < 1809) : xc g f p l (q_si v k x) := by
  obtain ⟨h1, h2, h3, h4, h5, h6⟩ := h
  refine ⟨rdf_i h1 (by omega), ?_, ?_, ?_, h5, ?_⟩
  · rw [q_i_ne (by omega)]; exact h2
  · rw [q_i_ne (by omega)]; exact h3
  · rw [q_i_ne (by omega)]; exact h4
  · rw [q_i_ne (by omega)]; exact h6
set_option maxHeartbeats 200000 in
theorem xc_a {k : Nat} {x : Nat → Int32} (h : xc g f p l v) (hk : k = 0 ∨ 1003 ≤ k ∧ k < 1013) : xc g f p l (q_sa v k x) := by
  obtain ⟨h1, h2, h3, h4, h5, h6⟩ := h
  exact ⟨rdf_a h1 hk, h2, h3, h4, h5, h6⟩
set_option maxHeartbeats 200000 in
theorem xc_b {k : Nat} {x : Nat → Int64} (h : xc g f p l v) (hk : k = 0 ∨ 1003 ≤ k ∧ k < 1013) : xc g f p l (q_sb v k x) := by
  obtain ⟨h1, h2, h3, h4, h5, h6⟩ := h
  exact ⟨rdf_b h1 hk, h2, h3, h4, h5, h6⟩
set_option maxHeartbeats 200000 in
theorem x_adv (h : xc g f p l v) : cG g f p l (vu (fX9_advance v)) := by
  unfold fX9_advance
  rw [if_pos h.2.1]; exact cG_s h
set_option maxHeartbeats 200000 in
theorem xc_ne (h : xc g f p l v) : ¬ q_i v 1809 = 0 := by
  intro z
  have := h.2.2.2.2.1
  rw [← h.2.2.1, z] at this; exact absurd this (by decide)
set_option maxHeartbeats 200000 in
theorem x_stopW {x : Int32} (h : xc g f p l v) : cG g f p l (vu (fX9_stopWith x v)) := by
  unfold fX9_stopWith fX9_stopWith_b20
  rw [if_neg (xc_ne h), q_lt_s, q_si_ix h.2.1]; exact cG_s h
set_option maxHeartbeats 200000 in
theorem x_refuse (h : xc g f p l v) : cG g f p l (vu (fX9_refuse v)) := by
  unfold fX9_refuse fX9_refuse_b16
  rw [vu_if]
  exact cG_i (fun _ => cG_u (x_stopW h) (fun v h => cG_s h)) (fun _ => cG_u (x_stopW h) (fun v h => cG_s h))
set_option maxHeartbeats 200000 in
theorem x_exp {y : Int32} (h : xc g f p l v) : cG g f p l (vu (fX9_expect y v)) := by
  unfold fX9_expect fX9_expect_b19
  rw [vu_if]
  exact cG_i (fun _ => cG_u (x_adv h) (fun v h => cG_s h)) (fun _ => cG_u (x_refuse h) (fun v h => cG_s h))
set_option maxHeartbeats 200000 in
theorem x_end (h : xc g f p l v) : cG g f p l (vu (fX9_endNest v)) := by
  unfold fX9_endNest
  rw [q_lt_s]; exact cG_s (xc_i h (by omega))
set_option maxHeartbeats 200000 in
theorem x_expN {y : Int32} (hy : y ≠ 263) (h : xc g f p l v) : cG g f p l (vu (fX9_expectNest y v)) := by
  unfold fX9_expectNest fX9_expectNest_b46
  rw [if_neg (by rw [h.2.1]; exact Ne.symm hy)]
  exact cG_u (x_refuse h) (fun v h => cG_s h)
set_option maxHeartbeats 200000 in
theorem x_stop (h : xc g f p l v) : fX9_isStopped v = some (1, v) := by
  unfold fX9_isStopped fX9_isStopped_b15
  rw [if_pos h.2.1, if_neg (by decide)]
set_option maxHeartbeats 200000 in
theorem x_n0 (ok : rd_ok g) (h : xc g f p l v) : q_n v 0 = 2 * gL g + 16 := rd_n0 ok h.1
set_option maxHeartbeats 200000 in
theorem x_nk {x : Int32} {m : Nat} (hm : m < 2147483648) (h1 : ¬ x < 0) (h2 : ¬ nI m ≤ x) : ¬ (x < 0 ∨ m ≤ x.toNatClampNeg) := by
  obtain ⟨a, ha, e⟩ := ni_ex h1
  subst e
  rw [ni_le hm ha] at h2
  rw [ni_neg ha, ni_clamp ha]
  simp; omega
set_option maxHeartbeats 200000 in
theorem x_add {y : Int32} (ok : rd_ok g) (h : xc g f p l v) : cG g f p l (fX0_add y v) := by
  have hn := x_n0 ok h
  have hL := ok.1
  unfold fX0_add fX0_add_b35
  rw [q_lt_s, hn]
  refine cG_i (fun _ => cG_s h) (fun c1 => cG_i (fun _ => cG_s h) (fun c2 => ?_))
  rw [if_neg (x_nk (by omega) c1 c2), q_lt_s, q_lt_s]
  exact cG_s (xc_i (xc_a h (by omega)) (by omega))
set_option maxHeartbeats 200000 in
theorem x_add2 {x y : Int32} (ok : rd_ok g) (h : xc g f p l v) : cG g f p l (fX0_add_ x y v) := by
  unfold fX0_add_
  exact cG_d (x_add ok h) (fun a v h => cG_d (x_add ok h) (fun a v h => cG_s h))
set_option maxHeartbeats 200000 in
theorem x_part {x y : Int32} (ok : rd_ok g) (h : xc g f p l v) : cG g f p l (fX0_addPart x y v) := by
  unfold fX0_addPart
  exact cG_d (x_add2 ok h) (fun a v h => cG_d (x_add ok h) (fun a v h => cG_d (x_add ok h) (fun a v h => cG_d (x_add ok h) (fun a v h => cG_s h))))
set_option maxHeartbeats 200000 in
theorem x_set {x y : Int32} (ok : rd_ok g) (h : xc g f p l v) : cG g f p l (vu (fX0_set x y v)) := by
  have hn := x_n0 ok h
  have hL := ok.1
  unfold fX0_set fX0_set_b20
  rw [hn, vu_if]
  refine cG_i (fun _ => cG_s h) (fun c1 => ?_)
  rw [vu_if]
  refine cG_i (fun _ => cG_s h) (fun c2 => ?_)
  rw [if_neg (x_nk (by omega) c1 c2), q_lt_s]
  exact cG_s (xc_a h (by omega))
set_option maxHeartbeats 200000 in
theorem x_size (h : xc g f p l v) : cG g f p l (fX0_size v) := cG_s h
set_option maxHeartbeats 200000 in
theorem x_blame {x y : Int32} (h : xc g f p l v) : cG g f p l (vu (fX5_blame x y v)) := by
  have k1 : xc g f p l (q_si (q_si v 1011 x) 1012 y) := xc_i (xc_i h (by omega)) (by omega)
  have k2 : ∀ z, cG g f p l (vu (fX5_blame_b29 x y z v)) := by
    intro z
    unfold fX5_blame_b29 fX5_blame_b41 fX5_blame_b51
    simp only [q_lt_s, vu_if]
    exact cG_i (fun _ => cG_s k1) (fun _ => cG_i (fun _ => cG_s h) (fun _ => cG_s k1))
  unfold fX5_blame fX5_blame_b24 fX5_blame_b28
  simp only [vu_if]
  exact cG_i (fun _ => k2 1) (fun _ => cG_i (fun _ => cG_i (fun _ => k2 0) (fun _ => k2 1)) (fun _ => k2 0))
set_option maxHeartbeats 200000 in
theorem x_callee {x : Int64} {y z : Int32} (ok : rd_ok g) (h : xc g f p l v) : cG g f p l (fX5_callee x y z v) := by
  have hgd := ok.2.2.2.1
  obtain ⟨d1, d2⟩ := ok.2.2.2.2.2.2.1
  have h2 : q_i v 1002 = nI (gd g) := (h.1.1 1002 (by omega)).trans d1
  have h3 : ∀ x, x < gd g → q_b v 1000 x = gn g x := fun x hx => by
    rw [(h.1.2.2.1 1000 (by omega)).2]; exact (d2 x hx).1
  unfold fX5_callee fX5_callee_b20 fX5_callee_b47
  rw [c_duty h2 hgd h3, q_bd_s]
  refine cG_i (fun _ => cG_v (x_blame h) (fun v h => cG_s h)) (fun c1 => ?_)
  by_cases c : fdn g x < gd g
  · rw [if_pos c, if_pos (show nI (fdn g x) < 300 from ni_plt (b := 300) (by omega) (by omega)), if_neg (ni_nin (by omega) (by omega))]
    exact cG_i (fun _ => cG_s h) (fun _ => cG_v (x_blame h) (fun v h => cG_s h))
  · rw [if_neg c] at c1; exact absurd (by decide) c1
/-! the reference's, with a fault -/
set_option maxHeartbeats 200000 in
theorem xr1_i {k : Nat} {x : Int32} (h : xr1 g w) (hk : 2408 ≤ k ∧ k < 2427 ∨ 2434 ≤ k ∧ k < 2447) (hk2 : k ≠ 2410 ∧ k ≠ 2441) : xr1 g (q_si w k x) := by
  obtain ⟨h1, ⟨j, h2, h3⟩, m, h4, h5⟩ := h
  exact ⟨rdF_i h1 hk, ⟨j, h2, by rw [q_i_ne (by omega)]; exact h3⟩, m, h4, by rw [q_i_ne (by omega)]; exact h5⟩
set_option maxHeartbeats 200000 in
theorem xr1_a {k : Nat} {x : Nat → Int32} (h : xr1 g w) (hk : 2408 ≤ k ∧ k < 2427 ∨ 2434 ≤ k ∧ k < 2447) : xr1 g (q_sa w k x) := ⟨rdF_a h.1 hk, h.2⟩
set_option maxHeartbeats 200000 in
theorem xr_i {k : Nat} {x : Int32} (h : xr g f p B w) (hk : 2411 ≤ k ∧ k < 2417 ∨ 2417 < k ∧ k < 2427 ∨ 2434 ≤ k ∧ k < 2441 ∨ 2441 < k ∧ k < 2447) : xr g f p B (q_si w k x) := by
  obtain ⟨h1, h2, h3, h4, q, h5, h6⟩ := h
  refine ⟨xr1_i h1 (by omega) (by omega), ?_, ?_, h4, q, h5, ?_⟩
  · rw [q_i_ne (by omega)]; exact h2
  · rw [q_i_ne (by omega)]; exact h3
  · rw [q_i_ne (by omega)]; exact h6
set_option maxHeartbeats 200000 in
theorem xr_a {k : Nat} {x : Nat → Int32} (h : xr g f p B w) (hk : 2408 ≤ k ∧ k < 2427 ∨ 2434 ≤ k ∧ k < 2447) : xr g f p B (q_sa w k x) := by
  obtain ⟨h1, h2, h3, h4, q, h5, h6⟩ := h
  exact ⟨xr1_a h1 hk, h2, h3, h4, q, h5, h6⟩
set_option maxHeartbeats 200000 in
theorem xr_j {x : Int64} (h : xr g f p B w) : xr g f p B (q_sj w 2426 x) := by
  obtain ⟨h1, h2, h3, h4, q, h5, h6⟩ := h
  exact ⟨⟨rdF_j h1.1, h1.2⟩, h2, h3, h4, q, h5, h6⟩
set_option maxHeartbeats 200000 in
theorem xr_le (h : xr g f p B w) (hB : B ≤ B1) : xr g f p B1 w := by
  obtain ⟨h1, h2, h3, h4, q, h5, h6⟩ := h
  exact ⟨h1, h2, h3, h4, q, by omega, h6⟩
set_option maxHeartbeats 200000 in
theorem rG_le {X : Option (α × q_V)} (h : rG g f p B X) (hB : B ≤ B1) : rG g f p B1 X := by
  obtain ⟨a, v, e, h⟩ := h
  exact ⟨a, v, e, xr_le h hB⟩
set_option maxHeartbeats 200000 in
theorem xr_ne (h : xr g f p B w) : ¬ q_i w 2408 = 0 := by
  intro z
  have := h.2.2.2.1
  rw [← h.2.1, z] at this; exact absurd this (by decide)
set_option maxHeartbeats 200000 in
theorem xr_nl (h : xr g f p B w) : ¬ q_i w 2408 ≤ 0 := by
  rw [h.2.1]; exact Int32.not_le.2 h.2.2.2.1
set_option maxHeartbeats 200000 in
theorem y_fine (h : xr g f p B w) : fX12_fine w = some (0, w) := by
  unfold fX12_fine fX12_fine_b12
  rw [if_neg (xr_ne h), if_neg (by decide)]
set_option maxHeartbeats 200000 in
theorem y_is {x : Int32} (h : xr g f p B w) : fX12_is x w = some (0, w) := by
  unfold fX12_is fX12_is_b24 fX12_is_b25
  rw [if_neg (xr_ne h), if_neg (by decide)]
set_option maxHeartbeats 200000 in
theorem y_sign {x : Int32} (h : xr g f p B w) : fX12_isSign x w = some (0, w) := by
  unfold fX12_isSign
  rw [y_is h, q_bd_s, if_neg (by decide)]
set_option maxHeartbeats 200000 in
theorem y_wrong (h : xr g f p B w) : fX12_wrong w = some w := by
  unfold fX12_wrong
  rw [if_neg (xr_nl h)]
set_option maxHeartbeats 200000 in
theorem y_take {x : Int32} (h : xr g f p B w) : rG g f p B (vu (fX12_take x w)) := by
  unfold fX12_take fX12_take_b25
  rw [y_is h, q_bd_s, if_pos rfl, y_wrong h, q_bv_s]; exact rG_s h
set_option maxHeartbeats 200000 in
theorem y_takeS {x : Int32} (h : xr g f p B w) : rG g f p B (vu (fX12_takeSign x w)) := by
  unfold fX12_takeSign
  exact rG_u (y_take h) (fun v h => rG_s h)
set_option maxHeartbeats 200000 in
theorem y_skip {x : Int32} (h : xr g f p B w) : ∃ w', fX12_skip x w = some (0, w') ∧ xr g f p B w' := by
  unfold fX12_skip fX12_skip_b20
  rw [y_is h, q_bd_s, if_pos rfl, q_lt_s, if_neg (by decide), Int32.add_zero, q_si_id]
  exact ⟨_, rfl, h⟩
set_option maxHeartbeats 200000 in
theorem y_nest (h : xr g f p B w) : fX12_nest w = some w := by
  unfold fX12_nest
  rw [if_neg (xr_nl h)]
set_option maxHeartbeats 200000 in
theorem y_emit {x y z : Int32} (hB : B < 4000) (h : xr g f p B w) : rG g f p (B + 1) (fX12_emit x y z w) := by
  obtain ⟨h1, h2, h3, h4, q, h5, h6⟩ := h
  have gn : (nI q < 0) = False := ni_neg (by omega)
  have gl : (4000 ≤ q) = False := eq_false (by omega)
  unfold fX12_emit
  simp only [h6, q_i_sa, q_lt_s, gn, gl, or_self, ↓reduceIte, ni_clamp (show q < 2147483648 by omega), q_a_sa, Nat.reduceEqDiff, ni_add1, q_i_at, ni_pred]
  refine rG_s ⟨xr1_i (xr1_a (xr1_a (xr1_a h1 (by omega)) (by omega)) (by omega)) (by omega) (by omega), ?_, ?_, h4, q + 1, by omega, q_i_at⟩
  · rw [q_i_ne (by omega)]; exact h2
  · rw [q_i_ne (by omega)]; exact h3
set_option maxHeartbeats 200000 in
theorem y_plain {a : Nat} (ok : rd_ok g) (ha : a ≤ gm g) (h : xr g f p B w) : ∃ y, fX12_isPlain (nI a) w = some (y, w) := by
  obtain ⟨h1, ⟨j, hj, h2⟩, _⟩ := h.1
  have hm := ok.2.2.1.2.2
  unfold fX12_isPlain
  rw [q_lt_s, h2]
  by_cases c : j ≤ a
  · rw [q_N1, fX12_isPlain_L9, if_pos]
    · unfold fX12_isPlain_b47 fX12_isPlain_b77 fX12_isPlain_b78
      rw [if_neg]
      · rw [if_neg (by decide)]; exact ⟨_, rfl⟩
      · intro z
        have := congrArg Int32.toInt z
        rw [Int32.toInt_sub, ni_toInt (by omega), ni_toInt (by omega)] at this
        have e1 : (1 : Int32).toInt = 1 := rfl
        rw [e1, Int.bmod_eq_of_le (by omega) (by omega)] at this
        omega
    · rw [Int32.le_iff_toInt_le, Int32.toInt_sub, ni_toInt (by omega), ni_toInt (by omega)]
      have e1 : (1 : Int32).toInt = 1 := rfl
      rw [e1, Int.bmod_eq_of_le (by omega) (by omega)]
      omega
  · obtain ⟨j, rfl⟩ : ∃ x, j = x + 1 := ⟨j - 1, by omega⟩
    rw [ni_pred]
    obtain ⟨y, e, _, _⟩ := r_plainL ok h1 (x := nI a) (j + 1 - a) a j q_N rfl (by omega) ha (by omega) (by unfold q_N; omega)
    exact ⟨y, e⟩
/-! both -/
set_option maxHeartbeats 200000 in
theorem jn_xx {Q : α → q_V → β → q_V → Prop} {X : Option (α × q_V)} {Y : Option (β × q_V)} (h1 : cG g f p l X) (h2 : rG g f p B Y) : jn g l B Q X Y := by
  obtain ⟨a, v, e, h⟩ := h1
  obtain ⟨a', v', e', h'⟩ := h2
  exact ⟨a, v, a', v', e, e', Or.inl ⟨f, p, h, h'⟩⟩
set_option maxHeartbeats 200000 in
theorem jn_qq {Q : α → q_V → β → q_V → Prop} {a : α} {b : β} (h : Q a v b w) : jn g l B Q (some (a, v)) (some (b, w)) := ⟨a, v, b, w, rfl, rfl, Or.inr h⟩
set_option maxHeartbeats 200000 in
theorem vu_ex {X : Option q_V} {a : Unit} (h : vu X = some (a, v)) : X = some v := by
  cases X with
  | none => exact absurd h (by simp [vu, q_bv])
  | some x => rw [(Prod.mk.inj (Option.some.inj h)).2]
section
variable {δ ε : Type} {Q : β → q_V → δ → q_V → Prop}
set_option maxHeartbeats 200000 in
theorem jn_dd {Q1 : α → q_V → γ → q_V → Prop} {X : Option (α × q_V)} {Y : Option (γ × q_V)} {k : α → q_V → Option (β × q_V)} {m : γ → q_V → Option (δ × q_V)} (h : jn g l1 B1 Q1 X Y) (hc : ∀ f p a v, xc g f p l1 v → cG g f p l (k a v)) (hr : ∀ f p a w, xr g f p B1 w → rG g f p B (m a w)) (hq : ∀ a v b w, Q1 a v b w → jn g l B Q (k a v) (m b w)) : jn g l B Q (q_bd X k) (q_bd Y m) := by
  obtain ⟨a, v, b, w, e1, e2, h | h⟩ := h
  · obtain ⟨f, p, h1, h2⟩ := h
    rw [e1, e2, q_bd_s, q_bd_s]; exact jn_xx (hc f p a v h1) (hr f p b w h2)
  · rw [e1, e2, q_bd_s, q_bd_s]; exact hq a v b w h
set_option maxHeartbeats 200000 in
theorem jn_dv {Q1 : α → q_V → Unit → q_V → Prop} {X : Option (α × q_V)} {Y : Option q_V} {k : α → q_V → Option (β × q_V)} {m : q_V → Option (δ × q_V)} (h : jn g l1 B1 Q1 X (vu Y)) (hc : ∀ f p a v, xc g f p l1 v → cG g f p l (k a v)) (hr : ∀ f p w, xr g f p B1 w → rG g f p B (m w)) (hq : ∀ a v w, Q1 a v () w → jn g l B Q (k a v) (m w)) : jn g l B Q (q_bd X k) (q_bv Y m) := by
  obtain ⟨a, v, b, w, e1, e2, h | h⟩ := h
  · obtain ⟨f, p, h1, h2⟩ := h
    rw [e1, vu_ex e2, q_bd_s, q_bv_s]; exact jn_xx (hc f p a v h1) (hr f p w h2)
  · rw [e1, vu_ex e2, q_bd_s, q_bv_s]; exact hq a v w h
set_option maxHeartbeats 200000 in
theorem jn_vv {Q1 : Unit → q_V → Unit → q_V → Prop} {X : Option q_V} {Y : Option q_V} {k : q_V → Option (β × q_V)} {m : q_V → Option (δ × q_V)} (h : jn g l1 B1 Q1 (vu X) (vu Y)) (hc : ∀ f p v, xc g f p l1 v → cG g f p l (k v)) (hr : ∀ f p w, xr g f p B1 w → rG g f p B (m w)) (hq : ∀ v w, Q1 () v () w → jn g l B Q (k v) (m w)) : jn g l B Q (q_bv X k) (q_bv Y m) := by
  obtain ⟨a, v, b, w, e1, e2, h | h⟩ := h
  · obtain ⟨f, p, h1, h2⟩ := h
    rw [vu_ex e1, vu_ex e2, q_bv_s, q_bv_s]; exact jn_xx (hc f p v h1) (hr f p w h2)
  · rw [vu_ex e1, vu_ex e2, q_bv_s, q_bv_s]; exact hq v w h
end
end
