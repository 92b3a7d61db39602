/-! The functions of the methods, and the rows that they speak for the w. (generated: wip/whole/gen2.py) -/
def fX3_clear_L2 (a0 : Nat) : Nat → Int32 → q_V → Option q_V
  | 0, _, _ => none
  | n + 1, xn1, Sn =>
  if (24) ≤ xn1 then
  q_lt (q_sf Sn 602 a0 0) (fun T1002 =>
  q_lt (q_sf T1002 603 a0 0) (fun T1003 =>
  q_lt (q_sf T1003 604 a0 0) (fun T1004 =>
  some T1004)))
  else
  if (xn1) < 0 ∨ 24 ≤ (xn1).toNatClampNeg then none else
  q_lt (q_sc Sn 600 a0 ((upd (q_c Sn 600 a0) (xn1.toNatClampNeg) 0))) (fun T1005 =>
  q_lt (xn1 + 1 : Int32) (fun y1006 =>
  fX3_clear_L2 a0 n y1006 T1005))
theorem b_X3_clear_L2 {g : q_G} {S0 : kp_S} {a0 : Nat} {post : kp_S → Prop} {v : q_V} (hb_a0 : a0 < 12) (kk : ∀ S, q_Gd 0 g S0 S → v = q_w g S → post S) : ∀ (n : Nat) (xn1 : Int32) (Sn : kp_S), q_Gd 0 g S0 Sn → fX3_clear_L2 a0 n xn1 (q_w g Sn) = some v → wX3_clear_L2 (g 2 3 a0) post n xn1 Sn := by
  intro n
  induction n with
  | zero => intro xn1 Sn _ h; cases h
  | succ n ih =>
    intro xn1 Sn R h
    unfold wX3_clear_L2; unfold fX3_clear_L2 at h
    refine ⟨_, q_p600 R hb_a0, ?_⟩
    rw [q_l600 R hb_a0]
    refine ⟨fun c => ?_, fun c => ?_⟩
    · replace h := q_ifp h c
      intro T1002 q
      obtain ⟨R, q⟩ := q_wF R q rfl rfl
      replace h := q_ltw h q
      intro T1003 q
      obtain ⟨R, q⟩ := q_wF R q rfl rfl
      replace h := q_ltw h q
      intro T1004 q
      obtain ⟨R, q⟩ := q_wF R q rfl rfl
      replace h := q_ltw h q
      exact q_finv h kk R
    · replace h := q_ifn h c
      obtain ⟨hi, h⟩ := q_in h
      refine ⟨hi, ?_⟩
      intro T1005 q
      obtain ⟨R, q⟩ := q_wC R q rfl
      replace h := q_ltw h q
      intro y1006 q
      replace h := q_ltw h q
      exact ih _ _ R h
def fX3_clear (a0 : Nat) (S : q_V) : Option q_V :=
  fX3_clear_L2 a0 q_N 0 S
theorem b_X3_clear {g : q_G} {S0 : kp_S} {a0 : Nat} {S : kp_S} {post : kp_S → Prop} {v : q_V} (R : q_Gd 0 g S0 S) (hb_a0 : a0 < 12) (h : fX3_clear a0 (q_w g S) = some v) (kk : ∀ S, q_Gd 0 g S0 S → v = q_w g S → post S) : wX3_clear (g 2 3 a0) S post := by
  unfold wX3_clear; unfold fX3_clear at h
  exact ⟨q_N, b_X3_clear_L2 hb_a0 kk q_N _ _ R h⟩
def fX3_get_b23 (a0 : Nat) (x1 : Int32) (xt0 : Int32) (Sn : q_V) : Option (Int32 × q_V) :=
  some (xt0, Sn)
theorem b_X3_get_b23 {g : q_G} {S0 : kp_S} {a0 : Nat} {x1 : Int32} {xt0 : Int32} {Sn : kp_S} {post : Int32 → kp_S → Prop} {y : Int32} {v : q_V} (R : q_Gd 0 g S0 Sn) (hb_a0 : a0 < 12) (h : fX3_get_b23 a0 x1 xt0 (q_w g Sn) = some (y, v)) (kk : ∀ S, q_Gd 0 g S0 S → v = q_w g S → post y S) : wX3_get_b23 (g 2 3 a0) x1 xt0 Sn post := by
  unfold wX3_get_b23; unfold fX3_get_b23 at h
  exact q_fin h kk R
def fX3_get_b22 (a0 : Nat) (x1 : Int32) (Sn : q_V) : Option (Int32 × q_V) :=
  fX3_get_b23 a0 x1 0 Sn
theorem b_X3_get_b22 {g : q_G} {S0 : kp_S} {a0 : Nat} {x1 : Int32} {Sn : kp_S} {post : Int32 → kp_S → Prop} {y : Int32} {v : q_V} (R : q_Gd 0 g S0 Sn) (hb_a0 : a0 < 12) (h : fX3_get_b22 a0 x1 (q_w g Sn) = some (y, v)) (kk : ∀ S, q_Gd 0 g S0 S → v = q_w g S → post y S) : wX3_get_b22 (g 2 3 a0) x1 Sn post := by
  unfold wX3_get_b22; unfold fX3_get_b22 at h
  exact b_X3_get_b23 R hb_a0 h kk
def fX3_get (a0 : Nat) (x1 : Int32) (S : q_V) : Option (Int32 × q_V) :=
  if x1 < 0 then
  fX3_get_b22 a0 x1 S
  else
  if (24) ≤ x1 then
  fX3_get_b22 a0 x1 S
  else
  if (x1) < 0 ∨ 24 ≤ (x1).toNatClampNeg then none else
  fX3_get_b23 a0 x1 ((q_c S 600 a0 x1.toNatClampNeg)) S
theorem b_X3_get {g : q_G} {S0 : kp_S} {a0 : Nat} {x1 : Int32} {S : kp_S} {post : Int32 → kp_S → Prop} {y : Int32} {v : q_V} (R : q_Gd 0 g S0 S) (hb_a0 : a0 < 12) (h : fX3_get a0 x1 (q_w g S) = some (y, v)) (kk : ∀ S, q_Gd 0 g S0 S → v = q_w g S → post y S) : wX3_get (g 2 3 a0) x1 S post := by
  unfold wX3_get; unfold fX3_get at h
  refine ⟨fun c => ?_, fun c => ?_⟩
  · replace h := q_ifp h c
    exact b_X3_get_b22 R hb_a0 h kk
  · replace h := q_ifn h c
    refine ⟨_, q_p600 R hb_a0, ?_⟩
    rw [q_l600 R hb_a0]
    refine ⟨fun c => ?_, fun c => ?_⟩
    · replace h := q_ifp h c
      exact b_X3_get_b22 R hb_a0 h kk
    · replace h := q_ifn h c
      obtain ⟨hi, h⟩ := q_in h
      refine ⟨hi, ?_⟩
      exact b_X3_get_b23 R hb_a0 h kk
def fX3_set_b20 (a0 : Nat) (x1 : Int32) (x2 : Int32) (Sn : q_V) : Option q_V :=
  some Sn
theorem b_X3_set_b20 {g : q_G} {S0 : kp_S} {a0 : Nat} {x1 : Int32} {x2 : Int32} {Sn : kp_S} {post : kp_S → Prop} {v : q_V} (R : q_Gd 0 g S0 Sn) (hb_a0 : a0 < 12) (h : fX3_set_b20 a0 x1 x2 (q_w g Sn) = some v) (kk : ∀ S, q_Gd 0 g S0 S → v = q_w g S → post S) : wX3_set_b20 (g 2 3 a0) x1 x2 Sn post := by
  unfold wX3_set_b20; unfold fX3_set_b20 at h
  exact q_finv h kk R
def fX3_set (a0 : Nat) (x1 : Int32) (x2 : Int32) (S : q_V) : Option q_V :=
  if x1 < 0 then
  fX3_set_b20 a0 x1 x2 S
  else
  if (24) ≤ x1 then
  fX3_set_b20 a0 x1 x2 S
  else
  if (x1) < 0 ∨ 24 ≤ (x1).toNatClampNeg then none else
  q_lt (q_sc S 600 a0 ((upd (q_c S 600 a0) (x1.toNatClampNeg) x2))) (fun T2 =>
  fX3_set_b20 a0 x1 x2 T2)
theorem b_X3_set {g : q_G} {S0 : kp_S} {a0 : Nat} {x1 : Int32} {x2 : Int32} {S : kp_S} {post : kp_S → Prop} {v : q_V} (R : q_Gd 0 g S0 S) (hb_a0 : a0 < 12) (h : fX3_set a0 x1 x2 (q_w g S) = some v) (kk : ∀ S, q_Gd 0 g S0 S → v = q_w g S → post S) : wX3_set (g 2 3 a0) x1 x2 S post := by
  unfold wX3_set; unfold fX3_set at h
  refine ⟨fun c => ?_, fun c => ?_⟩
  · replace h := q_ifp h c
    exact b_X3_set_b20 R hb_a0 h kk
  · replace h := q_ifn h c
    refine ⟨_, q_p600 R hb_a0, ?_⟩
    rw [q_l600 R hb_a0]
    refine ⟨fun c => ?_, fun c => ?_⟩
    · replace h := q_ifp h c
      exact b_X3_set_b20 R hb_a0 h kk
    · replace h := q_ifn h c
      obtain ⟨hi, h⟩ := q_in h
      refine ⟨hi, ?_⟩
      intro T2 q
      obtain ⟨R, q⟩ := q_wC R q rfl
      replace h := q_ltw h q
      exact b_X3_set_b20 R hb_a0 h kk
def fX3_pledge_b19 (a0 : Nat) (x1 : Int32) (Sn : q_V) : Option (Int32 × q_V) :=
  some (0, Sn)
theorem b_X3_pledge_b19 {g : q_G} {S0 : kp_S} {a0 : Nat} {x1 : Int32} {Sn : kp_S} {post : Int32 → kp_S → Prop} {y : Int32} {v : q_V} (R : q_Gd 0 g S0 Sn) (hb_a0 : a0 < 12) (h : fX3_pledge_b19 a0 x1 (q_w g Sn) = some (y, v)) (kk : ∀ S, q_Gd 0 g S0 S → v = q_w g S → post y S) : wX3_pledge_b19 (g 2 3 a0) x1 Sn post := by
  unfold wX3_pledge_b19; unfold fX3_pledge_b19 at h
  exact q_fin h kk R
def fX3_pledge (a0 : Nat) (x1 : Int32) (S : q_V) : Option (Int32 × q_V) :=
  if (q_f S 602 a0) < 0 then
  fX3_pledge_b19 a0 x1 S
  else
  if (q_f S 602 a0) < (40) then
  if (q_f S 602 a0) < 0 ∨ 40 ≤ (q_f S 602 a0).toNatClampNeg then none else
  q_lt (q_sc S 601 a0 ((upd (q_c S 601 a0) ((q_f S 602 a0).toNatClampNeg) x1))) (fun T2 =>
  q_lt (q_sf T2 602 a0 (((q_f T2 602 a0) + 1))) (fun T3 =>
  some (1, T3)))
  else
  fX3_pledge_b19 a0 x1 S
theorem b_X3_pledge {g : q_G} {S0 : kp_S} {a0 : Nat} {x1 : Int32} {S : kp_S} {post : Int32 → kp_S → Prop} {y : Int32} {v : q_V} (R : q_Gd 0 g S0 S) (hb_a0 : a0 < 12) (h : fX3_pledge a0 x1 (q_w g S) = some (y, v)) (kk : ∀ S, q_Gd 0 g S0 S → v = q_w g S → post y S) : wX3_pledge (g 2 3 a0) x1 S post := by
  unfold wX3_pledge; unfold fX3_pledge at h
  refine ⟨fun c => ?_, fun c => ?_⟩
  · replace h := q_ifp h c
    exact b_X3_pledge_b19 R hb_a0 h kk
  · replace h := q_ifn h c
    refine ⟨_, q_p601 R hb_a0, ?_⟩
    rw [q_l601 R hb_a0]
    refine ⟨fun c => ?_, fun c => ?_⟩
    · replace h := q_ifp h c
      obtain ⟨hi, h⟩ := q_in h
      refine ⟨hi, ?_⟩
      intro T2 q
      obtain ⟨R, q⟩ := q_wC R q rfl
      replace h := q_ltw h q
      intro T3 q
      obtain ⟨R, q⟩ := q_wF R q rfl rfl
      replace h := q_ltw h q
      exact q_fin h kk R
    · replace h := q_ifn h c
      exact b_X3_pledge_b19 R hb_a0 h kk
def fX3_hasLater_b24 (a0 : Nat) (xt0 : Int32) (Sn : q_V) : Option (Int32 × q_V) :=
  if ¬ (xt0 = 0 ∨ xt0 = 1) then none else
  some (xt0, Sn)
theorem b_X3_hasLater_b24 {g : q_G} {S0 : kp_S} {a0 : Nat} {xt0 : Int32} {Sn : kp_S} {post : Int32 → kp_S → Prop} {y : Int32} {v : q_V} (R : q_Gd 0 g S0 Sn) (hb_a0 : a0 < 12) (h : fX3_hasLater_b24 a0 xt0 (q_w g Sn) = some (y, v)) (kk : ∀ S, q_Gd 0 g S0 S → v = q_w g S → post y S) : wX3_hasLater_b24 (g 2 3 a0) xt0 Sn post := by
  unfold wX3_hasLater_b24; unfold fX3_hasLater_b24 at h
  obtain ⟨hi, h⟩ := q_in h
  refine ⟨Classical.not_not.mp hi, ?_⟩
  exact q_fin h kk R
def fX3_hasLater_b23 (a0 : Nat) (Sn : q_V) : Option (Int32 × q_V) :=
  fX3_hasLater_b24 a0 0 Sn
theorem b_X3_hasLater_b23 {g : q_G} {S0 : kp_S} {a0 : Nat} {Sn : kp_S} {post : Int32 → kp_S → Prop} {y : Int32} {v : q_V} (R : q_Gd 0 g S0 Sn) (hb_a0 : a0 < 12) (h : fX3_hasLater_b23 a0 (q_w g Sn) = some (y, v)) (kk : ∀ S, q_Gd 0 g S0 S → v = q_w g S → post y S) : wX3_hasLater_b23 (g 2 3 a0) Sn post := by
  unfold wX3_hasLater_b23; unfold fX3_hasLater_b23 at h
  exact b_X3_hasLater_b24 R hb_a0 h kk
def fX3_hasLater (a0 : Nat) (S : q_V) : Option (Int32 × q_V) :=
  if (q_f S 602 a0) ≤ 0 then
  fX3_hasLater_b23 a0 S
  else
  if (40) < (q_f S 602 a0) then
  fX3_hasLater_b23 a0 S
  else
  fX3_hasLater_b24 a0 1 S
theorem b_X3_hasLater {g : q_G} {S0 : kp_S} {a0 : Nat} {S : kp_S} {post : Int32 → kp_S → Prop} {y : Int32} {v : q_V} (R : q_Gd 0 g S0 S) (hb_a0 : a0 < 12) (h : fX3_hasLater a0 (q_w g S) = some (y, v)) (kk : ∀ S, q_Gd 0 g S0 S → v = q_w g S → post y S) : wX3_hasLater (g 2 3 a0) S post := by
  unfold wX3_hasLater; unfold fX3_hasLater at h
  refine ⟨fun c => ?_, fun c => ?_⟩
  · replace h := q_ifp h c
    exact b_X3_hasLater_b23 R hb_a0 h kk
  · replace h := q_ifn h c
    refine ⟨_, q_p601 R hb_a0, ?_⟩
    rw [q_l601 R hb_a0]
    refine ⟨fun c => ?_, fun c => ?_⟩
    · replace h := q_ifp h c
      exact b_X3_hasLater_b23 R hb_a0 h kk
    · replace h := q_ifn h c
      exact b_X3_hasLater_b24 R hb_a0 h kk
def fX3_takeLater (a0 : Nat) (S : q_V) : Option (Int32 × q_V) :=
  q_bd (fX3_hasLater a0 S) (fun y2 T1 =>
  if y2 = 0 then
  some (0, T1)
  else
  q_lt (q_sf T1 602 a0 (((q_f T1 602 a0) - 1))) (fun T3 =>
  if (q_f T3 602 a0) < 0 ∨ 40 ≤ (q_f T3 602 a0).toNatClampNeg then none else
  some ((q_c T3 601 a0 (q_f T3 602 a0).toNatClampNeg), T3)))
theorem b_X3_takeLater {g : q_G} {S0 : kp_S} {a0 : Nat} {S : kp_S} {post : Int32 → kp_S → Prop} {y : Int32} {v : q_V} (R : q_Gd 0 g S0 S) (hb_a0 : a0 < 12) (h : fX3_takeLater a0 (q_w g S) = some (y, v)) (kk : ∀ S, q_Gd 0 g S0 S → v = q_w g S → post y S) : wX3_takeLater (g 2 3 a0) S post := by
  unfold wX3_takeLater; unfold fX3_takeLater at h
  obtain ⟨y2, v1, h1, h⟩ := q_bdi h
  refine b_X3_hasLater R hb_a0 h1 (fun T1 R q => ?_)
  subst q
  refine ⟨fun c => ?_, fun c => ?_⟩
  · replace h := q_ifn h c
    intro T3 q
    obtain ⟨R, q⟩ := q_wF R q rfl rfl
    replace h := q_ltw h q
    refine ⟨_, q_p601 R hb_a0, ?_⟩
    rw [q_l601 R hb_a0]
    obtain ⟨hi, h⟩ := q_in h
    refine ⟨hi, ?_⟩
    exact q_fin h kk R
  · replace h := q_ifp h c
    exact q_fin h kk R
def fX10_become (a0 : Nat) (x1 : Int32) (x2 : Int32) (S : q_V) : Option q_V :=
  q_lt (q_sf S 2000 a0 x1) (fun T1 =>
  q_lt (q_sf T1 2001 a0 x2) (fun T2 =>
  some T2))
theorem b_X10_become {g : q_G} {S0 : kp_S} {a0 : Nat} {x1 : Int32} {x2 : Int32} {S : kp_S} {post : kp_S → Prop} {v : q_V} (R : q_Gd 0 g S0 S) (hb_a0 : a0 < 169) (h : fX10_become a0 x1 x2 (q_w g S) = some v) (kk : ∀ S, q_Gd 0 g S0 S → v = q_w g S → post S) : wX10_become (g 2 10 a0) x1 x2 S post := by
  unfold wX10_become; unfold fX10_become at h
  intro T1 q
  obtain ⟨R, q⟩ := q_wF R q rfl rfl
  replace h := q_ltw h q
  intro T2 q
  obtain ⟨R, q⟩ := q_wF R q rfl rfl
  replace h := q_ltw h q
  exact q_finv h kk R
def fX10_copy (a0 : Nat) (a1 : Nat) (S : q_V) : Option q_V :=
  q_lt (q_sf S 2000 a0 ((q_f S 2000 a1))) (fun T1 =>
  q_lt (q_sf T1 2001 a0 ((q_f T1 2001 a1))) (fun T2 =>
  q_lt (q_sf T2 2002 a0 ((q_f T2 2002 a1))) (fun T3 =>
  q_lt (q_sf T3 2003 a0 ((q_f T3 2003 a1))) (fun T4 =>
  some T4))))
theorem b_X10_copy {g : q_G} {S0 : kp_S} {a0 : Nat} {a1 : Nat} {S : kp_S} {post : kp_S → Prop} {v : q_V} (R : q_Gd 0 g S0 S) (hb_a0 : a0 < 169) (hb_a1 : a1 < 169) (h : fX10_copy a0 a1 (q_w g S) = some v) (kk : ∀ S, q_Gd 0 g S0 S → v = q_w g S → post S) : wX10_copy (g 2 10 a0) (g 2 10 a1) S post := by
  unfold wX10_copy; unfold fX10_copy at h
  intro T1 q
  obtain ⟨R, q⟩ := q_wF R q rfl rfl
  replace h := q_ltw h q
  intro T2 q
  obtain ⟨R, q⟩ := q_wF R q rfl rfl
  replace h := q_ltw h q
  intro T3 q
  obtain ⟨R, q⟩ := q_wF R q rfl rfl
  replace h := q_ltw h q
  intro T4 q
  obtain ⟨R, q⟩ := q_wF R q rfl rfl
  replace h := q_ltw h q
  exact q_finv h kk R
def fX10_leaveOf_b14 (x0 : Int32) (xt0 : Int32) (Sn : q_V) : Option (Int32 × q_V) :=
  some (xt0, Sn)
theorem b_X10_leaveOf_b14 {gr : Nat} {g : q_G} {S0 : kp_S} {x0 : Int32} {xt0 : Int32} {Sn : kp_S} {post : Int32 → kp_S → Prop} {y : Int32} {v : q_V} (R : q_Gd gr g S0 Sn)  (h : fX10_leaveOf_b14 x0 xt0 (q_w g Sn) = some (y, v)) (kk : ∀ S, q_Gd gr g S0 S → v = q_w g S → post y S) : wX10_leaveOf_b14 x0 xt0 Sn post := by
  unfold wX10_leaveOf_b14; unfold fX10_leaveOf_b14 at h
  exact q_fin h kk R
def fX10_leaveOf (x0 : Int32) (S : q_V) : Option (Int32 × q_V) :=
  if x0 < 0 then
  fX10_leaveOf_b14 x0 0 S
  else
  fX10_leaveOf_b14 x0 ((8 <<< ((2 * x0) &&& 31))) S
theorem b_X10_leaveOf {gr : Nat} {g : q_G} {S0 : kp_S} {x0 : Int32} {S : kp_S} {post : Int32 → kp_S → Prop} {y : Int32} {v : q_V} (R : q_Gd gr g S0 S)  (h : fX10_leaveOf x0 (q_w g S) = some (y, v)) (kk : ∀ S, q_Gd gr g S0 S → v = q_w g S → post y S) : wX10_leaveOf x0 S post := by
  unfold wX10_leaveOf; unfold fX10_leaveOf at h
  refine ⟨fun c => ?_, fun c => ?_⟩
  · replace h := q_ifp h c
    exact b_X10_leaveOf_b14 R h kk
  · replace h := q_ifn h c
    exact b_X10_leaveOf_b14 R h kk
def fX10_againOf_b14 (x0 : Int32) (xt0 : Int32) (Sn : q_V) : Option (Int32 × q_V) :=
  some (xt0, Sn)
theorem b_X10_againOf_b14 {gr : Nat} {g : q_G} {S0 : kp_S} {x0 : Int32} {xt0 : Int32} {Sn : kp_S} {post : Int32 → kp_S → Prop} {y : Int32} {v : q_V} (R : q_Gd gr g S0 Sn)  (h : fX10_againOf_b14 x0 xt0 (q_w g Sn) = some (y, v)) (kk : ∀ S, q_Gd gr g S0 S → v = q_w g S → post y S) : wX10_againOf_b14 x0 xt0 Sn post := by
  unfold wX10_againOf_b14; unfold fX10_againOf_b14 at h
  exact q_fin h kk R
def fX10_againOf (x0 : Int32) (S : q_V) : Option (Int32 × q_V) :=
  if x0 < 0 then
  fX10_againOf_b14 x0 0 S
  else
  fX10_againOf_b14 x0 ((16 <<< ((2 * x0) &&& 31))) S
theorem b_X10_againOf {gr : Nat} {g : q_G} {S0 : kp_S} {x0 : Int32} {S : kp_S} {post : Int32 → kp_S → Prop} {y : Int32} {v : q_V} (R : q_Gd gr g S0 S)  (h : fX10_againOf x0 (q_w g S) = some (y, v)) (kk : ∀ S, q_Gd gr g S0 S → v = q_w g S → post y S) : wX10_againOf x0 S post := by
  unfold wX10_againOf; unfold fX10_againOf at h
  refine ⟨fun c => ?_, fun c => ?_⟩
  · replace h := q_ifp h c
    exact b_X10_againOf_b14 R h kk
  · replace h := q_ifn h c
    exact b_X10_againOf_b14 R h kk
def fX4_take (S : q_V) : Option (Int32 × q_V) :=
  q_bd (fX0_get ((q_i S 810)) S) (fun y3 T2 =>
  q_lt (q_si T2 810 (((q_i T2 810) + 1))) (fun T4 =>
  some (y3, T4)))
theorem b_X4_take {g : q_G} {S0 : kp_S} {S : kp_S} {post : Int32 → kp_S → Prop} {y : Int32} {v : q_V} (R : q_Gd 0 g S0 S)  (h : fX4_take (q_w g S) = some (y, v)) (kk : ∀ S, q_Gd 0 g S0 S → v = q_w g S → post y S) : wX4_take (g 0 4 0) S post := by
  unfold wX4_take; unfold fX4_take at h
  refine ⟨_, q_p809 R, ?_⟩
  obtain ⟨y3, v1, h1, h⟩ := q_bdi h
  refine b_X0_get R h1 (fun T2 R q => ?_)
  subst q
  intro T4 q
  obtain ⟨R, q⟩ := q_wI R q rfl rfl
  replace h := q_ltw h q
  exact q_fin h kk R
def fX4_push_b39 (x1 : Int32) (Sn : q_V) : Option q_V :=
  some Sn
theorem b_X4_push_b39 {g : q_G} {S0 : kp_S} {x1 : Int32} {Sn : kp_S} {post : kp_S → Prop} {v : q_V} (R : q_Gd 0 g S0 Sn)  (h : fX4_push_b39 x1 (q_w g Sn) = some v) (kk : ∀ S, q_Gd 0 g S0 S → v = q_w g S → post S) : wX4_push_b39 (g 0 4 0) x1 Sn post := by
  unfold wX4_push_b39; unfold fX4_push_b39 at h
  exact q_finv h kk R
def fX4_push (x1 : Int32) (S : q_V) : Option q_V :=
  if (q_i S 803) < 0 then
  fX4_push_b39 x1 S
  else
  if (1680) ≤ (q_i S 803) then
  fX4_push_b39 x1 S
  else
  if (q_i S 803) < 0 ∨ 1680 ≤ (q_i S 803).toNatClampNeg then none else
  q_lt (q_sa S 802 ((upd (q_a S 802) ((q_i S 803).toNatClampNeg) x1))) (fun T2 =>
  q_lt (q_si T2 803 (((q_i T2 803) + 1))) (fun T3 =>
  fX4_push_b39 x1 T3))
theorem b_X4_push {g : q_G} {S0 : kp_S} {x1 : Int32} {S : kp_S} {post : kp_S → Prop} {v : q_V} (R : q_Gd 0 g S0 S)  (h : fX4_push x1 (q_w g S) = some v) (kk : ∀ S, q_Gd 0 g S0 S → v = q_w g S → post S) : wX4_push (g 0 4 0) x1 S post := by
  unfold wX4_push; unfold fX4_push at h
  refine ⟨fun c => ?_, fun c => ?_⟩
  · replace h := q_ifp h c
    exact b_X4_push_b39 R h kk
  · replace h := q_ifn h c
    refine ⟨_, q_p802 R, ?_⟩
    rw [q_l802 R]
    refine ⟨fun c => ?_, fun c => ?_⟩
    · replace h := q_ifp h c
      exact b_X4_push_b39 R h kk
    · replace h := q_ifn h c
      obtain ⟨hi, h⟩ := q_in h
      refine ⟨hi, ?_⟩
      intro T2 q
      obtain ⟨R, q⟩ := q_wA R q rfl
      replace h := q_ltw h q
      intro T3 q
      obtain ⟨R, q⟩ := q_wI R q rfl rfl
      replace h := q_ltw h q
      exact b_X4_push_b39 R h kk
def fX4_pop_b19 (Sn : q_V) : Option (Int32 × q_V) :=
  some (0, Sn)
theorem b_X4_pop_b19 {g : q_G} {S0 : kp_S} {Sn : kp_S} {post : Int32 → kp_S → Prop} {y : Int32} {v : q_V} (R : q_Gd 0 g S0 Sn)  (h : fX4_pop_b19 (q_w g Sn) = some (y, v)) (kk : ∀ S, q_Gd 0 g S0 S → v = q_w g S → post y S) : wX4_pop_b19 (g 0 4 0) Sn post := by
  unfold wX4_pop_b19; unfold fX4_pop_b19 at h
  exact q_fin h kk R
def fX4_pop (S : q_V) : Option (Int32 × q_V) :=
  if (q_i S 803) ≤ 0 then
  fX4_pop_b19 S
  else
  if (q_i S 803) ≤ (1680) then
  q_lt (q_si S 803 (((q_i S 803) - 1))) (fun T2 =>
  if (q_i T2 803) < 0 ∨ 1680 ≤ (q_i T2 803).toNatClampNeg then none else
  some ((q_a T2 802 (q_i T2 803).toNatClampNeg), T2))
  else
  fX4_pop_b19 S
theorem b_X4_pop {g : q_G} {S0 : kp_S} {S : kp_S} {post : Int32 → kp_S → Prop} {y : Int32} {v : q_V} (R : q_Gd 0 g S0 S)  (h : fX4_pop (q_w g S) = some (y, v)) (kk : ∀ S, q_Gd 0 g S0 S → v = q_w g S → post y S) : wX4_pop (g 0 4 0) S post := by
  unfold wX4_pop; unfold fX4_pop at h
  refine ⟨fun c => ?_, fun c => ?_⟩
  · replace h := q_ifp h c
    exact b_X4_pop_b19 R h kk
  · replace h := q_ifn h c
    refine ⟨_, q_p802 R, ?_⟩
    rw [q_l802 R]
    refine ⟨fun c => ?_, fun c => ?_⟩
    · replace h := q_ifp h c
      intro T2 q
      obtain ⟨R, q⟩ := q_wI R q rfl rfl
      replace h := q_ltw h q
      rw [q_l802 R]
      obtain ⟨hi, h⟩ := q_in h
      refine ⟨hi, ?_⟩
      exact q_fin h kk R
    · replace h := q_ifn h c
      exact b_X4_pop_b19 R h kk
def fX4_peek_b32 (x1 : Int32) (xt0 : Int32) (Sn : q_V) : Option (Int32 × q_V) :=
  some (xt0, Sn)
theorem b_X4_peek_b32 {g : q_G} {S0 : kp_S} {x1 : Int32} {xt0 : Int32} {Sn : kp_S} {post : Int32 → kp_S → Prop} {y : Int32} {v : q_V} (R : q_Gd 0 g S0 Sn)  (h : fX4_peek_b32 x1 xt0 (q_w g Sn) = some (y, v)) (kk : ∀ S, q_Gd 0 g S0 S → v = q_w g S → post y S) : wX4_peek_b32 (g 0 4 0) x1 xt0 Sn post := by
  unfold wX4_peek_b32; unfold fX4_peek_b32 at h
  exact q_fin h kk R
def fX4_peek_b31 (x1 : Int32) (Sn : q_V) : Option (Int32 × q_V) :=
  fX4_peek_b32 x1 0 Sn
theorem b_X4_peek_b31 {g : q_G} {S0 : kp_S} {x1 : Int32} {Sn : kp_S} {post : Int32 → kp_S → Prop} {y : Int32} {v : q_V} (R : q_Gd 0 g S0 Sn)  (h : fX4_peek_b31 x1 (q_w g Sn) = some (y, v)) (kk : ∀ S, q_Gd 0 g S0 S → v = q_w g S → post y S) : wX4_peek_b31 (g 0 4 0) x1 Sn post := by
  unfold wX4_peek_b31; unfold fX4_peek_b31 at h
  exact b_X4_peek_b32 R h kk
def fX4_peek (x1 : Int32) (S : q_V) : Option (Int32 × q_V) :=
  q_lt ((((q_i S 803) - 1) - x1) : Int32) (fun y1 =>
  if y1 < 0 then
  fX4_peek_b31 x1 S
  else
  if (1680) ≤ y1 then
  fX4_peek_b31 x1 S
  else
  if (y1) < 0 ∨ 1680 ≤ (y1).toNatClampNeg then none else
  fX4_peek_b32 x1 ((q_a S 802 y1.toNatClampNeg)) S)
theorem b_X4_peek {g : q_G} {S0 : kp_S} {x1 : Int32} {S : kp_S} {post : Int32 → kp_S → Prop} {y : Int32} {v : q_V} (R : q_Gd 0 g S0 S)  (h : fX4_peek x1 (q_w g S) = some (y, v)) (kk : ∀ S, q_Gd 0 g S0 S → v = q_w g S → post y S) : wX4_peek (g 0 4 0) x1 S post := by
  unfold wX4_peek; unfold fX4_peek at h
  intro y1 q
  replace h := q_ltw h q
  refine ⟨fun c => ?_, fun c => ?_⟩
  · replace h := q_ifp h c
    exact b_X4_peek_b31 R h kk
  · replace h := q_ifn h c
    refine ⟨_, q_p802 R, ?_⟩
    rw [q_l802 R]
    refine ⟨fun c => ?_, fun c => ?_⟩
    · replace h := q_ifp h c
      exact b_X4_peek_b31 R h kk
    · replace h := q_ifn h c
      obtain ⟨hi, h⟩ := q_in h
      refine ⟨hi, ?_⟩
      exact b_X4_peek_b32 R h kk
def fX4_frame_b33 (xt0 : Int32) (Sn : q_V) : Option (Nat × q_V) :=
  if (xt0) < 0 ∨ 12 ≤ (xt0).toNatClampNeg then none else
  some (xt0.toNatClampNeg, Sn)
theorem b_X4_frame_b33 {g : q_G} {S0 : kp_S} {xt0 : Int32} {Sn : kp_S} {post : Nat → kp_S → Prop} {y : Nat} {v : q_V} (R : q_Gd 0 g S0 Sn)  (h : fX4_frame_b33 xt0 (q_w g Sn) = some (y, v)) (kk : ∀ S, q_Gd 0 g S0 S → v = q_w g S → y < 12 → post (g 2 3 y) S) : wX4_frame_b33 (g 0 4 0) xt0 (g 1 804 0) Sn post := by
  unfold wX4_frame_b33; unfold fX4_frame_b33 at h
  rw [q_l804 R]
  obtain ⟨hi, h⟩ := q_in h
  refine ⟨hi, ?_⟩
  have hb_b1001 := q_ilt hi
  refine ⟨_, q_c804 R hb_b1001, ?_⟩
  exact q_finf h kk R hb_b1001
def fX4_frame_b32 (Sn : q_V) : Option (Nat × q_V) :=
  fX4_frame_b33 0 Sn
theorem b_X4_frame_b32 {g : q_G} {S0 : kp_S} {Sn : kp_S} {post : Nat → kp_S → Prop} {y : Nat} {v : q_V} (R : q_Gd 0 g S0 Sn)  (h : fX4_frame_b32 (q_w g Sn) = some (y, v)) (kk : ∀ S, q_Gd 0 g S0 S → v = q_w g S → y < 12 → post (g 2 3 y) S) : wX4_frame_b32 (g 0 4 0) (g 1 804 0) Sn post := by
  unfold wX4_frame_b32; unfold fX4_frame_b32 at h
  exact b_X4_frame_b33 R h kk
def fX4_frame (S : q_V) : Option (Nat × q_V) :=
  if (q_i S 805) ≤ 0 then
  fX4_frame_b32 S
  else
  if (12) < (q_i S 805) then
  fX4_frame_b32 S
  else
  fX4_frame_b33 (((q_i S 805) - 1)) S
theorem b_X4_frame {g : q_G} {S0 : kp_S} {S : kp_S} {post : Nat → kp_S → Prop} {y : Nat} {v : q_V} (R : q_Gd 0 g S0 S)  (h : fX4_frame (q_w g S) = some (y, v)) (kk : ∀ S, q_Gd 0 g S0 S → v = q_w g S → y < 12 → post (g 2 3 y) S) : wX4_frame (g 0 4 0) S post := by
  unfold wX4_frame; unfold fX4_frame at h
  refine ⟨_, q_p804 R, ?_⟩
  refine ⟨fun c => ?_, fun c => ?_⟩
  · replace h := q_ifp h c
    exact b_X4_frame_b32 R h kk
  · replace h := q_ifn h c
    rw [q_l804 R]
    refine ⟨fun c => ?_, fun c => ?_⟩
    · replace h := q_ifp h c
      exact b_X4_frame_b32 R h kk
    · replace h := q_ifn h c
      exact b_X4_frame_b33 R h kk
def fX4_top_b33 (xt0 : Int32) (Sn : q_V) : Option (Nat × q_V) :=
  if (xt0) < 0 ∨ 168 ≤ (xt0).toNatClampNeg then none else
  some (xt0.toNatClampNeg, Sn)
theorem b_X4_top_b33 {g : q_G} {S0 : kp_S} {xt0 : Int32} {Sn : kp_S} {post : Nat → kp_S → Prop} {y : Nat} {v : q_V} (R : q_Gd 0 g S0 Sn)  (h : fX4_top_b33 xt0 (q_w g Sn) = some (y, v)) (kk : ∀ S, q_Gd 0 g S0 S → v = q_w g S → y < 168 → post (g 2 6 y) S) : wX4_top_b33 (g 0 4 0) xt0 (g 1 806 0) Sn post := by
  unfold wX4_top_b33; unfold fX4_top_b33 at h
  rw [q_l806 R]
  obtain ⟨hi, h⟩ := q_in h
  refine ⟨hi, ?_⟩
  have hb_b1001 := q_ilt hi
  refine ⟨_, q_c806 R hb_b1001, ?_⟩
  exact q_finf h kk R hb_b1001
def fX4_top_b32 (Sn : q_V) : Option (Nat × q_V) :=
  fX4_top_b33 0 Sn
theorem b_X4_top_b32 {g : q_G} {S0 : kp_S} {Sn : kp_S} {post : Nat → kp_S → Prop} {y : Nat} {v : q_V} (R : q_Gd 0 g S0 Sn)  (h : fX4_top_b32 (q_w g Sn) = some (y, v)) (kk : ∀ S, q_Gd 0 g S0 S → v = q_w g S → y < 168 → post (g 2 6 y) S) : wX4_top_b32 (g 0 4 0) (g 1 806 0) Sn post := by
  unfold wX4_top_b32; unfold fX4_top_b32 at h
  exact b_X4_top_b33 R h kk
def fX4_top (S : q_V) : Option (Nat × q_V) :=
  if (q_i S 807) ≤ 0 then
  fX4_top_b32 S
  else
  if (168) < (q_i S 807) then
  fX4_top_b32 S
  else
  fX4_top_b33 (((q_i S 807) - 1)) S
theorem b_X4_top {g : q_G} {S0 : kp_S} {S : kp_S} {post : Nat → kp_S → Prop} {y : Nat} {v : q_V} (R : q_Gd 0 g S0 S)  (h : fX4_top (q_w g S) = some (y, v)) (kk : ∀ S, q_Gd 0 g S0 S → v = q_w g S → y < 168 → post (g 2 6 y) S) : wX4_top (g 0 4 0) S post := by
  unfold wX4_top; unfold fX4_top at h
  refine ⟨_, q_p806 R, ?_⟩
  refine ⟨fun c => ?_, fun c => ?_⟩
  · replace h := q_ifp h c
    exact b_X4_top_b32 R h kk
  · replace h := q_ifn h c
    rw [q_l806 R]
    refine ⟨fun c => ?_, fun c => ?_⟩
    · replace h := q_ifp h c
      exact b_X4_top_b32 R h kk
    · replace h := q_ifn h c
      exact b_X4_top_b33 R h kk
def fX4_begin_b22 (x1 : Int32) (x2 : Int32) (Sn : q_V) : Option (Nat × q_V) :=
  q_bd (fX4_top Sn) (fun b1002 T1001 =>
  q_lt (q_sf T1001 1200 b1002 x1) (fun T1003 =>
  q_lt (q_sf T1003 1201 b1002 0) (fun T1004 =>
  q_lt (q_sf T1004 1202 b1002 x2) (fun T1005 =>
  q_lt (q_sf T1005 1203 b1002 ((q_i T1005 803))) (fun T1006 =>
  q_lt (q_sf T1006 1207 b1002 ((q_i T1006 812))) (fun T1007 =>
  some (b1002, T1007)))))))
theorem b_X4_begin_b22 {g : q_G} {S0 : kp_S} {x1 : Int32} {x2 : Int32} {Sn : kp_S} {post : Nat → kp_S → Prop} {y : Nat} {v : q_V} (R : q_Gd 0 g S0 Sn)  (h : fX4_begin_b22 x1 x2 (q_w g Sn) = some (y, v)) (kk : ∀ S, q_Gd 0 g S0 S → v = q_w g S → y < 168 → post (g 2 6 y) S) : wX4_begin_b22 (g 0 4 0) x1 x2 Sn post := by
  unfold wX4_begin_b22; unfold fX4_begin_b22 at h
  obtain ⟨b1002, v1, h1, h⟩ := q_bdi h
  refine b_X4_top R h1 (fun T1001 R q hb_b1002 => ?_)
  subst q
  intro T1003 q
  obtain ⟨R, q⟩ := q_wF R q rfl rfl
  replace h := q_ltw h q
  intro T1004 q
  obtain ⟨R, q⟩ := q_wF R q rfl rfl
  replace h := q_ltw h q
  intro T1005 q
  obtain ⟨R, q⟩ := q_wF R q rfl rfl
  replace h := q_ltw h q
  intro T1006 q
  obtain ⟨R, q⟩ := q_wF R q rfl rfl
  replace h := q_ltw h q
  intro T1007 q
  obtain ⟨R, q⟩ := q_wF R q rfl rfl
  replace h := q_ltw h q
  exact q_finf h kk R hb_b1002
def fX4_begin (x1 : Int32) (x2 : Int32) (S : q_V) : Option (Nat × q_V) :=
  if (168) ≤ (q_i S 807) then
  fX4_begin_b22 x1 x2 S
  else
  q_lt (q_si S 807 (((q_i S 807) + 1))) (fun T2 =>
  fX4_begin_b22 x1 x2 T2)
theorem b_X4_begin {g : q_G} {S0 : kp_S} {x1 : Int32} {x2 : Int32} {S : kp_S} {post : Nat → kp_S → Prop} {y : Nat} {v : q_V} (R : q_Gd 0 g S0 S)  (h : fX4_begin x1 x2 (q_w g S) = some (y, v)) (kk : ∀ S, q_Gd 0 g S0 S → v = q_w g S → y < 168 → post (g 2 6 y) S) : wX4_begin (g 0 4 0) x1 x2 S post := by
  unfold wX4_begin; unfold fX4_begin at h
  refine ⟨_, q_p806 R, ?_⟩
  rw [q_l806 R]
  refine ⟨fun c => ?_, fun c => ?_⟩
  · replace h := q_ifp h c
    exact b_X4_begin_b22 R h kk
  · replace h := q_ifn h c
    intro T2 q
    obtain ⟨R, q⟩ := q_wI R q rfl rfl
    replace h := q_ltw h q
    exact b_X4_begin_b22 R h kk
def fX4_spend (S : q_V) : Option (Int32 × q_V) :=
  if 0 < (q_i S 813) then
  q_lt (q_si S 813 (((q_i S 813) - 1))) (fun T1 =>
  some (1, T1))
  else
  q_lt (q_si S 814 2) (fun T2 =>
  some (0, T2))
theorem b_X4_spend {g : q_G} {S0 : kp_S} {S : kp_S} {post : Int32 → kp_S → Prop} {y : Int32} {v : q_V} (R : q_Gd 0 g S0 S)  (h : fX4_spend (q_w g S) = some (y, v)) (kk : ∀ S, q_Gd 0 g S0 S → v = q_w g S → post y S) : wX4_spend (g 0 4 0) S post := by
  unfold wX4_spend; unfold fX4_spend at h
  refine ⟨fun c => ?_, fun c => ?_⟩
  · replace h := q_ifp h c
    intro T1 q
    obtain ⟨R, q⟩ := q_wI R q rfl rfl
    replace h := q_ltw h q
    exact q_fin h kk R
  · replace h := q_ifn h c
    intro T2 q
    obtain ⟨R, q⟩ := q_wI R q rfl rfl
    replace h := q_ltw h q
    exact q_fin h kk R
def fX4_trouble (x1 : Int32) (S : q_V) : Option q_V :=
  q_bv (fX7_count 12 S) (fun T2 =>
  q_bv (fX7_write 7 x1 T2) (fun T4 =>
  q_bv (fX10_become 168 4 x1 T4) (fun T6 =>
  q_lt (q_sf T6 2002 168 ((q_i T6 812))) (fun T8 =>
  q_lt (q_sf T8 2003 168 ((q_i T8 811))) (fun T9 =>
  some T9)))))
theorem b_X4_trouble {g : q_G} {S0 : kp_S} {x1 : Int32} {S : kp_S} {post : kp_S → Prop} {v : q_V} (R : q_Gd 0 g S0 S)  (h : fX4_trouble x1 (q_w g S) = some v) (kk : ∀ S, q_Gd 0 g S0 S → v = q_w g S → post S) : wX4_trouble (g 0 4 0) x1 S post := by
  unfold wX4_trouble; unfold fX4_trouble at h
  refine ⟨_, q_p801 R, ?_⟩
  obtain ⟨v1, h1, h⟩ := q_bvi h
  refine b_X7_count R h1 (fun T2 R q => ?_)
  subst q
  refine ⟨_, q_p801 R, ?_⟩
  obtain ⟨v1, h1, h⟩ := q_bvi h
  refine b_X7_write R h1 (fun T4 R q => ?_)
  subst q
  refine ⟨_, q_p808 R, ?_⟩
  obtain ⟨v1, h1, h⟩ := q_bvi h
  refine b_X10_become R (by decide) h1 (fun T6 R q => ?_)
  subst q
  refine ⟨_, q_p808 R, ?_⟩
  intro T8 q
  obtain ⟨R, q⟩ := q_wF R q rfl rfl
  replace h := q_ltw h q
  intro T9 q
  obtain ⟨R, q⟩ := q_wF R q rfl rfl
  replace h := q_ltw h q
  exact q_finv h kk R
def fX4_workSingle_b144 (x1 : Int32) (Sn : q_V) : Option q_V :=
  some Sn
theorem b_X4_workSingle_b144 {g : q_G} {S0 : kp_S} {x1 : Int32} {Sn : kp_S} {post : kp_S → Prop} {v : q_V} (R : q_Gd 0 g S0 Sn)  (h : fX4_workSingle_b144 x1 (q_w g Sn) = some v) (kk : ∀ S, q_Gd 0 g S0 S → v = q_w g S → post S) : wX4_workSingle_b144 (g 0 4 0) x1 Sn post := by
  unfold wX4_workSingle_b144; unfold fX4_workSingle_b144 at h
  exact q_finv h kk R
def fX4_workSingle_b122 (x1 : Int32) (xt0 : Int32) (Sn : q_V) : Option q_V :=
  q_bv (fX4_push xt0 Sn) (fun T2001 =>
  fX4_workSingle_b144 x1 T2001)
theorem b_X4_workSingle_b122 {g : q_G} {S0 : kp_S} {x1 : Int32} {xt0 : Int32} {Sn : kp_S} {post : kp_S → Prop} {v : q_V} (R : q_Gd 0 g S0 Sn)  (h : fX4_workSingle_b122 x1 xt0 (q_w g Sn) = some v) (kk : ∀ S, q_Gd 0 g S0 S → v = q_w g S → post S) : wX4_workSingle_b122 (g 0 4 0) x1 xt0 (g 0 4 0) Sn post := by
  unfold wX4_workSingle_b122; unfold fX4_workSingle_b122 at h
  obtain ⟨v1, h1, h⟩ := q_bvi h
  refine b_X4_push R h1 (fun T2001 R q => ?_)
  subst q
  exact b_X4_workSingle_b144 R h kk
def fX4_workSingle_b141 (x1 : Int32) (xt0 : Int32) (Sn : q_V) : Option q_V :=
  q_bv (fX4_push xt0 Sn) (fun T3001 =>
  fX4_workSingle_b144 x1 T3001)
theorem b_X4_workSingle_b141 {g : q_G} {S0 : kp_S} {x1 : Int32} {xt0 : Int32} {Sn : kp_S} {post : kp_S → Prop} {v : q_V} (R : q_Gd 0 g S0 Sn)  (h : fX4_workSingle_b141 x1 xt0 (q_w g Sn) = some v) (kk : ∀ S, q_Gd 0 g S0 S → v = q_w g S → post S) : wX4_workSingle_b141 (g 0 4 0) x1 xt0 (g 0 4 0) Sn post := by
  unfold wX4_workSingle_b141; unfold fX4_workSingle_b141 at h
  obtain ⟨v1, h1, h⟩ := q_bvi h
  refine b_X4_push R h1 (fun T3001 R q => ?_)
  subst q
  exact b_X4_workSingle_b144 R h kk
def fX4_workSingle (x1 : Int32) (S : q_V) : Option q_V :=
  if x1 = 1 then
  q_bd (fX4_take S) (fun y3 T2 =>
  q_bv (fX4_push y3 T2) (fun T4 =>
  fX4_workSingle_b144 x1 T4))
  else
  if x1 = 2 then
  q_bd (fX4_frame S) (fun b7 T6 =>
  q_bd (fX4_take T6) (fun y9 T8 =>
  q_bd (fX3_get b7 y9 T8) (fun y11 T10 =>
  q_bv (fX4_push y11 T10) (fun T12 =>
  fX4_workSingle_b144 x1 T12))))
  else
  if x1 = 3 then
  q_bd (fX4_frame S) (fun b15 T14 =>
  q_bv (fX4_push ((q_f T14 603 b15)) T14) (fun T16 =>
  fX4_workSingle_b144 x1 T16))
  else
  if x1 = 4 then
  q_bd (fX4_frame S) (fun b19 T18 =>
  q_bv (fX4_push ((q_f T18 604 b19)) T18) (fun T20 =>
  fX4_workSingle_b144 x1 T20))
  else
  if x1 = 5 then
  q_bd (fX4_pop S) (fun y23 T22 =>
  q_bv (fX4_push ((- y23)) T22) (fun T24 =>
  fX4_workSingle_b144 x1 T24))
  else
  if x1 = 6 then
  q_bd (fX4_pop S) (fun y27 T26 =>
  if y27 = 0 then
  fX4_workSingle_b122 x1 1 T26
  else
  fX4_workSingle_b122 x1 0 T26)
  else
  q_bd (fX4_pop S) (fun y30 T29 =>
  if y30 = 0 then
  fX4_workSingle_b141 x1 0 T29
  else
  fX4_workSingle_b141 x1 1 T29)
theorem b_X4_workSingle {g : q_G} {S0 : kp_S} {x1 : Int32} {S : kp_S} {post : kp_S → Prop} {v : q_V} (R : q_Gd 0 g S0 S)  (h : fX4_workSingle x1 (q_w g S) = some v) (kk : ∀ S, q_Gd 0 g S0 S → v = q_w g S → post S) : wX4_workSingle (g 0 4 0) x1 S post := by
  unfold wX4_workSingle; unfold fX4_workSingle at h
  refine ⟨fun c => ?_, fun c => ?_⟩
  · replace h := q_ifp h c
    obtain ⟨y3, v1, h1, h⟩ := q_bdi h
    refine b_X4_take R h1 (fun T2 R q => ?_)
    subst q
    obtain ⟨v1, h1, h⟩ := q_bvi h
    refine b_X4_push R h1 (fun T4 R q => ?_)
    subst q
    exact b_X4_workSingle_b144 R h kk
  · replace h := q_ifn h c
    refine ⟨fun c => ?_, fun c => ?_⟩
    · replace h := q_ifp h c
      obtain ⟨b7, v1, h1, h⟩ := q_bdi h
      refine b_X4_frame R h1 (fun T6 R q hb_b7 => ?_)
      subst q
      obtain ⟨y9, v1, h1, h⟩ := q_bdi h
      refine b_X4_take R h1 (fun T8 R q => ?_)
      subst q
      obtain ⟨y11, v1, h1, h⟩ := q_bdi h
      refine b_X3_get R hb_b7 h1 (fun T10 R q => ?_)
      subst q
      obtain ⟨v1, h1, h⟩ := q_bvi h
      refine b_X4_push R h1 (fun T12 R q => ?_)
      subst q
      exact b_X4_workSingle_b144 R h kk
    · replace h := q_ifn h c
      refine ⟨fun c => ?_, fun c => ?_⟩
      · replace h := q_ifp h c
        obtain ⟨b15, v1, h1, h⟩ := q_bdi h
        refine b_X4_frame R h1 (fun T14 R q hb_b15 => ?_)
        subst q
        obtain ⟨v1, h1, h⟩ := q_bvi h
        refine b_X4_push R h1 (fun T16 R q => ?_)
        subst q
        exact b_X4_workSingle_b144 R h kk
      · replace h := q_ifn h c
        refine ⟨fun c => ?_, fun c => ?_⟩
        · replace h := q_ifp h c
          obtain ⟨b19, v1, h1, h⟩ := q_bdi h
          refine b_X4_frame R h1 (fun T18 R q hb_b19 => ?_)
          subst q
          obtain ⟨v1, h1, h⟩ := q_bvi h
          refine b_X4_push R h1 (fun T20 R q => ?_)
          subst q
          exact b_X4_workSingle_b144 R h kk
        · replace h := q_ifn h c
          refine ⟨fun c => ?_, fun c => ?_⟩
          · replace h := q_ifp h c
            obtain ⟨y23, v1, h1, h⟩ := q_bdi h
            refine b_X4_pop R h1 (fun T22 R q => ?_)
            subst q
            obtain ⟨v1, h1, h⟩ := q_bvi h
            refine b_X4_push R h1 (fun T24 R q => ?_)
            subst q
            exact b_X4_workSingle_b144 R h kk
          · replace h := q_ifn h c
            refine ⟨fun c => ?_, fun c => ?_⟩
            · replace h := q_ifp h c
              obtain ⟨y27, v1, h1, h⟩ := q_bdi h
              refine b_X4_pop R h1 (fun T26 R q => ?_)
              subst q
              refine ⟨fun c => ?_, fun c => ?_⟩
              · replace h := q_ifn h c
                exact b_X4_workSingle_b122 R h kk
              · replace h := q_ifp h c
                exact b_X4_workSingle_b122 R h kk
            · replace h := q_ifn h c
              obtain ⟨y30, v1, h1, h⟩ := q_bdi h
              refine b_X4_pop R h1 (fun T29 R q => ?_)
              subst q
              refine ⟨fun c => ?_, fun c => ?_⟩
              · replace h := q_ifp h c
                exact b_X4_workSingle_b141 R h kk
              · replace h := q_ifn h c
                exact b_X4_workSingle_b141 R h kk
def fX4_divide_b31 (x1 : Int32) (x2 : Int32) (x3 : Int32) (Sn : q_V) : Option q_V :=
  some Sn
theorem b_X4_divide_b31 {g : q_G} {S0 : kp_S} {x1 : Int32} {x2 : Int32} {x3 : Int32} {Sn : kp_S} {post : kp_S → Prop} {v : q_V} (R : q_Gd 0 g S0 Sn)  (h : fX4_divide_b31 x1 x2 x3 (q_w g Sn) = some v) (kk : ∀ S, q_Gd 0 g S0 S → v = q_w g S → post S) : wX4_divide_b31 (g 0 4 0) x1 x2 x3 Sn post := by
  unfold wX4_divide_b31; unfold fX4_divide_b31 at h
  exact q_finv h kk R
def fX4_divide_b28 (x1 : Int32) (x2 : Int32) (x3 : Int32) (xt0 : Int32) (Sn : q_V) : Option q_V :=
  q_bv (fX4_push xt0 Sn) (fun T2001 =>
  fX4_divide_b31 x1 x2 x3 T2001)
theorem b_X4_divide_b28 {g : q_G} {S0 : kp_S} {x1 : Int32} {x2 : Int32} {x3 : Int32} {xt0 : Int32} {Sn : kp_S} {post : kp_S → Prop} {v : q_V} (R : q_Gd 0 g S0 Sn)  (h : fX4_divide_b28 x1 x2 x3 xt0 (q_w g Sn) = some v) (kk : ∀ S, q_Gd 0 g S0 S → v = q_w g S → post S) : wX4_divide_b28 (g 0 4 0) x1 x2 x3 xt0 (g 0 4 0) Sn post := by
  unfold wX4_divide_b28; unfold fX4_divide_b28 at h
  obtain ⟨v1, h1, h⟩ := q_bvi h
  refine b_X4_push R h1 (fun T2001 R q => ?_)
  subst q
  exact b_X4_divide_b31 R h kk
def fX4_divide (x1 : Int32) (x2 : Int32) (x3 : Int32) (S : q_V) : Option q_V :=
  if x3 = 0 then
  q_bv (fX4_trouble 1 S) (fun T2 =>
  fX4_divide_b31 x1 x2 x3 T2)
  else
  if x1 = 11 then
  if x3 = 0 then none else
  fX4_divide_b28 x1 x2 x3 ((x2 / x3)) S
  else
  if x3 = 0 then none else
  fX4_divide_b28 x1 x2 x3 ((x2 - x2 / x3 * x3)) S
theorem b_X4_divide {g : q_G} {S0 : kp_S} {x1 : Int32} {x2 : Int32} {x3 : Int32} {S : kp_S} {post : kp_S → Prop} {v : q_V} (R : q_Gd 0 g S0 S)  (h : fX4_divide x1 x2 x3 (q_w g S) = some v) (kk : ∀ S, q_Gd 0 g S0 S → v = q_w g S → post S) : wX4_divide (g 0 4 0) x1 x2 x3 S post := by
  unfold wX4_divide; unfold fX4_divide at h
  refine ⟨fun c => ?_, fun c => ?_⟩
  · replace h := q_ifn h c
    refine ⟨fun c => ?_, fun c => ?_⟩
    · replace h := q_ifn h c
      obtain ⟨hi, h⟩ := q_in h
      refine ⟨hi, ?_⟩
      exact b_X4_divide_b28 R h kk
    · replace h := q_ifp h c
      obtain ⟨hi, h⟩ := q_in h
      refine ⟨hi, ?_⟩
      exact b_X4_divide_b28 R h kk
  · replace h := q_ifp h c
    obtain ⟨v1, h1, h⟩ := q_bvi h
    refine b_X4_trouble R h1 (fun T2 R q => ?_)
    subst q
    exact b_X4_divide_b31 R h kk
def fX4_workPair_b165 (x1 : Int32) (Sn : q_V) : Option q_V :=
  some Sn
theorem b_X4_workPair_b165 {g : q_G} {S0 : kp_S} {x1 : Int32} {Sn : kp_S} {post : kp_S → Prop} {v : q_V} (R : q_Gd 0 g S0 Sn)  (h : fX4_workPair_b165 x1 (q_w g Sn) = some v) (kk : ∀ S, q_Gd 0 g S0 S → v = q_w g S → post S) : wX4_workPair_b165 (g 0 4 0) x1 Sn post := by
  unfold wX4_workPair_b165; unfold fX4_workPair_b165 at h
  exact q_finv h kk R
def fX4_workPair_b158 (x1 : Int32) (xn2 : Int32) (xn3 : Int32) (Sn : q_V) : Option q_V :=
  q_bv (fX4_divide x1 xn3 xn2 Sn) (fun T2001 =>
  fX4_workPair_b165 x1 T2001)
theorem b_X4_workPair_b158 {g : q_G} {S0 : kp_S} {x1 : Int32} {xn2 : Int32} {xn3 : Int32} {Sn : kp_S} {post : kp_S → Prop} {v : q_V} (R : q_Gd 0 g S0 Sn)  (h : fX4_workPair_b158 x1 xn2 xn3 (q_w g Sn) = some v) (kk : ∀ S, q_Gd 0 g S0 S → v = q_w g S → post S) : wX4_workPair_b158 (g 0 4 0) x1 xn2 xn3 Sn post := by
  unfold wX4_workPair_b158; unfold fX4_workPair_b158 at h
  obtain ⟨v1, h1, h⟩ := q_bvi h
  refine b_X4_divide R h1 (fun T2001 R q => ?_)
  subst q
  exact b_X4_workPair_b165 R h kk
def fX4_workPair_b101 (x1 : Int32) (xt0 : Int32) (Sn : q_V) : Option q_V :=
  q_bv (fX4_push xt0 Sn) (fun T3001 =>
  fX4_workPair_b165 x1 T3001)
theorem b_X4_workPair_b101 {g : q_G} {S0 : kp_S} {x1 : Int32} {xt0 : Int32} {Sn : kp_S} {post : kp_S → Prop} {v : q_V} (R : q_Gd 0 g S0 Sn)  (h : fX4_workPair_b101 x1 xt0 (q_w g Sn) = some v) (kk : ∀ S, q_Gd 0 g S0 S → v = q_w g S → post S) : wX4_workPair_b101 (g 0 4 0) x1 xt0 (g 0 4 0) Sn post := by
  unfold wX4_workPair_b101; unfold fX4_workPair_b101 at h
  obtain ⟨v1, h1, h⟩ := q_bvi h
  refine b_X4_push R h1 (fun T3001 R q => ?_)
  subst q
  exact b_X4_workPair_b165 R h kk
def fX4_workPair_b118 (x1 : Int32) (xt0 : Int32) (Sn : q_V) : Option q_V :=
  q_bv (fX4_push xt0 Sn) (fun T4001 =>
  fX4_workPair_b165 x1 T4001)
theorem b_X4_workPair_b118 {g : q_G} {S0 : kp_S} {x1 : Int32} {xt0 : Int32} {Sn : kp_S} {post : kp_S → Prop} {v : q_V} (R : q_Gd 0 g S0 Sn)  (h : fX4_workPair_b118 x1 xt0 (q_w g Sn) = some v) (kk : ∀ S, q_Gd 0 g S0 S → v = q_w g S → post S) : wX4_workPair_b118 (g 0 4 0) x1 xt0 (g 0 4 0) Sn post := by
  unfold wX4_workPair_b118; unfold fX4_workPair_b118 at h
  obtain ⟨v1, h1, h⟩ := q_bvi h
  refine b_X4_push R h1 (fun T4001 R q => ?_)
  subst q
  exact b_X4_workPair_b165 R h kk
def fX4_workPair_b135 (x1 : Int32) (xt0 : Int32) (Sn : q_V) : Option q_V :=
  q_bv (fX4_push xt0 Sn) (fun T5001 =>
  fX4_workPair_b165 x1 T5001)
theorem b_X4_workPair_b135 {g : q_G} {S0 : kp_S} {x1 : Int32} {xt0 : Int32} {Sn : kp_S} {post : kp_S → Prop} {v : q_V} (R : q_Gd 0 g S0 Sn)  (h : fX4_workPair_b135 x1 xt0 (q_w g Sn) = some v) (kk : ∀ S, q_Gd 0 g S0 S → v = q_w g S → post S) : wX4_workPair_b135 (g 0 4 0) x1 xt0 (g 0 4 0) Sn post := by
  unfold wX4_workPair_b135; unfold fX4_workPair_b135 at h
  obtain ⟨v1, h1, h⟩ := q_bvi h
  refine b_X4_push R h1 (fun T5001 R q => ?_)
  subst q
  exact b_X4_workPair_b165 R h kk
def fX4_workPair_b152 (x1 : Int32) (xt0 : Int32) (Sn : q_V) : Option q_V :=
  q_bv (fX4_push xt0 Sn) (fun T6001 =>
  fX4_workPair_b165 x1 T6001)
theorem b_X4_workPair_b152 {g : q_G} {S0 : kp_S} {x1 : Int32} {xt0 : Int32} {Sn : kp_S} {post : kp_S → Prop} {v : q_V} (R : q_Gd 0 g S0 Sn)  (h : fX4_workPair_b152 x1 xt0 (q_w g Sn) = some v) (kk : ∀ S, q_Gd 0 g S0 S → v = q_w g S → post S) : wX4_workPair_b152 (g 0 4 0) x1 xt0 (g 0 4 0) Sn post := by
  unfold wX4_workPair_b152; unfold fX4_workPair_b152 at h
  obtain ⟨v1, h1, h⟩ := q_bvi h
  refine b_X4_push R h1 (fun T6001 R q => ?_)
  subst q
  exact b_X4_workPair_b165 R h kk
def fX4_workPair (x1 : Int32) (S : q_V) : Option q_V :=
  q_bd (fX4_pop S) (fun y2 T1 =>
  q_bd (fX4_pop T1) (fun y4 T3 =>
  if x1 = 8 then
  q_bv (fX4_push ((y4 + y2)) T3) (fun T6 =>
  fX4_workPair_b165 x1 T6)
  else
  if x1 = 9 then
  q_bv (fX4_push ((y4 - y2)) T3) (fun T8 =>
  fX4_workPair_b165 x1 T8)
  else
  if x1 = 10 then
  q_bv (fX4_push ((y4 * y2)) T3) (fun T10 =>
  fX4_workPair_b165 x1 T10)
  else
  if x1 = 11 then
  fX4_workPair_b158 x1 y2 y4 T3
  else
  if x1 = 12 then
  fX4_workPair_b158 x1 y2 y4 T3
  else
  if x1 = 13 then
  if y4 = y2 then
  fX4_workPair_b101 x1 1 T3
  else
  fX4_workPair_b101 x1 0 T3
  else
  if x1 = 14 then
  if y4 = y2 then
  fX4_workPair_b118 x1 0 T3
  else
  fX4_workPair_b118 x1 1 T3
  else
  if x1 = 15 then
  if y2 ≤ y4 then
  fX4_workPair_b135 x1 0 T3
  else
  fX4_workPair_b135 x1 1 T3
  else
  if x1 = 16 then
  if y2 < y4 then
  fX4_workPair_b152 x1 0 T3
  else
  fX4_workPair_b152 x1 1 T3
  else
  fX4_workPair_b158 x1 y2 y4 T3))
theorem b_X4_workPair {g : q_G} {S0 : kp_S} {x1 : Int32} {S : kp_S} {post : kp_S → Prop} {v : q_V} (R : q_Gd 0 g S0 S)  (h : fX4_workPair x1 (q_w g S) = some v) (kk : ∀ S, q_Gd 0 g S0 S → v = q_w g S → post S) : wX4_workPair (g 0 4 0) x1 S post := by
  unfold wX4_workPair; unfold fX4_workPair at h
  obtain ⟨y2, v1, h1, h⟩ := q_bdi h
  refine b_X4_pop R h1 (fun T1 R q => ?_)
  subst q
  obtain ⟨y4, v1, h1, h⟩ := q_bdi h
  refine b_X4_pop R h1 (fun T3 R q => ?_)
  subst q
  refine ⟨fun c => ?_, fun c => ?_⟩
  · replace h := q_ifp h c
    obtain ⟨v1, h1, h⟩ := q_bvi h
    refine b_X4_push R h1 (fun T6 R q => ?_)
    subst q
    exact b_X4_workPair_b165 R h kk
  · replace h := q_ifn h c
    refine ⟨fun c => ?_, fun c => ?_⟩
    · replace h := q_ifp h c
      obtain ⟨v1, h1, h⟩ := q_bvi h
      refine b_X4_push R h1 (fun T8 R q => ?_)
      subst q
      exact b_X4_workPair_b165 R h kk
    · replace h := q_ifn h c
      refine ⟨fun c => ?_, fun c => ?_⟩
      · replace h := q_ifp h c
        obtain ⟨v1, h1, h⟩ := q_bvi h
        refine b_X4_push R h1 (fun T10 R q => ?_)
        subst q
        exact b_X4_workPair_b165 R h kk
      · replace h := q_ifn h c
        refine ⟨fun c => ?_, fun c => ?_⟩
        · replace h := q_ifp h c
          exact b_X4_workPair_b158 R h kk
        · replace h := q_ifn h c
          refine ⟨fun c => ?_, fun c => ?_⟩
          · replace h := q_ifp h c
            exact b_X4_workPair_b158 R h kk
          · replace h := q_ifn h c
            refine ⟨fun c => ?_, fun c => ?_⟩
            · replace h := q_ifp h c
              refine ⟨fun c => ?_, fun c => ?_⟩
              · replace h := q_ifn h c
                exact b_X4_workPair_b101 R h kk
              · replace h := q_ifp h c
                exact b_X4_workPair_b101 R h kk
            · replace h := q_ifn h c
              refine ⟨fun c => ?_, fun c => ?_⟩
              · replace h := q_ifp h c
                refine ⟨fun c => ?_, fun c => ?_⟩
                · replace h := q_ifp h c
                  exact b_X4_workPair_b118 R h kk
                · replace h := q_ifn h c
                  exact b_X4_workPair_b118 R h kk
              · replace h := q_ifn h c
                refine ⟨fun c => ?_, fun c => ?_⟩
                · replace h := q_ifp h c
                  refine ⟨fun c => ?_, fun c => ?_⟩
                  · replace h := q_ifp h c
                    exact b_X4_workPair_b135 R h kk
                  · replace h := q_ifn h c
                    exact b_X4_workPair_b135 R h kk
                · replace h := q_ifn h c
                  refine ⟨fun c => ?_, fun c => ?_⟩
                  · replace h := q_ifp h c
                    refine ⟨fun c => ?_, fun c => ?_⟩
                    · replace h := q_ifp h c
                      exact b_X4_workPair_b152 R h kk
                    · replace h := q_ifn h c
                      exact b_X4_workPair_b152 R h kk
                  · replace h := q_ifn h c
                    exact b_X4_workPair_b158 R h kk
def fX4_workQuery_b115 (x1 : Int32) (Sn : q_V) : Option q_V :=
  some Sn
theorem b_X4_workQuery_b115 {g : q_G} {S0 : kp_S} {x1 : Int32} {Sn : kp_S} {post : kp_S → Prop} {v : q_V} (R : q_Gd 0 g S0 Sn)  (h : fX4_workQuery_b115 x1 (q_w g Sn) = some v) (kk : ∀ S, q_Gd 0 g S0 S → v = q_w g S → post S) : wX4_workQuery_b115 (g 0 4 0) x1 Sn post := by
  unfold wX4_workQuery_b115; unfold fX4_workQuery_b115 at h
  exact q_finv h kk R
def fX4_workQuery_b97 (x1 : Int32) (xn3 : Int32) (Sn : q_V) : Option q_V :=
  if xn3 = (- 1) then
  q_bv (fX4_trouble 3 Sn) (fun T2002 =>
  fX4_workQuery_b115 x1 T2002)
  else
  q_bv (fX4_push xn3 Sn) (fun T2001 =>
  fX4_workQuery_b115 x1 T2001)
theorem b_X4_workQuery_b97 {g : q_G} {S0 : kp_S} {x1 : Int32} {xn3 : Int32} {Sn : kp_S} {post : kp_S → Prop} {v : q_V} (R : q_Gd 0 g S0 Sn)  (h : fX4_workQuery_b97 x1 xn3 (q_w g Sn) = some v) (kk : ∀ S, q_Gd 0 g S0 S → v = q_w g S → post S) : wX4_workQuery_b97 (g 0 4 0) x1 xn3 Sn post := by
  unfold wX4_workQuery_b97; unfold fX4_workQuery_b97 at h
  refine ⟨fun c => ?_, fun c => ?_⟩
  · replace h := q_ifn h c
    obtain ⟨v1, h1, h⟩ := q_bvi h
    refine b_X4_push R h1 (fun T2001 R q => ?_)
    subst q
    exact b_X4_workQuery_b115 R h kk
  · replace h := q_ifp h c
    obtain ⟨v1, h1, h⟩ := q_bvi h
    refine b_X4_trouble R h1 (fun T2002 R q => ?_)
    subst q
    exact b_X4_workQuery_b115 R h kk
def fX4_workQuery (x1 : Int32) (S : q_V) : Option q_V :=
  q_bd (fX4_pop S) (fun y2 T1 =>
  if x1 = 17 then
  q_bd (fX1_levelOf y2 T1) (fun y6 T5 =>
  fX4_workQuery_b97 x1 y6 T5)
  else
  if x1 = 18 then
  q_bd (fX1_reachLevelOf y2 T1) (fun y10 T9 =>
  fX4_workQuery_b97 x1 y10 T9)
  else
  if x1 = 19 then
  q_bd (fX4_pop T1) (fun y14 T13 =>
  q_bd (fX1_gateOf y14 y2 T13) (fun y16 T15 =>
  fX4_workQuery_b97 x1 y16 T15))
  else
  if x1 = 20 then
  q_bd (fX1_placeOf y2 T1) (fun y20 T19 =>
  fX4_workQuery_b97 x1 y20 T19)
  else
  q_bd (fX1_holdsOf y2 T1) (fun y23 T22 =>
  fX4_workQuery_b97 x1 y23 T22))
theorem b_X4_workQuery {g : q_G} {S0 : kp_S} {x1 : Int32} {S : kp_S} {post : kp_S → Prop} {v : q_V} (R : q_Gd 0 g S0 S)  (h : fX4_workQuery x1 (q_w g S) = some v) (kk : ∀ S, q_Gd 0 g S0 S → v = q_w g S → post S) : wX4_workQuery (g 0 4 0) x1 S post := by
  unfold wX4_workQuery; unfold fX4_workQuery at h
  obtain ⟨y2, v1, h1, h⟩ := q_bdi h
  refine b_X4_pop R h1 (fun T1 R q => ?_)
  subst q
  refine ⟨fun c => ?_, fun c => ?_⟩
  · replace h := q_ifp h c
    refine ⟨_, q_p800 R, ?_⟩
    obtain ⟨y6, v1, h1, h⟩ := q_bdi h
    refine b_X1_levelOf R h1 (fun T5 R q => ?_)
    subst q
    exact b_X4_workQuery_b97 R h kk
  · replace h := q_ifn h c
    refine ⟨fun c => ?_, fun c => ?_⟩
    · replace h := q_ifp h c
      refine ⟨_, q_p800 R, ?_⟩
      obtain ⟨y10, v1, h1, h⟩ := q_bdi h
      refine b_X1_reachLevelOf R h1 (fun T9 R q => ?_)
      subst q
      exact b_X4_workQuery_b97 R h kk
    · replace h := q_ifn h c
      refine ⟨fun c => ?_, fun c => ?_⟩
      · replace h := q_ifp h c
        refine ⟨_, q_p800 R, ?_⟩
        obtain ⟨y14, v1, h1, h⟩ := q_bdi h
        refine b_X4_pop R h1 (fun T13 R q => ?_)
        subst q
        obtain ⟨y16, v1, h1, h⟩ := q_bdi h
        refine b_X1_gateOf R h1 (fun T15 R q => ?_)
        subst q
        exact b_X4_workQuery_b97 R h kk
      · replace h := q_ifn h c
        refine ⟨fun c => ?_, fun c => ?_⟩
        · replace h := q_ifp h c
          refine ⟨_, q_p800 R, ?_⟩
          obtain ⟨y20, v1, h1, h⟩ := q_bdi h
          refine b_X1_placeOf R h1 (fun T19 R q => ?_)
          subst q
          exact b_X4_workQuery_b97 R h kk
        · replace h := q_ifn h c
          refine ⟨_, q_p800 R, ?_⟩
          obtain ⟨y23, v1, h1, h⟩ := q_bdi h
          refine b_X1_holdsOf R h1 (fun T22 R q => ?_)
          subst q
          exact b_X4_workQuery_b97 R h kk
def fX4_jumpIf_b9 (x1 : Int32) (x2 : Int32) (Sn : q_V) : Option q_V :=
  some Sn
theorem b_X4_jumpIf_b9 {g : q_G} {S0 : kp_S} {x1 : Int32} {x2 : Int32} {Sn : kp_S} {post : kp_S → Prop} {v : q_V} (R : q_Gd 0 g S0 Sn)  (h : fX4_jumpIf_b9 x1 x2 (q_w g Sn) = some v) (kk : ∀ S, q_Gd 0 g S0 S → v = q_w g S → post S) : wX4_jumpIf_b9 (g 0 4 0) x1 x2 Sn post := by
  unfold wX4_jumpIf_b9; unfold fX4_jumpIf_b9 at h
  exact q_finv h kk R
def fX4_jumpIf (x1 : Int32) (x2 : Int32) (S : q_V) : Option q_V :=
  if x1 = 0 then
  fX4_jumpIf_b9 x1 x2 S
  else
  q_lt (q_si S 810 x2) (fun T1 =>
  fX4_jumpIf_b9 x1 x2 T1)
theorem b_X4_jumpIf {g : q_G} {S0 : kp_S} {x1 : Int32} {x2 : Int32} {S : kp_S} {post : kp_S → Prop} {v : q_V} (R : q_Gd 0 g S0 S)  (h : fX4_jumpIf x1 x2 (q_w g S) = some v) (kk : ∀ S, q_Gd 0 g S0 S → v = q_w g S → post S) : wX4_jumpIf (g 0 4 0) x1 x2 S post := by
  unfold wX4_jumpIf; unfold fX4_jumpIf at h
  refine ⟨fun c => ?_, fun c => ?_⟩
  · replace h := q_ifp h c
    exact b_X4_jumpIf_b9 R h kk
  · replace h := q_ifn h c
    intro T1 q
    obtain ⟨R, q⟩ := q_wI R q rfl rfl
    replace h := q_ltw h q
    exact b_X4_jumpIf_b9 R h kk
def fX4_settle_b27 (x1 : Int32) (x2 : Int32) (Sn : q_V) : Option q_V :=
  some Sn
theorem b_X4_settle_b27 {g : q_G} {S0 : kp_S} {x1 : Int32} {x2 : Int32} {Sn : kp_S} {post : kp_S → Prop} {v : q_V} (R : q_Gd 0 g S0 Sn)  (h : fX4_settle_b27 x1 x2 (q_w g Sn) = some v) (kk : ∀ S, q_Gd 0 g S0 S → v = q_w g S → post S) : wX4_settle_b27 (g 0 4 0) x1 x2 Sn post := by
  unfold wX4_settle_b27; unfold fX4_settle_b27 at h
  exact q_finv h kk R
def fX4_settle_b19 (x1 : Int32) (x2 : Int32) (xt0 : Int32) (Sn : q_V) : Option q_V :=
  q_bv (fX4_push xt0 Sn) (fun T2001 =>
  q_lt (q_si T2001 810 x2) (fun T2002 =>
  fX4_settle_b27 x1 x2 T2002))
theorem b_X4_settle_b19 {g : q_G} {S0 : kp_S} {x1 : Int32} {x2 : Int32} {xt0 : Int32} {Sn : kp_S} {post : kp_S → Prop} {v : q_V} (R : q_Gd 0 g S0 Sn)  (h : fX4_settle_b19 x1 x2 xt0 (q_w g Sn) = some v) (kk : ∀ S, q_Gd 0 g S0 S → v = q_w g S → post S) : wX4_settle_b19 (g 0 4 0) x1 x2 xt0 (g 0 4 0) Sn post := by
  unfold wX4_settle_b19; unfold fX4_settle_b19 at h
  obtain ⟨v1, h1, h⟩ := q_bvi h
  refine b_X4_push R h1 (fun T2001 R q => ?_)
  subst q
  intro T2002 q
  obtain ⟨R, q⟩ := q_wI R q rfl rfl
  replace h := q_ltw h q
  exact b_X4_settle_b27 R h kk
def fX4_settle (x1 : Int32) (x2 : Int32) (S : q_V) : Option q_V :=
  q_bd (fX4_pop S) (fun y2 T1 =>
  if x1 = 0 then
  fX4_settle_b27 x1 x2 T1
  else
  if y2 = 0 then
  fX4_settle_b19 x1 x2 0 T1
  else
  fX4_settle_b19 x1 x2 1 T1)
theorem b_X4_settle {g : q_G} {S0 : kp_S} {x1 : Int32} {x2 : Int32} {S : kp_S} {post : kp_S → Prop} {v : q_V} (R : q_Gd 0 g S0 S)  (h : fX4_settle x1 x2 (q_w g S) = some v) (kk : ∀ S, q_Gd 0 g S0 S → v = q_w g S → post S) : wX4_settle (g 0 4 0) x1 x2 S post := by
  unfold wX4_settle; unfold fX4_settle at h
  obtain ⟨y2, v1, h1, h⟩ := q_bdi h
  refine b_X4_pop R h1 (fun T1 R q => ?_)
  subst q
  refine ⟨fun c => ?_, fun c => ?_⟩
  · replace h := q_ifp h c
    exact b_X4_settle_b27 R h kk
  · replace h := q_ifn h c
    refine ⟨fun c => ?_, fun c => ?_⟩
    · replace h := q_ifp h c
      exact b_X4_settle_b19 R h kk
    · replace h := q_ifn h c
      exact b_X4_settle_b19 R h kk
def fX4_match_b19 (x1 : Int32) (x2 : Int32) (Sn : q_V) : Option q_V :=
  some Sn
theorem b_X4_match_b19 {g : q_G} {S0 : kp_S} {x1 : Int32} {x2 : Int32} {Sn : kp_S} {post : kp_S → Prop} {v : q_V} (R : q_Gd 0 g S0 Sn)  (h : fX4_match_b19 x1 x2 (q_w g Sn) = some v) (kk : ∀ S, q_Gd 0 g S0 S → v = q_w g S → post S) : wX4_match_b19 (g 0 4 0) x1 x2 Sn post := by
  unfold wX4_match_b19; unfold fX4_match_b19 at h
  exact q_finv h kk R
def fX4_match (x1 : Int32) (x2 : Int32) (S : q_V) : Option q_V :=
  q_bd (fX4_peek 0 S) (fun y2 T1 =>
  if x1 = y2 then
  q_bd (fX4_pop T1) (fun y4 T3 =>
  q_lt (q_si T3 810 x2) (fun T5 =>
  fX4_match_b19 x1 x2 T5))
  else
  fX4_match_b19 x1 x2 T1)
theorem b_X4_match {g : q_G} {S0 : kp_S} {x1 : Int32} {x2 : Int32} {S : kp_S} {post : kp_S → Prop} {v : q_V} (R : q_Gd 0 g S0 S)  (h : fX4_match x1 x2 (q_w g S) = some v) (kk : ∀ S, q_Gd 0 g S0 S → v = q_w g S → post S) : wX4_match (g 0 4 0) x1 x2 S post := by
  unfold wX4_match; unfold fX4_match at h
  obtain ⟨y2, v1, h1, h⟩ := q_bdi h
  refine b_X4_peek R h1 (fun T1 R q => ?_)
  subst q
  refine ⟨fun c => ?_, fun c => ?_⟩
  · replace h := q_ifn h c
    exact b_X4_match_b19 R h kk
  · replace h := q_ifp h c
    obtain ⟨y4, v1, h1, h⟩ := q_bdi h
    refine b_X4_pop R h1 (fun T3 R q => ?_)
    subst q
    intro T5 q
    obtain ⟨R, q⟩ := q_wI R q rfl rfl
    replace h := q_ltw h q
    exact b_X4_match_b19 R h kk
def fX4_beginRoundOfEach_b41 (x1 : Int32) (x2 : Int32) (Sn : q_V) : Option q_V :=
  some Sn
theorem b_X4_beginRoundOfEach_b41 {g : q_G} {S0 : kp_S} {x1 : Int32} {x2 : Int32} {Sn : kp_S} {post : kp_S → Prop} {v : q_V} (R : q_Gd 0 g S0 Sn)  (h : fX4_beginRoundOfEach_b41 x1 x2 (q_w g Sn) = some v) (kk : ∀ S, q_Gd 0 g S0 S → v = q_w g S → post S) : wX4_beginRoundOfEach_b41 (g 0 4 0) x1 x2 Sn post := by
  unfold wX4_beginRoundOfEach_b41; unfold fX4_beginRoundOfEach_b41 at h
  exact q_finv h kk R
def fX4_beginRoundOfEach (x1 : Int32) (x2 : Int32) (S : q_V) : Option q_V :=
  q_bd (fX4_peek 1 S) (fun y2 T1 =>
  q_bd (fX4_peek 0 T1) (fun y4 T3 =>
  if y2 ≤ y4 then
  q_bd (fX4_spend T3) (fun y6 T5 =>
  if y6 = 0 then
  fX4_beginRoundOfEach_b41 x1 x2 T5
  else
  q_bd (fX4_frame T5) (fun b8 T7 =>
  q_bd (fX4_peek 1 T7) (fun y10 T9 =>
  q_bv (fX3_set b8 x1 y10 T9) (fun T11 =>
  fX4_beginRoundOfEach_b41 x1 x2 T11))))
  else
  q_lt (q_si T3 810 x2) (fun T13 =>
  fX4_beginRoundOfEach_b41 x1 x2 T13)))
theorem b_X4_beginRoundOfEach {g : q_G} {S0 : kp_S} {x1 : Int32} {x2 : Int32} {S : kp_S} {post : kp_S → Prop} {v : q_V} (R : q_Gd 0 g S0 S)  (h : fX4_beginRoundOfEach x1 x2 (q_w g S) = some v) (kk : ∀ S, q_Gd 0 g S0 S → v = q_w g S → post S) : wX4_beginRoundOfEach (g 0 4 0) x1 x2 S post := by
  unfold wX4_beginRoundOfEach; unfold fX4_beginRoundOfEach at h
  obtain ⟨y2, v1, h1, h⟩ := q_bdi h
  refine b_X4_peek R h1 (fun T1 R q => ?_)
  subst q
  obtain ⟨y4, v1, h1, h⟩ := q_bdi h
  refine b_X4_peek R h1 (fun T3 R q => ?_)
  subst q
  refine ⟨fun c => ?_, fun c => ?_⟩
  · replace h := q_ifp h c
    obtain ⟨y6, v1, h1, h⟩ := q_bdi h
    refine b_X4_spend R h1 (fun T5 R q => ?_)
    subst q
    refine ⟨fun c => ?_, fun c => ?_⟩
    · replace h := q_ifp h c
      exact b_X4_beginRoundOfEach_b41 R h kk
    · replace h := q_ifn h c
      obtain ⟨b8, v1, h1, h⟩ := q_bdi h
      refine b_X4_frame R h1 (fun T7 R q hb_b8 => ?_)
      subst q
      obtain ⟨y10, v1, h1, h⟩ := q_bdi h
      refine b_X4_peek R h1 (fun T9 R q => ?_)
      subst q
      obtain ⟨v1, h1, h⟩ := q_bvi h
      refine b_X3_set R hb_b8 h1 (fun T11 R q => ?_)
      subst q
      exact b_X4_beginRoundOfEach_b41 R h kk
  · replace h := q_ifn h c
    intro T13 q
    obtain ⟨R, q⟩ := q_wI R q rfl rfl
    replace h := q_ltw h q
    exact b_X4_beginRoundOfEach_b41 R h kk
def fX4_stepEach_b42 (x1 : Int32) (xt0 : Int32) (Sn : q_V) : Option q_V :=
  q_bv (fX4_jumpIf xt0 x1 Sn) (fun T1001 =>
  some T1001)
theorem b_X4_stepEach_b42 {g : q_G} {S0 : kp_S} {x1 : Int32} {xt0 : Int32} {Sn : kp_S} {post : kp_S → Prop} {v : q_V} (R : q_Gd 0 g S0 Sn)  (h : fX4_stepEach_b42 x1 xt0 (q_w g Sn) = some v) (kk : ∀ S, q_Gd 0 g S0 S → v = q_w g S → post S) : wX4_stepEach_b42 (g 0 4 0) x1 xt0 (g 0 4 0) Sn post := by
  unfold wX4_stepEach_b42; unfold fX4_stepEach_b42 at h
  obtain ⟨v1, h1, h⟩ := q_bvi h
  refine b_X4_jumpIf R h1 (fun T1001 R q => ?_)
  subst q
  exact q_finv h kk R
def fX4_stepEach_b23 (x1 : Int32) (xn2 : Int32) (xn3 : Int32) (xt0 : Int32) (Sn : q_V) : Option q_V :=
  q_bv (fX4_push xt0 Sn) (fun T2001 =>
  q_bv (fX4_push xn2 T2001) (fun T2002 =>
  if xn3 = xn2 then
  fX4_stepEach_b42 x1 0 T2002
  else
  fX4_stepEach_b42 x1 1 T2002))
theorem b_X4_stepEach_b23 {g : q_G} {S0 : kp_S} {x1 : Int32} {xn2 : Int32} {xn3 : Int32} {xt0 : Int32} {Sn : kp_S} {post : kp_S → Prop} {v : q_V} (R : q_Gd 0 g S0 Sn)  (h : fX4_stepEach_b23 x1 xn2 xn3 xt0 (q_w g Sn) = some v) (kk : ∀ S, q_Gd 0 g S0 S → v = q_w g S → post S) : wX4_stepEach_b23 (g 0 4 0) x1 xn2 xn3 xt0 (g 0 4 0) Sn post := by
  unfold wX4_stepEach_b23; unfold fX4_stepEach_b23 at h
  obtain ⟨v1, h1, h⟩ := q_bvi h
  refine b_X4_push R h1 (fun T2001 R q => ?_)
  subst q
  obtain ⟨v1, h1, h⟩ := q_bvi h
  refine b_X4_push R h1 (fun T2002 R q => ?_)
  subst q
  refine ⟨fun c => ?_, fun c => ?_⟩
  · replace h := q_ifp h c
    exact b_X4_stepEach_b42 R h kk
  · replace h := q_ifn h c
    exact b_X4_stepEach_b42 R h kk
def fX4_stepEach (x1 : Int32) (S : q_V) : Option q_V :=
  q_bd (fX4_pop S) (fun y2 T1 =>
  q_bd (fX4_pop T1) (fun y4 T3 =>
  if y4 = y2 then
  fX4_stepEach_b23 x1 y2 y4 y4 T3
  else
  fX4_stepEach_b23 x1 y2 y4 ((y4 + 1)) T3))
theorem b_X4_stepEach {g : q_G} {S0 : kp_S} {x1 : Int32} {S : kp_S} {post : kp_S → Prop} {v : q_V} (R : q_Gd 0 g S0 S)  (h : fX4_stepEach x1 (q_w g S) = some v) (kk : ∀ S, q_Gd 0 g S0 S → v = q_w g S → post S) : wX4_stepEach (g 0 4 0) x1 S post := by
  unfold wX4_stepEach; unfold fX4_stepEach at h
  obtain ⟨y2, v1, h1, h⟩ := q_bdi h
  refine b_X4_pop R h1 (fun T1 R q => ?_)
  subst q
  obtain ⟨y4, v1, h1, h⟩ := q_bdi h
  refine b_X4_pop R h1 (fun T3 R q => ?_)
  subst q
  refine ⟨fun c => ?_, fun c => ?_⟩
  · replace h := q_ifn h c
    exact b_X4_stepEach_b23 R h kk
  · replace h := q_ifp h c
    exact b_X4_stepEach_b23 R h kk
def fX4_flow_b272 (x1 : Int32) (Sn : q_V) : Option q_V :=
  some Sn
theorem b_X4_flow_b272 {g : q_G} {S0 : kp_S} {x1 : Int32} {Sn : kp_S} {post : kp_S → Prop} {v : q_V} (R : q_Gd 0 g S0 Sn)  (h : fX4_flow_b272 x1 (q_w g Sn) = some v) (kk : ∀ S, q_Gd 0 g S0 S → v = q_w g S → post S) : wX4_flow_b272 (g 0 4 0) x1 Sn post := by
  unfold wX4_flow_b272; unfold fX4_flow_b272 at h
  exact q_finv h kk R
def fX4_flow_b101 (x1 : Int32) (xn2 : Int32) (xt0 : Int32) (Sn : q_V) : Option q_V :=
  q_bv (fX4_jumpIf xt0 xn2 Sn) (fun T2001 =>
  fX4_flow_b272 x1 T2001)
theorem b_X4_flow_b101 {g : q_G} {S0 : kp_S} {x1 : Int32} {xn2 : Int32} {xt0 : Int32} {Sn : kp_S} {post : kp_S → Prop} {v : q_V} (R : q_Gd 0 g S0 Sn)  (h : fX4_flow_b101 x1 xn2 xt0 (q_w g Sn) = some v) (kk : ∀ S, q_Gd 0 g S0 S → v = q_w g S → post S) : wX4_flow_b101 (g 0 4 0) x1 xn2 xt0 (g 0 4 0) Sn post := by
  unfold wX4_flow_b101; unfold fX4_flow_b101 at h
  obtain ⟨v1, h1, h⟩ := q_bvi h
  refine b_X4_jumpIf R h1 (fun T2001 R q => ?_)
  subst q
  exact b_X4_flow_b272 R h kk
def fX4_flow_b122 (x1 : Int32) (xn2 : Int32) (xt0 : Int32) (Sn : q_V) : Option q_V :=
  q_bv (fX4_settle xt0 xn2 Sn) (fun T3001 =>
  fX4_flow_b272 x1 T3001)
theorem b_X4_flow_b122 {g : q_G} {S0 : kp_S} {x1 : Int32} {xn2 : Int32} {xt0 : Int32} {Sn : kp_S} {post : kp_S → Prop} {v : q_V} (R : q_Gd 0 g S0 Sn)  (h : fX4_flow_b122 x1 xn2 xt0 (q_w g Sn) = some v) (kk : ∀ S, q_Gd 0 g S0 S → v = q_w g S → post S) : wX4_flow_b122 (g 0 4 0) x1 xn2 xt0 (g 0 4 0) Sn post := by
  unfold wX4_flow_b122; unfold fX4_flow_b122 at h
  obtain ⟨v1, h1, h⟩ := q_bvi h
  refine b_X4_settle R h1 (fun T3001 R q => ?_)
  subst q
  exact b_X4_flow_b272 R h kk
def fX4_flow_b143 (x1 : Int32) (xn2 : Int32) (xt0 : Int32) (Sn : q_V) : Option q_V :=
  q_bv (fX4_settle xt0 xn2 Sn) (fun T4001 =>
  fX4_flow_b272 x1 T4001)
theorem b_X4_flow_b143 {g : q_G} {S0 : kp_S} {x1 : Int32} {xn2 : Int32} {xt0 : Int32} {Sn : kp_S} {post : kp_S → Prop} {v : q_V} (R : q_Gd 0 g S0 Sn)  (h : fX4_flow_b143 x1 xn2 xt0 (q_w g Sn) = some v) (kk : ∀ S, q_Gd 0 g S0 S → v = q_w g S → post S) : wX4_flow_b143 (g 0 4 0) x1 xn2 xt0 (g 0 4 0) Sn post := by
  unfold wX4_flow_b143; unfold fX4_flow_b143 at h
  obtain ⟨v1, h1, h⟩ := q_bvi h
  refine b_X4_settle R h1 (fun T4001 R q => ?_)
  subst q
  exact b_X4_flow_b272 R h kk
def fX4_flow_b217 (x1 : Int32) (xn2 : Int32) (xt0 : Int32) (Sn : q_V) : Option q_V :=
  q_bv (fX4_jumpIf xt0 xn2 Sn) (fun T5001 =>
  fX4_flow_b272 x1 T5001)
theorem b_X4_flow_b217 {g : q_G} {S0 : kp_S} {x1 : Int32} {xn2 : Int32} {xt0 : Int32} {Sn : kp_S} {post : kp_S → Prop} {v : q_V} (R : q_Gd 0 g S0 Sn)  (h : fX4_flow_b217 x1 xn2 xt0 (q_w g Sn) = some v) (kk : ∀ S, q_Gd 0 g S0 S → v = q_w g S → post S) : wX4_flow_b217 (g 0 4 0) x1 xn2 xt0 (g 0 4 0) Sn post := by
  unfold wX4_flow_b217; unfold fX4_flow_b217 at h
  obtain ⟨v1, h1, h⟩ := q_bvi h
  refine b_X4_jumpIf R h1 (fun T5001 R q => ?_)
  subst q
  exact b_X4_flow_b272 R h kk
def fX4_flow_b14 (x1 : Int32) (xt0 : Int32) (Sn : q_V) : Option q_V :=
  if x1 = 22 then
  q_lt (q_si Sn 810 xt0) (fun T6002 =>
  fX4_flow_b272 x1 T6002)
  else
  if x1 = 23 then
  q_bd (fX4_pop Sn) (fun y6005 T6004 =>
  if y6005 = 0 then
  fX4_flow_b101 x1 xt0 1 T6004
  else
  fX4_flow_b101 x1 xt0 0 T6004)
  else
  if x1 = 24 then
  q_bd (fX4_peek 0 Sn) (fun y6009 T6008 =>
  if y6009 = 0 then
  fX4_flow_b122 x1 xt0 0 T6008
  else
  fX4_flow_b122 x1 xt0 1 T6008)
  else
  if x1 = 25 then
  q_bd (fX4_peek 0 Sn) (fun y6013 T6012 =>
  if y6013 = 0 then
  fX4_flow_b143 x1 xt0 1 T6012
  else
  fX4_flow_b143 x1 xt0 0 T6012)
  else
  if x1 = 26 then
  q_lt (q_si Sn 803 ((if ((q_i Sn 803) - xt0) < (0 : Int32) then 0 else ((q_i Sn 803) - xt0)))) (fun T6016 =>
  fX4_flow_b272 x1 T6016)
  else
  if x1 = 27 then
  q_bd (fX4_frame Sn) (fun b6019 T6018 =>
  q_bd (fX4_pop T6018) (fun y6021 T6020 =>
  q_bv (fX3_set b6019 xt0 y6021 T6020) (fun T6022 =>
  fX4_flow_b272 x1 T6022)))
  else
  if x1 = 28 then
  q_bd (fX4_pop Sn) (fun y6025 T6024 =>
  q_bv (fX4_match y6025 xt0 T6024) (fun T6026 =>
  fX4_flow_b272 x1 T6026))
  else
  if x1 = 29 then
  q_bd (fX4_pop Sn) (fun y6029 T6028 =>
  q_bd (fX4_top T6028) (fun b6031 T6030 =>
  if y6029 = (q_f T6030 2001 b6031) then
  fX4_flow_b217 x1 xt0 1 T6030
  else
  fX4_flow_b217 x1 xt0 0 T6030))
  else
  if x1 = 30 then
  q_bd (fX4_spend Sn) (fun y6036 T6035 =>
  if y6036 = 0 then
  fX4_flow_b272 x1 T6035
  else
  q_lt (q_si T6035 811 xt0) (fun T6037 =>
  fX4_flow_b272 x1 T6037))
  else
  if x1 = 31 then
  q_lt (q_si Sn 811 xt0) (fun T6040 =>
  fX4_flow_b272 x1 T6040)
  else
  if x1 = 32 then
  q_bd (fX4_spend Sn) (fun y6043 T6042 =>
  fX4_flow_b272 x1 T6042)
  else
  if x1 = 33 then
  q_bd (fX4_take Sn) (fun y6046 T6045 =>
  q_bv (fX4_beginRoundOfEach xt0 y6046 T6045) (fun T6047 =>
  fX4_flow_b272 x1 T6047))
  else
  q_bv (fX4_stepEach xt0 Sn) (fun T6048 =>
  fX4_flow_b272 x1 T6048)
theorem b_X4_flow_b14 {g : q_G} {S0 : kp_S} {x1 : Int32} {xt0 : Int32} {Sn : kp_S} {post : kp_S → Prop} {v : q_V} (R : q_Gd 0 g S0 Sn)  (h : fX4_flow_b14 x1 xt0 (q_w g Sn) = some v) (kk : ∀ S, q_Gd 0 g S0 S → v = q_w g S → post S) : wX4_flow_b14 (g 0 4 0) x1 xt0 Sn post := by
  unfold wX4_flow_b14; unfold fX4_flow_b14 at h
  refine ⟨fun c => ?_, fun c => ?_⟩
  · replace h := q_ifp h c
    intro T6002 q
    obtain ⟨R, q⟩ := q_wI R q rfl rfl
    replace h := q_ltw h q
    exact b_X4_flow_b272 R h kk
  · replace h := q_ifn h c
    refine ⟨fun c => ?_, fun c => ?_⟩
    · replace h := q_ifp h c
      obtain ⟨y6005, v1, h1, h⟩ := q_bdi h
      refine b_X4_pop R h1 (fun T6004 R q => ?_)
      subst q
      refine ⟨fun c => ?_, fun c => ?_⟩
      · replace h := q_ifn h c
        exact b_X4_flow_b101 R h kk
      · replace h := q_ifp h c
        exact b_X4_flow_b101 R h kk
    · replace h := q_ifn h c
      refine ⟨fun c => ?_, fun c => ?_⟩
      · replace h := q_ifp h c
        obtain ⟨y6009, v1, h1, h⟩ := q_bdi h
        refine b_X4_peek R h1 (fun T6008 R q => ?_)
        subst q
        refine ⟨fun c => ?_, fun c => ?_⟩
        · replace h := q_ifp h c
          exact b_X4_flow_b122 R h kk
        · replace h := q_ifn h c
          exact b_X4_flow_b122 R h kk
      · replace h := q_ifn h c
        refine ⟨fun c => ?_, fun c => ?_⟩
        · replace h := q_ifp h c
          obtain ⟨y6013, v1, h1, h⟩ := q_bdi h
          refine b_X4_peek R h1 (fun T6012 R q => ?_)
          subst q
          refine ⟨fun c => ?_, fun c => ?_⟩
          · replace h := q_ifn h c
            exact b_X4_flow_b143 R h kk
          · replace h := q_ifp h c
            exact b_X4_flow_b143 R h kk
        · replace h := q_ifn h c
          refine ⟨fun c => ?_, fun c => ?_⟩
          · replace h := q_ifp h c
            intro T6016 q
            obtain ⟨R, q⟩ := q_wI R q rfl rfl
            replace h := q_ltw h q
            exact b_X4_flow_b272 R h kk
          · replace h := q_ifn h c
            refine ⟨fun c => ?_, fun c => ?_⟩
            · replace h := q_ifp h c
              obtain ⟨b6019, v1, h1, h⟩ := q_bdi h
              refine b_X4_frame R h1 (fun T6018 R q hb_b6019 => ?_)
              subst q
              obtain ⟨y6021, v1, h1, h⟩ := q_bdi h
              refine b_X4_pop R h1 (fun T6020 R q => ?_)
              subst q
              obtain ⟨v1, h1, h⟩ := q_bvi h
              refine b_X3_set R hb_b6019 h1 (fun T6022 R q => ?_)
              subst q
              exact b_X4_flow_b272 R h kk
            · replace h := q_ifn h c
              refine ⟨fun c => ?_, fun c => ?_⟩
              · replace h := q_ifp h c
                obtain ⟨y6025, v1, h1, h⟩ := q_bdi h
                refine b_X4_pop R h1 (fun T6024 R q => ?_)
                subst q
                obtain ⟨v1, h1, h⟩ := q_bvi h
                refine b_X4_match R h1 (fun T6026 R q => ?_)
                subst q
                exact b_X4_flow_b272 R h kk
              · replace h := q_ifn h c
                refine ⟨fun c => ?_, fun c => ?_⟩
                · replace h := q_ifp h c
                  obtain ⟨y6029, v1, h1, h⟩ := q_bdi h
                  refine b_X4_pop R h1 (fun T6028 R q => ?_)
                  subst q
                  obtain ⟨b6031, v1, h1, h⟩ := q_bdi h
                  refine b_X4_top R h1 (fun T6030 R q hb_b6031 => ?_)
                  subst q
                  refine ⟨_, q_p1208 R hb_b6031, ?_⟩
                  refine ⟨fun c => ?_, fun c => ?_⟩
                  · replace h := q_ifn h c
                    exact b_X4_flow_b217 R h kk
                  · replace h := q_ifp h c
                    exact b_X4_flow_b217 R h kk
                · replace h := q_ifn h c
                  refine ⟨fun c => ?_, fun c => ?_⟩
                  · replace h := q_ifp h c
                    obtain ⟨y6036, v1, h1, h⟩ := q_bdi h
                    refine b_X4_spend R h1 (fun T6035 R q => ?_)
                    subst q
                    refine ⟨fun c => ?_, fun c => ?_⟩
                    · replace h := q_ifp h c
                      exact b_X4_flow_b272 R h kk
                    · replace h := q_ifn h c
                      intro T6037 q
                      obtain ⟨R, q⟩ := q_wI R q rfl rfl
                      replace h := q_ltw h q
                      exact b_X4_flow_b272 R h kk
                  · replace h := q_ifn h c
                    refine ⟨fun c => ?_, fun c => ?_⟩
                    · replace h := q_ifp h c
                      intro T6040 q
                      obtain ⟨R, q⟩ := q_wI R q rfl rfl
                      replace h := q_ltw h q
                      exact b_X4_flow_b272 R h kk
                    · replace h := q_ifn h c
                      refine ⟨fun c => ?_, fun c => ?_⟩
                      · replace h := q_ifp h c
                        obtain ⟨y6043, v1, h1, h⟩ := q_bdi h
                        refine b_X4_spend R h1 (fun T6042 R q => ?_)
                        subst q
                        exact b_X4_flow_b272 R h kk
                      · replace h := q_ifn h c
                        refine ⟨fun c => ?_, fun c => ?_⟩
                        · replace h := q_ifp h c
                          obtain ⟨y6046, v1, h1, h⟩ := q_bdi h
                          refine b_X4_take R h1 (fun T6045 R q => ?_)
                          subst q
                          obtain ⟨v1, h1, h⟩ := q_bvi h
                          refine b_X4_beginRoundOfEach R h1 (fun T6047 R q => ?_)
                          subst q
                          exact b_X4_flow_b272 R h kk
                        · replace h := q_ifn h c
                          obtain ⟨v1, h1, h⟩ := q_bvi h
                          refine b_X4_stepEach R h1 (fun T6048 R q => ?_)
                          subst q
                          exact b_X4_flow_b272 R h kk
def fX4_flow (x1 : Int32) (S : q_V) : Option q_V :=
  if x1 = 32 then
  fX4_flow_b14 x1 0 S
  else
  q_bd (fX4_take S) (fun y2 T1 =>
  fX4_flow_b14 x1 y2 T1)
theorem b_X4_flow {g : q_G} {S0 : kp_S} {x1 : Int32} {S : kp_S} {post : kp_S → Prop} {v : q_V} (R : q_Gd 0 g S0 S)  (h : fX4_flow x1 (q_w g S) = some v) (kk : ∀ S, q_Gd 0 g S0 S → v = q_w g S → post S) : wX4_flow (g 0 4 0) x1 S post := by
  unfold wX4_flow; unfold fX4_flow at h
  refine ⟨fun c => ?_, fun c => ?_⟩
  · replace h := q_ifn h c
    obtain ⟨y2, v1, h1, h⟩ := q_bdi h
    refine b_X4_take R h1 (fun T1 R q => ?_)
    subst q
    exact b_X4_flow_b14 R h kk
  · replace h := q_ifp h c
    exact b_X4_flow_b14 R h kk
def fX4_fail_b19 (x1 : Int32) (xt0 : Int32) (Sn : q_V) : Option q_V :=
  q_bv (fX4_trouble xt0 Sn) (fun T1001 =>
  some T1001)
theorem b_X4_fail_b19 {g : q_G} {S0 : kp_S} {x1 : Int32} {xt0 : Int32} {Sn : kp_S} {post : kp_S → Prop} {v : q_V} (R : q_Gd 0 g S0 Sn)  (h : fX4_fail_b19 x1 xt0 (q_w g Sn) = some v) (kk : ∀ S, q_Gd 0 g S0 S → v = q_w g S → post S) : wX4_fail_b19 (g 0 4 0) x1 xt0 (g 0 4 0) Sn post := by
  unfold wX4_fail_b19; unfold fX4_fail_b19 at h
  obtain ⟨v1, h1, h⟩ := q_bvi h
  refine b_X4_trouble R h1 (fun T1001 R q => ?_)
  subst q
  exact q_finv h kk R
def fX4_fail_b17 (x1 : Int32) (Sn : q_V) : Option q_V :=
  fX4_fail_b19 x1 10 Sn
theorem b_X4_fail_b17 {g : q_G} {S0 : kp_S} {x1 : Int32} {Sn : kp_S} {post : kp_S → Prop} {v : q_V} (R : q_Gd 0 g S0 Sn)  (h : fX4_fail_b17 x1 (q_w g Sn) = some v) (kk : ∀ S, q_Gd 0 g S0 S → v = q_w g S → post S) : wX4_fail_b17 (g 0 4 0) x1 (g 0 4 0) Sn post := by
  unfold wX4_fail_b17; unfold fX4_fail_b17 at h
  exact b_X4_fail_b19 R h kk
def fX4_fail (x1 : Int32) (S : q_V) : Option q_V :=
  if x1 < 10 then
  fX4_fail_b17 x1 S
  else
  if 99 < x1 then
  fX4_fail_b17 x1 S
  else
  fX4_fail_b19 x1 x1 S
theorem b_X4_fail {g : q_G} {S0 : kp_S} {x1 : Int32} {S : kp_S} {post : kp_S → Prop} {v : q_V} (R : q_Gd 0 g S0 S)  (h : fX4_fail x1 (q_w g S) = some v) (kk : ∀ S, q_Gd 0 g S0 S → v = q_w g S → post S) : wX4_fail (g 0 4 0) x1 S post := by
  unfold wX4_fail; unfold fX4_fail at h
  refine ⟨fun c => ?_, fun c => ?_⟩
  · replace h := q_ifp h c
    exact b_X4_fail_b17 R h kk
  · replace h := q_ifn h c
    refine ⟨fun c => ?_, fun c => ?_⟩
    · replace h := q_ifp h c
      exact b_X4_fail_b17 R h kk
    · replace h := q_ifn h c
      exact b_X4_fail_b19 R h kk
def fX4_moveGate_b96 (x1 : Int32) (xn2 : Int32) (xn3 : Int32) (xt0 : Int32) (Sn : q_V) : Option q_V :=
  q_bv (fX7_write xt0 (((2 * xn3) + xn2)) Sn) (fun T1001 =>
  some T1001)
theorem b_X4_moveGate_b96 {g : q_G} {S0 : kp_S} {x1 : Int32} {xn2 : Int32} {xn3 : Int32} {xt0 : Int32} {Sn : kp_S} {post : kp_S → Prop} {v : q_V} (R : q_Gd 0 g S0 Sn)  (h : fX4_moveGate_b96 x1 xn2 xn3 xt0 (q_w g Sn) = some v) (kk : ∀ S, q_Gd 0 g S0 S → v = q_w g S → post S) : wX4_moveGate_b96 (g 0 4 0) x1 xn2 xn3 xt0 (g 0 7 0) Sn post := by
  unfold wX4_moveGate_b96; unfold fX4_moveGate_b96 at h
  obtain ⟨v1, h1, h⟩ := q_bvi h
  refine b_X7_write R h1 (fun T1001 R q => ?_)
  subst q
  exact q_finv h kk R
def fX4_moveGate_b79 (x1 : Int32) (xn2 : Int32) (xn3 : Int32) (xn4 : Int32) (xt0 : Int32) (xt1 : Int32) (xt2 : Int32) (Sn : q_V) : Option q_V :=
  q_bv (fX1_setGate xt2 xt1 xt0 Sn) (fun T2001 =>
  if xn4 = 0 then
  fX4_moveGate_b96 x1 xn2 xn3 4 T2001
  else
  fX4_moveGate_b96 x1 xn2 xn3 3 T2001)
theorem b_X4_moveGate_b79 {g : q_G} {S0 : kp_S} {x1 : Int32} {xn2 : Int32} {xn3 : Int32} {xn4 : Int32} {xt0 : Int32} {xt1 : Int32} {xt2 : Int32} {Sn : kp_S} {post : kp_S → Prop} {v : q_V} (R : q_Gd 0 g S0 Sn)  (h : fX4_moveGate_b79 x1 xn2 xn3 xn4 xt0 xt1 xt2 (q_w g Sn) = some v) (kk : ∀ S, q_Gd 0 g S0 S → v = q_w g S → post S) : wX4_moveGate_b79 (g 0 4 0) x1 xn2 xn3 xn4 xt0 xt1 xt2 (g 0 1 0) Sn post := by
  unfold wX4_moveGate_b79; unfold fX4_moveGate_b79 at h
  obtain ⟨v1, h1, h⟩ := q_bvi h
  refine b_X1_setGate R h1 (fun T2001 R q => ?_)
  subst q
  refine ⟨_, q_p801 R, ?_⟩
  refine ⟨fun c => ?_, fun c => ?_⟩
  · replace h := q_ifp h c
    exact b_X4_moveGate_b96 R h kk
  · replace h := q_ifn h c
    exact b_X4_moveGate_b96 R h kk
def fX4_moveGate_b49 (x1 : Int32) (xn2 : Int32) (xn3 : Int32) (xn4 : Int32) (xt0 : Int32) (Sn : q_V) : Option q_V :=
  if xt0 = 0 then
  if xn4 = 0 then
  fX4_moveGate_b79 x1 xn2 xn3 xn4 0 xn2 xn3 Sn
  else
  fX4_moveGate_b79 x1 xn2 xn3 xn4 1 xn2 xn3 Sn
  else
  q_bv (fX4_trouble xt0 Sn) (fun T3003 =>
  some T3003)
theorem b_X4_moveGate_b49 {g : q_G} {S0 : kp_S} {x1 : Int32} {xn2 : Int32} {xn3 : Int32} {xn4 : Int32} {xt0 : Int32} {Sn : kp_S} {post : kp_S → Prop} {v : q_V} (R : q_Gd 0 g S0 Sn)  (h : fX4_moveGate_b49 x1 xn2 xn3 xn4 xt0 (q_w g Sn) = some v) (kk : ∀ S, q_Gd 0 g S0 S → v = q_w g S → post S) : wX4_moveGate_b49 (g 0 4 0) x1 xn2 xn3 xn4 xt0 Sn post := by
  unfold wX4_moveGate_b49; unfold fX4_moveGate_b49 at h
  refine ⟨fun c => ?_, fun c => ?_⟩
  · replace h := q_ifp h c
    refine ⟨_, q_p800 R, ?_⟩
    refine ⟨fun c => ?_, fun c => ?_⟩
    · replace h := q_ifp h c
      exact b_X4_moveGate_b79 R h kk
    · replace h := q_ifn h c
      exact b_X4_moveGate_b79 R h kk
  · replace h := q_ifn h c
    obtain ⟨v1, h1, h⟩ := q_bvi h
    refine b_X4_trouble R h1 (fun T3003 R q => ?_)
    subst q
    exact q_finv h kk R
def fX4_moveGate_b21 (x1 : Int32) (xn2 : Int32) (xn3 : Int32) (xt0 : Int32) (Sn : q_V) : Option q_V :=
  if xt0 = 0 then
  q_bd (fX1_troubleToShut xn3 xn2 Sn) (fun y4003 T4002 =>
  fX4_moveGate_b49 x1 xn2 xn3 xt0 y4003 T4002)
  else
  q_bd (fX1_troubleToOpen xn3 xn2 Sn) (fun y4006 T4005 =>
  fX4_moveGate_b49 x1 xn2 xn3 xt0 y4006 T4005)
theorem b_X4_moveGate_b21 {g : q_G} {S0 : kp_S} {x1 : Int32} {xn2 : Int32} {xn3 : Int32} {xt0 : Int32} {Sn : kp_S} {post : kp_S → Prop} {v : q_V} (R : q_Gd 0 g S0 Sn)  (h : fX4_moveGate_b21 x1 xn2 xn3 xt0 (q_w g Sn) = some v) (kk : ∀ S, q_Gd 0 g S0 S → v = q_w g S → post S) : wX4_moveGate_b21 (g 0 4 0) x1 xn2 xn3 xt0 Sn post := by
  unfold wX4_moveGate_b21; unfold fX4_moveGate_b21 at h
  refine ⟨fun c => ?_, fun c => ?_⟩
  · replace h := q_ifp h c
    refine ⟨_, q_p800 R, ?_⟩
    obtain ⟨y4003, v1, h1, h⟩ := q_bdi h
    refine b_X1_troubleToShut R h1 (fun T4002 R q => ?_)
    subst q
    exact b_X4_moveGate_b49 R h kk
  · replace h := q_ifn h c
    refine ⟨_, q_p800 R, ?_⟩
    obtain ⟨y4006, v1, h1, h⟩ := q_bdi h
    refine b_X1_troubleToOpen R h1 (fun T4005 R q => ?_)
    subst q
    exact b_X4_moveGate_b49 R h kk
def fX4_moveGate (x1 : Int32) (S : q_V) : Option q_V :=
  q_bd (fX4_pop S) (fun y2 T1 =>
  q_bd (fX4_pop T1) (fun y4 T3 =>
  if x1 = 36 then
  fX4_moveGate_b21 x1 y2 y4 1 T3
  else
  fX4_moveGate_b21 x1 y2 y4 0 T3))
theorem b_X4_moveGate {g : q_G} {S0 : kp_S} {x1 : Int32} {S : kp_S} {post : kp_S → Prop} {v : q_V} (R : q_Gd 0 g S0 S)  (h : fX4_moveGate x1 (q_w g S) = some v) (kk : ∀ S, q_Gd 0 g S0 S → v = q_w g S → post S) : wX4_moveGate (g 0 4 0) x1 S post := by
  unfold wX4_moveGate; unfold fX4_moveGate at h
  obtain ⟨y2, v1, h1, h⟩ := q_bdi h
  refine b_X4_pop R h1 (fun T1 R q => ?_)
  subst q
  obtain ⟨y4, v1, h1, h⟩ := q_bdi h
  refine b_X4_pop R h1 (fun T3 R q => ?_)
  subst q
  refine ⟨fun c => ?_, fun c => ?_⟩
  · replace h := q_ifn h c
    exact b_X4_moveGate_b21 R h kk
  · replace h := q_ifp h c
    exact b_X4_moveGate_b21 R h kk
def fX4_sluice_b140 (xn2 : Int32) (xn3 : Int32) (xn6 : Int32) (Sn : q_V) : Option q_V :=
  q_bv (fX7_write 5 (((10000 * ((2 * xn3) + xn2)) + xn6)) Sn) (fun T1002 =>
  some T1002)
theorem b_X4_sluice_b140 {g : q_G} {S0 : kp_S} {xn2 : Int32} {xn3 : Int32} {xn6 : Int32} {Sn : kp_S} {post : kp_S → Prop} {v : q_V} (R : q_Gd 0 g S0 Sn)  (h : fX4_sluice_b140 xn2 xn3 xn6 (q_w g Sn) = some v) (kk : ∀ S, q_Gd 0 g S0 S → v = q_w g S → post S) : wX4_sluice_b140 (g 0 4 0) xn2 xn3 xn6 Sn post := by
  unfold wX4_sluice_b140; unfold fX4_sluice_b140 at h
  refine ⟨_, q_p801 R, ?_⟩
  obtain ⟨v1, h1, h⟩ := q_bvi h
  refine b_X7_write R h1 (fun T1002 R q => ?_)
  subst q
  exact q_finv h kk R
def fX4_sluice_b106 (xn1 : Int32) (xn2 : Int32) (xn3 : Int32) (xn5 : Int32) (xn6 : Int32) (xn7 : Int32) (xt0 : Int32) (K61 : Int32 → Int32 → Int32 → Int32 → Int32 → q_V → Option q_V) (Sn : q_V) : Option q_V :=
  if xt0 = 0 then
  fX4_sluice_b140 xn2 xn3 xn6 Sn
  else
  q_bd (fX4_spend Sn) (fun y2002 T2001 =>
  if y2002 = 0 then
  fX4_sluice_b140 xn2 xn3 xn6 T2001
  else
  q_bv (fX1_moveUnit xn3 xn2 xn7 T2001) (fun T2004 =>
  q_lt (xn6 + 1 : Int32) (fun y2005 =>
  K61 xn1 xn2 xn3 xn5 y2005 T2004)))
theorem b_X4_sluice_b106 {g : q_G} {S0 : kp_S} {xn1 : Int32} {xn2 : Int32} {xn3 : Int32} {xn5 : Int32} {xn6 : Int32} {xn7 : Int32} {xt0 : Int32} {K61f : Int32 → Int32 → Int32 → Int32 → Int32 → q_V → Option q_V} {K61 : Int32 → Int32 → Int32 → Int32 → Int32 → kp_S → Prop} {Sn : kp_S} {post : kp_S → Prop} {v : q_V} (R : q_Gd 0 g S0 Sn) (hK61 : ∀ (x0 : Int32) (x1 : Int32) (x2 : Int32) (x3 : Int32) (x4 : Int32) (S : kp_S), q_Gd 0 g S0 S → K61f x0 x1 x2 x3 x4 (q_w g S) = some v → K61 x0 x1 x2 x3 x4 S) (h : fX4_sluice_b106 xn1 xn2 xn3 xn5 xn6 xn7 xt0 K61f (q_w g Sn) = some v) (kk : ∀ S, q_Gd 0 g S0 S → v = q_w g S → post S) : wX4_sluice_b106 (g 0 4 0) xn1 xn2 xn3 xn5 xn6 xn7 xt0 K61 Sn post := by
  unfold wX4_sluice_b106; unfold fX4_sluice_b106 at h
  refine ⟨fun c => ?_, fun c => ?_⟩
  · replace h := q_ifp h c
    exact b_X4_sluice_b140 R h kk
  · replace h := q_ifn h c
    obtain ⟨y2002, v1, h1, h⟩ := q_bdi h
    refine b_X4_spend R h1 (fun T2001 R q => ?_)
    subst q
    refine ⟨fun c => ?_, fun c => ?_⟩
    · replace h := q_ifn h c
      refine ⟨_, q_p800 R, ?_⟩
      obtain ⟨v1, h1, h⟩ := q_bvi h
      refine b_X1_moveUnit R h1 (fun T2004 R q => ?_)
      subst q
      intro y2005 q
      replace h := q_ltw h q
      exact hK61 _ _ _ _ _ _ R h
    · replace h := q_ifp h c
      exact b_X4_sluice_b140 R h kk
def fX4_sluice_L61  : Nat → Int32 → Int32 → Int32 → Int32 → Int32 → q_V → Option q_V
  | 0, _, _, _, _, _, _ => none
  | n + 1, xn1, xn2, xn3, xn5, xn6, Sn =>
  if xn1 ≤ xn6 then
  fX4_sluice_b140 xn2 xn3 xn6 Sn
  else
  q_bd (fX1_headOf xn3 xn2 Sn) (fun y3003 T3002 =>
  if xn5 = 0 then
  if 0 ≤ y3003 then
  fX4_sluice_b106 xn1 xn2 xn3 xn5 xn6 y3003 0 (fun xn1_ xn2_ xn3_ xn5_ xn6_ S_ => fX4_sluice_L61 n xn1_ xn2_ xn3_ xn5_ xn6_ S_) T3002
  else
  fX4_sluice_b106 xn1 xn2 xn3 xn5 xn6 y3003 1 (fun xn1_ xn2_ xn3_ xn5_ xn6_ S_ => fX4_sluice_L61 n xn1_ xn2_ xn3_ xn5_ xn6_ S_) T3002
  else
  if y3003 ≤ 0 then
  fX4_sluice_b106 xn1 xn2 xn3 xn5 xn6 y3003 0 (fun xn1_ xn2_ xn3_ xn5_ xn6_ S_ => fX4_sluice_L61 n xn1_ xn2_ xn3_ xn5_ xn6_ S_) T3002
  else
  fX4_sluice_b106 xn1 xn2 xn3 xn5 xn6 y3003 1 (fun xn1_ xn2_ xn3_ xn5_ xn6_ S_ => fX4_sluice_L61 n xn1_ xn2_ xn3_ xn5_ xn6_ S_) T3002)
theorem b_X4_sluice_L61 {g : q_G} {S0 : kp_S} {post : kp_S → Prop} {v : q_V}  (kk : ∀ S, q_Gd 0 g S0 S → v = q_w g S → post S) : ∀ (n : Nat) (xn1 : Int32) (xn2 : Int32) (xn3 : Int32) (xn5 : Int32) (xn6 : Int32) (Sn : kp_S), q_Gd 0 g S0 Sn → fX4_sluice_L61  n xn1 xn2 xn3 xn5 xn6 (q_w g Sn) = some v → wX4_sluice_L61 (g 0 4 0) post n xn1 xn2 xn3 xn5 xn6 Sn := by
  intro n
  induction n with
  | zero => intro xn1 xn2 xn3 xn5 xn6 Sn _ h; cases h
  | succ n ih =>
    intro xn1 xn2 xn3 xn5 xn6 Sn R h
    unfold wX4_sluice_L61; unfold fX4_sluice_L61 at h
    refine ⟨fun c => ?_, fun c => ?_⟩
    · replace h := q_ifp h c
      exact b_X4_sluice_b140 R h kk
    · replace h := q_ifn h c
      refine ⟨_, q_p800 R, ?_⟩
      obtain ⟨y3003, v1, h1, h⟩ := q_bdi h
      refine b_X1_headOf R h1 (fun T3002 R q => ?_)
      subst q
      refine ⟨fun c => ?_, fun c => ?_⟩
      · replace h := q_ifp h c
        refine ⟨fun c => ?_, fun c => ?_⟩
        · replace h := q_ifp h c
          exact b_X4_sluice_b106 R (fun xn1_ xn2_ xn3_ xn5_ xn6_ S_ R h => ih xn1_ xn2_ xn3_ xn5_ xn6_ S_ R h) h kk
        · replace h := q_ifn h c
          exact b_X4_sluice_b106 R (fun xn1_ xn2_ xn3_ xn5_ xn6_ S_ R h => ih xn1_ xn2_ xn3_ xn5_ xn6_ S_ R h) h kk
      · replace h := q_ifn h c
        refine ⟨fun c => ?_, fun c => ?_⟩
        · replace h := q_ifp h c
          exact b_X4_sluice_b106 R (fun xn1_ xn2_ xn3_ xn5_ xn6_ S_ R h => ih xn1_ xn2_ xn3_ xn5_ xn6_ S_ R h) h kk
        · replace h := q_ifn h c
          exact b_X4_sluice_b106 R (fun xn1_ xn2_ xn3_ xn5_ xn6_ S_ R h => ih xn1_ xn2_ xn3_ xn5_ xn6_ S_ R h) h kk
def fX4_sluice_b56 (xn1 : Int32) (xn2 : Int32) (xn3 : Int32) (xt0 : Int32) (Sn : q_V) : Option q_V :=
  fX4_sluice_L61 q_N xn1 xn2 xn3 xt0 0 Sn
theorem b_X4_sluice_b56 {g : q_G} {S0 : kp_S} {xn1 : Int32} {xn2 : Int32} {xn3 : Int32} {xt0 : Int32} {Sn : kp_S} {post : kp_S → Prop} {v : q_V} (R : q_Gd 0 g S0 Sn)  (h : fX4_sluice_b56 xn1 xn2 xn3 xt0 (q_w g Sn) = some v) (kk : ∀ S, q_Gd 0 g S0 S → v = q_w g S → post S) : wX4_sluice_b56 (g 0 4 0) xn1 xn2 xn3 xt0 Sn post := by
  unfold wX4_sluice_b56; unfold fX4_sluice_b56 at h
  exact ⟨q_N, b_X4_sluice_L61 kk q_N _ _ _ _ _ _ R h⟩
def fX4_sluice (S : q_V) : Option q_V :=
  q_bd (fX4_pop S) (fun y2 T1 =>
  q_bd (fX4_pop T1) (fun y4 T3 =>
  q_bd (fX4_pop T3) (fun y6 T5 =>
  q_bd (fX1_troubleToSluice y6 y4 y2 T5) (fun y9 T8 =>
  if y9 = 0 then
  q_bd (fX1_headOf y6 y4 T8) (fun y12 T11 =>
  if y12 ≤ 0 then
  fX4_sluice_b56 y2 y4 y6 0 T11
  else
  fX4_sluice_b56 y2 y4 y6 1 T11)
  else
  q_bv (fX4_trouble y9 T8) (fun T14 =>
  some T14)))))
theorem b_X4_sluice {g : q_G} {S0 : kp_S} {S : kp_S} {post : kp_S → Prop} {v : q_V} (R : q_Gd 0 g S0 S)  (h : fX4_sluice (q_w g S) = some v) (kk : ∀ S, q_Gd 0 g S0 S → v = q_w g S → post S) : wX4_sluice (g 0 4 0) S post := by
  unfold wX4_sluice; unfold fX4_sluice at h
  obtain ⟨y2, v1, h1, h⟩ := q_bdi h
  refine b_X4_pop R h1 (fun T1 R q => ?_)
  subst q
  obtain ⟨y4, v1, h1, h⟩ := q_bdi h
  refine b_X4_pop R h1 (fun T3 R q => ?_)
  subst q
  obtain ⟨y6, v1, h1, h⟩ := q_bdi h
  refine b_X4_pop R h1 (fun T5 R q => ?_)
  subst q
  refine ⟨_, q_p800 R, ?_⟩
  obtain ⟨y9, v1, h1, h⟩ := q_bdi h
  refine b_X1_troubleToSluice R h1 (fun T8 R q => ?_)
  subst q
  refine ⟨fun c => ?_, fun c => ?_⟩
  · replace h := q_ifp h c
    refine ⟨_, q_p800 R, ?_⟩
    obtain ⟨y12, v1, h1, h⟩ := q_bdi h
    refine b_X1_headOf R h1 (fun T11 R q => ?_)
    subst q
    refine ⟨fun c => ?_, fun c => ?_⟩
    · replace h := q_ifp h c
      exact b_X4_sluice_b56 R h kk
    · replace h := q_ifn h c
      exact b_X4_sluice_b56 R h kk
  · replace h := q_ifn h c
    obtain ⟨v1, h1, h⟩ := q_bvi h
    refine b_X4_trouble R h1 (fun T14 R q => ?_)
    subst q
    exact q_finv h kk R
def fX4_sail (S : q_V) : Option q_V :=
  q_bd (fX4_pop S) (fun y2 T1 =>
  q_bd (fX4_pop T1) (fun y4 T3 =>
  q_bd (fX1_troubleToSail y4 y2 T3) (fun y7 T6 =>
  if y7 = 0 then
  q_bd (fX1_moveShip y4 y2 T6) (fun y11 T10 =>
  q_bv (fX7_write 6 (((16 * y4) + y11)) T10) (fun T12 =>
  some T12))
  else
  q_bv (fX4_trouble y7 T6) (fun T13 =>
  some T13))))
theorem b_X4_sail {g : q_G} {S0 : kp_S} {S : kp_S} {post : kp_S → Prop} {v : q_V} (R : q_Gd 0 g S0 S)  (h : fX4_sail (q_w g S) = some v) (kk : ∀ S, q_Gd 0 g S0 S → v = q_w g S → post S) : wX4_sail (g 0 4 0) S post := by
  unfold wX4_sail; unfold fX4_sail at h
  obtain ⟨y2, v1, h1, h⟩ := q_bdi h
  refine b_X4_pop R h1 (fun T1 R q => ?_)
  subst q
  obtain ⟨y4, v1, h1, h⟩ := q_bdi h
  refine b_X4_pop R h1 (fun T3 R q => ?_)
  subst q
  refine ⟨_, q_p800 R, ?_⟩
  obtain ⟨y7, v1, h1, h⟩ := q_bdi h
  refine b_X1_troubleToSail R h1 (fun T6 R q => ?_)
  subst q
  refine ⟨fun c => ?_, fun c => ?_⟩
  · replace h := q_ifp h c
    refine ⟨_, q_p801 R, ?_⟩
    refine ⟨_, q_p800 R, ?_⟩
    obtain ⟨y11, v1, h1, h⟩ := q_bdi h
    refine b_X1_moveShip R h1 (fun T10 R q => ?_)
    subst q
    obtain ⟨v1, h1, h⟩ := q_bvi h
    refine b_X7_write R h1 (fun T12 R q => ?_)
    subst q
    exact q_finv h kk R
  · replace h := q_ifn h c
    obtain ⟨v1, h1, h⟩ := q_bvi h
    refine b_X4_trouble R h1 (fun T13 R q => ?_)
    subst q
    exact q_finv h kk R
def fX4_order_b152 (x1 : Int32) (Sn : q_V) : Option q_V :=
  some Sn
theorem b_X4_order_b152 {g : q_G} {S0 : kp_S} {x1 : Int32} {Sn : kp_S} {post : kp_S → Prop} {v : q_V} (R : q_Gd 0 g S0 Sn)  (h : fX4_order_b152 x1 (q_w g Sn) = some v) (kk : ∀ S, q_Gd 0 g S0 S → v = q_w g S → post S) : wX4_order_b152 (g 0 4 0) x1 Sn post := by
  unfold wX4_order_b152; unfold fX4_order_b152 at h
  exact q_finv h kk R
def fX4_order_b67 (x1 : Int32) (Sn : q_V) : Option q_V :=
  q_bv (fX4_moveGate x1 Sn) (fun T2001 =>
  fX4_order_b152 x1 T2001)
theorem b_X4_order_b67 {g : q_G} {S0 : kp_S} {x1 : Int32} {Sn : kp_S} {post : kp_S → Prop} {v : q_V} (R : q_Gd 0 g S0 Sn)  (h : fX4_order_b67 x1 (q_w g Sn) = some v) (kk : ∀ S, q_Gd 0 g S0 S → v = q_w g S → post S) : wX4_order_b67 (g 0 4 0) x1 Sn post := by
  unfold wX4_order_b67; unfold fX4_order_b67 at h
  obtain ⟨v1, h1, h⟩ := q_bvi h
  refine b_X4_moveGate R h1 (fun T2001 R q => ?_)
  subst q
  exact b_X4_order_b152 R h kk
def fX4_order (x1 : Int32) (S : q_V) : Option q_V :=
  if x1 = 35 then
  q_bd (fX4_pop S) (fun y4 T3 =>
  q_bv (fX7_write 0 y4 T3) (fun T5 =>
  fX4_order_b152 x1 T5))
  else
  if x1 = 36 then
  fX4_order_b67 x1 S
  else
  if x1 = 37 then
  fX4_order_b67 x1 S
  else
  if x1 = 38 then
  q_bv (fX4_sluice S) (fun T9 =>
  fX4_order_b152 x1 T9)
  else
  if x1 = 39 then
  q_bv (fX4_sail S) (fun T11 =>
  fX4_order_b152 x1 T11)
  else
  if x1 = 40 then
  q_bd (fX4_take S) (fun y15 T14 =>
  q_bv (fX10_become 168 8 y15 T14) (fun T16 =>
  fX4_order_b152 x1 T16))
  else
  if x1 = 41 then
  q_bd (fX4_take S) (fun y20 T19 =>
  q_bv (fX10_become 168 16 y20 T19) (fun T21 =>
  fX4_order_b152 x1 T21))
  else
  if x1 = 42 then
  q_bd (fX4_pop S) (fun y25 T24 =>
  q_bv (fX10_become 168 2 y25 T24) (fun T26 =>
  fX4_order_b152 x1 T26))
  else
  if x1 = 43 then
  q_bd (fX4_pop S) (fun y29 T28 =>
  q_bv (fX4_fail y29 T28) (fun T30 =>
  fX4_order_b152 x1 T30))
  else
  q_lt (q_si S 814 1) (fun T31 =>
  fX4_order_b152 x1 T31)
theorem b_X4_order {g : q_G} {S0 : kp_S} {x1 : Int32} {S : kp_S} {post : kp_S → Prop} {v : q_V} (R : q_Gd 0 g S0 S)  (h : fX4_order x1 (q_w g S) = some v) (kk : ∀ S, q_Gd 0 g S0 S → v = q_w g S → post S) : wX4_order (g 0 4 0) x1 S post := by
  unfold wX4_order; unfold fX4_order at h
  refine ⟨fun c => ?_, fun c => ?_⟩
  · replace h := q_ifp h c
    refine ⟨_, q_p801 R, ?_⟩
    obtain ⟨y4, v1, h1, h⟩ := q_bdi h
    refine b_X4_pop R h1 (fun T3 R q => ?_)
    subst q
    obtain ⟨v1, h1, h⟩ := q_bvi h
    refine b_X7_write R h1 (fun T5 R q => ?_)
    subst q
    exact b_X4_order_b152 R h kk
  · replace h := q_ifn h c
    refine ⟨fun c => ?_, fun c => ?_⟩
    · replace h := q_ifp h c
      exact b_X4_order_b67 R h kk
    · replace h := q_ifn h c
      refine ⟨fun c => ?_, fun c => ?_⟩
      · replace h := q_ifp h c
        exact b_X4_order_b67 R h kk
      · replace h := q_ifn h c
        refine ⟨fun c => ?_, fun c => ?_⟩
        · replace h := q_ifp h c
          obtain ⟨v1, h1, h⟩ := q_bvi h
          refine b_X4_sluice R h1 (fun T9 R q => ?_)
          subst q
          exact b_X4_order_b152 R h kk
        · replace h := q_ifn h c
          refine ⟨fun c => ?_, fun c => ?_⟩
          · replace h := q_ifp h c
            obtain ⟨v1, h1, h⟩ := q_bvi h
            refine b_X4_sail R h1 (fun T11 R q => ?_)
            subst q
            exact b_X4_order_b152 R h kk
          · replace h := q_ifn h c
            refine ⟨fun c => ?_, fun c => ?_⟩
            · replace h := q_ifp h c
              refine ⟨_, q_p808 R, ?_⟩
              obtain ⟨y15, v1, h1, h⟩ := q_bdi h
              refine b_X4_take R h1 (fun T14 R q => ?_)
              subst q
              obtain ⟨v1, h1, h⟩ := q_bvi h
              refine b_X10_become R (by decide) h1 (fun T16 R q => ?_)
              subst q
              exact b_X4_order_b152 R h kk
            · replace h := q_ifn h c
              refine ⟨fun c => ?_, fun c => ?_⟩
              · replace h := q_ifp h c
                refine ⟨_, q_p808 R, ?_⟩
                obtain ⟨y20, v1, h1, h⟩ := q_bdi h
                refine b_X4_take R h1 (fun T19 R q => ?_)
                subst q
                obtain ⟨v1, h1, h⟩ := q_bvi h
                refine b_X10_become R (by decide) h1 (fun T21 R q => ?_)
                subst q
                exact b_X4_order_b152 R h kk
              · replace h := q_ifn h c
                refine ⟨fun c => ?_, fun c => ?_⟩
                · replace h := q_ifp h c
                  refine ⟨_, q_p808 R, ?_⟩
                  obtain ⟨y25, v1, h1, h⟩ := q_bdi h
                  refine b_X4_pop R h1 (fun T24 R q => ?_)
                  subst q
                  obtain ⟨v1, h1, h⟩ := q_bvi h
                  refine b_X10_become R (by decide) h1 (fun T26 R q => ?_)
                  subst q
                  exact b_X4_order_b152 R h kk
                · replace h := q_ifn h c
                  refine ⟨fun c => ?_, fun c => ?_⟩
                  · replace h := q_ifp h c
                    obtain ⟨y29, v1, h1, h⟩ := q_bdi h
                    refine b_X4_pop R h1 (fun T28 R q => ?_)
                    subst q
                    obtain ⟨v1, h1, h⟩ := q_bvi h
                    refine b_X4_fail R h1 (fun T30 R q => ?_)
                    subst q
                    exact b_X4_order_b152 R h kk
                  · replace h := q_ifn h c
                    intro T31 q
                    obtain ⟨R, q⟩ := q_wI R q rfl rfl
                    replace h := q_ltw h q
                    exact b_X4_order_b152 R h kk
def fX4_hold_b44 (x1 : Int32) (x2 : Int32) (Sn : q_V) : Option q_V :=
  q_bd (fX4_begin 45 x2 Sn) (fun b1002 T1001 =>
  q_lt (q_sf T1001 1204 b1002 x1) (fun T1003 =>
  some T1003))
theorem b_X4_hold_b44 {g : q_G} {S0 : kp_S} {x1 : Int32} {x2 : Int32} {Sn : kp_S} {post : kp_S → Prop} {v : q_V} (R : q_Gd 0 g S0 Sn)  (h : fX4_hold_b44 x1 x2 (q_w g Sn) = some v) (kk : ∀ S, q_Gd 0 g S0 S → v = q_w g S → post S) : wX4_hold_b44 (g 0 4 0) x1 x2 Sn post := by
  unfold wX4_hold_b44; unfold fX4_hold_b44 at h
  obtain ⟨b1002, v1, h1, h⟩ := q_bdi h
  refine b_X4_begin R h1 (fun T1001 R q hb_b1002 => ?_)
  subst q
  intro T1003 q
  obtain ⟨R, q⟩ := q_wF R q rfl rfl
  replace h := q_ltw h q
  exact q_finv h kk R
def fX4_hold (x1 : Int32) (x2 : Int32) (S : q_V) : Option q_V :=
  q_bd (fX1_addHold x1 1 S) (fun y3 T2 =>
  if y3 = (- 1) then
  q_bv (fX4_trouble 3 T2) (fun T9 =>
  some T9)
  else
  q_bv (fX7_count 6 T2) (fun T5 =>
  if y3 = 1 then
  q_bv (fX7_write 1 x1 T5) (fun T7 =>
  fX4_hold_b44 x1 x2 T7)
  else
  fX4_hold_b44 x1 x2 T5))
theorem b_X4_hold {g : q_G} {S0 : kp_S} {x1 : Int32} {x2 : Int32} {S : kp_S} {post : kp_S → Prop} {v : q_V} (R : q_Gd 0 g S0 S)  (h : fX4_hold x1 x2 (q_w g S) = some v) (kk : ∀ S, q_Gd 0 g S0 S → v = q_w g S → post S) : wX4_hold (g 0 4 0) x1 x2 S post := by
  unfold wX4_hold; unfold fX4_hold at h
  refine ⟨_, q_p800 R, ?_⟩
  obtain ⟨y3, v1, h1, h⟩ := q_bdi h
  refine b_X1_addHold R h1 (fun T2 R q => ?_)
  subst q
  refine ⟨fun c => ?_, fun c => ?_⟩
  · replace h := q_ifn h c
    refine ⟨_, q_p801 R, ?_⟩
    obtain ⟨v1, h1, h⟩ := q_bvi h
    refine b_X7_count R h1 (fun T5 R q => ?_)
    subst q
    refine ⟨fun c => ?_, fun c => ?_⟩
    · replace h := q_ifn h c
      exact b_X4_hold_b44 R h kk
    · replace h := q_ifp h c
      refine ⟨_, q_p801 R, ?_⟩
      obtain ⟨v1, h1, h⟩ := q_bvi h
      refine b_X7_write R h1 (fun T7 R q => ?_)
      subst q
      exact b_X4_hold_b44 R h kk
  · replace h := q_ifp h c
    obtain ⟨v1, h1, h⟩ := q_bvi h
    refine b_X4_trouble R h1 (fun T9 R q => ?_)
    subst q
    exact q_finv h kk R
def fX4_mended (a1 : Nat) (S : q_V) : Option q_V :=
  q_bv (fX7_count 13 S) (fun T2 =>
  q_bv (fX7_write 8 ((q_f T2 2001 a1)) T2) (fun T5 =>
  q_bd (fX4_frame T5) (fun b7 T6 =>
  q_lt (q_sf T6 603 b7 ((q_f T6 2001 a1))) (fun T9 =>
  q_bd (fX4_frame T9) (fun b11 T10 =>
  q_lt (q_sf T10 604 b11 ((q_f T10 2002 a1))) (fun T13 =>
  q_lt (q_sf T13 1201 a1 2) (fun T14 =>
  some T14)))))))
theorem b_X4_mended {g : q_G} {S0 : kp_S} {a1 : Nat} {S : kp_S} {post : kp_S → Prop} {v : q_V} (R : q_Gd 0 g S0 S) (hb_a1 : a1 < 168) (h : fX4_mended a1 (q_w g S) = some v) (kk : ∀ S, q_Gd 0 g S0 S → v = q_w g S → post S) : wX4_mended (g 0 4 0) (g 2 6 a1) S post := by
  unfold wX4_mended; unfold fX4_mended at h
  refine ⟨_, q_p801 R, ?_⟩
  obtain ⟨v1, h1, h⟩ := q_bvi h
  refine b_X7_count R h1 (fun T2 R q => ?_)
  subst q
  refine ⟨_, q_p801 R, ?_⟩
  refine ⟨_, q_p1208 R hb_a1, ?_⟩
  obtain ⟨v1, h1, h⟩ := q_bvi h
  refine b_X7_write R h1 (fun T5 R q => ?_)
  subst q
  obtain ⟨b7, v1, h1, h⟩ := q_bdi h
  refine b_X4_frame R h1 (fun T6 R q hb_b7 => ?_)
  subst q
  refine ⟨_, q_p1208 R hb_a1, ?_⟩
  intro T9 q
  obtain ⟨R, q⟩ := q_wF R q rfl rfl
  replace h := q_ltw h q
  obtain ⟨b11, v1, h1, h⟩ := q_bdi h
  refine b_X4_frame R h1 (fun T10 R q hb_b11 => ?_)
  subst q
  refine ⟨_, q_p1208 R hb_a1, ?_⟩
  intro T13 q
  obtain ⟨R, q⟩ := q_wF R q rfl rfl
  replace h := q_ltw h q
  intro T14 q
  obtain ⟨R, q⟩ := q_wF R q rfl rfl
  replace h := q_ltw h q
  exact q_finv h kk R
def fX4_ensured_b22 (x1 : Int32) (Sn : q_V) : Option q_V :=
  some Sn
theorem b_X4_ensured_b22 {g : q_G} {S0 : kp_S} {x1 : Int32} {Sn : kp_S} {post : kp_S → Prop} {v : q_V} (R : q_Gd 0 g S0 Sn)  (h : fX4_ensured_b22 x1 (q_w g Sn) = some v) (kk : ∀ S, q_Gd 0 g S0 S → v = q_w g S → post S) : wX4_ensured_b22 (g 0 4 0) x1 Sn post := by
  unfold wX4_ensured_b22; unfold fX4_ensured_b22 at h
  exact q_finv h kk R
def fX4_ensured (x1 : Int32) (S : q_V) : Option q_V :=
  if x1 = 0 then
  q_bv (fX4_trouble 10 S) (fun T3 =>
  fX4_ensured_b22 x1 T3)
  else
  q_bv (fX10_become 168 1 0 S) (fun T2 =>
  fX4_ensured_b22 x1 T2)
theorem b_X4_ensured {g : q_G} {S0 : kp_S} {x1 : Int32} {S : kp_S} {post : kp_S → Prop} {v : q_V} (R : q_Gd 0 g S0 S)  (h : fX4_ensured x1 (q_w g S) = some v) (kk : ∀ S, q_Gd 0 g S0 S → v = q_w g S → post S) : wX4_ensured (g 0 4 0) x1 S post := by
  unfold wX4_ensured; unfold fX4_ensured at h
  refine ⟨fun c => ?_, fun c => ?_⟩
  · replace h := q_ifn h c
    refine ⟨_, q_p808 R, ?_⟩
    obtain ⟨v1, h1, h⟩ := q_bvi h
    refine b_X10_become R (by decide) h1 (fun T2 R q => ?_)
    subst q
    exact b_X4_ensured_b22 R h kk
  · replace h := q_ifp h c
    obtain ⟨v1, h1, h⟩ := q_bvi h
    refine b_X4_trouble R h1 (fun T3 R q => ?_)
    subst q
    exact b_X4_ensured_b22 R h kk
def fX4_pledge (x1 : Int32) (S : q_V) : Option q_V :=
  q_bd (fX4_frame S) (fun b2 T1 =>
  q_bd (fX3_pledge b2 x1 T1) (fun y4 T3 =>
  if y4 = 0 then
  q_bv (fX4_trouble 2 T3) (fun T11 =>
  some T11)
  else
  q_bv (fX7_count 10 T3) (fun T6 =>
  q_bd (fX0_get ((x1 + 3)) T6) (fun y9 T8 =>
  q_lt (q_si T8 810 y9) (fun T10 =>
  some T10)))))
theorem b_X4_pledge {g : q_G} {S0 : kp_S} {x1 : Int32} {S : kp_S} {post : kp_S → Prop} {v : q_V} (R : q_Gd 0 g S0 S)  (h : fX4_pledge x1 (q_w g S) = some v) (kk : ∀ S, q_Gd 0 g S0 S → v = q_w g S → post S) : wX4_pledge (g 0 4 0) x1 S post := by
  unfold wX4_pledge; unfold fX4_pledge at h
  obtain ⟨b2, v1, h1, h⟩ := q_bdi h
  refine b_X4_frame R h1 (fun T1 R q hb_b2 => ?_)
  subst q
  obtain ⟨y4, v1, h1, h⟩ := q_bdi h
  refine b_X3_pledge R hb_b2 h1 (fun T3 R q => ?_)
  subst q
  refine ⟨fun c => ?_, fun c => ?_⟩
  · replace h := q_ifn h c
    refine ⟨_, q_p801 R, ?_⟩
    obtain ⟨v1, h1, h⟩ := q_bvi h
    refine b_X7_count R h1 (fun T6 R q => ?_)
    subst q
    refine ⟨_, q_p809 R, ?_⟩
    obtain ⟨y9, v1, h1, h⟩ := q_bdi h
    refine b_X0_get R h1 (fun T8 R q => ?_)
    subst q
    intro T10 q
    obtain ⟨R, q⟩ := q_wI R q rfl rfl
    replace h := q_ltw h q
    exact q_finv h kk R
  · replace h := q_ifp h c
    obtain ⟨v1, h1, h⟩ := q_bvi h
    refine b_X4_trouble R h1 (fun T11 R q => ?_)
    subst q
    exact q_finv h kk R
def fX4_call_L62 (x1 : Int32) : Nat → Nat → Int32 → q_V → Option q_V
  | 0, _, _, _ => none
  | n + 1, an2, xn3, Sn =>
  if xn3 < 0 then
  q_bd (fX4_begin 53 0 Sn) (fun b1002 T1001 =>
  q_lt (q_sf T1001 1205 b1002 ((q_i T1001 810))) (fun T1003 =>
  q_lt (q_sf T1003 1206 b1002 ((q_i T1003 811))) (fun T1004 =>
  q_bd (fX0_entry x1 T1004) (fun y1007 T1006 =>
  q_lt (q_si T1006 810 y1007) (fun T1008 =>
  some T1008)))))
  else
  q_bd (fX4_pop Sn) (fun y1010 T1009 =>
  q_bv (fX3_set an2 xn3 y1010 T1009) (fun T1011 =>
  q_lt (xn3 + (- 1) : Int32) (fun y1012 =>
  fX4_call_L62 x1 n an2 y1012 T1011)))
theorem b_X4_call_L62 {g : q_G} {S0 : kp_S} {x1 : Int32} {post : kp_S → Prop} {v : q_V}  (kk : ∀ S, q_Gd 0 g S0 S → v = q_w g S → post S) : ∀ (n : Nat) (an2 : Nat) (xn3 : Int32) (Sn : kp_S), q_Gd 0 g S0 Sn → an2 < 12 → fX4_call_L62 x1 n an2 xn3 (q_w g Sn) = some v → wX4_call_L62 (g 0 4 0) x1 post n (g 2 3 an2) xn3 Sn := by
  intro n
  induction n with
  | zero => intro an2 xn3 Sn _ _ h; cases h
  | succ n ih =>
    intro an2 xn3 Sn R hb_an2 h
    unfold wX4_call_L62; unfold fX4_call_L62 at h
    refine ⟨fun c => ?_, fun c => ?_⟩
    · replace h := q_ifp h c
      obtain ⟨b1002, v1, h1, h⟩ := q_bdi h
      refine b_X4_begin R h1 (fun T1001 R q hb_b1002 => ?_)
      subst q
      intro T1003 q
      obtain ⟨R, q⟩ := q_wF R q rfl rfl
      replace h := q_ltw h q
      intro T1004 q
      obtain ⟨R, q⟩ := q_wF R q rfl rfl
      replace h := q_ltw h q
      refine ⟨_, q_p809 R, ?_⟩
      obtain ⟨y1007, v1, h1, h⟩ := q_bdi h
      refine b_X0_entry R h1 (fun T1006 R q => ?_)
      subst q
      intro T1008 q
      obtain ⟨R, q⟩ := q_wI R q rfl rfl
      replace h := q_ltw h q
      exact q_finv h kk R
    · replace h := q_ifn h c
      obtain ⟨y1010, v1, h1, h⟩ := q_bdi h
      refine b_X4_pop R h1 (fun T1009 R q => ?_)
      subst q
      obtain ⟨v1, h1, h⟩ := q_bvi h
      refine b_X3_set R hb_an2 h1 (fun T1011 R q => ?_)
      subst q
      intro y1012 q
      replace h := q_ltw h q
      exact ih _ _ _ R hb_an2 h
def fX4_call (x1 : Int32) (S : q_V) : Option q_V :=
  q_bd (fX4_spend S) (fun y2 T1 =>
  if y2 = 0 then
  some T1
  else
  if (q_i T1 805) < 12 then
  q_bv (fX7_count 15 T1) (fun T4 =>
  q_lt (q_si T4 805 (((q_i T4 805) + 1))) (fun T5 =>
  q_bd (fX4_frame T5) (fun b7 T6 =>
  q_bv (fX3_clear b7 T6) (fun T8 =>
  q_bd (fX0_parameters x1 T8) (fun y11 T10 =>
  q_lt ((y11 - 1) : Int32) (fun y12 =>
  fX4_call_L62 x1 q_N b7 y12 T10))))))
  else
  q_bv (fX4_trouble 2 T1) (fun T13 =>
  some T13))
theorem b_X4_call {g : q_G} {S0 : kp_S} {x1 : Int32} {S : kp_S} {post : kp_S → Prop} {v : q_V} (R : q_Gd 0 g S0 S)  (h : fX4_call x1 (q_w g S) = some v) (kk : ∀ S, q_Gd 0 g S0 S → v = q_w g S → post S) : wX4_call (g 0 4 0) x1 S post := by
  unfold wX4_call; unfold fX4_call at h
  obtain ⟨y2, v1, h1, h⟩ := q_bdi h
  refine b_X4_spend R h1 (fun T1 R q => ?_)
  subst q
  refine ⟨fun c => ?_, fun c => ?_⟩
  · replace h := q_ifn h c
    refine ⟨fun c => ?_, fun c => ?_⟩
    · replace h := q_ifp h c
      refine ⟨_, q_p801 R, ?_⟩
      obtain ⟨v1, h1, h⟩ := q_bvi h
      refine b_X7_count R h1 (fun T4 R q => ?_)
      subst q
      intro T5 q
      obtain ⟨R, q⟩ := q_wI R q rfl rfl
      replace h := q_ltw h q
      obtain ⟨b7, v1, h1, h⟩ := q_bdi h
      refine b_X4_frame R h1 (fun T6 R q hb_b7 => ?_)
      subst q
      obtain ⟨v1, h1, h⟩ := q_bvi h
      refine b_X3_clear R hb_b7 h1 (fun T8 R q => ?_)
      subst q
      refine ⟨_, q_p809 R, ?_⟩
      obtain ⟨y11, v1, h1, h⟩ := q_bdi h
      refine b_X0_parameters R h1 (fun T10 R q => ?_)
      subst q
      intro y12 q
      replace h := q_ltw h q
      exact ⟨q_N, b_X4_call_L62 kk q_N _ _ _ R hb_b7 h⟩
    · replace h := q_ifn h c
      obtain ⟨v1, h1, h⟩ := q_bvi h
      refine b_X4_trouble R h1 (fun T13 R q => ?_)
      subst q
      exact q_finv h kk R
  · replace h := q_ifp h c
    exact q_finv h kk R
def fX4_beginOrEnd_b185 (x1 : Int32) (Sn : q_V) : Option q_V :=
  some Sn
theorem b_X4_beginOrEnd_b185 {g : q_G} {S0 : kp_S} {x1 : Int32} {Sn : kp_S} {post : kp_S → Prop} {v : q_V} (R : q_Gd 0 g S0 Sn)  (h : fX4_beginOrEnd_b185 x1 (q_w g Sn) = some v) (kk : ∀ S, q_Gd 0 g S0 S → v = q_w g S → post S) : wX4_beginOrEnd_b185 (g 0 4 0) x1 Sn post := by
  unfold wX4_beginOrEnd_b185; unfold fX4_beginOrEnd_b185 at h
  exact q_finv h kk R
def fX4_beginOrEnd_b101 (x1 : Int32) (xn2 : Int32) (Sn : q_V) : Option q_V :=
  q_lt (q_si Sn 810 ((xn2 + 5))) (fun T2001 =>
  fX4_beginOrEnd_b185 x1 T2001)
theorem b_X4_beginOrEnd_b101 {g : q_G} {S0 : kp_S} {x1 : Int32} {xn2 : Int32} {Sn : kp_S} {post : kp_S → Prop} {v : q_V} (R : q_Gd 0 g S0 Sn)  (h : fX4_beginOrEnd_b101 x1 xn2 (q_w g Sn) = some v) (kk : ∀ S, q_Gd 0 g S0 S → v = q_w g S → post S) : wX4_beginOrEnd_b101 (g 0 4 0) x1 xn2 Sn post := by
  unfold wX4_beginOrEnd_b101; unfold fX4_beginOrEnd_b101 at h
  intro T2001 q
  obtain ⟨R, q⟩ := q_wI R q rfl rfl
  replace h := q_ltw h q
  exact b_X4_beginOrEnd_b185 R h kk
def fX4_beginOrEnd_b72 (x1 : Int32) (xn2 : Int32) (Sn : q_V) : Option q_V :=
  q_bd (fX4_begin x1 xn2 Sn) (fun b3002 T3001 =>
  q_bd (fX0_get ((xn2 + 4)) T3001) (fun y3005 T3004 =>
  if y3005 = 0 then
  fX4_beginOrEnd_b101 x1 xn2 T3004
  else
  q_bv (fX7_count 8 T3004) (fun T3007 =>
  fX4_beginOrEnd_b101 x1 xn2 T3007)))
theorem b_X4_beginOrEnd_b72 {g : q_G} {S0 : kp_S} {x1 : Int32} {xn2 : Int32} {Sn : kp_S} {post : kp_S → Prop} {v : q_V} (R : q_Gd 0 g S0 Sn)  (h : fX4_beginOrEnd_b72 x1 xn2 (q_w g Sn) = some v) (kk : ∀ S, q_Gd 0 g S0 S → v = q_w g S → post S) : wX4_beginOrEnd_b72 (g 0 4 0) x1 xn2 Sn post := by
  unfold wX4_beginOrEnd_b72; unfold fX4_beginOrEnd_b72 at h
  obtain ⟨b3002, v1, h1, h⟩ := q_bdi h
  refine b_X4_begin R h1 (fun T3001 R q hb_b3002 => ?_)
  subst q
  refine ⟨_, q_p809 R, ?_⟩
  obtain ⟨y3005, v1, h1, h⟩ := q_bdi h
  refine b_X0_get R h1 (fun T3004 R q => ?_)
  subst q
  refine ⟨fun c => ?_, fun c => ?_⟩
  · replace h := q_ifp h c
    exact b_X4_beginOrEnd_b101 R h kk
  · replace h := q_ifn h c
    refine ⟨_, q_p801 R, ?_⟩
    obtain ⟨v1, h1, h⟩ := q_bvi h
    refine b_X7_count R h1 (fun T3007 R q => ?_)
    subst q
    exact b_X4_beginOrEnd_b101 R h kk
def fX4_beginOrEnd_b176 (x1 : Int32) (Sn : q_V) : Option q_V :=
  q_bv (fX10_become 168 1 0 Sn) (fun T4002 =>
  fX4_beginOrEnd_b185 x1 T4002)
theorem b_X4_beginOrEnd_b176 {g : q_G} {S0 : kp_S} {x1 : Int32} {Sn : kp_S} {post : kp_S → Prop} {v : q_V} (R : q_Gd 0 g S0 Sn)  (h : fX4_beginOrEnd_b176 x1 (q_w g Sn) = some v) (kk : ∀ S, q_Gd 0 g S0 S → v = q_w g S → post S) : wX4_beginOrEnd_b176 (g 0 4 0) x1 Sn post := by
  unfold wX4_beginOrEnd_b176; unfold fX4_beginOrEnd_b176 at h
  refine ⟨_, q_p808 R, ?_⟩
  obtain ⟨v1, h1, h⟩ := q_bvi h
  refine b_X10_become R (by decide) h1 (fun T4002 R q => ?_)
  subst q
  exact b_X4_beginOrEnd_b185 R h kk
def fX4_beginOrEnd (x1 : Int32) (S : q_V) : Option q_V :=
  q_lt (((q_i S 810) - 1) : Int32) (fun y1 =>
  if x1 = 45 then
  q_bd (fX4_pop S) (fun y4 T3 =>
  q_bv (fX4_hold y4 y1 T3) (fun T5 =>
  fX4_beginOrEnd_b185 x1 T5))
  else
  if x1 = 46 then
  fX4_beginOrEnd_b72 x1 y1 S
  else
  if x1 = 47 then
  fX4_beginOrEnd_b72 x1 y1 S
  else
  if x1 = 48 then
  q_bd (fX4_top S) (fun b10 T9 =>
  q_bv (fX4_mended b10 T9) (fun T11 =>
  fX4_beginOrEnd_b185 x1 T11))
  else
  if x1 = 49 then
  fX4_beginOrEnd_b176 x1 S
  else
  if x1 = 50 then
  q_bd (fX4_begin x1 y1 S) (fun b15 T14 =>
  q_bd (fX0_get ((y1 + 2)) T14) (fun y18 T17 =>
  q_lt (q_si T17 810 y18) (fun T19 =>
  fX4_beginOrEnd_b185 x1 T19)))
  else
  if x1 = 51 then
  q_bd (fX4_pop S) (fun y22 T21 =>
  q_bv (fX4_ensured y22 T21) (fun T23 =>
  fX4_beginOrEnd_b185 x1 T23))
  else
  if x1 = 52 then
  q_bv (fX4_pledge y1 S) (fun T25 =>
  fX4_beginOrEnd_b185 x1 T25)
  else
  if x1 = 53 then
  q_bd (fX4_take S) (fun y28 T27 =>
  q_bv (fX4_call y28 T27) (fun T29 =>
  fX4_beginOrEnd_b185 x1 T29))
  else
  fX4_beginOrEnd_b176 x1 S)
theorem b_X4_beginOrEnd {g : q_G} {S0 : kp_S} {x1 : Int32} {S : kp_S} {post : kp_S → Prop} {v : q_V} (R : q_Gd 0 g S0 S)  (h : fX4_beginOrEnd x1 (q_w g S) = some v) (kk : ∀ S, q_Gd 0 g S0 S → v = q_w g S → post S) : wX4_beginOrEnd (g 0 4 0) x1 S post := by
  unfold wX4_beginOrEnd; unfold fX4_beginOrEnd at h
  intro y1 q
  replace h := q_ltw h q
  refine ⟨fun c => ?_, fun c => ?_⟩
  · replace h := q_ifp h c
    obtain ⟨y4, v1, h1, h⟩ := q_bdi h
    refine b_X4_pop R h1 (fun T3 R q => ?_)
    subst q
    obtain ⟨v1, h1, h⟩ := q_bvi h
    refine b_X4_hold R h1 (fun T5 R q => ?_)
    subst q
    exact b_X4_beginOrEnd_b185 R h kk
  · replace h := q_ifn h c
    refine ⟨fun c => ?_, fun c => ?_⟩
    · replace h := q_ifp h c
      exact b_X4_beginOrEnd_b72 R h kk
    · replace h := q_ifn h c
      refine ⟨fun c => ?_, fun c => ?_⟩
      · replace h := q_ifp h c
        exact b_X4_beginOrEnd_b72 R h kk
      · replace h := q_ifn h c
        refine ⟨fun c => ?_, fun c => ?_⟩
        · replace h := q_ifp h c
          obtain ⟨b10, v1, h1, h⟩ := q_bdi h
          refine b_X4_top R h1 (fun T9 R q hb_b10 => ?_)
          subst q
          obtain ⟨v1, h1, h⟩ := q_bvi h
          refine b_X4_mended R hb_b10 h1 (fun T11 R q => ?_)
          subst q
          exact b_X4_beginOrEnd_b185 R h kk
        · replace h := q_ifn h c
          refine ⟨fun c => ?_, fun c => ?_⟩
          · replace h := q_ifp h c
            exact b_X4_beginOrEnd_b176 R h kk
          · replace h := q_ifn h c
            refine ⟨fun c => ?_, fun c => ?_⟩
            · replace h := q_ifp h c
              obtain ⟨b15, v1, h1, h⟩ := q_bdi h
              refine b_X4_begin R h1 (fun T14 R q hb_b15 => ?_)
              subst q
              refine ⟨_, q_p809 R, ?_⟩
              obtain ⟨y18, v1, h1, h⟩ := q_bdi h
              refine b_X0_get R h1 (fun T17 R q => ?_)
              subst q
              intro T19 q
              obtain ⟨R, q⟩ := q_wI R q rfl rfl
              replace h := q_ltw h q
              exact b_X4_beginOrEnd_b185 R h kk
            · replace h := q_ifn h c
              refine ⟨fun c => ?_, fun c => ?_⟩
              · replace h := q_ifp h c
                obtain ⟨y22, v1, h1, h⟩ := q_bdi h
                refine b_X4_pop R h1 (fun T21 R q => ?_)
                subst q
                obtain ⟨v1, h1, h⟩ := q_bvi h
                refine b_X4_ensured R h1 (fun T23 R q => ?_)
                subst q
                exact b_X4_beginOrEnd_b185 R h kk
              · replace h := q_ifn h c
                refine ⟨fun c => ?_, fun c => ?_⟩
                · replace h := q_ifp h c
                  obtain ⟨v1, h1, h⟩ := q_bvi h
                  refine b_X4_pledge R h1 (fun T25 R q => ?_)
                  subst q
                  exact b_X4_beginOrEnd_b185 R h kk
                · replace h := q_ifn h c
                  refine ⟨fun c => ?_, fun c => ?_⟩
                  · replace h := q_ifp h c
                    obtain ⟨y28, v1, h1, h⟩ := q_bdi h
                    refine b_X4_take R h1 (fun T27 R q => ?_)
                    subst q
                    obtain ⟨v1, h1, h⟩ := q_bvi h
                    refine b_X4_call R h1 (fun T29 R q => ?_)
                    subst q
                    exact b_X4_beginOrEnd_b185 R h kk
                  · replace h := q_ifn h c
                    exact b_X4_beginOrEnd_b176 R h kk
def fX4_goOn (a1 : Nat) (x2 : Int32) (S : q_V) : Option q_V :=
  q_lt (q_si S 803 ((q_f S 1203 a1))) (fun T1 =>
  q_lt (q_sf T1 2000 168 0) (fun T3 =>
  q_lt (q_si T3 810 x2) (fun T4 =>
  some T4)))
theorem b_X4_goOn {g : q_G} {S0 : kp_S} {a1 : Nat} {x2 : Int32} {S : kp_S} {post : kp_S → Prop} {v : q_V} (R : q_Gd 0 g S0 S) (hb_a1 : a1 < 168) (h : fX4_goOn a1 x2 (q_w g S) = some v) (kk : ∀ S, q_Gd 0 g S0 S → v = q_w g S → post S) : wX4_goOn (g 0 4 0) (g 2 6 a1) x2 S post := by
  unfold wX4_goOn; unfold fX4_goOn at h
  intro T1 q
  obtain ⟨R, q⟩ := q_wI R q rfl rfl
  replace h := q_ltw h q
  refine ⟨_, q_p808 R, ?_⟩
  intro T3 q
  obtain ⟨R, q⟩ := q_wF R q rfl rfl
  replace h := q_ltw h q
  intro T4 q
  obtain ⟨R, q⟩ := q_wI R q rfl rfl
  replace h := q_ltw h q
  exact q_finv h kk R
def fX4_leave_b27 (a1 : Nat) (x2 : Int32) (Sn : q_V) : Option q_V :=
  some Sn
theorem b_X4_leave_b27 {g : q_G} {S0 : kp_S} {a1 : Nat} {x2 : Int32} {Sn : kp_S} {post : kp_S → Prop} {v : q_V} (R : q_Gd 0 g S0 Sn) (hb_a1 : a1 < 168) (h : fX4_leave_b27 a1 x2 (q_w g Sn) = some v) (kk : ∀ S, q_Gd 0 g S0 S → v = q_w g S → post S) : wX4_leave_b27 (g 0 4 0) (g 2 6 a1) x2 Sn post := by
  unfold wX4_leave_b27; unfold fX4_leave_b27 at h
  exact q_finv h kk R
def fX4_leave (a1 : Nat) (x2 : Int32) (S : q_V) : Option q_V :=
  q_lt (q_si S 807 (((q_i S 807) - 1))) (fun T1 =>
  if (q_f T1 2000 168) = 1 then
  q_bv (fX4_goOn a1 x2 T1) (fun T3 =>
  fX4_leave_b27 a1 x2 T3)
  else
  fX4_leave_b27 a1 x2 T1)
theorem b_X4_leave {g : q_G} {S0 : kp_S} {a1 : Nat} {x2 : Int32} {S : kp_S} {post : kp_S → Prop} {v : q_V} (R : q_Gd 0 g S0 S) (hb_a1 : a1 < 168) (h : fX4_leave a1 x2 (q_w g S) = some v) (kk : ∀ S, q_Gd 0 g S0 S → v = q_w g S → post S) : wX4_leave (g 0 4 0) (g 2 6 a1) x2 S post := by
  unfold wX4_leave; unfold fX4_leave at h
  intro T1 q
  obtain ⟨R, q⟩ := q_wI R q rfl rfl
  replace h := q_ltw h q
  refine ⟨_, q_p808 R, ?_⟩
  refine ⟨fun c => ?_, fun c => ?_⟩
  · replace h := q_ifn h c
    exact b_X4_leave_b27 R hb_a1 h kk
  · replace h := q_ifp h c
    obtain ⟨v1, h1, h⟩ := q_bvi h
    refine b_X4_goOn R hb_a1 h1 (fun T3 R q => ?_)
    subst q
    exact b_X4_leave_b27 R hb_a1 h kk
def fX4_keepWay_b38 (a1 : Nat) (x2 : Int32) (x3 : Int32) (Sn : q_V) : Option q_V :=
  q_bv (fX4_goOn a1 x3 Sn) (fun T1001 =>
  some T1001)
theorem b_X4_keepWay_b38 {g : q_G} {S0 : kp_S} {a1 : Nat} {x2 : Int32} {x3 : Int32} {Sn : kp_S} {post : kp_S → Prop} {v : q_V} (R : q_Gd 0 g S0 Sn) (hb_a1 : a1 < 168) (h : fX4_keepWay_b38 a1 x2 x3 (q_w g Sn) = some v) (kk : ∀ S, q_Gd 0 g S0 S → v = q_w g S → post S) : wX4_keepWay_b38 (g 0 4 0) (g 2 6 a1) x2 x3 Sn post := by
  unfold wX4_keepWay_b38; unfold fX4_keepWay_b38 at h
  obtain ⟨v1, h1, h⟩ := q_bvi h
  refine b_X4_goOn R hb_a1 h1 (fun T1001 R q => ?_)
  subst q
  exact q_finv h kk R
def fX4_keepWay (a1 : Nat) (x2 : Int32) (x3 : Int32) (S : q_V) : Option q_V :=
  q_bv (fX10_copy a1 168 S) (fun T3 =>
  q_lt (q_sf T3 1201 a1 x2) (fun T4 =>
  if (q_f T4 2000 168) = 4 then
  q_lt (q_si T4 812 ((q_f T4 2001 168))) (fun T6 =>
  fX4_keepWay_b38 a1 x2 x3 T6)
  else
  fX4_keepWay_b38 a1 x2 x3 T4))
theorem b_X4_keepWay {g : q_G} {S0 : kp_S} {a1 : Nat} {x2 : Int32} {x3 : Int32} {S : kp_S} {post : kp_S → Prop} {v : q_V} (R : q_Gd 0 g S0 S) (hb_a1 : a1 < 168) (h : fX4_keepWay a1 x2 x3 (q_w g S) = some v) (kk : ∀ S, q_Gd 0 g S0 S → v = q_w g S → post S) : wX4_keepWay (g 0 4 0) (g 2 6 a1) x2 x3 S post := by
  unfold wX4_keepWay; unfold fX4_keepWay at h
  refine ⟨_, q_p1208 R hb_a1, ?_⟩
  refine ⟨_, q_p808 R, ?_⟩
  obtain ⟨v1, h1, h⟩ := q_bvi h
  refine b_X10_copy R (q_l9 hb_a1) (by decide) h1 (fun T3 R q => ?_)
  subst q
  intro T4 q
  obtain ⟨R, q⟩ := q_wF R q rfl rfl
  replace h := q_ltw h q
  refine ⟨_, q_p808 R, ?_⟩
  refine ⟨fun c => ?_, fun c => ?_⟩
  · replace h := q_ifn h c
    exact b_X4_keepWay_b38 R hb_a1 h kk
  · replace h := q_ifp h c
    intro T6 q
    obtain ⟨R, q⟩ := q_wI R q rfl rfl
    replace h := q_ltw h q
    exact b_X4_keepWay_b38 R hb_a1 h kk
def fX4_takeWayBack_b69 (a1 : Nat) (Sn : q_V) : Option q_V :=
  some Sn
theorem b_X4_takeWayBack_b69 {g : q_G} {S0 : kp_S} {a1 : Nat} {Sn : kp_S} {post : kp_S → Prop} {v : q_V} (R : q_Gd 0 g S0 Sn) (hb_a1 : a1 < 168) (h : fX4_takeWayBack_b69 a1 (q_w g Sn) = some v) (kk : ∀ S, q_Gd 0 g S0 S → v = q_w g S → post S) : wX4_takeWayBack_b69 (g 0 4 0) (g 2 6 a1) Sn post := by
  unfold wX4_takeWayBack_b69; unfold fX4_takeWayBack_b69 at h
  exact q_finv h kk R
def fX4_takeWayBack (a1 : Nat) (S : q_V) : Option q_V :=
  q_lt (q_si S 812 ((q_f S 1207 a1))) (fun T1 =>
  if (q_f T1 2000 168) = 1 then
  q_bv (fX10_copy 168 a1 T1) (fun T11 =>
  fX4_takeWayBack_b69 a1 T11)
  else
  if (q_f T1 2000 a1) = 4 then
  q_bv (fX7_count 14 T1) (fun T5 =>
  q_bv (fX7_write 9 ((q_f T5 2001 a1)) T5) (fun T8 =>
  fX4_takeWayBack_b69 a1 T8))
  else
  fX4_takeWayBack_b69 a1 T1)
theorem b_X4_takeWayBack {g : q_G} {S0 : kp_S} {a1 : Nat} {S : kp_S} {post : kp_S → Prop} {v : q_V} (R : q_Gd 0 g S0 S) (hb_a1 : a1 < 168) (h : fX4_takeWayBack a1 (q_w g S) = some v) (kk : ∀ S, q_Gd 0 g S0 S → v = q_w g S → post S) : wX4_takeWayBack (g 0 4 0) (g 2 6 a1) S post := by
  unfold wX4_takeWayBack; unfold fX4_takeWayBack at h
  intro T1 q
  obtain ⟨R, q⟩ := q_wI R q rfl rfl
  replace h := q_ltw h q
  refine ⟨_, q_p808 R, ?_⟩
  refine ⟨fun c => ?_, fun c => ?_⟩
  · replace h := q_ifn h c
    refine ⟨_, q_p1208 R hb_a1, ?_⟩
    refine ⟨fun c => ?_, fun c => ?_⟩
    · replace h := q_ifn h c
      exact b_X4_takeWayBack_b69 R hb_a1 h kk
    · replace h := q_ifp h c
      refine ⟨_, q_p801 R, ?_⟩
      obtain ⟨v1, h1, h⟩ := q_bvi h
      refine b_X7_count R h1 (fun T5 R q => ?_)
      subst q
      refine ⟨_, q_p801 R, ?_⟩
      refine ⟨_, q_p1208 R hb_a1, ?_⟩
      obtain ⟨v1, h1, h⟩ := q_bvi h
      refine b_X7_write R h1 (fun T8 R q => ?_)
      subst q
      exact b_X4_takeWayBack_b69 R hb_a1 h kk
  · replace h := q_ifp h c
    refine ⟨_, q_p1208 R hb_a1, ?_⟩
    obtain ⟨v1, h1, h⟩ := q_bvi h
    refine b_X10_copy R (by decide) (q_l9 hb_a1) h1 (fun T11 R q => ?_)
    subst q
    exact b_X4_takeWayBack_b69 R hb_a1 h kk
def fX4_leaveHold_b36 (a1 : Nat) (Sn : q_V) : Option q_V :=
  q_bv (fX4_leave a1 ((q_i Sn 810)) Sn) (fun T1001 =>
  some T1001)
theorem b_X4_leaveHold_b36 {g : q_G} {S0 : kp_S} {a1 : Nat} {Sn : kp_S} {post : kp_S → Prop} {v : q_V} (R : q_Gd 0 g S0 Sn) (hb_a1 : a1 < 168) (h : fX4_leaveHold_b36 a1 (q_w g Sn) = some v) (kk : ∀ S, q_Gd 0 g S0 S → v = q_w g S → post S) : wX4_leaveHold_b36 (g 0 4 0) (g 2 6 a1) Sn post := by
  unfold wX4_leaveHold_b36; unfold fX4_leaveHold_b36 at h
  obtain ⟨v1, h1, h⟩ := q_bvi h
  refine b_X4_leave R hb_a1 h1 (fun T1001 R q => ?_)
  subst q
  exact q_finv h kk R
def fX4_leaveHold (a1 : Nat) (S : q_V) : Option q_V :=
  q_bv (fX7_count 7 S) (fun T2 =>
  q_bd (fX1_addHold ((q_f T2 1204 a1)) ((- 1)) T2) (fun y5 T4 =>
  if y5 = 0 then
  q_bv (fX7_write 2 ((q_f T4 1204 a1)) T4) (fun T7 =>
  fX4_leaveHold_b36 a1 T7)
  else
  fX4_leaveHold_b36 a1 T4))
theorem b_X4_leaveHold {g : q_G} {S0 : kp_S} {a1 : Nat} {S : kp_S} {post : kp_S → Prop} {v : q_V} (R : q_Gd 0 g S0 S) (hb_a1 : a1 < 168) (h : fX4_leaveHold a1 (q_w g S) = some v) (kk : ∀ S, q_Gd 0 g S0 S → v = q_w g S → post S) : wX4_leaveHold (g 0 4 0) (g 2 6 a1) S post := by
  unfold wX4_leaveHold; unfold fX4_leaveHold at h
  refine ⟨_, q_p801 R, ?_⟩
  obtain ⟨v1, h1, h⟩ := q_bvi h
  refine b_X7_count R h1 (fun T2 R q => ?_)
  subst q
  refine ⟨_, q_p800 R, ?_⟩
  obtain ⟨y5, v1, h1, h⟩ := q_bdi h
  refine b_X1_addHold R h1 (fun T4 R q => ?_)
  subst q
  refine ⟨fun c => ?_, fun c => ?_⟩
  · replace h := q_ifn h c
    exact b_X4_leaveHold_b36 R hb_a1 h kk
  · replace h := q_ifp h c
    refine ⟨_, q_p801 R, ?_⟩
    obtain ⟨v1, h1, h⟩ := q_bvi h
    refine b_X7_write R h1 (fun T7 R q => ?_)
    subst q
    exact b_X4_leaveHold_b36 R hb_a1 h kk
def fX4_beginAlways_b26 (a1 : Nat) (Sn : q_V) : Option (Int32 × q_V) :=
  some (0, Sn)
theorem b_X4_beginAlways_b26 {g : q_G} {S0 : kp_S} {a1 : Nat} {Sn : kp_S} {post : Int32 → kp_S → Prop} {y : Int32} {v : q_V} (R : q_Gd 0 g S0 Sn) (hb_a1 : a1 < 168) (h : fX4_beginAlways_b26 a1 (q_w g Sn) = some (y, v)) (kk : ∀ S, q_Gd 0 g S0 S → v = q_w g S → post y S) : wX4_beginAlways_b26 (g 0 4 0) (g 2 6 a1) Sn post := by
  unfold wX4_beginAlways_b26; unfold fX4_beginAlways_b26 at h
  exact q_fin h kk R
def fX4_beginAlways (a1 : Nat) (S : q_V) : Option (Int32 × q_V) :=
  q_bd (fX0_get (((q_f S 1202 a1) + 4)) S) (fun y3 T2 =>
  if y3 = 0 then
  fX4_beginAlways_b26 a1 T2
  else
  if (q_f T2 1201 a1) = 3 then
  fX4_beginAlways_b26 a1 T2
  else
  q_bv (fX7_count 9 T2) (fun T5 =>
  q_bd (fX0_get (((q_f T5 1202 a1) + 1)) T5) (fun y9 T8 =>
  q_bv (fX7_write 11 y9 T8) (fun T10 =>
  q_bv (fX4_keepWay a1 3 y3 T10) (fun T11 =>
  some (1, T11))))))
theorem b_X4_beginAlways {g : q_G} {S0 : kp_S} {a1 : Nat} {S : kp_S} {post : Int32 → kp_S → Prop} {y : Int32} {v : q_V} (R : q_Gd 0 g S0 S) (hb_a1 : a1 < 168) (h : fX4_beginAlways a1 (q_w g S) = some (y, v)) (kk : ∀ S, q_Gd 0 g S0 S → v = q_w g S → post y S) : wX4_beginAlways (g 0 4 0) (g 2 6 a1) S post := by
  unfold wX4_beginAlways; unfold fX4_beginAlways at h
  refine ⟨_, q_p809 R, ?_⟩
  obtain ⟨y3, v1, h1, h⟩ := q_bdi h
  refine b_X0_get R h1 (fun T2 R q => ?_)
  subst q
  refine ⟨fun c => ?_, fun c => ?_⟩
  · replace h := q_ifp h c
    exact b_X4_beginAlways_b26 R hb_a1 h kk
  · replace h := q_ifn h c
    refine ⟨fun c => ?_, fun c => ?_⟩
    · replace h := q_ifn h c
      refine ⟨_, q_p801 R, ?_⟩
      obtain ⟨v1, h1, h⟩ := q_bvi h
      refine b_X7_count R h1 (fun T5 R q => ?_)
      subst q
      refine ⟨_, q_p801 R, ?_⟩
      refine ⟨_, q_p809 R, ?_⟩
      obtain ⟨y9, v1, h1, h⟩ := q_bdi h
      refine b_X0_get R h1 (fun T8 R q => ?_)
      subst q
      obtain ⟨v1, h1, h⟩ := q_bvi h
      refine b_X7_write R h1 (fun T10 R q => ?_)
      subst q
      obtain ⟨v1, h1, h⟩ := q_bvi h
      refine b_X4_keepWay R hb_a1 h1 (fun T11 R q => ?_)
      subst q
      exact q_fin h kk R
    · replace h := q_ifp h c
      exact b_X4_beginAlways_b26 R hb_a1 h kk
def fX4_leaveRound_b131 (a1 : Nat) (Sn : q_V) : Option q_V :=
  some Sn
theorem b_X4_leaveRound_b131 {g : q_G} {S0 : kp_S} {a1 : Nat} {Sn : kp_S} {post : kp_S → Prop} {v : q_V} (R : q_Gd 0 g S0 Sn) (hb_a1 : a1 < 168) (h : fX4_leaveRound_b131 a1 (q_w g Sn) = some v) (kk : ∀ S, q_Gd 0 g S0 S → v = q_w g S → post S) : wX4_leaveRound_b131 (g 0 4 0) (g 2 6 a1) Sn post := by
  unfold wX4_leaveRound_b131; unfold fX4_leaveRound_b131 at h
  exact q_finv h kk R
def fX4_leaveRound_b113 (a1 : Nat) (Sn : q_V) : Option q_V :=
  q_bd (fX0_get (((q_f Sn 1202 a1) + 2)) Sn) (fun y2003 T2002 =>
  q_bv (fX4_leave a1 y2003 T2002) (fun T2004 =>
  fX4_leaveRound_b131 a1 T2004))
theorem b_X4_leaveRound_b113 {g : q_G} {S0 : kp_S} {a1 : Nat} {Sn : kp_S} {post : kp_S → Prop} {v : q_V} (R : q_Gd 0 g S0 Sn) (hb_a1 : a1 < 168) (h : fX4_leaveRound_b113 a1 (q_w g Sn) = some v) (kk : ∀ S, q_Gd 0 g S0 S → v = q_w g S → post S) : wX4_leaveRound_b113 (g 0 4 0) (g 2 6 a1) Sn post := by
  unfold wX4_leaveRound_b113; unfold fX4_leaveRound_b113 at h
  refine ⟨_, q_p809 R, ?_⟩
  obtain ⟨y2003, v1, h1, h⟩ := q_bdi h
  refine b_X0_get R h1 (fun T2002 R q => ?_)
  subst q
  obtain ⟨v1, h1, h⟩ := q_bvi h
  refine b_X4_leave R hb_a1 h1 (fun T2004 R q => ?_)
  subst q
  exact b_X4_leaveRound_b131 R hb_a1 h kk
def fX4_leaveRound_b67 (a1 : Nat) (xn2 : Int32) (Sn : q_V) : Option q_V :=
  if (q_f Sn 2000 168) = 8 then
  if xn2 = 0 then
  fX4_leaveRound_b113 a1 Sn
  else
  q_bv (fX10_become 168 1 0 Sn) (fun T3002 =>
  q_bd (fX0_get (((q_f T3002 1202 a1) + 3)) T3002) (fun y3005 T3004 =>
  q_bv (fX4_leave a1 y3005 T3004) (fun T3006 =>
  fX4_leaveRound_b131 a1 T3006)))
  else
  fX4_leaveRound_b113 a1 Sn
theorem b_X4_leaveRound_b67 {g : q_G} {S0 : kp_S} {a1 : Nat} {xn2 : Int32} {Sn : kp_S} {post : kp_S → Prop} {v : q_V} (R : q_Gd 0 g S0 Sn) (hb_a1 : a1 < 168) (h : fX4_leaveRound_b67 a1 xn2 (q_w g Sn) = some v) (kk : ∀ S, q_Gd 0 g S0 S → v = q_w g S → post S) : wX4_leaveRound_b67 (g 0 4 0) (g 2 6 a1) xn2 Sn post := by
  unfold wX4_leaveRound_b67; unfold fX4_leaveRound_b67 at h
  refine ⟨_, q_p808 R, ?_⟩
  refine ⟨fun c => ?_, fun c => ?_⟩
  · replace h := q_ifn h c
    exact b_X4_leaveRound_b113 R hb_a1 h kk
  · replace h := q_ifp h c
    refine ⟨fun c => ?_, fun c => ?_⟩
    · replace h := q_ifp h c
      exact b_X4_leaveRound_b113 R hb_a1 h kk
    · replace h := q_ifn h c
      obtain ⟨v1, h1, h⟩ := q_bvi h
      refine b_X10_become R (by decide) h1 (fun T3002 R q => ?_)
      subst q
      refine ⟨_, q_p809 R, ?_⟩
      obtain ⟨y3005, v1, h1, h⟩ := q_bdi h
      refine b_X0_get R h1 (fun T3004 R q => ?_)
      subst q
      obtain ⟨v1, h1, h⟩ := q_bvi h
      refine b_X4_leave R hb_a1 h1 (fun T3006 R q => ?_)
      subst q
      exact b_X4_leaveRound_b131 R hb_a1 h kk
def fX4_leaveRound_b41 (a1 : Nat) (xt0 : Int32) (Sn : q_V) : Option q_V :=
  if (q_f Sn 2000 168) = 16 then
  if xt0 = 0 then
  fX4_leaveRound_b67 a1 xt0 Sn
  else
  q_bv (fX10_become 168 1 0 Sn) (fun T4002 =>
  fX4_leaveRound_b67 a1 xt0 T4002)
  else
  fX4_leaveRound_b67 a1 xt0 Sn
theorem b_X4_leaveRound_b41 {g : q_G} {S0 : kp_S} {a1 : Nat} {xt0 : Int32} {Sn : kp_S} {post : kp_S → Prop} {v : q_V} (R : q_Gd 0 g S0 Sn) (hb_a1 : a1 < 168) (h : fX4_leaveRound_b41 a1 xt0 (q_w g Sn) = some v) (kk : ∀ S, q_Gd 0 g S0 S → v = q_w g S → post S) : wX4_leaveRound_b41 (g 0 4 0) (g 2 6 a1) xt0 Sn post := by
  unfold wX4_leaveRound_b41; unfold fX4_leaveRound_b41 at h
  refine ⟨_, q_p808 R, ?_⟩
  refine ⟨fun c => ?_, fun c => ?_⟩
  · replace h := q_ifn h c
    exact b_X4_leaveRound_b67 R hb_a1 h kk
  · replace h := q_ifp h c
    refine ⟨fun c => ?_, fun c => ?_⟩
    · replace h := q_ifp h c
      exact b_X4_leaveRound_b67 R hb_a1 h kk
    · replace h := q_ifn h c
      obtain ⟨v1, h1, h⟩ := q_bvi h
      refine b_X10_become R (by decide) h1 (fun T4002 R q => ?_)
      subst q
      exact b_X4_leaveRound_b67 R hb_a1 h kk
def fX4_leaveRound_b22 (a1 : Nat) (Sn : q_V) : Option q_V :=
  if (q_f Sn 2001 168) = (q_f Sn 1202 a1) then
  fX4_leaveRound_b41 a1 1 Sn
  else
  fX4_leaveRound_b41 a1 0 Sn
theorem b_X4_leaveRound_b22 {g : q_G} {S0 : kp_S} {a1 : Nat} {Sn : kp_S} {post : kp_S → Prop} {v : q_V} (R : q_Gd 0 g S0 Sn) (hb_a1 : a1 < 168) (h : fX4_leaveRound_b22 a1 (q_w g Sn) = some v) (kk : ∀ S, q_Gd 0 g S0 S → v = q_w g S → post S) : wX4_leaveRound_b22 (g 0 4 0) (g 2 6 a1) Sn post := by
  unfold wX4_leaveRound_b22; unfold fX4_leaveRound_b22 at h
  refine ⟨_, q_p808 R, ?_⟩
  refine ⟨fun c => ?_, fun c => ?_⟩
  · replace h := q_ifn h c
    exact b_X4_leaveRound_b41 R hb_a1 h kk
  · replace h := q_ifp h c
    exact b_X4_leaveRound_b41 R hb_a1 h kk
def fX4_leaveRound (a1 : Nat) (S : q_V) : Option q_V :=
  q_bd (fX4_beginAlways a1 S) (fun y2 T1 =>
  if y2 = 0 then
  if (q_f T1 1201 a1) = 3 then
  q_bv (fX4_takeWayBack a1 T1) (fun T3 =>
  fX4_leaveRound_b22 a1 T3)
  else
  fX4_leaveRound_b22 a1 T1
  else
  some T1)
theorem b_X4_leaveRound {g : q_G} {S0 : kp_S} {a1 : Nat} {S : kp_S} {post : kp_S → Prop} {v : q_V} (R : q_Gd 0 g S0 S) (hb_a1 : a1 < 168) (h : fX4_leaveRound a1 (q_w g S) = some v) (kk : ∀ S, q_Gd 0 g S0 S → v = q_w g S → post S) : wX4_leaveRound (g 0 4 0) (g 2 6 a1) S post := by
  unfold wX4_leaveRound; unfold fX4_leaveRound at h
  obtain ⟨y2, v1, h1, h⟩ := q_bdi h
  refine b_X4_beginAlways R hb_a1 h1 (fun T1 R q => ?_)
  subst q
  refine ⟨fun c => ?_, fun c => ?_⟩
  · replace h := q_ifp h c
    refine ⟨fun c => ?_, fun c => ?_⟩
    · replace h := q_ifn h c
      exact b_X4_leaveRound_b22 R hb_a1 h kk
    · replace h := q_ifp h c
      obtain ⟨v1, h1, h⟩ := q_bvi h
      refine b_X4_takeWayBack R hb_a1 h1 (fun T3 R q => ?_)
      subst q
      exact b_X4_leaveRound_b22 R hb_a1 h kk
  · replace h := q_ifn h c
    exact q_finv h kk R
def fX4_leaveTry_b118 (a1 : Nat) (Sn : q_V) : Option q_V :=
  some Sn
theorem b_X4_leaveTry_b118 {g : q_G} {S0 : kp_S} {a1 : Nat} {Sn : kp_S} {post : kp_S → Prop} {v : q_V} (R : q_Gd 0 g S0 Sn) (hb_a1 : a1 < 168) (h : fX4_leaveTry_b118 a1 (q_w g Sn) = some v) (kk : ∀ S, q_Gd 0 g S0 S → v = q_w g S → post S) : wX4_leaveTry_b118 (g 0 4 0) (g 2 6 a1) Sn post := by
  unfold wX4_leaveTry_b118; unfold fX4_leaveTry_b118 at h
  exact q_finv h kk R
def fX4_leaveTry_b92 (a1 : Nat) (Sn : q_V) : Option q_V :=
  q_bd (fX4_beginAlways a1 Sn) (fun y2002 T2001 =>
  if y2002 = 0 then
  q_bd (fX0_get (((q_f T2001 1202 a1) + 3)) T2001) (fun y2005 T2004 =>
  q_bv (fX4_leave a1 y2005 T2004) (fun T2006 =>
  fX4_leaveTry_b118 a1 T2006))
  else
  fX4_leaveTry_b118 a1 T2001)
theorem b_X4_leaveTry_b92 {g : q_G} {S0 : kp_S} {a1 : Nat} {Sn : kp_S} {post : kp_S → Prop} {v : q_V} (R : q_Gd 0 g S0 Sn) (hb_a1 : a1 < 168) (h : fX4_leaveTry_b92 a1 (q_w g Sn) = some v) (kk : ∀ S, q_Gd 0 g S0 S → v = q_w g S → post S) : wX4_leaveTry_b92 (g 0 4 0) (g 2 6 a1) Sn post := by
  unfold wX4_leaveTry_b92; unfold fX4_leaveTry_b92 at h
  obtain ⟨y2002, v1, h1, h⟩ := q_bdi h
  refine b_X4_beginAlways R hb_a1 h1 (fun T2001 R q => ?_)
  subst q
  refine ⟨fun c => ?_, fun c => ?_⟩
  · replace h := q_ifn h c
    exact b_X4_leaveTry_b118 R hb_a1 h kk
  · replace h := q_ifp h c
    refine ⟨_, q_p809 R, ?_⟩
    obtain ⟨y2005, v1, h1, h⟩ := q_bdi h
    refine b_X0_get R h1 (fun T2004 R q => ?_)
    subst q
    obtain ⟨v1, h1, h⟩ := q_bvi h
    refine b_X4_leave R hb_a1 h1 (fun T2006 R q => ?_)
    subst q
    exact b_X4_leaveTry_b118 R hb_a1 h kk
def fX4_leaveTry_b61 (a1 : Nat) (Sn : q_V) : Option q_V :=
  if (q_f Sn 1201 a1) = 2 then
  q_lt (q_si Sn 812 ((q_f Sn 1207 a1))) (fun T3003 =>
  fX4_leaveTry_b92 a1 T3003)
  else
  if (q_f Sn 1201 a1) = 0 then
  fX4_leaveTry_b92 a1 Sn
  else
  q_bv (fX4_takeWayBack a1 Sn) (fun T3001 =>
  fX4_leaveTry_b92 a1 T3001)
theorem b_X4_leaveTry_b61 {g : q_G} {S0 : kp_S} {a1 : Nat} {Sn : kp_S} {post : kp_S → Prop} {v : q_V} (R : q_Gd 0 g S0 Sn) (hb_a1 : a1 < 168) (h : fX4_leaveTry_b61 a1 (q_w g Sn) = some v) (kk : ∀ S, q_Gd 0 g S0 S → v = q_w g S → post S) : wX4_leaveTry_b61 (g 0 4 0) (g 2 6 a1) Sn post := by
  unfold wX4_leaveTry_b61; unfold fX4_leaveTry_b61 at h
  refine ⟨fun c => ?_, fun c => ?_⟩
  · replace h := q_ifn h c
    refine ⟨fun c => ?_, fun c => ?_⟩
    · replace h := q_ifp h c
      exact b_X4_leaveTry_b92 R hb_a1 h kk
    · replace h := q_ifn h c
      obtain ⟨v1, h1, h⟩ := q_bvi h
      refine b_X4_takeWayBack R hb_a1 h1 (fun T3001 R q => ?_)
      subst q
      exact b_X4_leaveTry_b92 R hb_a1 h kk
  · replace h := q_ifp h c
    intro T3003 q
    obtain ⟨R, q⟩ := q_wI R q rfl rfl
    replace h := q_ltw h q
    exact b_X4_leaveTry_b92 R hb_a1 h kk
def fX4_leaveTry (a1 : Nat) (S : q_V) : Option q_V :=
  q_bd (fX0_get (((q_f S 1202 a1) + 2)) S) (fun y3 T2 =>
  if (q_f T2 1201 a1) = 0 then
  if (q_f T2 2000 168) = 4 then
  if y3 = 0 then
  fX4_leaveTry_b61 a1 T2
  else
  q_bd (fX0_get (((q_f T2 1202 a1) + 1)) T2) (fun y7 T6 =>
  q_lt (q_si T6 811 y7) (fun T8 =>
  q_bv (fX4_keepWay a1 1 y3 T8) (fun T9 =>
  some T9)))
  else
  fX4_leaveTry_b61 a1 T2
  else
  fX4_leaveTry_b61 a1 T2)
theorem b_X4_leaveTry {g : q_G} {S0 : kp_S} {a1 : Nat} {S : kp_S} {post : kp_S → Prop} {v : q_V} (R : q_Gd 0 g S0 S) (hb_a1 : a1 < 168) (h : fX4_leaveTry a1 (q_w g S) = some v) (kk : ∀ S, q_Gd 0 g S0 S → v = q_w g S → post S) : wX4_leaveTry (g 0 4 0) (g 2 6 a1) S post := by
  unfold wX4_leaveTry; unfold fX4_leaveTry at h
  refine ⟨_, q_p809 R, ?_⟩
  obtain ⟨y3, v1, h1, h⟩ := q_bdi h
  refine b_X0_get R h1 (fun T2 R q => ?_)
  subst q
  refine ⟨fun c => ?_, fun c => ?_⟩
  · replace h := q_ifn h c
    exact b_X4_leaveTry_b61 R hb_a1 h kk
  · replace h := q_ifp h c
    refine ⟨_, q_p808 R, ?_⟩
    refine ⟨fun c => ?_, fun c => ?_⟩
    · replace h := q_ifn h c
      exact b_X4_leaveTry_b61 R hb_a1 h kk
    · replace h := q_ifp h c
      refine ⟨fun c => ?_, fun c => ?_⟩
      · replace h := q_ifp h c
        exact b_X4_leaveTry_b61 R hb_a1 h kk
      · replace h := q_ifn h c
        refine ⟨_, q_p809 R, ?_⟩
        obtain ⟨y7, v1, h1, h⟩ := q_bdi h
        refine b_X0_get R h1 (fun T6 R q => ?_)
        subst q
        intro T8 q
        obtain ⟨R, q⟩ := q_wI R q rfl rfl
        replace h := q_ltw h q
        obtain ⟨v1, h1, h⟩ := q_bvi h
        refine b_X4_keepWay R hb_a1 h1 (fun T9 R q => ?_)
        subst q
        exact q_finv h kk R
def fX4_leaveEnsure_b70 (a1 : Nat) (Sn : q_V) : Option q_V :=
  some Sn
theorem b_X4_leaveEnsure_b70 {g : q_G} {S0 : kp_S} {a1 : Nat} {Sn : kp_S} {post : kp_S → Prop} {v : q_V} (R : q_Gd 0 g S0 Sn) (hb_a1 : a1 < 168) (h : fX4_leaveEnsure_b70 a1 (q_w g Sn) = some v) (kk : ∀ S, q_Gd 0 g S0 S → v = q_w g S → post S) : wX4_leaveEnsure_b70 (g 0 4 0) (g 2 6 a1) Sn post := by
  unfold wX4_leaveEnsure_b70; unfold fX4_leaveEnsure_b70 at h
  exact q_finv h kk R
def fX4_leaveEnsure (a1 : Nat) (S : q_V) : Option q_V :=
  if (q_f S 1201 a1) = 1 then
  q_bv (fX4_takeWayBack a1 S) (fun T9 =>
  q_bd (fX0_get (((q_f T9 1202 a1) + 3)) T9) (fun y12 T11 =>
  q_bv (fX4_leave a1 y12 T11) (fun T13 =>
  fX4_leaveEnsure_b70 a1 T13)))
  else
  q_bd (fX4_spend S) (fun y2 T1 =>
  if y2 = 0 then
  fX4_leaveEnsure_b70 a1 T1
  else
  q_bd (fX0_get (((q_f T1 1202 a1) + 1)) T1) (fun y5 T4 =>
  q_lt (q_si T4 811 y5) (fun T6 =>
  q_bv (fX4_keepWay a1 1 (((q_f T6 1202 a1) + 5)) T6) (fun T7 =>
  fX4_leaveEnsure_b70 a1 T7))))
theorem b_X4_leaveEnsure {g : q_G} {S0 : kp_S} {a1 : Nat} {S : kp_S} {post : kp_S → Prop} {v : q_V} (R : q_Gd 0 g S0 S) (hb_a1 : a1 < 168) (h : fX4_leaveEnsure a1 (q_w g S) = some v) (kk : ∀ S, q_Gd 0 g S0 S → v = q_w g S → post S) : wX4_leaveEnsure (g 0 4 0) (g 2 6 a1) S post := by
  unfold wX4_leaveEnsure; unfold fX4_leaveEnsure at h
  refine ⟨fun c => ?_, fun c => ?_⟩
  · replace h := q_ifn h c
    obtain ⟨y2, v1, h1, h⟩ := q_bdi h
    refine b_X4_spend R h1 (fun T1 R q => ?_)
    subst q
    refine ⟨fun c => ?_, fun c => ?_⟩
    · replace h := q_ifp h c
      exact b_X4_leaveEnsure_b70 R hb_a1 h kk
    · replace h := q_ifn h c
      refine ⟨_, q_p809 R, ?_⟩
      obtain ⟨y5, v1, h1, h⟩ := q_bdi h
      refine b_X0_get R h1 (fun T4 R q => ?_)
      subst q
      intro T6 q
      obtain ⟨R, q⟩ := q_wI R q rfl rfl
      replace h := q_ltw h q
      obtain ⟨v1, h1, h⟩ := q_bvi h
      refine b_X4_keepWay R hb_a1 h1 (fun T7 R q => ?_)
      subst q
      exact b_X4_leaveEnsure_b70 R hb_a1 h kk
  · replace h := q_ifp h c
    obtain ⟨v1, h1, h⟩ := q_bvi h
    refine b_X4_takeWayBack R hb_a1 h1 (fun T9 R q => ?_)
    subst q
    refine ⟨_, q_p809 R, ?_⟩
    obtain ⟨y12, v1, h1, h⟩ := q_bdi h
    refine b_X0_get R h1 (fun T11 R q => ?_)
    subst q
    obtain ⟨v1, h1, h⟩ := q_bvi h
    refine b_X4_leave R hb_a1 h1 (fun T13 R q => ?_)
    subst q
    exact b_X4_leaveEnsure_b70 R hb_a1 h kk
def fX4_endCall_b109 (a1 : Nat) (Sn : q_V) : Option q_V :=
  some Sn
theorem b_X4_endCall_b109 {g : q_G} {S0 : kp_S} {a1 : Nat} {Sn : kp_S} {post : kp_S → Prop} {v : q_V} (R : q_Gd 0 g S0 Sn) (hb_a1 : a1 < 168) (h : fX4_endCall_b109 a1 (q_w g Sn) = some v) (kk : ∀ S, q_Gd 0 g S0 S → v = q_w g S → post S) : wX4_endCall_b109 (g 0 4 0) (g 2 6 a1) Sn post := by
  unfold wX4_endCall_b109; unfold fX4_endCall_b109 at h
  exact q_finv h kk R
def fX4_endCall_b86 (a1 : Nat) (xt0 : Int32) (Sn : q_V) : Option q_V :=
  q_bv (fX4_goOn a1 ((q_f Sn 1205 a1)) Sn) (fun T2001 =>
  q_lt (q_si T2001 811 ((q_f T2001 1206 a1))) (fun T2002 =>
  q_bv (fX4_push xt0 T2002) (fun T2003 =>
  fX4_endCall_b109 a1 T2003)))
theorem b_X4_endCall_b86 {g : q_G} {S0 : kp_S} {a1 : Nat} {xt0 : Int32} {Sn : kp_S} {post : kp_S → Prop} {v : q_V} (R : q_Gd 0 g S0 Sn) (hb_a1 : a1 < 168) (h : fX4_endCall_b86 a1 xt0 (q_w g Sn) = some v) (kk : ∀ S, q_Gd 0 g S0 S → v = q_w g S → post S) : wX4_endCall_b86 (g 0 4 0) (g 2 6 a1) xt0 Sn post := by
  unfold wX4_endCall_b86; unfold fX4_endCall_b86 at h
  obtain ⟨v1, h1, h⟩ := q_bvi h
  refine b_X4_goOn R hb_a1 h1 (fun T2001 R q => ?_)
  subst q
  intro T2002 q
  obtain ⟨R, q⟩ := q_wI R q rfl rfl
  replace h := q_ltw h q
  obtain ⟨v1, h1, h⟩ := q_bvi h
  refine b_X4_push R h1 (fun T2003 R q => ?_)
  subst q
  exact b_X4_endCall_b109 R hb_a1 h kk
def fX4_endCall_b54 (a1 : Nat) (xt0 : Int32) (Sn : q_V) : Option q_V :=
  q_lt (q_si Sn 814 xt0) (fun T3001 =>
  fX4_endCall_b109 a1 T3001)
theorem b_X4_endCall_b54 {g : q_G} {S0 : kp_S} {a1 : Nat} {xt0 : Int32} {Sn : kp_S} {post : kp_S → Prop} {v : q_V} (R : q_Gd 0 g S0 Sn) (hb_a1 : a1 < 168) (h : fX4_endCall_b54 a1 xt0 (q_w g Sn) = some v) (kk : ∀ S, q_Gd 0 g S0 S → v = q_w g S → post S) : wX4_endCall_b54 (g 0 4 0) (g 2 6 a1) xt0 (g 0 4 0) Sn post := by
  unfold wX4_endCall_b54; unfold fX4_endCall_b54 at h
  intro T3001 q
  obtain ⟨R, q⟩ := q_wI R q rfl rfl
  replace h := q_ltw h q
  exact b_X4_endCall_b109 R hb_a1 h kk
def fX4_endCall_b36 (a1 : Nat) (xt0 : Int32) (Sn : q_V) : Option q_V :=
  if 0 < (q_i Sn 807) then
  if xt0 = 0 then
  if (q_f Sn 2000 168) = 2 then
  fX4_endCall_b86 a1 ((q_f Sn 2001 168)) Sn
  else
  fX4_endCall_b86 a1 0 Sn
  else
  fX4_endCall_b109 a1 Sn
  else
  if xt0 = 0 then
  fX4_endCall_b54 a1 0 Sn
  else
  fX4_endCall_b54 a1 3 Sn
theorem b_X4_endCall_b36 {g : q_G} {S0 : kp_S} {a1 : Nat} {xt0 : Int32} {Sn : kp_S} {post : kp_S → Prop} {v : q_V} (R : q_Gd 0 g S0 Sn) (hb_a1 : a1 < 168) (h : fX4_endCall_b36 a1 xt0 (q_w g Sn) = some v) (kk : ∀ S, q_Gd 0 g S0 S → v = q_w g S → post S) : wX4_endCall_b36 (g 0 4 0) (g 2 6 a1) xt0 Sn post := by
  unfold wX4_endCall_b36; unfold fX4_endCall_b36 at h
  refine ⟨fun c => ?_, fun c => ?_⟩
  · replace h := q_ifp h c
    refine ⟨fun c => ?_, fun c => ?_⟩
    · replace h := q_ifn h c
      exact b_X4_endCall_b109 R hb_a1 h kk
    · replace h := q_ifp h c
      refine ⟨_, q_p808 R, ?_⟩
      refine ⟨fun c => ?_, fun c => ?_⟩
      · replace h := q_ifn h c
        exact b_X4_endCall_b86 R hb_a1 h kk
      · replace h := q_ifp h c
        exact b_X4_endCall_b86 R hb_a1 h kk
  · replace h := q_ifn h c
    refine ⟨fun c => ?_, fun c => ?_⟩
    · replace h := q_ifp h c
      exact b_X4_endCall_b54 R hb_a1 h kk
    · replace h := q_ifn h c
      exact b_X4_endCall_b54 R hb_a1 h kk
def fX4_endCall (a1 : Nat) (S : q_V) : Option q_V :=
  q_lt (q_si S 807 (((q_i S 807) - 1))) (fun T1 =>
  q_lt (q_si T1 805 (((q_i T1 805) - 1))) (fun T2 =>
  if (q_f T2 2000 168) = 4 then
  fX4_endCall_b36 a1 1 T2
  else
  fX4_endCall_b36 a1 0 T2))
theorem b_X4_endCall {g : q_G} {S0 : kp_S} {a1 : Nat} {S : kp_S} {post : kp_S → Prop} {v : q_V} (R : q_Gd 0 g S0 S) (hb_a1 : a1 < 168) (h : fX4_endCall a1 (q_w g S) = some v) (kk : ∀ S, q_Gd 0 g S0 S → v = q_w g S → post S) : wX4_endCall (g 0 4 0) (g 2 6 a1) S post := by
  unfold wX4_endCall; unfold fX4_endCall at h
  intro T1 q
  obtain ⟨R, q⟩ := q_wI R q rfl rfl
  replace h := q_ltw h q
  intro T2 q
  obtain ⟨R, q⟩ := q_wI R q rfl rfl
  replace h := q_ltw h q
  refine ⟨_, q_p808 R, ?_⟩
  refine ⟨fun c => ?_, fun c => ?_⟩
  · replace h := q_ifn h c
    exact b_X4_endCall_b36 R hb_a1 h kk
  · replace h := q_ifp h c
    exact b_X4_endCall_b36 R hb_a1 h kk
def fX4_leaveCall_b76 (a1 : Nat) (Sn : q_V) : Option q_V :=
  some Sn
theorem b_X4_leaveCall_b76 {g : q_G} {S0 : kp_S} {a1 : Nat} {Sn : kp_S} {post : kp_S → Prop} {v : q_V} (R : q_Gd 0 g S0 Sn) (hb_a1 : a1 < 168) (h : fX4_leaveCall_b76 a1 (q_w g Sn) = some v) (kk : ∀ S, q_Gd 0 g S0 S → v = q_w g S → post S) : wX4_leaveCall_b76 (g 0 4 0) (g 2 6 a1) Sn post := by
  unfold wX4_leaveCall_b76; unfold fX4_leaveCall_b76 at h
  exact q_finv h kk R
def fX4_leaveCall_b13 (a1 : Nat) (Sn : q_V) : Option q_V :=
  q_bd (fX4_frame Sn) (fun b2002 T2001 =>
  q_bd (fX3_hasLater b2002 T2001) (fun y2004 T2003 =>
  if y2004 = 0 then
  q_bv (fX4_endCall a1 T2003) (fun T2005 =>
  fX4_leaveCall_b76 a1 T2005)
  else
  q_bd (fX4_frame T2003) (fun b2007 T2006 =>
  q_bd (fX3_takeLater b2007 T2006) (fun y2009 T2008 =>
  q_bv (fX7_count 11 T2008) (fun T2011 =>
  q_bd (fX0_get ((y2009 + 1)) T2011) (fun y2015 T2014 =>
  q_bv (fX7_write 10 y2015 T2014) (fun T2016 =>
  q_bv (fX4_keepWay a1 3 ((y2009 + 5)) T2016) (fun T2017 =>
  fX4_leaveCall_b76 a1 T2017))))))))
theorem b_X4_leaveCall_b13 {g : q_G} {S0 : kp_S} {a1 : Nat} {Sn : kp_S} {post : kp_S → Prop} {v : q_V} (R : q_Gd 0 g S0 Sn) (hb_a1 : a1 < 168) (h : fX4_leaveCall_b13 a1 (q_w g Sn) = some v) (kk : ∀ S, q_Gd 0 g S0 S → v = q_w g S → post S) : wX4_leaveCall_b13 (g 0 4 0) (g 2 6 a1) Sn post := by
  unfold wX4_leaveCall_b13; unfold fX4_leaveCall_b13 at h
  obtain ⟨b2002, v1, h1, h⟩ := q_bdi h
  refine b_X4_frame R h1 (fun T2001 R q hb_b2002 => ?_)
  subst q
  obtain ⟨y2004, v1, h1, h⟩ := q_bdi h
  refine b_X3_hasLater R hb_b2002 h1 (fun T2003 R q => ?_)
  subst q
  refine ⟨fun c => ?_, fun c => ?_⟩
  · replace h := q_ifp h c
    obtain ⟨v1, h1, h⟩ := q_bvi h
    refine b_X4_endCall R hb_a1 h1 (fun T2005 R q => ?_)
    subst q
    exact b_X4_leaveCall_b76 R hb_a1 h kk
  · replace h := q_ifn h c
    obtain ⟨b2007, v1, h1, h⟩ := q_bdi h
    refine b_X4_frame R h1 (fun T2006 R q hb_b2007 => ?_)
    subst q
    obtain ⟨y2009, v1, h1, h⟩ := q_bdi h
    refine b_X3_takeLater R hb_b2007 h1 (fun T2008 R q => ?_)
    subst q
    refine ⟨_, q_p801 R, ?_⟩
    obtain ⟨v1, h1, h⟩ := q_bvi h
    refine b_X7_count R h1 (fun T2011 R q => ?_)
    subst q
    refine ⟨_, q_p801 R, ?_⟩
    refine ⟨_, q_p809 R, ?_⟩
    obtain ⟨y2015, v1, h1, h⟩ := q_bdi h
    refine b_X0_get R h1 (fun T2014 R q => ?_)
    subst q
    obtain ⟨v1, h1, h⟩ := q_bvi h
    refine b_X7_write R h1 (fun T2016 R q => ?_)
    subst q
    obtain ⟨v1, h1, h⟩ := q_bvi h
    refine b_X4_keepWay R hb_a1 h1 (fun T2017 R q => ?_)
    subst q
    exact b_X4_leaveCall_b76 R hb_a1 h kk
def fX4_leaveCall (a1 : Nat) (S : q_V) : Option q_V :=
  if (q_f S 1201 a1) = 3 then
  q_bv (fX4_takeWayBack a1 S) (fun T1 =>
  fX4_leaveCall_b13 a1 T1)
  else
  fX4_leaveCall_b13 a1 S
theorem b_X4_leaveCall {g : q_G} {S0 : kp_S} {a1 : Nat} {S : kp_S} {post : kp_S → Prop} {v : q_V} (R : q_Gd 0 g S0 S) (hb_a1 : a1 < 168) (h : fX4_leaveCall a1 (q_w g S) = some v) (kk : ∀ S, q_Gd 0 g S0 S → v = q_w g S → post S) : wX4_leaveCall (g 0 4 0) (g 2 6 a1) S post := by
  unfold wX4_leaveCall; unfold fX4_leaveCall at h
  refine ⟨fun c => ?_, fun c => ?_⟩
  · replace h := q_ifn h c
    exact b_X4_leaveCall_b13 R hb_a1 h kk
  · replace h := q_ifp h c
    obtain ⟨v1, h1, h⟩ := q_bvi h
    refine b_X4_takeWayBack R hb_a1 h1 (fun T1 R q => ?_)
    subst q
    exact b_X4_leaveCall_b13 R hb_a1 h kk
def fX4_leaveTop_b85 (Sn : q_V) : Option q_V :=
  some Sn
theorem b_X4_leaveTop_b85 {g : q_G} {S0 : kp_S} {Sn : kp_S} {post : kp_S → Prop} {v : q_V} (R : q_Gd 0 g S0 Sn)  (h : fX4_leaveTop_b85 (q_w g Sn) = some v) (kk : ∀ S, q_Gd 0 g S0 S → v = q_w g S → post S) : wX4_leaveTop_b85 (g 0 4 0) Sn post := by
  unfold wX4_leaveTop_b85; unfold fX4_leaveTop_b85 at h
  exact q_finv h kk R
def fX4_leaveTop_b80 (an1 : Nat) (Sn : q_V) : Option q_V :=
  q_bv (fX4_leaveCall an1 Sn) (fun T2001 =>
  fX4_leaveTop_b85 T2001)
theorem b_X4_leaveTop_b80 {g : q_G} {S0 : kp_S} {an1 : Nat} {Sn : kp_S} {post : kp_S → Prop} {v : q_V} (R : q_Gd 0 g S0 Sn) (hb_an1 : an1 < 168) (h : fX4_leaveTop_b80 an1 (q_w g Sn) = some v) (kk : ∀ S, q_Gd 0 g S0 S → v = q_w g S → post S) : wX4_leaveTop_b80 (g 0 4 0) (g 2 6 an1) Sn post := by
  unfold wX4_leaveTop_b80; unfold fX4_leaveTop_b80 at h
  obtain ⟨v1, h1, h⟩ := q_bvi h
  refine b_X4_leaveCall R hb_an1 h1 (fun T2001 R q => ?_)
  subst q
  exact b_X4_leaveTop_b85 R h kk
def fX4_leaveTop (S : q_V) : Option q_V :=
  q_bd (fX4_top S) (fun b2 T1 =>
  q_lt ((q_f T1 1200 b2) : Int32) (fun y3 =>
  if y3 = 45 then
  q_bv (fX4_leaveHold b2 T1) (fun T5 =>
  fX4_leaveTop_b85 T5)
  else
  if y3 = 46 then
  q_bv (fX4_leaveRound b2 T1) (fun T7 =>
  fX4_leaveTop_b85 T7)
  else
  if y3 = 47 then
  q_bv (fX4_leaveTry b2 T1) (fun T9 =>
  fX4_leaveTop_b85 T9)
  else
  if y3 = 48 then
  fX4_leaveTop_b80 b2 T1
  else
  if y3 = 49 then
  fX4_leaveTop_b80 b2 T1
  else
  if y3 = 50 then
  q_bv (fX4_leaveEnsure b2 T1) (fun T13 =>
  fX4_leaveTop_b85 T13)
  else
  fX4_leaveTop_b80 b2 T1))
theorem b_X4_leaveTop {g : q_G} {S0 : kp_S} {S : kp_S} {post : kp_S → Prop} {v : q_V} (R : q_Gd 0 g S0 S)  (h : fX4_leaveTop (q_w g S) = some v) (kk : ∀ S, q_Gd 0 g S0 S → v = q_w g S → post S) : wX4_leaveTop (g 0 4 0) S post := by
  unfold wX4_leaveTop; unfold fX4_leaveTop at h
  obtain ⟨b2, v1, h1, h⟩ := q_bdi h
  refine b_X4_top R h1 (fun T1 R q hb_b2 => ?_)
  subst q
  intro y3 q
  replace h := q_ltw h q
  refine ⟨fun c => ?_, fun c => ?_⟩
  · replace h := q_ifp h c
    obtain ⟨v1, h1, h⟩ := q_bvi h
    refine b_X4_leaveHold R hb_b2 h1 (fun T5 R q => ?_)
    subst q
    exact b_X4_leaveTop_b85 R h kk
  · replace h := q_ifn h c
    refine ⟨fun c => ?_, fun c => ?_⟩
    · replace h := q_ifp h c
      obtain ⟨v1, h1, h⟩ := q_bvi h
      refine b_X4_leaveRound R hb_b2 h1 (fun T7 R q => ?_)
      subst q
      exact b_X4_leaveTop_b85 R h kk
    · replace h := q_ifn h c
      refine ⟨fun c => ?_, fun c => ?_⟩
      · replace h := q_ifp h c
        obtain ⟨v1, h1, h⟩ := q_bvi h
        refine b_X4_leaveTry R hb_b2 h1 (fun T9 R q => ?_)
        subst q
        exact b_X4_leaveTop_b85 R h kk
      · replace h := q_ifn h c
        refine ⟨fun c => ?_, fun c => ?_⟩
        · replace h := q_ifp h c
          exact b_X4_leaveTop_b80 R hb_b2 h kk
        · replace h := q_ifn h c
          refine ⟨fun c => ?_, fun c => ?_⟩
          · replace h := q_ifp h c
            exact b_X4_leaveTop_b80 R hb_b2 h kk
          · replace h := q_ifn h c
            refine ⟨fun c => ?_, fun c => ?_⟩
            · replace h := q_ifp h c
              obtain ⟨v1, h1, h⟩ := q_bvi h
              refine b_X4_leaveEnsure R hb_b2 h1 (fun T13 R q => ?_)
              subst q
              exact b_X4_leaveTop_b85 R h kk
            · replace h := q_ifn h c
              exact b_X4_leaveTop_b80 R hb_b2 h kk
def fX4_step_b80 (Sn : q_V) : Option q_V :=
  some Sn
theorem b_X4_step_b80 {g : q_G} {S0 : kp_S} {Sn : kp_S} {post : kp_S → Prop} {v : q_V} (R : q_Gd 0 g S0 Sn)  (h : fX4_step_b80 (q_w g Sn) = some v) (kk : ∀ S, q_Gd 0 g S0 S → v = q_w g S → post S) : wX4_step_b80 (g 0 4 0) Sn post := by
  unfold wX4_step_b80; unfold fX4_step_b80 at h
  exact q_finv h kk R
def fX4_step (S : q_V) : Option q_V :=
  q_bd (fX4_take S) (fun y2 T1 =>
  if 7 < y2 then
  if 16 < y2 then
  if 21 < y2 then
  if 34 < y2 then
  if 44 < y2 then
  q_bv (fX4_beginOrEnd y2 T1) (fun T3 =>
  fX4_step_b80 T3)
  else
  q_bv (fX4_order y2 T1) (fun T4 =>
  fX4_step_b80 T4)
  else
  q_bv (fX4_flow y2 T1) (fun T6 =>
  fX4_step_b80 T6)
  else
  q_bv (fX4_workQuery y2 T1) (fun T8 =>
  fX4_step_b80 T8)
  else
  q_bv (fX4_workPair y2 T1) (fun T10 =>
  fX4_step_b80 T10)
  else
  q_bv (fX4_workSingle y2 T1) (fun T12 =>
  fX4_step_b80 T12))
theorem b_X4_step {g : q_G} {S0 : kp_S} {S : kp_S} {post : kp_S → Prop} {v : q_V} (R : q_Gd 0 g S0 S)  (h : fX4_step (q_w g S) = some v) (kk : ∀ S, q_Gd 0 g S0 S → v = q_w g S → post S) : wX4_step (g 0 4 0) S post := by
  unfold wX4_step; unfold fX4_step at h
  obtain ⟨y2, v1, h1, h⟩ := q_bdi h
  refine b_X4_take R h1 (fun T1 R q => ?_)
  subst q
  refine ⟨fun c => ?_, fun c => ?_⟩
  · replace h := q_ifp h c
    refine ⟨fun c => ?_, fun c => ?_⟩
    · replace h := q_ifp h c
      refine ⟨fun c => ?_, fun c => ?_⟩
      · replace h := q_ifp h c
        refine ⟨fun c => ?_, fun c => ?_⟩
        · replace h := q_ifp h c
          refine ⟨fun c => ?_, fun c => ?_⟩
          · replace h := q_ifp h c
            obtain ⟨v1, h1, h⟩ := q_bvi h
            refine b_X4_beginOrEnd R h1 (fun T3 R q => ?_)
            subst q
            exact b_X4_step_b80 R h kk
          · replace h := q_ifn h c
            obtain ⟨v1, h1, h⟩ := q_bvi h
            refine b_X4_order R h1 (fun T4 R q => ?_)
            subst q
            exact b_X4_step_b80 R h kk
        · replace h := q_ifn h c
          obtain ⟨v1, h1, h⟩ := q_bvi h
          refine b_X4_flow R h1 (fun T6 R q => ?_)
          subst q
          exact b_X4_step_b80 R h kk
      · replace h := q_ifn h c
        obtain ⟨v1, h1, h⟩ := q_bvi h
        refine b_X4_workQuery R h1 (fun T8 R q => ?_)
        subst q
        exact b_X4_step_b80 R h kk
    · replace h := q_ifn h c
      obtain ⟨v1, h1, h⟩ := q_bvi h
      refine b_X4_workPair R h1 (fun T10 R q => ?_)
      subst q
      exact b_X4_step_b80 R h kk
  · replace h := q_ifn h c
    obtain ⟨v1, h1, h⟩ := q_bvi h
    refine b_X4_workSingle R h1 (fun T12 R q => ?_)
    subst q
    exact b_X4_step_b80 R h kk
def fX4_tellEnd_b184 (x1 : Int32) (Sn : q_V) : Option q_V :=
  some Sn
theorem b_X4_tellEnd_b184 {g : q_G} {S0 : kp_S} {x1 : Int32} {Sn : kp_S} {post : kp_S → Prop} {v : q_V} (R : q_Gd 0 g S0 Sn)  (h : fX4_tellEnd_b184 x1 (q_w g Sn) = some v) (kk : ∀ S, q_Gd 0 g S0 S → v = q_w g S → post S) : wX4_tellEnd_b184 (g 0 4 0) x1 Sn post := by
  unfold wX4_tellEnd_b184; unfold fX4_tellEnd_b184 at h
  exact q_finv h kk R
def fX4_tellEnd_b83 (x1 : Int32) (xt0 : Int32) (xt1 : Int32) (Sn : q_V) : Option q_V :=
  q_bv (fX7_set xt1 xt0 Sn) (fun T2001 =>
  q_bv (fX7_set 18 ((q_f T2001 2000 168)) T2001) (fun T2004 =>
  fX4_tellEnd_b184 x1 T2004))
theorem b_X4_tellEnd_b83 {g : q_G} {S0 : kp_S} {x1 : Int32} {xt0 : Int32} {xt1 : Int32} {Sn : kp_S} {post : kp_S → Prop} {v : q_V} (R : q_Gd 0 g S0 Sn)  (h : fX4_tellEnd_b83 x1 xt0 xt1 (q_w g Sn) = some v) (kk : ∀ S, q_Gd 0 g S0 S → v = q_w g S → post S) : wX4_tellEnd_b83 (g 0 4 0) x1 xt0 xt1 (g 0 7 0) Sn post := by
  unfold wX4_tellEnd_b83; unfold fX4_tellEnd_b83 at h
  obtain ⟨v1, h1, h⟩ := q_bvi h
  refine b_X7_set R h1 (fun T2001 R q => ?_)
  subst q
  refine ⟨_, q_p801 R, ?_⟩
  refine ⟨_, q_p808 R, ?_⟩
  obtain ⟨v1, h1, h⟩ := q_bvi h
  refine b_X7_set R h1 (fun T2004 R q => ?_)
  subst q
  exact b_X4_tellEnd_b184 R h kk
def fX4_tellEnd (x1 : Int32) (S : q_V) : Option q_V :=
  q_bv (fX7_set 0 ((q_i S 814)) S) (fun T2 =>
  q_bv (fX7_set 5 ((q_i T2 813)) T2) (fun T4 =>
  q_bd (fX7_get 17 T4) (fun y7 T6 =>
  q_bv (fX7_set 17 (((y7 + x1) - (q_i T6 813))) T6) (fun T8 =>
  if (q_i T8 814) = 0 then
  if (q_f T8 2000 168) = 2 then
  fX4_tellEnd_b83 x1 ((q_f T8 2001 168)) 1 T8
  else
  fX4_tellEnd_b83 x1 0 1 T8
  else
  if (q_i T8 814) = 3 then
  q_bv (fX7_set 2 ((q_f T8 2001 168)) T8) (fun T13 =>
  q_bv (fX7_set 3 ((q_f T13 2002 168)) T13) (fun T16 =>
  q_bv (fX7_set 4 ((q_f T16 2003 168)) T16) (fun T19 =>
  q_bv (fX7_set 18 ((q_f T19 2000 168)) T19) (fun T22 =>
  fX4_tellEnd_b184 x1 T22))))
  else
  q_bv (fX1_dropHolds T8) (fun T10 =>
  fX4_tellEnd_b184 x1 T10)))))
theorem b_X4_tellEnd {g : q_G} {S0 : kp_S} {x1 : Int32} {S : kp_S} {post : kp_S → Prop} {v : q_V} (R : q_Gd 0 g S0 S)  (h : fX4_tellEnd x1 (q_w g S) = some v) (kk : ∀ S, q_Gd 0 g S0 S → v = q_w g S → post S) : wX4_tellEnd (g 0 4 0) x1 S post := by
  unfold wX4_tellEnd; unfold fX4_tellEnd at h
  refine ⟨_, q_p801 R, ?_⟩
  obtain ⟨v1, h1, h⟩ := q_bvi h
  refine b_X7_set R h1 (fun T2 R q => ?_)
  subst q
  refine ⟨_, q_p801 R, ?_⟩
  obtain ⟨v1, h1, h⟩ := q_bvi h
  refine b_X7_set R h1 (fun T4 R q => ?_)
  subst q
  refine ⟨_, q_p801 R, ?_⟩
  obtain ⟨y7, v1, h1, h⟩ := q_bdi h
  refine b_X7_get R h1 (fun T6 R q => ?_)
  subst q
  obtain ⟨v1, h1, h⟩ := q_bvi h
  refine b_X7_set R h1 (fun T8 R q => ?_)
  subst q
  refine ⟨fun c => ?_, fun c => ?_⟩
  · replace h := q_ifn h c
    refine ⟨fun c => ?_, fun c => ?_⟩
    · replace h := q_ifn h c
      refine ⟨_, q_p800 R, ?_⟩
      obtain ⟨v1, h1, h⟩ := q_bvi h
      refine b_X1_dropHolds R h1 (fun T10 R q => ?_)
      subst q
      exact b_X4_tellEnd_b184 R h kk
    · replace h := q_ifp h c
      refine ⟨_, q_p801 R, ?_⟩
      refine ⟨_, q_p808 R, ?_⟩
      obtain ⟨v1, h1, h⟩ := q_bvi h
      refine b_X7_set R h1 (fun T13 R q => ?_)
      subst q
      refine ⟨_, q_p801 R, ?_⟩
      refine ⟨_, q_p808 R, ?_⟩
      obtain ⟨v1, h1, h⟩ := q_bvi h
      refine b_X7_set R h1 (fun T16 R q => ?_)
      subst q
      refine ⟨_, q_p801 R, ?_⟩
      refine ⟨_, q_p808 R, ?_⟩
      obtain ⟨v1, h1, h⟩ := q_bvi h
      refine b_X7_set R h1 (fun T19 R q => ?_)
      subst q
      refine ⟨_, q_p801 R, ?_⟩
      refine ⟨_, q_p808 R, ?_⟩
      obtain ⟨v1, h1, h⟩ := q_bvi h
      refine b_X7_set R h1 (fun T22 R q => ?_)
      subst q
      exact b_X4_tellEnd_b184 R h kk
  · replace h := q_ifp h c
    refine ⟨_, q_p801 R, ?_⟩
    refine ⟨_, q_p808 R, ?_⟩
    refine ⟨fun c => ?_, fun c => ?_⟩
    · replace h := q_ifn h c
      exact b_X4_tellEnd_b83 R h kk
    · replace h := q_ifp h c
      exact b_X4_tellEnd_b83 R h kk
def fX4_perform_b154 (x2 : Int32) (x3 : Int32) (x4 : Int32) (x5 : Int32) (Sn : q_V) : Option (Int32 × q_V) :=
  q_bv (fX4_tellEnd x5 Sn) (fun T1001 =>
  some ((q_i T1001 814), T1001))
theorem b_X4_perform_b154 {g : q_G} {S0 : kp_S} {x2 : Int32} {x3 : Int32} {x4 : Int32} {x5 : Int32} {Sn : kp_S} {post : Int32 → kp_S → Prop} {y : Int32} {v : q_V} (R : q_Gd 0 g S0 Sn)  (h : fX4_perform_b154 x2 x3 x4 x5 (q_w g Sn) = some (y, v)) (kk : ∀ S, q_Gd 0 g S0 S → v = q_w g S → post y S) : wX4_perform_b154 (g 0 4 0) (g 0 0 0) x2 x3 x4 x5 Sn post := by
  unfold wX4_perform_b154; unfold fX4_perform_b154 at h
  obtain ⟨v1, h1, h⟩ := q_bvi h
  refine b_X4_tellEnd R h1 (fun T1001 R q => ?_)
  subst q
  exact q_fin h kk R
def fX4_perform_b148 (x2 : Int32) (x3 : Int32) (x4 : Int32) (x5 : Int32) (xn6 : Int32) (K112 : Int32 → q_V → Option (Int32 × q_V)) (Sn : q_V) : Option (Int32 × q_V) :=
  q_lt (xn6 + 1 : Int32) (fun y2001 =>
  K112 y2001 Sn)
theorem b_X4_perform_b148 {g : q_G} {S0 : kp_S} {x2 : Int32} {x3 : Int32} {x4 : Int32} {x5 : Int32} {xn6 : Int32} {K112f : Int32 → q_V → Option (Int32 × q_V)} {K112 : Int32 → kp_S → Prop} {Sn : kp_S} {post : Int32 → kp_S → Prop} {y : Int32} {v : q_V} (R : q_Gd 0 g S0 Sn) (hK112 : ∀ (x0 : Int32) (S : kp_S), q_Gd 0 g S0 S → K112f x0 (q_w g S) = some (y, v) → K112 x0 S) (h : fX4_perform_b148 x2 x3 x4 x5 xn6 K112f (q_w g Sn) = some (y, v)) (kk : ∀ S, q_Gd 0 g S0 S → v = q_w g S → post y S) : wX4_perform_b148 (g 0 4 0) (g 0 0 0) x2 x3 x4 x5 xn6 K112 Sn post := by
  unfold wX4_perform_b148; unfold fX4_perform_b148 at h
  intro y2001 q
  replace h := q_ltw h q
  exact hK112 _ _ R h
def fX4_perform_L112 (x2 : Int32) (x3 : Int32) (x4 : Int32) (x5 : Int32) : Nat → Int32 → q_V → Option (Int32 × q_V)
  | 0, _, _ => none
  | n + 1, xn6, Sn =>
  if 1000000000 ≤ xn6 then
  fX4_perform_b154 x2 x3 x4 x5 Sn
  else
  if (q_i Sn 814) = (- 1) then
  if (q_f Sn 2000 168) = 0 then
  q_bv (fX4_step Sn) (fun T3003 =>
  fX4_perform_b148 x2 x3 x4 x5 xn6 (fun xn6_ S_ => fX4_perform_L112 x2 x3 x4 x5 n xn6_ S_) T3003)
  else
  q_bv (fX4_leaveTop Sn) (fun T3002 =>
  fX4_perform_b148 x2 x3 x4 x5 xn6 (fun xn6_ S_ => fX4_perform_L112 x2 x3 x4 x5 n xn6_ S_) T3002)
  else
  fX4_perform_b154 x2 x3 x4 x5 Sn
theorem b_X4_perform_L112 {g : q_G} {S0 : kp_S} {x2 : Int32} {x3 : Int32} {x4 : Int32} {x5 : Int32} {post : Int32 → kp_S → Prop} {y : Int32} {v : q_V}  (kk : ∀ S, q_Gd 0 g S0 S → v = q_w g S → post y S) : ∀ (n : Nat) (xn6 : Int32) (Sn : kp_S), q_Gd 0 g S0 Sn → fX4_perform_L112 x2 x3 x4 x5 n xn6 (q_w g Sn) = some (y, v) → wX4_perform_L112 (g 0 4 0) (g 0 0 0) x2 x3 x4 x5 post n xn6 Sn := by
  intro n
  induction n with
  | zero => intro xn6 Sn _ h; cases h
  | succ n ih =>
    intro xn6 Sn R h
    unfold wX4_perform_L112; unfold fX4_perform_L112 at h
    refine ⟨fun c => ?_, fun c => ?_⟩
    · replace h := q_ifp h c
      exact b_X4_perform_b154 R h kk
    · replace h := q_ifn h c
      refine ⟨fun c => ?_, fun c => ?_⟩
      · replace h := q_ifn h c
        exact b_X4_perform_b154 R h kk
      · replace h := q_ifp h c
        refine ⟨_, q_p808 R, ?_⟩
        refine ⟨fun c => ?_, fun c => ?_⟩
        · replace h := q_ifn h c
          obtain ⟨v1, h1, h⟩ := q_bvi h
          refine b_X4_leaveTop R h1 (fun T3002 R q => ?_)
          subst q
          exact b_X4_perform_b148 R (fun xn6_ S_ R h => ih xn6_ S_ R h) h kk
        · replace h := q_ifp h c
          obtain ⟨v1, h1, h⟩ := q_bvi h
          refine b_X4_step R h1 (fun T3003 R q => ?_)
          subst q
          exact b_X4_perform_b148 R (fun xn6_ S_ R h => ih xn6_ S_ R h) h kk
def fX4_perform_b95 (x2 : Int32) (x3 : Int32) (x4 : Int32) (x5 : Int32) (xn6 : Int32) (xt0 : Int32) (K60 : Int32 → q_V → Option (Int32 × q_V)) (Sn : q_V) : Option (Int32 × q_V) :=
  q_bv (fX4_push xt0 Sn) (fun T4001 =>
  q_lt (xn6 + 1 : Int32) (fun y4002 =>
  K60 y4002 T4001))
theorem b_X4_perform_b95 {g : q_G} {S0 : kp_S} {x2 : Int32} {x3 : Int32} {x4 : Int32} {x5 : Int32} {xn6 : Int32} {xt0 : Int32} {K60f : Int32 → q_V → Option (Int32 × q_V)} {K60 : Int32 → kp_S → Prop} {Sn : kp_S} {post : Int32 → kp_S → Prop} {y : Int32} {v : q_V} (R : q_Gd 0 g S0 Sn) (hK60 : ∀ (x0 : Int32) (S : kp_S), q_Gd 0 g S0 S → K60f x0 (q_w g S) = some (y, v) → K60 x0 S) (h : fX4_perform_b95 x2 x3 x4 x5 xn6 xt0 K60f (q_w g Sn) = some (y, v)) (kk : ∀ S, q_Gd 0 g S0 S → v = q_w g S → post y S) : wX4_perform_b95 (g 0 4 0) (g 0 0 0) x2 x3 x4 x5 xn6 xt0 (g 0 4 0) K60 Sn post := by
  unfold wX4_perform_b95; unfold fX4_perform_b95 at h
  obtain ⟨v1, h1, h⟩ := q_bvi h
  refine b_X4_push R h1 (fun T4001 R q => ?_)
  subst q
  intro y4002 q
  replace h := q_ltw h q
  exact hK60 _ _ R h
def fX4_perform_L60 (x2 : Int32) (x3 : Int32) (x4 : Int32) (x5 : Int32) : Nat → Int32 → q_V → Option (Int32 × q_V)
  | 0, _, _ => none
  | n + 1, xn6, Sn =>
  q_bd (fX0_parameters x2 Sn) (fun y5003 T5002 =>
  if y5003 ≤ xn6 then
  q_bv (fX4_call x2 T5002) (fun T5004 =>
  fX4_perform_L112 x2 x3 x4 x5 q_N 0 T5004)
  else
  if xn6 = 0 then
  fX4_perform_b95 x2 x3 x4 x5 xn6 x3 (fun xn6_ S_ => fX4_perform_L60 x2 x3 x4 x5 n xn6_ S_) T5002
  else
  if xn6 = 1 then
  fX4_perform_b95 x2 x3 x4 x5 xn6 x4 (fun xn6_ S_ => fX4_perform_L60 x2 x3 x4 x5 n xn6_ S_) T5002
  else
  fX4_perform_b95 x2 x3 x4 x5 xn6 0 (fun xn6_ S_ => fX4_perform_L60 x2 x3 x4 x5 n xn6_ S_) T5002)
theorem b_X4_perform_L60 {g : q_G} {S0 : kp_S} {x2 : Int32} {x3 : Int32} {x4 : Int32} {x5 : Int32} {post : Int32 → kp_S → Prop} {y : Int32} {v : q_V}  (kk : ∀ S, q_Gd 0 g S0 S → v = q_w g S → post y S) : ∀ (n : Nat) (xn6 : Int32) (Sn : kp_S), q_Gd 0 g S0 Sn → fX4_perform_L60 x2 x3 x4 x5 n xn6 (q_w g Sn) = some (y, v) → wX4_perform_L60 (g 0 4 0) (g 0 0 0) x2 x3 x4 x5 post n xn6 Sn := by
  intro n
  induction n with
  | zero => intro xn6 Sn _ h; cases h
  | succ n ih =>
    intro xn6 Sn R h
    unfold wX4_perform_L60; unfold fX4_perform_L60 at h
    refine ⟨_, q_p809 R, ?_⟩
    obtain ⟨y5003, v1, h1, h⟩ := q_bdi h
    refine b_X0_parameters R h1 (fun T5002 R q => ?_)
    subst q
    refine ⟨fun c => ?_, fun c => ?_⟩
    · replace h := q_ifp h c
      obtain ⟨v1, h1, h⟩ := q_bvi h
      refine b_X4_call R h1 (fun T5004 R q => ?_)
      subst q
      exact ⟨q_N, b_X4_perform_L112 kk q_N _ _ R h⟩
    · replace h := q_ifn h c
      refine ⟨fun c => ?_, fun c => ?_⟩
      · replace h := q_ifn h c
        refine ⟨fun c => ?_, fun c => ?_⟩
        · replace h := q_ifn h c
          exact b_X4_perform_b95 R (fun xn6_ S_ R h => ih xn6_ S_ R h) h kk
        · replace h := q_ifp h c
          exact b_X4_perform_b95 R (fun xn6_ S_ R h => ih xn6_ S_ R h) h kk
      · replace h := q_ifp h c
        exact b_X4_perform_b95 R (fun xn6_ S_ R h => ih xn6_ S_ R h) h kk
def fX4_performR (x2 : Int32) (x3 : Int32) (x4 : Int32) (x5 : Int32) (S : q_V) : Option (Int32 × q_V) :=
  q_bv (fX7_clear S) (fun T3 =>
  q_lt (q_si T3 803 0) (fun T4 =>
  q_lt (q_si T4 805 0) (fun T5 =>
  q_lt (q_si T5 807 0) (fun T6 =>
  q_lt (q_si T6 812 0) (fun T7 =>
  q_lt (q_si T7 811 0) (fun T8 =>
  q_lt (q_si T8 813 x5) (fun T9 =>
  q_lt (q_si T9 814 ((- 1))) (fun T10 =>
  q_bv (fX10_become 168 0 0 T10) (fun T12 =>
  fX4_perform_L60 x2 x3 x4 x5 q_N 0 T12)))))))))
theorem b_X4_performR {g : q_G} {S0 : kp_S} {x2 : Int32} {x3 : Int32} {x4 : Int32} {x5 : Int32} {S : kp_S} {post : Int32 → kp_S → Prop} {y : Int32} {v : q_V} (R : q_Gd 0 g S0 S)  (h : fX4_performR x2 x3 x4 x5 (q_w g S) = some (y, v)) (kk : ∀ S, q_Gd 0 g S0 S → v = q_w g S → post y S) : wX4_performR (g 0 4 0) (g 0 0 0) x2 x3 x4 x5 S post := by
  unfold wX4_performR; unfold fX4_performR at h
  refine ⟨_, q_p801 R, ?_⟩
  obtain ⟨v1, h1, h⟩ := q_bvi h
  refine b_X7_clear R h1 (fun T3 R q => ?_)
  subst q
  intro T4 q
  obtain ⟨R, q⟩ := q_wI R q rfl rfl
  replace h := q_ltw h q
  intro T5 q
  obtain ⟨R, q⟩ := q_wI R q rfl rfl
  replace h := q_ltw h q
  intro T6 q
  obtain ⟨R, q⟩ := q_wI R q rfl rfl
  replace h := q_ltw h q
  intro T7 q
  obtain ⟨R, q⟩ := q_wI R q rfl rfl
  replace h := q_ltw h q
  intro T8 q
  obtain ⟨R, q⟩ := q_wI R q rfl rfl
  replace h := q_ltw h q
  intro T9 q
  obtain ⟨R, q⟩ := q_wI R q rfl rfl
  replace h := q_ltw h q
  intro T10 q
  obtain ⟨R, q⟩ := q_wI R q rfl rfl
  replace h := q_ltw h q
  refine ⟨_, q_p808 R, ?_⟩
  obtain ⟨v1, h1, h⟩ := q_bvi h
  refine b_X10_become R (by decide) h1 (fun T12 R q => ?_)
  subst q
  exact ⟨q_N, b_X4_perform_L60 kk q_N _ _ R h⟩
