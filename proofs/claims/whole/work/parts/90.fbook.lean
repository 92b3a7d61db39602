/-! The functions of the methods, and the rows that they speak for the w. (generated: wip/whole/gen2.py) -/
def fX0_size (S : q_V) : Option (Int32 × q_V) :=
  some ((q_i S 1), S)
theorem b_X0_size {gr : Nat} {g : q_G} {S0 : kp_S} {S : kp_S} {post : Int32 → kp_S → Prop} {y : Int32} {v : q_V} (R : q_Gd gr g S0 S)  (h : fX0_size (q_w g S) = some (y, v)) (kk : ∀ S, q_Gd gr g S0 S → v = q_w g S → post y S) : wX0_size (g 0 0 0) S post := by
  unfold wX0_size; unfold fX0_size at h
  exact q_fin h kk R
def fX0_add_b35 (x1 : Int32) (xn2 : Int32) (Sn : q_V) : Option (Int32 × q_V) :=
  some (xn2, Sn)
theorem b_X0_add_b35 {g : q_G} {S0 : kp_S} {x1 : Int32} {xn2 : Int32} {Sn : kp_S} {post : Int32 → kp_S → Prop} {y : Int32} {v : q_V} (R : q_Gd 1 g S0 Sn)  (h : fX0_add_b35 x1 xn2 (q_w g Sn) = some (y, v)) (kk : ∀ S, q_Gd 1 g S0 S → v = q_w g S → post y S) : wX0_add_b35 (g 0 0 0) x1 xn2 Sn post := by
  unfold wX0_add_b35; unfold fX0_add_b35 at h
  exact q_fin h kk R
def fX0_add (x1 : Int32) (S : q_V) : Option (Int32 × q_V) :=
  q_lt ((q_i S 1) : Int32) (fun y1 =>
  if y1 < 0 then
  fX0_add_b35 x1 y1 S
  else
  if (nI (q_n S 0)) ≤ y1 then
  fX0_add_b35 x1 y1 S
  else
  if (y1) < 0 ∨ q_n S 0 ≤ (y1).toNatClampNeg then none else
  q_lt (q_sa S 0 ((upd (q_a S 0) (y1.toNatClampNeg) x1))) (fun T3 =>
  q_lt (q_si T3 1 (((q_i T3 1) + 1))) (fun T4 =>
  fX0_add_b35 x1 y1 T4)))
theorem b_X0_add {g : q_G} {S0 : kp_S} {x1 : Int32} {S : kp_S} {post : Int32 → kp_S → Prop} {y : Int32} {v : q_V} (R : q_Gd 1 g S0 S)  (h : fX0_add x1 (q_w g S) = some (y, v)) (kk : ∀ S, q_Gd 1 g S0 S → v = q_w g S → post y S) : wX0_add (g 0 0 0) x1 S post := by
  unfold wX0_add; unfold fX0_add at h
  intro y1 q
  replace h := q_ltw h q
  refine ⟨fun c => ?_, fun c => ?_⟩
  · replace h := q_ifp h c
    exact b_X0_add_b35 R h kk
  · replace h := q_ifn h c
    refine ⟨_, q_p0 R, ?_⟩
    refine ⟨fun c => ?_, fun c => ?_⟩
    · replace h := q_ifp h c
      exact b_X0_add_b35 R h kk
    · replace h := q_ifn h c
      obtain ⟨hi, h⟩ := q_in h
      refine ⟨hi, ?_⟩
      intro T3 q
      obtain ⟨R, q⟩ := q_wA R q rfl
      replace h := q_ltw h q
      intro T4 q
      obtain ⟨R, q⟩ := q_wI R q rfl rfl
      replace h := q_ltw h q
      exact b_X0_add_b35 R h kk
def fX0_add_ (x1 : Int32) (x2 : Int32) (S : q_V) : Option (Int32 × q_V) :=
  q_bd (fX0_add x1 S) (fun y2 T1 =>
  q_bd (fX0_add x2 T1) (fun y4 T3 =>
  some (y2, T3)))
theorem b_X0_add_ {g : q_G} {S0 : kp_S} {x1 : Int32} {x2 : Int32} {S : kp_S} {post : Int32 → kp_S → Prop} {y : Int32} {v : q_V} (R : q_Gd 1 g S0 S)  (h : fX0_add_ x1 x2 (q_w g S) = some (y, v)) (kk : ∀ S, q_Gd 1 g S0 S → v = q_w g S → post y S) : wX0_add_ (g 0 0 0) x1 x2 S post := by
  unfold wX0_add_; unfold fX0_add_ at h
  obtain ⟨y2, v1, h1, h⟩ := q_bdi h
  refine b_X0_add R h1 (fun T1 R q => ?_)
  subst q
  obtain ⟨y4, v1, h1, h⟩ := q_bdi h
  refine b_X0_add R h1 (fun T3 R q => ?_)
  subst q
  exact q_fin h kk R
def fX0_addPart (x1 : Int32) (x2 : Int32) (S : q_V) : Option (Int32 × q_V) :=
  q_bd (fX0_add_ x1 x2 S) (fun y2 T1 =>
  q_bd (fX0_add 0 T1) (fun y4 T3 =>
  q_bd (fX0_add 0 T3) (fun y6 T5 =>
  q_bd (fX0_add 0 T5) (fun y8 T7 =>
  some (y2, T7)))))
theorem b_X0_addPart {g : q_G} {S0 : kp_S} {x1 : Int32} {x2 : Int32} {S : kp_S} {post : Int32 → kp_S → Prop} {y : Int32} {v : q_V} (R : q_Gd 1 g S0 S)  (h : fX0_addPart x1 x2 (q_w g S) = some (y, v)) (kk : ∀ S, q_Gd 1 g S0 S → v = q_w g S → post y S) : wX0_addPart (g 0 0 0) x1 x2 S post := by
  unfold wX0_addPart; unfold fX0_addPart at h
  obtain ⟨y2, v1, h1, h⟩ := q_bdi h
  refine b_X0_add_ R h1 (fun T1 R q => ?_)
  subst q
  obtain ⟨y4, v1, h1, h⟩ := q_bdi h
  refine b_X0_add R h1 (fun T3 R q => ?_)
  subst q
  obtain ⟨y6, v1, h1, h⟩ := q_bdi h
  refine b_X0_add R h1 (fun T5 R q => ?_)
  subst q
  obtain ⟨y8, v1, h1, h⟩ := q_bdi h
  refine b_X0_add R h1 (fun T7 R q => ?_)
  subst q
  exact q_fin h kk R
def fX0_set_b20 (x1 : Int32) (x2 : Int32) (Sn : q_V) : Option q_V :=
  some Sn
theorem b_X0_set_b20 {g : q_G} {S0 : kp_S} {x1 : Int32} {x2 : Int32} {Sn : kp_S} {post : kp_S → Prop} {v : q_V} (R : q_Gd 1 g S0 Sn)  (h : fX0_set_b20 x1 x2 (q_w g Sn) = some v) (kk : ∀ S, q_Gd 1 g S0 S → v = q_w g S → post S) : wX0_set_b20 (g 0 0 0) x1 x2 Sn post := by
  unfold wX0_set_b20; unfold fX0_set_b20 at h
  exact q_finv h kk R
def fX0_set (x1 : Int32) (x2 : Int32) (S : q_V) : Option q_V :=
  if x1 < 0 then
  fX0_set_b20 x1 x2 S
  else
  if (nI (q_n S 0)) ≤ x1 then
  fX0_set_b20 x1 x2 S
  else
  if (x1) < 0 ∨ q_n S 0 ≤ (x1).toNatClampNeg then none else
  q_lt (q_sa S 0 ((upd (q_a S 0) (x1.toNatClampNeg) x2))) (fun T2 =>
  fX0_set_b20 x1 x2 T2)
theorem b_X0_set {g : q_G} {S0 : kp_S} {x1 : Int32} {x2 : Int32} {S : kp_S} {post : kp_S → Prop} {v : q_V} (R : q_Gd 1 g S0 S)  (h : fX0_set x1 x2 (q_w g S) = some v) (kk : ∀ S, q_Gd 1 g S0 S → v = q_w g S → post S) : wX0_set (g 0 0 0) x1 x2 S post := by
  unfold wX0_set; unfold fX0_set at h
  refine ⟨fun c => ?_, fun c => ?_⟩
  · replace h := q_ifp h c
    exact b_X0_set_b20 R h kk
  · replace h := q_ifn h c
    refine ⟨_, q_p0 R, ?_⟩
    refine ⟨fun c => ?_, fun c => ?_⟩
    · replace h := q_ifp h c
      exact b_X0_set_b20 R h kk
    · replace h := q_ifn h c
      obtain ⟨hi, h⟩ := q_in h
      refine ⟨hi, ?_⟩
      intro T2 q
      obtain ⟨R, q⟩ := q_wA R q rfl
      replace h := q_ltw h q
      exact b_X0_set_b20 R h kk
def fX0_get_b32 (x1 : Int32) (xt0 : Int32) (Sn : q_V) : Option (Int32 × q_V) :=
  some (xt0, Sn)
theorem b_X0_get_b32 {gr : Nat} {g : q_G} {S0 : kp_S} {x1 : Int32} {xt0 : Int32} {Sn : kp_S} {post : Int32 → kp_S → Prop} {y : Int32} {v : q_V} (R : q_Gd gr g S0 Sn)  (h : fX0_get_b32 x1 xt0 (q_w g Sn) = some (y, v)) (kk : ∀ S, q_Gd gr g S0 S → v = q_w g S → post y S) : wX0_get_b32 (g 0 0 0) x1 xt0 Sn post := by
  unfold wX0_get_b32; unfold fX0_get_b32 at h
  exact q_fin h kk R
def fX0_get_b30 (x1 : Int32) (Sn : q_V) : Option (Int32 × q_V) :=
  fX0_get_b32 x1 44 Sn
theorem b_X0_get_b30 {gr : Nat} {g : q_G} {S0 : kp_S} {x1 : Int32} {Sn : kp_S} {post : Int32 → kp_S → Prop} {y : Int32} {v : q_V} (R : q_Gd gr g S0 Sn)  (h : fX0_get_b30 x1 (q_w g Sn) = some (y, v)) (kk : ∀ S, q_Gd gr g S0 S → v = q_w g S → post y S) : wX0_get_b30 (g 0 0 0) x1 Sn post := by
  unfold wX0_get_b30; unfold fX0_get_b30 at h
  exact b_X0_get_b32 R h kk
def fX0_get (x1 : Int32) (S : q_V) : Option (Int32 × q_V) :=
  if x1 < 0 then
  fX0_get_b30 x1 S
  else
  if (q_i S 1) ≤ x1 then
  fX0_get_b30 x1 S
  else
  if (nI (q_n S 0)) ≤ x1 then
  fX0_get_b30 x1 S
  else
  if (x1) < 0 ∨ q_n S 0 ≤ (x1).toNatClampNeg then none else
  fX0_get_b32 x1 ((q_a S 0 x1.toNatClampNeg)) S
theorem b_X0_get {gr : Nat} {g : q_G} {S0 : kp_S} {x1 : Int32} {S : kp_S} {post : Int32 → kp_S → Prop} {y : Int32} {v : q_V} (R : q_Gd gr g S0 S)  (h : fX0_get x1 (q_w g S) = some (y, v)) (kk : ∀ S, q_Gd gr g S0 S → v = q_w g S → post y S) : wX0_get (g 0 0 0) x1 S post := by
  unfold wX0_get; unfold fX0_get at h
  refine ⟨fun c => ?_, fun c => ?_⟩
  · replace h := q_ifp h c
    exact b_X0_get_b30 R h kk
  · replace h := q_ifn h c
    refine ⟨fun c => ?_, fun c => ?_⟩
    · replace h := q_ifp h c
      exact b_X0_get_b30 R h kk
    · replace h := q_ifn h c
      refine ⟨_, q_p0 R, ?_⟩
      refine ⟨fun c => ?_, fun c => ?_⟩
      · replace h := q_ifp h c
        exact b_X0_get_b30 R h kk
      · replace h := q_ifn h c
        obtain ⟨hi, h⟩ := q_in h
        refine ⟨hi, ?_⟩
        exact b_X0_get_b32 R h kk
def fX0_setFact_b35 (x1 : Int32) (x2 : Int32) (x3 : Int32) (Sn : q_V) : Option q_V :=
  some Sn
theorem b_X0_setFact_b35 {g : q_G} {S0 : kp_S} {x1 : Int32} {x2 : Int32} {x3 : Int32} {Sn : kp_S} {post : kp_S → Prop} {v : q_V} (R : q_Gd 1 g S0 Sn)  (h : fX0_setFact_b35 x1 x2 x3 (q_w g Sn) = some v) (kk : ∀ S, q_Gd 1 g S0 S → v = q_w g S → post S) : wX0_setFact_b35 (g 0 0 0) x1 x2 x3 Sn post := by
  unfold wX0_setFact_b35; unfold fX0_setFact_b35 at h
  exact q_finv h kk R
def fX0_setFact (x1 : Int32) (x2 : Int32) (x3 : Int32) (S : q_V) : Option q_V :=
  q_lt (((5 * x1) + x2) : Int32) (fun y1 =>
  if x1 < 0 then
  fX0_setFact_b35 x1 x2 x3 S
  else
  if 30 ≤ x1 then
  fX0_setFact_b35 x1 x2 x3 S
  else
  if (nI (q_n S 2)) ≤ y1 then
  fX0_setFact_b35 x1 x2 x3 S
  else
  if (y1) < 0 ∨ q_n S 2 ≤ (y1).toNatClampNeg then none else
  q_lt (q_sa S 2 ((upd (q_a S 2) (y1.toNatClampNeg) x3))) (fun T3 =>
  fX0_setFact_b35 x1 x2 x3 T3))
theorem b_X0_setFact {g : q_G} {S0 : kp_S} {x1 : Int32} {x2 : Int32} {x3 : Int32} {S : kp_S} {post : kp_S → Prop} {v : q_V} (R : q_Gd 1 g S0 S)  (h : fX0_setFact x1 x2 x3 (q_w g S) = some v) (kk : ∀ S, q_Gd 1 g S0 S → v = q_w g S → post S) : wX0_setFact (g 0 0 0) x1 x2 x3 S post := by
  unfold wX0_setFact; unfold fX0_setFact at h
  intro y1 q
  replace h := q_ltw h q
  refine ⟨fun c => ?_, fun c => ?_⟩
  · replace h := q_ifp h c
    exact b_X0_setFact_b35 R h kk
  · replace h := q_ifn h c
    refine ⟨fun c => ?_, fun c => ?_⟩
    · replace h := q_ifp h c
      exact b_X0_setFact_b35 R h kk
    · replace h := q_ifn h c
      refine ⟨_, q_p2 R, ?_⟩
      refine ⟨fun c => ?_, fun c => ?_⟩
      · replace h := q_ifp h c
        exact b_X0_setFact_b35 R h kk
      · replace h := q_ifn h c
        obtain ⟨hi, h⟩ := q_in h
        refine ⟨hi, ?_⟩
        intro T3 q
        obtain ⟨R, q⟩ := q_wA R q rfl
        replace h := q_ltw h q
        exact b_X0_setFact_b35 R h kk
def fX0_fact_b41 (x1 : Int32) (x2 : Int32) (xt0 : Int32) (Sn : q_V) : Option (Int32 × q_V) :=
  some (xt0, Sn)
theorem b_X0_fact_b41 {gr : Nat} {g : q_G} {S0 : kp_S} {x1 : Int32} {x2 : Int32} {xt0 : Int32} {Sn : kp_S} {post : Int32 → kp_S → Prop} {y : Int32} {v : q_V} (R : q_Gd gr g S0 Sn)  (h : fX0_fact_b41 x1 x2 xt0 (q_w g Sn) = some (y, v)) (kk : ∀ S, q_Gd gr g S0 S → v = q_w g S → post y S) : wX0_fact_b41 (g 0 0 0) x1 x2 xt0 Sn post := by
  unfold wX0_fact_b41; unfold fX0_fact_b41 at h
  exact q_fin h kk R
def fX0_fact_b40 (x1 : Int32) (x2 : Int32) (Sn : q_V) : Option (Int32 × q_V) :=
  fX0_fact_b41 x1 x2 ((- 1)) Sn
theorem b_X0_fact_b40 {gr : Nat} {g : q_G} {S0 : kp_S} {x1 : Int32} {x2 : Int32} {Sn : kp_S} {post : Int32 → kp_S → Prop} {y : Int32} {v : q_V} (R : q_Gd gr g S0 Sn)  (h : fX0_fact_b40 x1 x2 (q_w g Sn) = some (y, v)) (kk : ∀ S, q_Gd gr g S0 S → v = q_w g S → post y S) : wX0_fact_b40 (g 0 0 0) x1 x2 Sn post := by
  unfold wX0_fact_b40; unfold fX0_fact_b40 at h
  exact b_X0_fact_b41 R h kk
def fX0_fact (x1 : Int32) (x2 : Int32) (S : q_V) : Option (Int32 × q_V) :=
  q_lt (((5 * x1) + x2) : Int32) (fun y1 =>
  if x1 < 0 then
  fX0_fact_b40 x1 x2 S
  else
  if (q_i S 3) ≤ x1 then
  fX0_fact_b40 x1 x2 S
  else
  if y1 < 0 then
  fX0_fact_b40 x1 x2 S
  else
  if (nI (q_n S 2)) ≤ y1 then
  fX0_fact_b40 x1 x2 S
  else
  if (y1) < 0 ∨ q_n S 2 ≤ (y1).toNatClampNeg then none else
  fX0_fact_b41 x1 x2 ((q_a S 2 y1.toNatClampNeg)) S)
theorem b_X0_fact {gr : Nat} {g : q_G} {S0 : kp_S} {x1 : Int32} {x2 : Int32} {S : kp_S} {post : Int32 → kp_S → Prop} {y : Int32} {v : q_V} (R : q_Gd gr g S0 S)  (h : fX0_fact x1 x2 (q_w g S) = some (y, v)) (kk : ∀ S, q_Gd gr g S0 S → v = q_w g S → post y S) : wX0_fact (g 0 0 0) x1 x2 S post := by
  unfold wX0_fact; unfold fX0_fact at h
  intro y1 q
  replace h := q_ltw h q
  refine ⟨fun c => ?_, fun c => ?_⟩
  · replace h := q_ifp h c
    exact b_X0_fact_b40 R h kk
  · replace h := q_ifn h c
    refine ⟨fun c => ?_, fun c => ?_⟩
    · replace h := q_ifp h c
      exact b_X0_fact_b40 R h kk
    · replace h := q_ifn h c
      refine ⟨fun c => ?_, fun c => ?_⟩
      · replace h := q_ifp h c
        exact b_X0_fact_b40 R h kk
      · replace h := q_ifn h c
        refine ⟨_, q_p2 R, ?_⟩
        refine ⟨fun c => ?_, fun c => ?_⟩
        · replace h := q_ifp h c
          exact b_X0_fact_b40 R h kk
        · replace h := q_ifn h c
          obtain ⟨hi, h⟩ := q_in h
          refine ⟨hi, ?_⟩
          exact b_X0_fact_b41 R h kk
def fX0_dutyFact_b19 (x1 : Int32) (x2 : Int32) (xt0 : Int32) (Sn : q_V) : Option (Int32 × q_V) :=
  some (xt0, Sn)
theorem b_X0_dutyFact_b19 {gr : Nat} {g : q_G} {S0 : kp_S} {x1 : Int32} {x2 : Int32} {xt0 : Int32} {Sn : kp_S} {post : Int32 → kp_S → Prop} {y : Int32} {v : q_V} (R : q_Gd gr g S0 Sn)  (h : fX0_dutyFact_b19 x1 x2 xt0 (q_w g Sn) = some (y, v)) (kk : ∀ S, q_Gd gr g S0 S → v = q_w g S → post y S) : wX0_dutyFact_b19 (g 0 0 0) x1 x2 xt0 Sn post := by
  unfold wX0_dutyFact_b19; unfold fX0_dutyFact_b19 at h
  exact q_fin h kk R
def fX0_dutyFact_b18 (x1 : Int32) (x2 : Int32) (Sn : q_V) : Option (Int32 × q_V) :=
  fX0_dutyFact_b19 x1 x2 ((- 1)) Sn
theorem b_X0_dutyFact_b18 {gr : Nat} {g : q_G} {S0 : kp_S} {x1 : Int32} {x2 : Int32} {Sn : kp_S} {post : Int32 → kp_S → Prop} {y : Int32} {v : q_V} (R : q_Gd gr g S0 Sn)  (h : fX0_dutyFact_b18 x1 x2 (q_w g Sn) = some (y, v)) (kk : ∀ S, q_Gd gr g S0 S → v = q_w g S → post y S) : wX0_dutyFact_b18 (g 0 0 0) x1 x2 Sn post := by
  unfold wX0_dutyFact_b18; unfold fX0_dutyFact_b18 at h
  exact b_X0_dutyFact_b19 R h kk
def fX0_dutyFact (x1 : Int32) (x2 : Int32) (S : q_V) : Option (Int32 × q_V) :=
  if x2 < 0 then
  fX0_dutyFact_b18 x1 x2 S
  else
  if 3 < x2 then
  fX0_dutyFact_b18 x1 x2 S
  else
  q_bd (fX0_fact x1 x2 S) (fun y2 T1 =>
  fX0_dutyFact_b19 x1 x2 y2 T1)
theorem b_X0_dutyFact {gr : Nat} {g : q_G} {S0 : kp_S} {x1 : Int32} {x2 : Int32} {S : kp_S} {post : Int32 → kp_S → Prop} {y : Int32} {v : q_V} (R : q_Gd gr g S0 S)  (h : fX0_dutyFact x1 x2 (q_w g S) = some (y, v)) (kk : ∀ S, q_Gd gr g S0 S → v = q_w g S → post y S) : wX0_dutyFact (g 0 0 0) x1 x2 S post := by
  unfold wX0_dutyFact; unfold fX0_dutyFact at h
  refine ⟨fun c => ?_, fun c => ?_⟩
  · replace h := q_ifp h c
    exact b_X0_dutyFact_b18 R h kk
  · replace h := q_ifn h c
    refine ⟨fun c => ?_, fun c => ?_⟩
    · replace h := q_ifp h c
      exact b_X0_dutyFact_b18 R h kk
    · replace h := q_ifn h c
      obtain ⟨y2, v1, h1, h⟩ := q_bdi h
      refine b_X0_fact R h1 (fun T1 R q => ?_)
      subst q
      exact b_X0_dutyFact_b19 R h kk
def fX0_parameters (x1 : Int32) (S : q_V) : Option (Int32 × q_V) :=
  q_bd (fX0_fact x1 0 S) (fun y2 T1 =>
  some (y2, T1))
theorem b_X0_parameters {gr : Nat} {g : q_G} {S0 : kp_S} {x1 : Int32} {S : kp_S} {post : Int32 → kp_S → Prop} {y : Int32} {v : q_V} (R : q_Gd gr g S0 S)  (h : fX0_parameters x1 (q_w g S) = some (y, v)) (kk : ∀ S, q_Gd gr g S0 S → v = q_w g S → post y S) : wX0_parameters (g 0 0 0) x1 S post := by
  unfold wX0_parameters; unfold fX0_parameters at h
  obtain ⟨y2, v1, h1, h⟩ := q_bdi h
  refine b_X0_fact R h1 (fun T1 R q => ?_)
  subst q
  exact q_fin h kk R
def fX0_entry (x1 : Int32) (S : q_V) : Option (Int32 × q_V) :=
  q_bd (fX0_fact x1 4 S) (fun y2 T1 =>
  some (y2, T1))
theorem b_X0_entry {gr : Nat} {g : q_G} {S0 : kp_S} {x1 : Int32} {S : kp_S} {post : Int32 → kp_S → Prop} {y : Int32} {v : q_V} (R : q_Gd gr g S0 S)  (h : fX0_entry x1 (q_w g S) = some (y, v)) (kk : ∀ S, q_Gd gr g S0 S → v = q_w g S → post y S) : wX0_entry (g 0 0 0) x1 S post := by
  unfold wX0_entry; unfold fX0_entry at h
  obtain ⟨y2, v1, h1, h⟩ := q_bdi h
  refine b_X0_fact R h1 (fun T1 R q => ?_)
  subst q
  exact q_fin h kk R
def fX0_addDuty (x1 : Int32) (x2 : Int32) (S : q_V) : Option q_V :=
  q_lt (q_si S 3 ((x1 + 1))) (fun T1 =>
  q_bv (fX0_setFact x1 2 x2 T1) (fun T2 =>
  q_bv (fX0_setFact x1 4 ((q_i T2 1)) T2) (fun T3 =>
  some T3)))
theorem b_X0_addDuty {g : q_G} {S0 : kp_S} {x1 : Int32} {x2 : Int32} {S : kp_S} {post : kp_S → Prop} {v : q_V} (R : q_Gd 1 g S0 S)  (h : fX0_addDuty x1 x2 (q_w g S) = some v) (kk : ∀ S, q_Gd 1 g S0 S → v = q_w g S → post S) : wX0_addDuty (g 0 0 0) x1 x2 S post := by
  unfold wX0_addDuty; unfold fX0_addDuty at h
  intro T1 q
  obtain ⟨R, q⟩ := q_wI R q rfl rfl
  replace h := q_ltw h q
  obtain ⟨v1, h1, h⟩ := q_bvi h
  refine b_X0_setFact R h1 (fun T2 R q => ?_)
  subst q
  obtain ⟨v1, h1, h⟩ := q_bvi h
  refine b_X0_setFact R h1 (fun T3 R q => ?_)
  subst q
  exact q_finv h kk R
def fX0_setCounts (x1 : Int32) (x2 : Int32) (x3 : Int32) (S : q_V) : Option q_V :=
  q_bv (fX0_setFact x1 0 x2 S) (fun T1 =>
  q_bv (fX0_setFact x1 1 x3 T1) (fun T2 =>
  some T2))
theorem b_X0_setCounts {g : q_G} {S0 : kp_S} {x1 : Int32} {x2 : Int32} {x3 : Int32} {S : kp_S} {post : kp_S → Prop} {v : q_V} (R : q_Gd 1 g S0 S)  (h : fX0_setCounts x1 x2 x3 (q_w g S) = some v) (kk : ∀ S, q_Gd 1 g S0 S → v = q_w g S → post S) : wX0_setCounts (g 0 0 0) x1 x2 x3 S post := by
  unfold wX0_setCounts; unfold fX0_setCounts at h
  obtain ⟨v1, h1, h⟩ := q_bvi h
  refine b_X0_setFact R h1 (fun T1 R q => ?_)
  subst q
  obtain ⟨v1, h1, h⟩ := q_bvi h
  refine b_X0_setFact R h1 (fun T2 R q => ?_)
  subst q
  exact q_finv h kk R
def fX0_setWays (x1 : Int32) (x2 : Int32) (S : q_V) : Option q_V :=
  q_bv (fX0_setFact x1 3 x2 S) (fun T1 =>
  some T1)
theorem b_X0_setWays {g : q_G} {S0 : kp_S} {x1 : Int32} {x2 : Int32} {S : kp_S} {post : kp_S → Prop} {v : q_V} (R : q_Gd 1 g S0 S)  (h : fX0_setWays x1 x2 (q_w g S) = some v) (kk : ∀ S, q_Gd 1 g S0 S → v = q_w g S → post S) : wX0_setWays (g 0 0 0) x1 x2 S post := by
  unfold wX0_setWays; unfold fX0_setWays at h
  obtain ⟨v1, h1, h⟩ := q_bvi h
  refine b_X0_setFact R h1 (fun T1 R q => ?_)
  subst q
  exact q_finv h kk R
def fX0_setChain_b52 (x1 : Int32) (x2 : Int32) (Sn : q_V) : Option q_V :=
  some Sn
theorem b_X0_setChain_b52 {g : q_G} {S0 : kp_S} {x1 : Int32} {x2 : Int32} {Sn : kp_S} {post : kp_S → Prop} {v : q_V} (R : q_Gd 1 g S0 Sn)  (h : fX0_setChain_b52 x1 x2 (q_w g Sn) = some v) (kk : ∀ S, q_Gd 1 g S0 S → v = q_w g S → post S) : wX0_setChain_b52 (g 0 0 0) x1 x2 Sn post := by
  unfold wX0_setChain_b52; unfold fX0_setChain_b52 at h
  exact q_finv h kk R
def fX0_setChain_L5 (x1 : Int32) (x2 : Int32) : Nat → Int32 → Int32 → q_V → Option q_V
  | 0, _, _, _ => none
  | n + 1, xn3, xn4, Sn =>
  if (nI (q_n Sn 0)) ≤ xn4 then
  fX0_setChain_b52 x1 x2 Sn
  else
  if xn3 ≤ 0 then
  fX0_setChain_b52 x1 x2 Sn
  else
  if (nI (q_n Sn 0)) ≤ xn3 then
  fX0_setChain_b52 x1 x2 Sn
  else
  if (xn3) < 0 ∨ q_n Sn 0 ≤ (xn3).toNatClampNeg then none else
  q_lt ((q_a Sn 0 xn3.toNatClampNeg) : Int32) (fun y2002 =>
  if (xn3) < 0 ∨ q_n Sn 0 ≤ (xn3).toNatClampNeg then none else
  q_lt (q_sa Sn 0 ((upd (q_a Sn 0) (xn3.toNatClampNeg) x2))) (fun T2003 =>
  q_lt (xn4 + 1 : Int32) (fun y2004 =>
  fX0_setChain_L5 x1 x2 n y2002 y2004 T2003)))
theorem b_X0_setChain_L5 {g : q_G} {S0 : kp_S} {x1 : Int32} {x2 : Int32} {post : kp_S → Prop} {v : q_V}  (kk : ∀ S, q_Gd 1 g S0 S → v = q_w g S → post S) : ∀ (n : Nat) (xn3 : Int32) (xn4 : Int32) (Sn : kp_S), q_Gd 1 g S0 Sn → fX0_setChain_L5 x1 x2 n xn3 xn4 (q_w g Sn) = some v → wX0_setChain_L5 (g 0 0 0) x1 x2 post n xn3 xn4 Sn := by
  intro n
  induction n with
  | zero => intro xn3 xn4 Sn _ h; cases h
  | succ n ih =>
    intro xn3 xn4 Sn R h
    unfold wX0_setChain_L5; unfold fX0_setChain_L5 at h
    refine ⟨_, q_p0 R, ?_⟩
    refine ⟨fun c => ?_, fun c => ?_⟩
    · replace h := q_ifp h c
      exact b_X0_setChain_b52 R h kk
    · replace h := q_ifn h c
      refine ⟨fun c => ?_, fun c => ?_⟩
      · replace h := q_ifp h c
        exact b_X0_setChain_b52 R h kk
      · replace h := q_ifn h c
        refine ⟨fun c => ?_, fun c => ?_⟩
        · replace h := q_ifp h c
          exact b_X0_setChain_b52 R h kk
        · replace h := q_ifn h c
          obtain ⟨hi, h⟩ := q_in h
          refine ⟨hi, ?_⟩
          intro y2002 q
          replace h := q_ltw h q
          obtain ⟨hi, h⟩ := q_in h
          refine ⟨hi, ?_⟩
          intro T2003 q
          obtain ⟨R, q⟩ := q_wA R q rfl
          replace h := q_ltw h q
          intro y2004 q
          replace h := q_ltw h q
          exact ih _ _ _ R h
def fX0_setChain (x1 : Int32) (x2 : Int32) (S : q_V) : Option q_V :=
  fX0_setChain_L5 x1 x2 q_N x1 0 S
theorem b_X0_setChain {g : q_G} {S0 : kp_S} {x1 : Int32} {x2 : Int32} {S : kp_S} {post : kp_S → Prop} {v : q_V} (R : q_Gd 1 g S0 S)  (h : fX0_setChain x1 x2 (q_w g S) = some v) (kk : ∀ S, q_Gd 1 g S0 S → v = q_w g S → post S) : wX0_setChain (g 0 0 0) x1 x2 S post := by
  unfold wX0_setChain; unfold fX0_setChain at h
  exact ⟨q_N, b_X0_setChain_L5 kk q_N _ _ _ R h⟩
