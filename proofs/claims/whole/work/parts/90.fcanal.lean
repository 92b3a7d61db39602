/-! The functions of the methods, and the rows that they speak for the w. (generated: wip/whole/gen2.py) -/
def fX1_isLock_b15 (x0 : Int32) (xt0 : Int32) (Sn : q_V) : Option (Int32 × q_V) :=
  if ¬ (xt0 = 0 ∨ xt0 = 1) then none else
  some (xt0, Sn)
theorem b_X1_isLock_b15 {g : q_G} {S0 : kp_S} {x0 : Int32} {xt0 : Int32} {Sn : kp_S} {post : Int32 → kp_S → Prop} {y : Int32} {v : q_V} (R : q_Gd 0 g S0 Sn)  (h : fX1_isLock_b15 x0 xt0 (q_w g Sn) = some (y, v)) (kk : ∀ S, q_Gd 0 g S0 S → v = q_w g S → post y S) : wX1_isLock_b15 x0 xt0 Sn post := by
  unfold wX1_isLock_b15; unfold fX1_isLock_b15 at h
  obtain ⟨hi, h⟩ := q_in h
  refine ⟨Classical.not_not.mp hi, ?_⟩
  exact q_fin h kk R
def fX1_isLock_b14 (x0 : Int32) (Sn : q_V) : Option (Int32 × q_V) :=
  fX1_isLock_b15 x0 0 Sn
theorem b_X1_isLock_b14 {g : q_G} {S0 : kp_S} {x0 : Int32} {Sn : kp_S} {post : Int32 → kp_S → Prop} {y : Int32} {v : q_V} (R : q_Gd 0 g S0 Sn)  (h : fX1_isLock_b14 x0 (q_w g Sn) = some (y, v)) (kk : ∀ S, q_Gd 0 g S0 S → v = q_w g S → post y S) : wX1_isLock_b14 x0 Sn post := by
  unfold wX1_isLock_b14; unfold fX1_isLock_b14 at h
  exact b_X1_isLock_b15 R h kk
def fX1_isLock (x0 : Int32) (S : q_V) : Option (Int32 × q_V) :=
  if x0 < 0 then
  fX1_isLock_b14 x0 S
  else
  if 6 ≤ x0 then
  fX1_isLock_b14 x0 S
  else
  fX1_isLock_b15 x0 1 S
theorem b_X1_isLock {g : q_G} {S0 : kp_S} {x0 : Int32} {S : kp_S} {post : Int32 → kp_S → Prop} {y : Int32} {v : q_V} (R : q_Gd 0 g S0 S)  (h : fX1_isLock x0 (q_w g S) = some (y, v)) (kk : ∀ S, q_Gd 0 g S0 S → v = q_w g S → post y S) : wX1_isLock x0 S post := by
  unfold wX1_isLock; unfold fX1_isLock at h
  refine ⟨fun c => ?_, fun c => ?_⟩
  · replace h := q_ifp h c
    exact b_X1_isLock_b14 R h kk
  · replace h := q_ifn h c
    refine ⟨fun c => ?_, fun c => ?_⟩
    · replace h := q_ifp h c
      exact b_X1_isLock_b14 R h kk
    · replace h := q_ifn h c
      exact b_X1_isLock_b15 R h kk
def fX1_isReach_b15 (x0 : Int32) (xt0 : Int32) (Sn : q_V) : Option (Int32 × q_V) :=
  if ¬ (xt0 = 0 ∨ xt0 = 1) then none else
  some (xt0, Sn)
theorem b_X1_isReach_b15 {g : q_G} {S0 : kp_S} {x0 : Int32} {xt0 : Int32} {Sn : kp_S} {post : Int32 → kp_S → Prop} {y : Int32} {v : q_V} (R : q_Gd 0 g S0 Sn)  (h : fX1_isReach_b15 x0 xt0 (q_w g Sn) = some (y, v)) (kk : ∀ S, q_Gd 0 g S0 S → v = q_w g S → post y S) : wX1_isReach_b15 x0 xt0 Sn post := by
  unfold wX1_isReach_b15; unfold fX1_isReach_b15 at h
  obtain ⟨hi, h⟩ := q_in h
  refine ⟨Classical.not_not.mp hi, ?_⟩
  exact q_fin h kk R
def fX1_isReach_b14 (x0 : Int32) (Sn : q_V) : Option (Int32 × q_V) :=
  fX1_isReach_b15 x0 0 Sn
theorem b_X1_isReach_b14 {g : q_G} {S0 : kp_S} {x0 : Int32} {Sn : kp_S} {post : Int32 → kp_S → Prop} {y : Int32} {v : q_V} (R : q_Gd 0 g S0 Sn)  (h : fX1_isReach_b14 x0 (q_w g Sn) = some (y, v)) (kk : ∀ S, q_Gd 0 g S0 S → v = q_w g S → post y S) : wX1_isReach_b14 x0 Sn post := by
  unfold wX1_isReach_b14; unfold fX1_isReach_b14 at h
  exact b_X1_isReach_b15 R h kk
def fX1_isReach (x0 : Int32) (S : q_V) : Option (Int32 × q_V) :=
  if x0 < 0 then
  fX1_isReach_b14 x0 S
  else
  if 7 ≤ x0 then
  fX1_isReach_b14 x0 S
  else
  fX1_isReach_b15 x0 1 S
theorem b_X1_isReach {g : q_G} {S0 : kp_S} {x0 : Int32} {S : kp_S} {post : Int32 → kp_S → Prop} {y : Int32} {v : q_V} (R : q_Gd 0 g S0 S)  (h : fX1_isReach x0 (q_w g S) = some (y, v)) (kk : ∀ S, q_Gd 0 g S0 S → v = q_w g S → post y S) : wX1_isReach x0 S post := by
  unfold wX1_isReach; unfold fX1_isReach at h
  refine ⟨fun c => ?_, fun c => ?_⟩
  · replace h := q_ifp h c
    exact b_X1_isReach_b14 R h kk
  · replace h := q_ifn h c
    refine ⟨fun c => ?_, fun c => ?_⟩
    · replace h := q_ifp h c
      exact b_X1_isReach_b14 R h kk
    · replace h := q_ifn h c
      exact b_X1_isReach_b15 R h kk
def fX1_isShip_b15 (x0 : Int32) (xt0 : Int32) (Sn : q_V) : Option (Int32 × q_V) :=
  if ¬ (xt0 = 0 ∨ xt0 = 1) then none else
  some (xt0, Sn)
theorem b_X1_isShip_b15 {g : q_G} {S0 : kp_S} {x0 : Int32} {xt0 : Int32} {Sn : kp_S} {post : Int32 → kp_S → Prop} {y : Int32} {v : q_V} (R : q_Gd 0 g S0 Sn)  (h : fX1_isShip_b15 x0 xt0 (q_w g Sn) = some (y, v)) (kk : ∀ S, q_Gd 0 g S0 S → v = q_w g S → post y S) : wX1_isShip_b15 x0 xt0 Sn post := by
  unfold wX1_isShip_b15; unfold fX1_isShip_b15 at h
  obtain ⟨hi, h⟩ := q_in h
  refine ⟨Classical.not_not.mp hi, ?_⟩
  exact q_fin h kk R
def fX1_isShip_b14 (x0 : Int32) (Sn : q_V) : Option (Int32 × q_V) :=
  fX1_isShip_b15 x0 0 Sn
theorem b_X1_isShip_b14 {g : q_G} {S0 : kp_S} {x0 : Int32} {Sn : kp_S} {post : Int32 → kp_S → Prop} {y : Int32} {v : q_V} (R : q_Gd 0 g S0 Sn)  (h : fX1_isShip_b14 x0 (q_w g Sn) = some (y, v)) (kk : ∀ S, q_Gd 0 g S0 S → v = q_w g S → post y S) : wX1_isShip_b14 x0 Sn post := by
  unfold wX1_isShip_b14; unfold fX1_isShip_b14 at h
  exact b_X1_isShip_b15 R h kk
def fX1_isShip (x0 : Int32) (S : q_V) : Option (Int32 × q_V) :=
  if x0 < 0 then
  fX1_isShip_b14 x0 S
  else
  if 8 ≤ x0 then
  fX1_isShip_b14 x0 S
  else
  fX1_isShip_b15 x0 1 S
theorem b_X1_isShip {g : q_G} {S0 : kp_S} {x0 : Int32} {S : kp_S} {post : Int32 → kp_S → Prop} {y : Int32} {v : q_V} (R : q_Gd 0 g S0 S)  (h : fX1_isShip x0 (q_w g S) = some (y, v)) (kk : ∀ S, q_Gd 0 g S0 S → v = q_w g S → post y S) : wX1_isShip x0 S post := by
  unfold wX1_isShip; unfold fX1_isShip at h
  refine ⟨fun c => ?_, fun c => ?_⟩
  · replace h := q_ifp h c
    exact b_X1_isShip_b14 R h kk
  · replace h := q_ifn h c
    refine ⟨fun c => ?_, fun c => ?_⟩
    · replace h := q_ifp h c
      exact b_X1_isShip_b14 R h kk
    · replace h := q_ifn h c
      exact b_X1_isShip_b15 R h kk
def fX1_isGate_b24 (x0 : Int32) (x1 : Int32) (xt0 : Int32) (Sn : q_V) : Option (Int32 × q_V) :=
  if ¬ (xt0 = 0 ∨ xt0 = 1) then none else
  some (xt0, Sn)
theorem b_X1_isGate_b24 {g : q_G} {S0 : kp_S} {x0 : Int32} {x1 : Int32} {xt0 : Int32} {Sn : kp_S} {post : Int32 → kp_S → Prop} {y : Int32} {v : q_V} (R : q_Gd 0 g S0 Sn)  (h : fX1_isGate_b24 x0 x1 xt0 (q_w g Sn) = some (y, v)) (kk : ∀ S, q_Gd 0 g S0 S → v = q_w g S → post y S) : wX1_isGate_b24 x0 x1 xt0 Sn post := by
  unfold wX1_isGate_b24; unfold fX1_isGate_b24 at h
  obtain ⟨hi, h⟩ := q_in h
  refine ⟨Classical.not_not.mp hi, ?_⟩
  exact q_fin h kk R
def fX1_isGate_b23 (x0 : Int32) (x1 : Int32) (Sn : q_V) : Option (Int32 × q_V) :=
  fX1_isGate_b24 x0 x1 0 Sn
theorem b_X1_isGate_b23 {g : q_G} {S0 : kp_S} {x0 : Int32} {x1 : Int32} {Sn : kp_S} {post : Int32 → kp_S → Prop} {y : Int32} {v : q_V} (R : q_Gd 0 g S0 Sn)  (h : fX1_isGate_b23 x0 x1 (q_w g Sn) = some (y, v)) (kk : ∀ S, q_Gd 0 g S0 S → v = q_w g S → post y S) : wX1_isGate_b23 x0 x1 Sn post := by
  unfold wX1_isGate_b23; unfold fX1_isGate_b23 at h
  exact b_X1_isGate_b24 R h kk
def fX1_isGate_b19 (x0 : Int32) (x1 : Int32) (Sn : q_V) : Option (Int32 × q_V) :=
  fX1_isGate_b24 x0 x1 1 Sn
theorem b_X1_isGate_b19 {g : q_G} {S0 : kp_S} {x0 : Int32} {x1 : Int32} {Sn : kp_S} {post : Int32 → kp_S → Prop} {y : Int32} {v : q_V} (R : q_Gd 0 g S0 Sn)  (h : fX1_isGate_b19 x0 x1 (q_w g Sn) = some (y, v)) (kk : ∀ S, q_Gd 0 g S0 S → v = q_w g S → post y S) : wX1_isGate_b19 x0 x1 Sn post := by
  unfold wX1_isGate_b19; unfold fX1_isGate_b19 at h
  exact b_X1_isGate_b24 R h kk
def fX1_isGate (x0 : Int32) (x1 : Int32) (S : q_V) : Option (Int32 × q_V) :=
  if x0 < 0 then
  fX1_isGate_b23 x0 x1 S
  else
  if 6 ≤ x0 then
  fX1_isGate_b23 x0 x1 S
  else
  if x1 = 0 then
  fX1_isGate_b19 x0 x1 S
  else
  if x1 = 1 then
  fX1_isGate_b19 x0 x1 S
  else
  fX1_isGate_b23 x0 x1 S
theorem b_X1_isGate {g : q_G} {S0 : kp_S} {x0 : Int32} {x1 : Int32} {S : kp_S} {post : Int32 → kp_S → Prop} {y : Int32} {v : q_V} (R : q_Gd 0 g S0 S)  (h : fX1_isGate x0 x1 (q_w g S) = some (y, v)) (kk : ∀ S, q_Gd 0 g S0 S → v = q_w g S → post y S) : wX1_isGate x0 x1 S post := by
  unfold wX1_isGate; unfold fX1_isGate at h
  refine ⟨fun c => ?_, fun c => ?_⟩
  · replace h := q_ifp h c
    exact b_X1_isGate_b23 R h kk
  · replace h := q_ifn h c
    refine ⟨fun c => ?_, fun c => ?_⟩
    · replace h := q_ifp h c
      exact b_X1_isGate_b23 R h kk
    · replace h := q_ifn h c
      refine ⟨fun c => ?_, fun c => ?_⟩
      · replace h := q_ifp h c
        exact b_X1_isGate_b19 R h kk
      · replace h := q_ifn h c
        refine ⟨fun c => ?_, fun c => ?_⟩
        · replace h := q_ifn h c
          exact b_X1_isGate_b23 R h kk
        · replace h := q_ifp h c
          exact b_X1_isGate_b19 R h kk
def fX1_fillReach_b17 (x1 : Int32) (x2 : Int32) (Sn : q_V) : Option (Int32 × q_V) :=
  some (0, Sn)
theorem b_X1_fillReach_b17 {g : q_G} {S0 : kp_S} {x1 : Int32} {x2 : Int32} {Sn : kp_S} {post : Int32 → kp_S → Prop} {y : Int32} {v : q_V} (R : q_Gd 0 g S0 Sn)  (h : fX1_fillReach_b17 x1 x2 (q_w g Sn) = some (y, v)) (kk : ∀ S, q_Gd 0 g S0 S → v = q_w g S → post y S) : wX1_fillReach_b17 (g 0 1 0) x1 x2 Sn post := by
  unfold wX1_fillReach_b17; unfold fX1_fillReach_b17 at h
  exact q_fin h kk R
def fX1_fillReach (x1 : Int32) (x2 : Int32) (S : q_V) : Option (Int32 × q_V) :=
  q_bd (fX1_isReach x1 S) (fun y2 T1 =>
  if y2 = 0 then
  fX1_fillReach_b17 x1 x2 T1
  else
  if x2 < 0 then
  fX1_fillReach_b17 x1 x2 T1
  else
  if x2 ≤ 100000 then
  if (x1) < 0 ∨ 7 ≤ (x1).toNatClampNeg then none else
  q_lt (q_sa T1 201 ((upd (q_a T1 201) (x1.toNatClampNeg) x2))) (fun T4 =>
  some (1, T4))
  else
  fX1_fillReach_b17 x1 x2 T1)
theorem b_X1_fillReach {g : q_G} {S0 : kp_S} {x1 : Int32} {x2 : Int32} {S : kp_S} {post : Int32 → kp_S → Prop} {y : Int32} {v : q_V} (R : q_Gd 0 g S0 S)  (h : fX1_fillReach x1 x2 (q_w g S) = some (y, v)) (kk : ∀ S, q_Gd 0 g S0 S → v = q_w g S → post y S) : wX1_fillReach (g 0 1 0) x1 x2 S post := by
  unfold wX1_fillReach; unfold fX1_fillReach at h
  obtain ⟨y2, v1, h1, h⟩ := q_bdi h
  refine b_X1_isReach R h1 (fun T1 R q => ?_)
  subst q
  refine ⟨fun c => ?_, fun c => ?_⟩
  · replace h := q_ifp h c
    exact b_X1_fillReach_b17 R h kk
  · replace h := q_ifn h c
    refine ⟨fun c => ?_, fun c => ?_⟩
    · replace h := q_ifp h c
      exact b_X1_fillReach_b17 R h kk
    · replace h := q_ifn h c
      refine ⟨fun c => ?_, fun c => ?_⟩
      · replace h := q_ifp h c
        refine ⟨_, q_p201 R, ?_⟩
        rw [q_l201 R]
        obtain ⟨hi, h⟩ := q_in h
        refine ⟨hi, ?_⟩
        intro T4 q
        obtain ⟨R, q⟩ := q_wA R q rfl
        replace h := q_ltw h q
        exact q_fin h kk R
      · replace h := q_ifn h c
        exact b_X1_fillReach_b17 R h kk
def fX1_gateOf_b22 (x1 : Int32) (x2 : Int32) (xt0 : Int32) (Sn : q_V) : Option (Int32 × q_V) :=
  some (xt0, Sn)
theorem b_X1_gateOf_b22 {g : q_G} {S0 : kp_S} {x1 : Int32} {x2 : Int32} {xt0 : Int32} {Sn : kp_S} {post : Int32 → kp_S → Prop} {y : Int32} {v : q_V} (R : q_Gd 0 g S0 Sn)  (h : fX1_gateOf_b22 x1 x2 xt0 (q_w g Sn) = some (y, v)) (kk : ∀ S, q_Gd 0 g S0 S → v = q_w g S → post y S) : wX1_gateOf_b22 (g 0 1 0) x1 x2 xt0 Sn post := by
  unfold wX1_gateOf_b22; unfold fX1_gateOf_b22 at h
  exact q_fin h kk R
def fX1_gateOf (x1 : Int32) (x2 : Int32) (S : q_V) : Option (Int32 × q_V) :=
  q_bd (fX1_isGate x1 x2 S) (fun y2 T1 =>
  if y2 = 0 then
  fX1_gateOf_b22 x1 x2 ((- 1)) T1
  else
  if ((2 * x1) + x2) < 0 ∨ 12 ≤ ((2 * x1) + x2).toNatClampNeg then none else
  fX1_gateOf_b22 x1 x2 ((q_a T1 202 ((2 * x1) + x2).toNatClampNeg)) T1)
theorem b_X1_gateOf {g : q_G} {S0 : kp_S} {x1 : Int32} {x2 : Int32} {S : kp_S} {post : Int32 → kp_S → Prop} {y : Int32} {v : q_V} (R : q_Gd 0 g S0 S)  (h : fX1_gateOf x1 x2 (q_w g S) = some (y, v)) (kk : ∀ S, q_Gd 0 g S0 S → v = q_w g S → post y S) : wX1_gateOf (g 0 1 0) x1 x2 S post := by
  unfold wX1_gateOf; unfold fX1_gateOf at h
  obtain ⟨y2, v1, h1, h⟩ := q_bdi h
  refine b_X1_isGate R h1 (fun T1 R q => ?_)
  subst q
  refine ⟨fun c => ?_, fun c => ?_⟩
  · replace h := q_ifp h c
    exact b_X1_gateOf_b22 R h kk
  · replace h := q_ifn h c
    refine ⟨_, q_p202 R, ?_⟩
    rw [q_l202 R]
    obtain ⟨hi, h⟩ := q_in h
    refine ⟨hi, ?_⟩
    exact b_X1_gateOf_b22 R h kk
def fX1_fillChamber_b38 (x1 : Int32) (x2 : Int32) (Sn : q_V) : Option (Int32 × q_V) :=
  some (0, Sn)
theorem b_X1_fillChamber_b38 {g : q_G} {S0 : kp_S} {x1 : Int32} {x2 : Int32} {Sn : kp_S} {post : Int32 → kp_S → Prop} {y : Int32} {v : q_V} (R : q_Gd 0 g S0 Sn)  (h : fX1_fillChamber_b38 x1 x2 (q_w g Sn) = some (y, v)) (kk : ∀ S, q_Gd 0 g S0 S → v = q_w g S → post y S) : wX1_fillChamber_b38 (g 0 1 0) x1 x2 Sn post := by
  unfold wX1_fillChamber_b38; unfold fX1_fillChamber_b38 at h
  exact q_fin h kk R
def fX1_fillChamber (x1 : Int32) (x2 : Int32) (S : q_V) : Option (Int32 × q_V) :=
  q_bd (fX1_isLock x1 S) (fun y2 T1 =>
  if y2 = 0 then
  fX1_fillChamber_b38 x1 x2 T1
  else
  if x2 < 0 then
  fX1_fillChamber_b38 x1 x2 T1
  else
  if 10000 < x2 then
  fX1_fillChamber_b38 x1 x2 T1
  else
  q_bd (fX1_gateOf x1 0 T1) (fun y4 T3 =>
  if y4 = 1 then
  fX1_fillChamber_b38 x1 x2 T3
  else
  q_bd (fX1_gateOf x1 1 T3) (fun y6 T5 =>
  if y6 = 1 then
  fX1_fillChamber_b38 x1 x2 T5
  else
  if (x1) < 0 ∨ 6 ≤ (x1).toNatClampNeg then none else
  q_lt (q_sa T5 200 ((upd (q_a T5 200) (x1.toNatClampNeg) x2))) (fun T8 =>
  some (1, T8)))))
theorem b_X1_fillChamber {g : q_G} {S0 : kp_S} {x1 : Int32} {x2 : Int32} {S : kp_S} {post : Int32 → kp_S → Prop} {y : Int32} {v : q_V} (R : q_Gd 0 g S0 S)  (h : fX1_fillChamber x1 x2 (q_w g S) = some (y, v)) (kk : ∀ S, q_Gd 0 g S0 S → v = q_w g S → post y S) : wX1_fillChamber (g 0 1 0) x1 x2 S post := by
  unfold wX1_fillChamber; unfold fX1_fillChamber at h
  obtain ⟨y2, v1, h1, h⟩ := q_bdi h
  refine b_X1_isLock R h1 (fun T1 R q => ?_)
  subst q
  refine ⟨fun c => ?_, fun c => ?_⟩
  · replace h := q_ifp h c
    exact b_X1_fillChamber_b38 R h kk
  · replace h := q_ifn h c
    refine ⟨fun c => ?_, fun c => ?_⟩
    · replace h := q_ifp h c
      exact b_X1_fillChamber_b38 R h kk
    · replace h := q_ifn h c
      refine ⟨fun c => ?_, fun c => ?_⟩
      · replace h := q_ifp h c
        exact b_X1_fillChamber_b38 R h kk
      · replace h := q_ifn h c
        obtain ⟨y4, v1, h1, h⟩ := q_bdi h
        refine b_X1_gateOf R h1 (fun T3 R q => ?_)
        subst q
        refine ⟨fun c => ?_, fun c => ?_⟩
        · replace h := q_ifp h c
          exact b_X1_fillChamber_b38 R h kk
        · replace h := q_ifn h c
          obtain ⟨y6, v1, h1, h⟩ := q_bdi h
          refine b_X1_gateOf R h1 (fun T5 R q => ?_)
          subst q
          refine ⟨fun c => ?_, fun c => ?_⟩
          · replace h := q_ifn h c
            refine ⟨_, q_p200 R, ?_⟩
            rw [q_l200 R]
            obtain ⟨hi, h⟩ := q_in h
            refine ⟨hi, ?_⟩
            intro T8 q
            obtain ⟨R, q⟩ := q_wA R q rfl
            replace h := q_ltw h q
            exact q_fin h kk R
          · replace h := q_ifp h c
            exact b_X1_fillChamber_b38 R h kk
def fX1_isTaken_b33 (x1 : Int32) (x2 : Int32) (xn3 : Int32) (K10 : Int32 → q_V → Option (Int32 × q_V)) (Sn : q_V) : Option (Int32 × q_V) :=
  q_lt (xn3 + 1 : Int32) (fun y1001 =>
  K10 y1001 Sn)
theorem b_X1_isTaken_b33 {g : q_G} {S0 : kp_S} {x1 : Int32} {x2 : Int32} {xn3 : Int32} {K10f : Int32 → q_V → Option (Int32 × q_V)} {K10 : Int32 → kp_S → Prop} {Sn : kp_S} {post : Int32 → kp_S → Prop} {y : Int32} {v : q_V} (R : q_Gd 0 g S0 Sn) (hK10 : ∀ (x0 : Int32) (S : kp_S), q_Gd 0 g S0 S → K10f x0 (q_w g S) = some (y, v) → K10 x0 S) (h : fX1_isTaken_b33 x1 x2 xn3 K10f (q_w g Sn) = some (y, v)) (kk : ∀ S, q_Gd 0 g S0 S → v = q_w g S → post y S) : wX1_isTaken_b33 (g 0 1 0) x1 x2 xn3 K10 Sn post := by
  unfold wX1_isTaken_b33; unfold fX1_isTaken_b33 at h
  intro y1001 q
  replace h := q_ltw h q
  exact hK10 _ _ R h
def fX1_isTaken_L10 (x1 : Int32) (x2 : Int32) : Nat → Int32 → q_V → Option (Int32 × q_V)
  | 0, _, _ => none
  | n + 1, xn3, Sn =>
  if 8 ≤ xn3 then
  some (0, Sn)
  else
  if xn3 = x2 then
  fX1_isTaken_b33 x1 x2 xn3 (fun xn3_ S_ => fX1_isTaken_L10 x1 x2 n xn3_ S_) Sn
  else
  if (xn3) < 0 ∨ 8 ≤ (xn3).toNatClampNeg then none else
  if (q_a Sn 204 xn3.toNatClampNeg) = x1 then
  some (1, Sn)
  else
  fX1_isTaken_b33 x1 x2 xn3 (fun xn3_ S_ => fX1_isTaken_L10 x1 x2 n xn3_ S_) Sn
theorem b_X1_isTaken_L10 {g : q_G} {S0 : kp_S} {x1 : Int32} {x2 : Int32} {post : Int32 → kp_S → Prop} {y : Int32} {v : q_V}  (kk : ∀ S, q_Gd 0 g S0 S → v = q_w g S → post y S) : ∀ (n : Nat) (xn3 : Int32) (Sn : kp_S), q_Gd 0 g S0 Sn → fX1_isTaken_L10 x1 x2 n xn3 (q_w g Sn) = some (y, v) → wX1_isTaken_L10 (g 0 1 0) x1 x2 post n xn3 Sn := by
  intro n
  induction n with
  | zero => intro xn3 Sn _ h; cases h
  | succ n ih =>
    intro xn3 Sn R h
    unfold wX1_isTaken_L10; unfold fX1_isTaken_L10 at h
    refine ⟨fun c => ?_, fun c => ?_⟩
    · replace h := q_ifp h c
      exact q_fin h kk R
    · replace h := q_ifn h c
      refine ⟨fun c => ?_, fun c => ?_⟩
      · replace h := q_ifp h c
        exact b_X1_isTaken_b33 R (fun xn3_ S_ R h => ih xn3_ S_ R h) h kk
      · replace h := q_ifn h c
        refine ⟨_, q_p204 R, ?_⟩
        rw [q_l204 R]
        obtain ⟨hi, h⟩ := q_in h
        refine ⟨hi, ?_⟩
        refine ⟨fun c => ?_, fun c => ?_⟩
        · replace h := q_ifn h c
          exact b_X1_isTaken_b33 R (fun xn3_ S_ R h => ih xn3_ S_ R h) h kk
        · replace h := q_ifp h c
          exact q_fin h kk R
def fX1_isTaken (x1 : Int32) (x2 : Int32) (S : q_V) : Option (Int32 × q_V) :=
  if (x1 - x1 / 2 * 2) = 0 then
  some (0, S)
  else
  fX1_isTaken_L10 x1 x2 q_N 0 S
theorem b_X1_isTaken {g : q_G} {S0 : kp_S} {x1 : Int32} {x2 : Int32} {S : kp_S} {post : Int32 → kp_S → Prop} {y : Int32} {v : q_V} (R : q_Gd 0 g S0 S)  (h : fX1_isTaken x1 x2 (q_w g S) = some (y, v)) (kk : ∀ S, q_Gd 0 g S0 S → v = q_w g S → post y S) : wX1_isTaken (g 0 1 0) x1 x2 S post := by
  unfold wX1_isTaken; unfold fX1_isTaken at h
  refine ⟨fun c => ?_, fun c => ?_⟩
  · replace h := q_ifn h c
    exact ⟨q_N, b_X1_isTaken_L10 kk q_N _ _ R h⟩
  · replace h := q_ifp h c
    exact q_fin h kk R
def fX1_layShip_b26 (x1 : Int32) (x2 : Int32) (Sn : q_V) : Option (Int32 × q_V) :=
  some (0, Sn)
theorem b_X1_layShip_b26 {g : q_G} {S0 : kp_S} {x1 : Int32} {x2 : Int32} {Sn : kp_S} {post : Int32 → kp_S → Prop} {y : Int32} {v : q_V} (R : q_Gd 0 g S0 Sn)  (h : fX1_layShip_b26 x1 x2 (q_w g Sn) = some (y, v)) (kk : ∀ S, q_Gd 0 g S0 S → v = q_w g S → post y S) : wX1_layShip_b26 (g 0 1 0) x1 x2 Sn post := by
  unfold wX1_layShip_b26; unfold fX1_layShip_b26 at h
  exact q_fin h kk R
def fX1_layShip (x1 : Int32) (x2 : Int32) (S : q_V) : Option (Int32 × q_V) :=
  q_bd (fX1_isShip x1 S) (fun y2 T1 =>
  if y2 = 0 then
  fX1_layShip_b26 x1 x2 T1
  else
  if x2 < 0 then
  fX1_layShip_b26 x1 x2 T1
  else
  if 12 < x2 then
  fX1_layShip_b26 x1 x2 T1
  else
  q_bd (fX1_isTaken x2 x1 T1) (fun y4 T3 =>
  if y4 = 0 then
  if (x1) < 0 ∨ 8 ≤ (x1).toNatClampNeg then none else
  q_lt (q_sa T3 204 ((upd (q_a T3 204) (x1.toNatClampNeg) x2))) (fun T6 =>
  some (1, T6))
  else
  fX1_layShip_b26 x1 x2 T3))
theorem b_X1_layShip {g : q_G} {S0 : kp_S} {x1 : Int32} {x2 : Int32} {S : kp_S} {post : Int32 → kp_S → Prop} {y : Int32} {v : q_V} (R : q_Gd 0 g S0 S)  (h : fX1_layShip x1 x2 (q_w g S) = some (y, v)) (kk : ∀ S, q_Gd 0 g S0 S → v = q_w g S → post y S) : wX1_layShip (g 0 1 0) x1 x2 S post := by
  unfold wX1_layShip; unfold fX1_layShip at h
  obtain ⟨y2, v1, h1, h⟩ := q_bdi h
  refine b_X1_isShip R h1 (fun T1 R q => ?_)
  subst q
  refine ⟨fun c => ?_, fun c => ?_⟩
  · replace h := q_ifp h c
    exact b_X1_layShip_b26 R h kk
  · replace h := q_ifn h c
    refine ⟨fun c => ?_, fun c => ?_⟩
    · replace h := q_ifp h c
      exact b_X1_layShip_b26 R h kk
    · replace h := q_ifn h c
      refine ⟨fun c => ?_, fun c => ?_⟩
      · replace h := q_ifp h c
        exact b_X1_layShip_b26 R h kk
      · replace h := q_ifn h c
        obtain ⟨y4, v1, h1, h⟩ := q_bdi h
        refine b_X1_isTaken R h1 (fun T3 R q => ?_)
        subst q
        refine ⟨fun c => ?_, fun c => ?_⟩
        · replace h := q_ifp h c
          refine ⟨_, q_p204 R, ?_⟩
          rw [q_l204 R]
          obtain ⟨hi, h⟩ := q_in h
          refine ⟨hi, ?_⟩
          intro T6 q
          obtain ⟨R, q⟩ := q_wA R q rfl
          replace h := q_ltw h q
          exact q_fin h kk R
        · replace h := q_ifn h c
          exact b_X1_layShip_b26 R h kk
def fX1_levelOf_b17 (x1 : Int32) (xt0 : Int32) (Sn : q_V) : Option (Int32 × q_V) :=
  some (xt0, Sn)
theorem b_X1_levelOf_b17 {g : q_G} {S0 : kp_S} {x1 : Int32} {xt0 : Int32} {Sn : kp_S} {post : Int32 → kp_S → Prop} {y : Int32} {v : q_V} (R : q_Gd 0 g S0 Sn)  (h : fX1_levelOf_b17 x1 xt0 (q_w g Sn) = some (y, v)) (kk : ∀ S, q_Gd 0 g S0 S → v = q_w g S → post y S) : wX1_levelOf_b17 (g 0 1 0) x1 xt0 Sn post := by
  unfold wX1_levelOf_b17; unfold fX1_levelOf_b17 at h
  exact q_fin h kk R
def fX1_levelOf (x1 : Int32) (S : q_V) : Option (Int32 × q_V) :=
  q_bd (fX1_isLock x1 S) (fun y2 T1 =>
  if y2 = 0 then
  fX1_levelOf_b17 x1 ((- 1)) T1
  else
  if (x1) < 0 ∨ 6 ≤ (x1).toNatClampNeg then none else
  fX1_levelOf_b17 x1 ((q_a T1 200 x1.toNatClampNeg)) T1)
theorem b_X1_levelOf {g : q_G} {S0 : kp_S} {x1 : Int32} {S : kp_S} {post : Int32 → kp_S → Prop} {y : Int32} {v : q_V} (R : q_Gd 0 g S0 S)  (h : fX1_levelOf x1 (q_w g S) = some (y, v)) (kk : ∀ S, q_Gd 0 g S0 S → v = q_w g S → post y S) : wX1_levelOf (g 0 1 0) x1 S post := by
  unfold wX1_levelOf; unfold fX1_levelOf at h
  obtain ⟨y2, v1, h1, h⟩ := q_bdi h
  refine b_X1_isLock R h1 (fun T1 R q => ?_)
  subst q
  refine ⟨fun c => ?_, fun c => ?_⟩
  · replace h := q_ifp h c
    exact b_X1_levelOf_b17 R h kk
  · replace h := q_ifn h c
    refine ⟨_, q_p200 R, ?_⟩
    rw [q_l200 R]
    obtain ⟨hi, h⟩ := q_in h
    refine ⟨hi, ?_⟩
    exact b_X1_levelOf_b17 R h kk
def fX1_reachLevelOf_b20 (x1 : Int32) (xt0 : Int32) (Sn : q_V) : Option (Int32 × q_V) :=
  some (xt0, Sn)
theorem b_X1_reachLevelOf_b20 {g : q_G} {S0 : kp_S} {x1 : Int32} {xt0 : Int32} {Sn : kp_S} {post : Int32 → kp_S → Prop} {y : Int32} {v : q_V} (R : q_Gd 0 g S0 Sn)  (h : fX1_reachLevelOf_b20 x1 xt0 (q_w g Sn) = some (y, v)) (kk : ∀ S, q_Gd 0 g S0 S → v = q_w g S → post y S) : wX1_reachLevelOf_b20 (g 0 1 0) x1 xt0 Sn post := by
  unfold wX1_reachLevelOf_b20; unfold fX1_reachLevelOf_b20 at h
  exact q_fin h kk R
def fX1_reachLevelOf (x1 : Int32) (S : q_V) : Option (Int32 × q_V) :=
  q_bd (fX1_isReach x1 S) (fun y2 T1 =>
  if y2 = 0 then
  fX1_reachLevelOf_b20 x1 ((- 1)) T1
  else
  if (x1) < 0 ∨ 7 ≤ (x1).toNatClampNeg then none else
  fX1_reachLevelOf_b20 x1 (((q_a T1 201 x1.toNatClampNeg) / 10)) T1)
theorem b_X1_reachLevelOf {g : q_G} {S0 : kp_S} {x1 : Int32} {S : kp_S} {post : Int32 → kp_S → Prop} {y : Int32} {v : q_V} (R : q_Gd 0 g S0 S)  (h : fX1_reachLevelOf x1 (q_w g S) = some (y, v)) (kk : ∀ S, q_Gd 0 g S0 S → v = q_w g S → post y S) : wX1_reachLevelOf (g 0 1 0) x1 S post := by
  unfold wX1_reachLevelOf; unfold fX1_reachLevelOf at h
  obtain ⟨y2, v1, h1, h⟩ := q_bdi h
  refine b_X1_isReach R h1 (fun T1 R q => ?_)
  subst q
  refine ⟨fun c => ?_, fun c => ?_⟩
  · replace h := q_ifp h c
    exact b_X1_reachLevelOf_b20 R h kk
  · replace h := q_ifn h c
    refine ⟨_, q_p201 R, ?_⟩
    rw [q_l201 R]
    obtain ⟨hi, h⟩ := q_in h
    refine ⟨hi, ?_⟩
    exact b_X1_reachLevelOf_b20 R h kk
def fX1_holdsOf_b17 (x1 : Int32) (xt0 : Int32) (Sn : q_V) : Option (Int32 × q_V) :=
  some (xt0, Sn)
theorem b_X1_holdsOf_b17 {g : q_G} {S0 : kp_S} {x1 : Int32} {xt0 : Int32} {Sn : kp_S} {post : Int32 → kp_S → Prop} {y : Int32} {v : q_V} (R : q_Gd 0 g S0 Sn)  (h : fX1_holdsOf_b17 x1 xt0 (q_w g Sn) = some (y, v)) (kk : ∀ S, q_Gd 0 g S0 S → v = q_w g S → post y S) : wX1_holdsOf_b17 (g 0 1 0) x1 xt0 Sn post := by
  unfold wX1_holdsOf_b17; unfold fX1_holdsOf_b17 at h
  exact q_fin h kk R
def fX1_holdsOf (x1 : Int32) (S : q_V) : Option (Int32 × q_V) :=
  q_bd (fX1_isLock x1 S) (fun y2 T1 =>
  if y2 = 0 then
  fX1_holdsOf_b17 x1 ((- 1)) T1
  else
  if (x1) < 0 ∨ 6 ≤ (x1).toNatClampNeg then none else
  fX1_holdsOf_b17 x1 ((q_a T1 203 x1.toNatClampNeg)) T1)
theorem b_X1_holdsOf {g : q_G} {S0 : kp_S} {x1 : Int32} {S : kp_S} {post : Int32 → kp_S → Prop} {y : Int32} {v : q_V} (R : q_Gd 0 g S0 S)  (h : fX1_holdsOf x1 (q_w g S) = some (y, v)) (kk : ∀ S, q_Gd 0 g S0 S → v = q_w g S → post y S) : wX1_holdsOf (g 0 1 0) x1 S post := by
  unfold wX1_holdsOf; unfold fX1_holdsOf at h
  obtain ⟨y2, v1, h1, h⟩ := q_bdi h
  refine b_X1_isLock R h1 (fun T1 R q => ?_)
  subst q
  refine ⟨fun c => ?_, fun c => ?_⟩
  · replace h := q_ifp h c
    exact b_X1_holdsOf_b17 R h kk
  · replace h := q_ifn h c
    refine ⟨_, q_p203 R, ?_⟩
    rw [q_l203 R]
    obtain ⟨hi, h⟩ := q_in h
    refine ⟨hi, ?_⟩
    exact b_X1_holdsOf_b17 R h kk
def fX1_placeOf_b17 (x1 : Int32) (xt0 : Int32) (Sn : q_V) : Option (Int32 × q_V) :=
  some (xt0, Sn)
theorem b_X1_placeOf_b17 {g : q_G} {S0 : kp_S} {x1 : Int32} {xt0 : Int32} {Sn : kp_S} {post : Int32 → kp_S → Prop} {y : Int32} {v : q_V} (R : q_Gd 0 g S0 Sn)  (h : fX1_placeOf_b17 x1 xt0 (q_w g Sn) = some (y, v)) (kk : ∀ S, q_Gd 0 g S0 S → v = q_w g S → post y S) : wX1_placeOf_b17 (g 0 1 0) x1 xt0 Sn post := by
  unfold wX1_placeOf_b17; unfold fX1_placeOf_b17 at h
  exact q_fin h kk R
def fX1_placeOf (x1 : Int32) (S : q_V) : Option (Int32 × q_V) :=
  q_bd (fX1_isShip x1 S) (fun y2 T1 =>
  if y2 = 0 then
  fX1_placeOf_b17 x1 ((- 1)) T1
  else
  if (x1) < 0 ∨ 8 ≤ (x1).toNatClampNeg then none else
  fX1_placeOf_b17 x1 ((q_a T1 204 x1.toNatClampNeg)) T1)
theorem b_X1_placeOf {g : q_G} {S0 : kp_S} {x1 : Int32} {S : kp_S} {post : Int32 → kp_S → Prop} {y : Int32} {v : q_V} (R : q_Gd 0 g S0 S)  (h : fX1_placeOf x1 (q_w g S) = some (y, v)) (kk : ∀ S, q_Gd 0 g S0 S → v = q_w g S → post y S) : wX1_placeOf (g 0 1 0) x1 S post := by
  unfold wX1_placeOf; unfold fX1_placeOf at h
  obtain ⟨y2, v1, h1, h⟩ := q_bdi h
  refine b_X1_isShip R h1 (fun T1 R q => ?_)
  subst q
  refine ⟨fun c => ?_, fun c => ?_⟩
  · replace h := q_ifp h c
    exact b_X1_placeOf_b17 R h kk
  · replace h := q_ifn h c
    refine ⟨_, q_p204 R, ?_⟩
    rw [q_l204 R]
    obtain ⟨hi, h⟩ := q_in h
    refine ⟨hi, ?_⟩
    exact b_X1_placeOf_b17 R h kk
def fX1_allWater_L27  : Nat → Int32 → Int32 → q_V → Option (Int32 × q_V)
  | 0, _, _, _ => none
  | n + 1, xn1, xn2, Sn =>
  if 7 ≤ xn2 then
  some (xn1, Sn)
  else
  if (xn2) < 0 ∨ 7 ≤ (xn2).toNatClampNeg then none else
  q_lt ((xn1 + (q_a Sn 201 xn2.toNatClampNeg)) : Int32) (fun y1002 =>
  q_lt (xn2 + 1 : Int32) (fun y1003 =>
  fX1_allWater_L27 n y1002 y1003 Sn))
theorem b_X1_allWater_L27 {g : q_G} {S0 : kp_S} {post : Int32 → kp_S → Prop} {y : Int32} {v : q_V}  (kk : ∀ S, q_Gd 0 g S0 S → v = q_w g S → post y S) : ∀ (n : Nat) (xn1 : Int32) (xn2 : Int32) (Sn : kp_S), q_Gd 0 g S0 Sn → fX1_allWater_L27  n xn1 xn2 (q_w g Sn) = some (y, v) → wX1_allWater_L27 (g 0 1 0) post n xn1 xn2 Sn := by
  intro n
  induction n with
  | zero => intro xn1 xn2 Sn _ h; cases h
  | succ n ih =>
    intro xn1 xn2 Sn R h
    unfold wX1_allWater_L27; unfold fX1_allWater_L27 at h
    refine ⟨fun c => ?_, fun c => ?_⟩
    · replace h := q_ifp h c
      exact q_fin h kk R
    · replace h := q_ifn h c
      refine ⟨_, q_p201 R, ?_⟩
      rw [q_l201 R]
      obtain ⟨hi, h⟩ := q_in h
      refine ⟨hi, ?_⟩
      intro y1002 q
      replace h := q_ltw h q
      intro y1003 q
      replace h := q_ltw h q
      exact ih _ _ _ R h
def fX1_allWater_L4  : Nat → Int32 → Int32 → q_V → Option (Int32 × q_V)
  | 0, _, _, _ => none
  | n + 1, xn1, xn2, Sn =>
  if 6 ≤ xn2 then
  fX1_allWater_L27 q_N xn1 0 Sn
  else
  if (xn2) < 0 ∨ 6 ≤ (xn2).toNatClampNeg then none else
  q_lt ((xn1 + (q_a Sn 200 xn2.toNatClampNeg)) : Int32) (fun y2002 =>
  q_lt (xn2 + 1 : Int32) (fun y2003 =>
  fX1_allWater_L4 n y2002 y2003 Sn))
theorem b_X1_allWater_L4 {g : q_G} {S0 : kp_S} {post : Int32 → kp_S → Prop} {y : Int32} {v : q_V}  (kk : ∀ S, q_Gd 0 g S0 S → v = q_w g S → post y S) : ∀ (n : Nat) (xn1 : Int32) (xn2 : Int32) (Sn : kp_S), q_Gd 0 g S0 Sn → fX1_allWater_L4  n xn1 xn2 (q_w g Sn) = some (y, v) → wX1_allWater_L4 (g 0 1 0) post n xn1 xn2 Sn := by
  intro n
  induction n with
  | zero => intro xn1 xn2 Sn _ h; cases h
  | succ n ih =>
    intro xn1 xn2 Sn R h
    unfold wX1_allWater_L4; unfold fX1_allWater_L4 at h
    refine ⟨fun c => ?_, fun c => ?_⟩
    · replace h := q_ifp h c
      exact ⟨q_N, b_X1_allWater_L27 kk q_N _ _ _ R h⟩
    · replace h := q_ifn h c
      refine ⟨_, q_p200 R, ?_⟩
      rw [q_l200 R]
      obtain ⟨hi, h⟩ := q_in h
      refine ⟨hi, ?_⟩
      intro y2002 q
      replace h := q_ltw h q
      intro y2003 q
      replace h := q_ltw h q
      exact ih _ _ _ R h
def fX1_allWater (S : q_V) : Option (Int32 × q_V) :=
  fX1_allWater_L4 q_N 0 0 S
theorem b_X1_allWater {g : q_G} {S0 : kp_S} {S : kp_S} {post : Int32 → kp_S → Prop} {y : Int32} {v : q_V} (R : q_Gd 0 g S0 S)  (h : fX1_allWater (q_w g S) = some (y, v)) (kk : ∀ S, q_Gd 0 g S0 S → v = q_w g S → post y S) : wX1_allWater (g 0 1 0) S post := by
  unfold wX1_allWater; unfold fX1_allWater at h
  exact ⟨q_N, b_X1_allWater_L4 kk q_N _ _ _ R h⟩
def fX1_fact_b87 (x1 : Int32) (x2 : Int32) (xt0 : Int32) (Sn : q_V) : Option (Int32 × q_V) :=
  some (xt0, Sn)
theorem b_X1_fact_b87 {g : q_G} {S0 : kp_S} {x1 : Int32} {x2 : Int32} {xt0 : Int32} {Sn : kp_S} {post : Int32 → kp_S → Prop} {y : Int32} {v : q_V} (R : q_Gd 0 g S0 Sn)  (h : fX1_fact_b87 x1 x2 xt0 (q_w g Sn) = some (y, v)) (kk : ∀ S, q_Gd 0 g S0 S → v = q_w g S → post y S) : wX1_fact_b87 (g 0 1 0) x1 x2 xt0 Sn post := by
  unfold wX1_fact_b87; unfold fX1_fact_b87 at h
  exact q_fin h kk R
def fX1_fact (x1 : Int32) (x2 : Int32) (S : q_V) : Option (Int32 × q_V) :=
  if x1 = 0 then
  q_bd (fX1_levelOf x2 S) (fun y3 T2 =>
  some (y3, T2))
  else
  if x1 = 1 then
  q_bd (fX1_gateOf x2 0 S) (fun y6 T5 =>
  some (y6, T5))
  else
  if x1 = 2 then
  q_bd (fX1_gateOf x2 1 S) (fun y9 T8 =>
  some (y9, T8))
  else
  if x1 = 3 then
  q_bd (fX1_holdsOf x2 S) (fun y12 T11 =>
  some (y12, T11))
  else
  if x1 = 4 then
  q_bd (fX1_isReach x2 S) (fun y15 T14 =>
  if y15 = 0 then
  fX1_fact_b87 x1 x2 ((- 1)) T14
  else
  if (x2) < 0 ∨ 7 ≤ (x2).toNatClampNeg then none else
  fX1_fact_b87 x1 x2 ((q_a T14 201 x2.toNatClampNeg)) T14)
  else
  if x1 = 5 then
  q_bd (fX1_placeOf x2 S) (fun y20 T19 =>
  some (y20, T19))
  else
  if x1 = 6 then
  q_bd (fX1_allWater S) (fun y23 T22 =>
  some (y23, T22))
  else
  some ((- 1), S)
theorem b_X1_fact {g : q_G} {S0 : kp_S} {x1 : Int32} {x2 : Int32} {S : kp_S} {post : Int32 → kp_S → Prop} {y : Int32} {v : q_V} (R : q_Gd 0 g S0 S)  (h : fX1_fact x1 x2 (q_w g S) = some (y, v)) (kk : ∀ S, q_Gd 0 g S0 S → v = q_w g S → post y S) : wX1_fact (g 0 1 0) x1 x2 S post := by
  unfold wX1_fact; unfold fX1_fact at h
  refine ⟨fun c => ?_, fun c => ?_⟩
  · replace h := q_ifp h c
    obtain ⟨y3, v1, h1, h⟩ := q_bdi h
    refine b_X1_levelOf R h1 (fun T2 R q => ?_)
    subst q
    exact q_fin h kk R
  · replace h := q_ifn h c
    refine ⟨fun c => ?_, fun c => ?_⟩
    · replace h := q_ifp h c
      obtain ⟨y6, v1, h1, h⟩ := q_bdi h
      refine b_X1_gateOf R h1 (fun T5 R q => ?_)
      subst q
      exact q_fin h kk R
    · replace h := q_ifn h c
      refine ⟨fun c => ?_, fun c => ?_⟩
      · replace h := q_ifp h c
        obtain ⟨y9, v1, h1, h⟩ := q_bdi h
        refine b_X1_gateOf R h1 (fun T8 R q => ?_)
        subst q
        exact q_fin h kk R
      · replace h := q_ifn h c
        refine ⟨fun c => ?_, fun c => ?_⟩
        · replace h := q_ifp h c
          obtain ⟨y12, v1, h1, h⟩ := q_bdi h
          refine b_X1_holdsOf R h1 (fun T11 R q => ?_)
          subst q
          exact q_fin h kk R
        · replace h := q_ifn h c
          refine ⟨fun c => ?_, fun c => ?_⟩
          · replace h := q_ifp h c
            obtain ⟨y15, v1, h1, h⟩ := q_bdi h
            refine b_X1_isReach R h1 (fun T14 R q => ?_)
            subst q
            refine ⟨fun c => ?_, fun c => ?_⟩
            · replace h := q_ifp h c
              exact b_X1_fact_b87 R h kk
            · replace h := q_ifn h c
              refine ⟨_, q_p201 R, ?_⟩
              rw [q_l201 R]
              obtain ⟨hi, h⟩ := q_in h
              refine ⟨hi, ?_⟩
              exact b_X1_fact_b87 R h kk
          · replace h := q_ifn h c
            refine ⟨fun c => ?_, fun c => ?_⟩
            · replace h := q_ifp h c
              obtain ⟨y20, v1, h1, h⟩ := q_bdi h
              refine b_X1_placeOf R h1 (fun T19 R q => ?_)
              subst q
              exact q_fin h kk R
            · replace h := q_ifn h c
              refine ⟨fun c => ?_, fun c => ?_⟩
              · replace h := q_ifp h c
                obtain ⟨y23, v1, h1, h⟩ := q_bdi h
                refine b_X1_allWater R h1 (fun T22 R q => ?_)
                subst q
                exact q_fin h kk R
              · replace h := q_ifn h c
                exact q_fin h kk R
def fX1_addHold (x1 : Int32) (x2 : Int32) (S : q_V) : Option (Int32 × q_V) :=
  q_bd (fX1_isLock x1 S) (fun y2 T1 =>
  if y2 = 0 then
  some ((- 1), T1)
  else
  if (x1) < 0 ∨ 6 ≤ (x1).toNatClampNeg then none else
  if (x1) < 0 ∨ 6 ≤ (x1).toNatClampNeg then none else
  q_lt (q_sa T1 203 ((upd (q_a T1 203) (x1.toNatClampNeg) ((q_a T1 203 x1.toNatClampNeg) + x2)))) (fun T4 =>
  if (x1) < 0 ∨ 6 ≤ (x1).toNatClampNeg then none else
  some ((q_a T4 203 x1.toNatClampNeg), T4)))
theorem b_X1_addHold {g : q_G} {S0 : kp_S} {x1 : Int32} {x2 : Int32} {S : kp_S} {post : Int32 → kp_S → Prop} {y : Int32} {v : q_V} (R : q_Gd 0 g S0 S)  (h : fX1_addHold x1 x2 (q_w g S) = some (y, v)) (kk : ∀ S, q_Gd 0 g S0 S → v = q_w g S → post y S) : wX1_addHold (g 0 1 0) x1 x2 S post := by
  unfold wX1_addHold; unfold fX1_addHold at h
  obtain ⟨y2, v1, h1, h⟩ := q_bdi h
  refine b_X1_isLock R h1 (fun T1 R q => ?_)
  subst q
  refine ⟨fun c => ?_, fun c => ?_⟩
  · replace h := q_ifn h c
    refine ⟨_, q_p203 R, ?_⟩
    rw [q_l203 R]
    obtain ⟨hi, h⟩ := q_in h
    refine ⟨hi, ?_⟩
    obtain ⟨hi, h⟩ := q_in h
    refine ⟨hi, ?_⟩
    intro T4 q
    obtain ⟨R, q⟩ := q_wA R q rfl
    replace h := q_ltw h q
    rw [q_l203 R]
    obtain ⟨hi, h⟩ := q_in h
    refine ⟨hi, ?_⟩
    exact q_fin h kk R
  · replace h := q_ifp h c
    exact q_fin h kk R
def fX1_dropHolds_L2  : Nat → Int32 → q_V → Option q_V
  | 0, _, _ => none
  | n + 1, xn1, Sn =>
  if 6 ≤ xn1 then
  some Sn
  else
  if (xn1) < 0 ∨ 6 ≤ (xn1).toNatClampNeg then none else
  q_lt (q_sa Sn 203 ((upd (q_a Sn 203) (xn1.toNatClampNeg) 0))) (fun T1002 =>
  q_lt (xn1 + 1 : Int32) (fun y1003 =>
  fX1_dropHolds_L2 n y1003 T1002))
theorem b_X1_dropHolds_L2 {g : q_G} {S0 : kp_S} {post : kp_S → Prop} {v : q_V}  (kk : ∀ S, q_Gd 0 g S0 S → v = q_w g S → post S) : ∀ (n : Nat) (xn1 : Int32) (Sn : kp_S), q_Gd 0 g S0 Sn → fX1_dropHolds_L2  n xn1 (q_w g Sn) = some v → wX1_dropHolds_L2 (g 0 1 0) post n xn1 Sn := by
  intro n
  induction n with
  | zero => intro xn1 Sn _ h; cases h
  | succ n ih =>
    intro xn1 Sn R h
    unfold wX1_dropHolds_L2; unfold fX1_dropHolds_L2 at h
    refine ⟨fun c => ?_, fun c => ?_⟩
    · replace h := q_ifp h c
      exact q_finv h kk R
    · replace h := q_ifn h c
      refine ⟨_, q_p203 R, ?_⟩
      rw [q_l203 R]
      obtain ⟨hi, h⟩ := q_in h
      refine ⟨hi, ?_⟩
      intro T1002 q
      obtain ⟨R, q⟩ := q_wA R q rfl
      replace h := q_ltw h q
      intro y1003 q
      replace h := q_ltw h q
      exact ih _ _ R h
def fX1_dropHolds (S : q_V) : Option q_V :=
  fX1_dropHolds_L2 q_N 0 S
theorem b_X1_dropHolds {g : q_G} {S0 : kp_S} {S : kp_S} {post : kp_S → Prop} {v : q_V} (R : q_Gd 0 g S0 S)  (h : fX1_dropHolds (q_w g S) = some v) (kk : ∀ S, q_Gd 0 g S0 S → v = q_w g S → post S) : wX1_dropHolds (g 0 1 0) S post := by
  unfold wX1_dropHolds; unfold fX1_dropHolds at h
  exact ⟨q_N, b_X1_dropHolds_L2 kk q_N _ _ R h⟩
def fX1_troubleToShut_b24 (x1 : Int32) (x2 : Int32) (xt0 : Int32) (Sn : q_V) : Option (Int32 × q_V) :=
  some (xt0, Sn)
theorem b_X1_troubleToShut_b24 {g : q_G} {S0 : kp_S} {x1 : Int32} {x2 : Int32} {xt0 : Int32} {Sn : kp_S} {post : Int32 → kp_S → Prop} {y : Int32} {v : q_V} (R : q_Gd 0 g S0 Sn)  (h : fX1_troubleToShut_b24 x1 x2 xt0 (q_w g Sn) = some (y, v)) (kk : ∀ S, q_Gd 0 g S0 S → v = q_w g S → post y S) : wX1_troubleToShut_b24 (g 0 1 0) x1 x2 xt0 Sn post := by
  unfold wX1_troubleToShut_b24; unfold fX1_troubleToShut_b24 at h
  exact q_fin h kk R
def fX1_troubleToShut (x1 : Int32) (x2 : Int32) (S : q_V) : Option (Int32 × q_V) :=
  q_bd (fX1_isGate x1 x2 S) (fun y2 T1 =>
  if y2 = 0 then
  some (3, T1)
  else
  if (x1) < 0 ∨ 6 ≤ (x1).toNatClampNeg then none else
  if (q_a T1 203 x1.toNatClampNeg) = 0 then
  fX1_troubleToShut_b24 x1 x2 4 T1
  else
  fX1_troubleToShut_b24 x1 x2 0 T1)
theorem b_X1_troubleToShut {g : q_G} {S0 : kp_S} {x1 : Int32} {x2 : Int32} {S : kp_S} {post : Int32 → kp_S → Prop} {y : Int32} {v : q_V} (R : q_Gd 0 g S0 S)  (h : fX1_troubleToShut x1 x2 (q_w g S) = some (y, v)) (kk : ∀ S, q_Gd 0 g S0 S → v = q_w g S → post y S) : wX1_troubleToShut (g 0 1 0) x1 x2 S post := by
  unfold wX1_troubleToShut; unfold fX1_troubleToShut at h
  obtain ⟨y2, v1, h1, h⟩ := q_bdi h
  refine b_X1_isGate R h1 (fun T1 R q => ?_)
  subst q
  refine ⟨fun c => ?_, fun c => ?_⟩
  · replace h := q_ifn h c
    refine ⟨_, q_p203 R, ?_⟩
    rw [q_l203 R]
    obtain ⟨hi, h⟩ := q_in h
    refine ⟨hi, ?_⟩
    refine ⟨fun c => ?_, fun c => ?_⟩
    · replace h := q_ifn h c
      exact b_X1_troubleToShut_b24 R h kk
    · replace h := q_ifp h c
      exact b_X1_troubleToShut_b24 R h kk
  · replace h := q_ifp h c
    exact q_fin h kk R
def fX1_headOf_b38 (x1 : Int32) (x2 : Int32) (xt0 : Int32) (Sn : q_V) : Option (Int32 × q_V) :=
  some (xt0, Sn)
theorem b_X1_headOf_b38 {g : q_G} {S0 : kp_S} {x1 : Int32} {x2 : Int32} {xt0 : Int32} {Sn : kp_S} {post : Int32 → kp_S → Prop} {y : Int32} {v : q_V} (R : q_Gd 0 g S0 Sn)  (h : fX1_headOf_b38 x1 x2 xt0 (q_w g Sn) = some (y, v)) (kk : ∀ S, q_Gd 0 g S0 S → v = q_w g S → post y S) : wX1_headOf_b38 (g 0 1 0) x1 x2 xt0 Sn post := by
  unfold wX1_headOf_b38; unfold fX1_headOf_b38 at h
  exact q_fin h kk R
def fX1_headOf_b37 (x1 : Int32) (x2 : Int32) (Sn : q_V) : Option (Int32 × q_V) :=
  fX1_headOf_b38 x1 x2 0 Sn
theorem b_X1_headOf_b37 {g : q_G} {S0 : kp_S} {x1 : Int32} {x2 : Int32} {Sn : kp_S} {post : Int32 → kp_S → Prop} {y : Int32} {v : q_V} (R : q_Gd 0 g S0 Sn)  (h : fX1_headOf_b37 x1 x2 (q_w g Sn) = some (y, v)) (kk : ∀ S, q_Gd 0 g S0 S → v = q_w g S → post y S) : wX1_headOf_b37 (g 0 1 0) x1 x2 Sn post := by
  unfold wX1_headOf_b37; unfold fX1_headOf_b37 at h
  exact b_X1_headOf_b38 R h kk
def fX1_headOf (x1 : Int32) (x2 : Int32) (S : q_V) : Option (Int32 × q_V) :=
  q_bd (fX1_isLock x1 S) (fun y2 T1 =>
  if y2 = 0 then
  fX1_headOf_b37 x1 x2 T1
  else
  q_bd (fX1_isReach ((x1 + x2)) T1) (fun y4 T3 =>
  if y4 = 0 then
  fX1_headOf_b37 x1 x2 T3
  else
  if (x1) < 0 ∨ 6 ≤ (x1).toNatClampNeg then none else
  if (x1 + x2) < 0 ∨ 7 ≤ (x1 + x2).toNatClampNeg then none else
  fX1_headOf_b38 x1 x2 (((q_a T3 200 x1.toNatClampNeg) - ((q_a T3 201 (x1 + x2).toNatClampNeg) / 10))) T3))
theorem b_X1_headOf {g : q_G} {S0 : kp_S} {x1 : Int32} {x2 : Int32} {S : kp_S} {post : Int32 → kp_S → Prop} {y : Int32} {v : q_V} (R : q_Gd 0 g S0 S)  (h : fX1_headOf x1 x2 (q_w g S) = some (y, v)) (kk : ∀ S, q_Gd 0 g S0 S → v = q_w g S → post y S) : wX1_headOf (g 0 1 0) x1 x2 S post := by
  unfold wX1_headOf; unfold fX1_headOf at h
  obtain ⟨y2, v1, h1, h⟩ := q_bdi h
  refine b_X1_isLock R h1 (fun T1 R q => ?_)
  subst q
  refine ⟨fun c => ?_, fun c => ?_⟩
  · replace h := q_ifp h c
    exact b_X1_headOf_b37 R h kk
  · replace h := q_ifn h c
    obtain ⟨y4, v1, h1, h⟩ := q_bdi h
    refine b_X1_isReach R h1 (fun T3 R q => ?_)
    subst q
    refine ⟨fun c => ?_, fun c => ?_⟩
    · replace h := q_ifp h c
      exact b_X1_headOf_b37 R h kk
    · replace h := q_ifn h c
      refine ⟨_, q_p200 R, ?_⟩
      rw [q_l200 R]
      obtain ⟨hi, h⟩ := q_in h
      refine ⟨hi, ?_⟩
      refine ⟨_, q_p201 R, ?_⟩
      rw [q_l201 R]
      obtain ⟨hi, h⟩ := q_in h
      refine ⟨hi, ?_⟩
      exact b_X1_headOf_b38 R h kk
def fX1_troubleToOpen_b53 (x1 : Int32) (x2 : Int32) (xt0 : Int32) (Sn : q_V) : Option (Int32 × q_V) :=
  some (xt0, Sn)
theorem b_X1_troubleToOpen_b53 {g : q_G} {S0 : kp_S} {x1 : Int32} {x2 : Int32} {xt0 : Int32} {Sn : kp_S} {post : Int32 → kp_S → Prop} {y : Int32} {v : q_V} (R : q_Gd 0 g S0 Sn)  (h : fX1_troubleToOpen_b53 x1 x2 xt0 (q_w g Sn) = some (y, v)) (kk : ∀ S, q_Gd 0 g S0 S → v = q_w g S → post y S) : wX1_troubleToOpen_b53 (g 0 1 0) x1 x2 xt0 Sn post := by
  unfold wX1_troubleToOpen_b53; unfold fX1_troubleToOpen_b53 at h
  exact q_fin h kk R
def fX1_troubleToOpen_b48 (x1 : Int32) (x2 : Int32) (Sn : q_V) : Option (Int32 × q_V) :=
  fX1_troubleToOpen_b53 x1 x2 5 Sn
theorem b_X1_troubleToOpen_b48 {g : q_G} {S0 : kp_S} {x1 : Int32} {x2 : Int32} {Sn : kp_S} {post : Int32 → kp_S → Prop} {y : Int32} {v : q_V} (R : q_Gd 0 g S0 Sn)  (h : fX1_troubleToOpen_b48 x1 x2 (q_w g Sn) = some (y, v)) (kk : ∀ S, q_Gd 0 g S0 S → v = q_w g S → post y S) : wX1_troubleToOpen_b48 (g 0 1 0) x1 x2 Sn post := by
  unfold wX1_troubleToOpen_b48; unfold fX1_troubleToOpen_b48 at h
  exact b_X1_troubleToOpen_b53 R h kk
def fX1_troubleToOpen (x1 : Int32) (x2 : Int32) (S : q_V) : Option (Int32 × q_V) :=
  q_bd (fX1_troubleToShut x1 x2 S) (fun y2 T1 =>
  if y2 = 0 then
  q_bd (fX1_gateOf x1 ((1 - x2)) T1) (fun y4 T3 =>
  if y4 = 1 then
  some (6, T3)
  else
  q_bd (fX1_headOf x1 x2 T3) (fun y6 T5 =>
  if 1 < y6 then
  fX1_troubleToOpen_b48 x1 x2 T5
  else
  if (- 1) ≤ y6 then
  fX1_troubleToOpen_b53 x1 x2 0 T5
  else
  fX1_troubleToOpen_b48 x1 x2 T5))
  else
  some (y2, T1))
theorem b_X1_troubleToOpen {g : q_G} {S0 : kp_S} {x1 : Int32} {x2 : Int32} {S : kp_S} {post : Int32 → kp_S → Prop} {y : Int32} {v : q_V} (R : q_Gd 0 g S0 S)  (h : fX1_troubleToOpen x1 x2 (q_w g S) = some (y, v)) (kk : ∀ S, q_Gd 0 g S0 S → v = q_w g S → post y S) : wX1_troubleToOpen (g 0 1 0) x1 x2 S post := by
  unfold wX1_troubleToOpen; unfold fX1_troubleToOpen at h
  obtain ⟨y2, v1, h1, h⟩ := q_bdi h
  refine b_X1_troubleToShut R h1 (fun T1 R q => ?_)
  subst q
  refine ⟨fun c => ?_, fun c => ?_⟩
  · replace h := q_ifp h c
    obtain ⟨y4, v1, h1, h⟩ := q_bdi h
    refine b_X1_gateOf R h1 (fun T3 R q => ?_)
    subst q
    refine ⟨fun c => ?_, fun c => ?_⟩
    · replace h := q_ifn h c
      obtain ⟨y6, v1, h1, h⟩ := q_bdi h
      refine b_X1_headOf R h1 (fun T5 R q => ?_)
      subst q
      refine ⟨fun c => ?_, fun c => ?_⟩
      · replace h := q_ifp h c
        exact b_X1_troubleToOpen_b48 R h kk
      · replace h := q_ifn h c
        refine ⟨fun c => ?_, fun c => ?_⟩
        · replace h := q_ifp h c
          exact b_X1_troubleToOpen_b53 R h kk
        · replace h := q_ifn h c
          exact b_X1_troubleToOpen_b48 R h kk
    · replace h := q_ifp h c
      exact q_fin h kk R
  · replace h := q_ifn h c
    exact q_fin h kk R
def fX1_troubleToSluice_b11 (x1 : Int32) (x2 : Int32) (x3 : Int32) (Sn : q_V) : Option (Int32 × q_V) :=
  some (3, Sn)
theorem b_X1_troubleToSluice_b11 {g : q_G} {S0 : kp_S} {x1 : Int32} {x2 : Int32} {x3 : Int32} {Sn : kp_S} {post : Int32 → kp_S → Prop} {y : Int32} {v : q_V} (R : q_Gd 0 g S0 Sn)  (h : fX1_troubleToSluice_b11 x1 x2 x3 (q_w g Sn) = some (y, v)) (kk : ∀ S, q_Gd 0 g S0 S → v = q_w g S → post y S) : wX1_troubleToSluice_b11 (g 0 1 0) x1 x2 x3 Sn post := by
  unfold wX1_troubleToSluice_b11; unfold fX1_troubleToSluice_b11 at h
  exact q_fin h kk R
def fX1_troubleToSluice_b47 (x1 : Int32) (x2 : Int32) (x3 : Int32) (xt0 : Int32) (Sn : q_V) : Option (Int32 × q_V) :=
  some (xt0, Sn)
theorem b_X1_troubleToSluice_b47 {g : q_G} {S0 : kp_S} {x1 : Int32} {x2 : Int32} {x3 : Int32} {xt0 : Int32} {Sn : kp_S} {post : Int32 → kp_S → Prop} {y : Int32} {v : q_V} (R : q_Gd 0 g S0 Sn)  (h : fX1_troubleToSluice_b47 x1 x2 x3 xt0 (q_w g Sn) = some (y, v)) (kk : ∀ S, q_Gd 0 g S0 S → v = q_w g S → post y S) : wX1_troubleToSluice_b47 (g 0 1 0) x1 x2 x3 xt0 Sn post := by
  unfold wX1_troubleToSluice_b47; unfold fX1_troubleToSluice_b47 at h
  exact q_fin h kk R
def fX1_troubleToSluice (x1 : Int32) (x2 : Int32) (x3 : Int32) (S : q_V) : Option (Int32 × q_V) :=
  if x3 < 0 then
  fX1_troubleToSluice_b11 x1 x2 x3 S
  else
  if x3 ≤ 1000 then
  q_bd (fX1_troubleToShut x1 x2 S) (fun y2 T1 =>
  if y2 = 0 then
  q_bd (fX1_gateOf x1 ((1 - x2)) T1) (fun y4 T3 =>
  if y4 = 1 then
  fX1_troubleToSluice_b47 x1 x2 x3 6 T3
  else
  fX1_troubleToSluice_b47 x1 x2 x3 0 T3)
  else
  some (y2, T1))
  else
  fX1_troubleToSluice_b11 x1 x2 x3 S
theorem b_X1_troubleToSluice {g : q_G} {S0 : kp_S} {x1 : Int32} {x2 : Int32} {x3 : Int32} {S : kp_S} {post : Int32 → kp_S → Prop} {y : Int32} {v : q_V} (R : q_Gd 0 g S0 S)  (h : fX1_troubleToSluice x1 x2 x3 (q_w g S) = some (y, v)) (kk : ∀ S, q_Gd 0 g S0 S → v = q_w g S → post y S) : wX1_troubleToSluice (g 0 1 0) x1 x2 x3 S post := by
  unfold wX1_troubleToSluice; unfold fX1_troubleToSluice at h
  refine ⟨fun c => ?_, fun c => ?_⟩
  · replace h := q_ifp h c
    exact b_X1_troubleToSluice_b11 R h kk
  · replace h := q_ifn h c
    refine ⟨fun c => ?_, fun c => ?_⟩
    · replace h := q_ifp h c
      obtain ⟨y2, v1, h1, h⟩ := q_bdi h
      refine b_X1_troubleToShut R h1 (fun T1 R q => ?_)
      subst q
      refine ⟨fun c => ?_, fun c => ?_⟩
      · replace h := q_ifp h c
        obtain ⟨y4, v1, h1, h⟩ := q_bdi h
        refine b_X1_gateOf R h1 (fun T3 R q => ?_)
        subst q
        refine ⟨fun c => ?_, fun c => ?_⟩
        · replace h := q_ifn h c
          exact b_X1_troubleToSluice_b47 R h kk
        · replace h := q_ifp h c
          exact b_X1_troubleToSluice_b47 R h kk
      · replace h := q_ifn h c
        exact q_fin h kk R
    · replace h := q_ifn h c
      exact b_X1_troubleToSluice_b11 R h kk
def fX1_placeBeyond_b14 (x0 : Int32) (x1 : Int32) (xt0 : Int32) (Sn : q_V) : Option (Int32 × q_V) :=
  some (xt0, Sn)
theorem b_X1_placeBeyond_b14 {g : q_G} {S0 : kp_S} {x0 : Int32} {x1 : Int32} {xt0 : Int32} {Sn : kp_S} {post : Int32 → kp_S → Prop} {y : Int32} {v : q_V} (R : q_Gd 0 g S0 Sn)  (h : fX1_placeBeyond_b14 x0 x1 xt0 (q_w g Sn) = some (y, v)) (kk : ∀ S, q_Gd 0 g S0 S → v = q_w g S → post y S) : wX1_placeBeyond_b14 x0 x1 xt0 Sn post := by
  unfold wX1_placeBeyond_b14; unfold fX1_placeBeyond_b14 at h
  exact q_fin h kk R
def fX1_placeBeyond (x0 : Int32) (x1 : Int32) (S : q_V) : Option (Int32 × q_V) :=
  if x1 = 1 then
  fX1_placeBeyond_b14 x0 x1 ((x0 + 1)) S
  else
  fX1_placeBeyond_b14 x0 x1 ((x0 - 1)) S
theorem b_X1_placeBeyond {g : q_G} {S0 : kp_S} {x0 : Int32} {x1 : Int32} {S : kp_S} {post : Int32 → kp_S → Prop} {y : Int32} {v : q_V} (R : q_Gd 0 g S0 S)  (h : fX1_placeBeyond x0 x1 (q_w g S) = some (y, v)) (kk : ∀ S, q_Gd 0 g S0 S → v = q_w g S → post y S) : wX1_placeBeyond x0 x1 S post := by
  unfold wX1_placeBeyond; unfold fX1_placeBeyond at h
  refine ⟨fun c => ?_, fun c => ?_⟩
  · replace h := q_ifn h c
    exact b_X1_placeBeyond_b14 R h kk
  · replace h := q_ifp h c
    exact b_X1_placeBeyond_b14 R h kk
def fX1_troubleToSail_b16 (x1 : Int32) (x2 : Int32) (Sn : q_V) : Option (Int32 × q_V) :=
  some (3, Sn)
theorem b_X1_troubleToSail_b16 {g : q_G} {S0 : kp_S} {x1 : Int32} {x2 : Int32} {Sn : kp_S} {post : Int32 → kp_S → Prop} {y : Int32} {v : q_V} (R : q_Gd 0 g S0 Sn)  (h : fX1_troubleToSail_b16 x1 x2 (q_w g Sn) = some (y, v)) (kk : ∀ S, q_Gd 0 g S0 S → v = q_w g S → post y S) : wX1_troubleToSail_b16 (g 0 1 0) x1 x2 Sn post := by
  unfold wX1_troubleToSail_b16; unfold fX1_troubleToSail_b16 at h
  exact q_fin h kk R
def fX1_troubleToSail_b56 (x1 : Int32) (x2 : Int32) (Sn : q_V) : Option (Int32 × q_V) :=
  some (9, Sn)
theorem b_X1_troubleToSail_b56 {g : q_G} {S0 : kp_S} {x1 : Int32} {x2 : Int32} {Sn : kp_S} {post : Int32 → kp_S → Prop} {y : Int32} {v : q_V} (R : q_Gd 0 g S0 Sn)  (h : fX1_troubleToSail_b56 x1 x2 (q_w g Sn) = some (y, v)) (kk : ∀ S, q_Gd 0 g S0 S → v = q_w g S → post y S) : wX1_troubleToSail_b56 (g 0 1 0) x1 x2 Sn post := by
  unfold wX1_troubleToSail_b56; unfold fX1_troubleToSail_b56 at h
  exact q_fin h kk R
def fX1_troubleToSail_b100 (x1 : Int32) (x2 : Int32) (xt0 : Int32) (Sn : q_V) : Option (Int32 × q_V) :=
  some (xt0, Sn)
theorem b_X1_troubleToSail_b100 {g : q_G} {S0 : kp_S} {x1 : Int32} {x2 : Int32} {xt0 : Int32} {Sn : kp_S} {post : Int32 → kp_S → Prop} {y : Int32} {v : q_V} (R : q_Gd 0 g S0 Sn)  (h : fX1_troubleToSail_b100 x1 x2 xt0 (q_w g Sn) = some (y, v)) (kk : ∀ S, q_Gd 0 g S0 S → v = q_w g S → post y S) : wX1_troubleToSail_b100 (g 0 1 0) x1 x2 xt0 Sn post := by
  unfold wX1_troubleToSail_b100; unfold fX1_troubleToSail_b100 at h
  exact q_fin h kk R
def fX1_troubleToSail_b18 (x1 : Int32) (x2 : Int32) (Sn : q_V) : Option (Int32 × q_V) :=
  if (x1) < 0 ∨ 8 ≤ (x1).toNatClampNeg then none else
  q_bd (fX1_placeBeyond ((q_a Sn 204 x1.toNatClampNeg)) x2 Sn) (fun y4003 T4002 =>
  if (x1) < 0 ∨ 8 ≤ (x1).toNatClampNeg then none else
  q_lt ((if (q_a T4002 204 x1.toNatClampNeg) < y4003 then (q_a T4002 204 x1.toNatClampNeg) else y4003) : Int32) (fun y4005 =>
  if y4005 < 0 then
  fX1_troubleToSail_b56 x1 x2 T4002
  else
  if y4005 < (12) then
  q_bd (fX1_holdsOf ((y4005 / 2)) T4002) (fun y4008 T4007 =>
  if y4008 = 0 then
  some (4, T4007)
  else
  if (y4005) < 0 ∨ 12 ≤ (y4005).toNatClampNeg then none else
  if (q_a T4007 202 y4005.toNatClampNeg) = 0 then
  some (7, T4007)
  else
  q_bd (fX1_isTaken y4003 x1 T4007) (fun y4011 T4010 =>
  if y4011 = 0 then
  fX1_troubleToSail_b100 x1 x2 0 T4010
  else
  fX1_troubleToSail_b100 x1 x2 8 T4010))
  else
  fX1_troubleToSail_b56 x1 x2 T4002))
theorem b_X1_troubleToSail_b18 {g : q_G} {S0 : kp_S} {x1 : Int32} {x2 : Int32} {Sn : kp_S} {post : Int32 → kp_S → Prop} {y : Int32} {v : q_V} (R : q_Gd 0 g S0 Sn)  (h : fX1_troubleToSail_b18 x1 x2 (q_w g Sn) = some (y, v)) (kk : ∀ S, q_Gd 0 g S0 S → v = q_w g S → post y S) : wX1_troubleToSail_b18 (g 0 1 0) x1 x2 Sn post := by
  unfold wX1_troubleToSail_b18; unfold fX1_troubleToSail_b18 at h
  refine ⟨_, q_p204 R, ?_⟩
  rw [q_l204 R]
  obtain ⟨hi, h⟩ := q_in h
  refine ⟨hi, ?_⟩
  obtain ⟨y4003, v1, h1, h⟩ := q_bdi h
  refine b_X1_placeBeyond R h1 (fun T4002 R q => ?_)
  subst q
  refine ⟨_, q_p204 R, ?_⟩
  rw [q_l204 R]
  obtain ⟨hi, h⟩ := q_in h
  refine ⟨hi, ?_⟩
  intro y4005 q
  replace h := q_ltw h q
  refine ⟨fun c => ?_, fun c => ?_⟩
  · replace h := q_ifp h c
    exact b_X1_troubleToSail_b56 R h kk
  · replace h := q_ifn h c
    refine ⟨_, q_p202 R, ?_⟩
    rw [q_l202 R]
    refine ⟨fun c => ?_, fun c => ?_⟩
    · replace h := q_ifp h c
      obtain ⟨y4008, v1, h1, h⟩ := q_bdi h
      refine b_X1_holdsOf R h1 (fun T4007 R q => ?_)
      subst q
      refine ⟨fun c => ?_, fun c => ?_⟩
      · replace h := q_ifn h c
        refine ⟨_, q_p202 R, ?_⟩
        rw [q_l202 R]
        obtain ⟨hi, h⟩ := q_in h
        refine ⟨hi, ?_⟩
        refine ⟨fun c => ?_, fun c => ?_⟩
        · replace h := q_ifn h c
          obtain ⟨y4011, v1, h1, h⟩ := q_bdi h
          refine b_X1_isTaken R h1 (fun T4010 R q => ?_)
          subst q
          refine ⟨fun c => ?_, fun c => ?_⟩
          · replace h := q_ifp h c
            exact b_X1_troubleToSail_b100 R h kk
          · replace h := q_ifn h c
            exact b_X1_troubleToSail_b100 R h kk
        · replace h := q_ifp h c
          exact q_fin h kk R
      · replace h := q_ifp h c
        exact q_fin h kk R
    · replace h := q_ifn h c
      exact b_X1_troubleToSail_b56 R h kk
def fX1_troubleToSail (x1 : Int32) (x2 : Int32) (S : q_V) : Option (Int32 × q_V) :=
  q_bd (fX1_isShip x1 S) (fun y2 T1 =>
  if y2 = 0 then
  fX1_troubleToSail_b16 x1 x2 T1
  else
  if x2 = 0 then
  fX1_troubleToSail_b18 x1 x2 T1
  else
  if x2 = 1 then
  fX1_troubleToSail_b18 x1 x2 T1
  else
  fX1_troubleToSail_b16 x1 x2 T1)
theorem b_X1_troubleToSail {g : q_G} {S0 : kp_S} {x1 : Int32} {x2 : Int32} {S : kp_S} {post : Int32 → kp_S → Prop} {y : Int32} {v : q_V} (R : q_Gd 0 g S0 S)  (h : fX1_troubleToSail x1 x2 (q_w g S) = some (y, v)) (kk : ∀ S, q_Gd 0 g S0 S → v = q_w g S → post y S) : wX1_troubleToSail (g 0 1 0) x1 x2 S post := by
  unfold wX1_troubleToSail; unfold fX1_troubleToSail at h
  obtain ⟨y2, v1, h1, h⟩ := q_bdi h
  refine b_X1_isShip R h1 (fun T1 R q => ?_)
  subst q
  refine ⟨fun c => ?_, fun c => ?_⟩
  · replace h := q_ifp h c
    exact b_X1_troubleToSail_b16 R h kk
  · replace h := q_ifn h c
    refine ⟨fun c => ?_, fun c => ?_⟩
    · replace h := q_ifp h c
      exact b_X1_troubleToSail_b18 R h kk
    · replace h := q_ifn h c
      refine ⟨fun c => ?_, fun c => ?_⟩
      · replace h := q_ifp h c
        exact b_X1_troubleToSail_b18 R h kk
      · replace h := q_ifn h c
        exact b_X1_troubleToSail_b16 R h kk
def fX1_setGate_b19 (x1 : Int32) (x2 : Int32) (x3 : Int32) (Sn : q_V) : Option q_V :=
  some Sn
theorem b_X1_setGate_b19 {g : q_G} {S0 : kp_S} {x1 : Int32} {x2 : Int32} {x3 : Int32} {Sn : kp_S} {post : kp_S → Prop} {v : q_V} (R : q_Gd 0 g S0 Sn)  (h : fX1_setGate_b19 x1 x2 x3 (q_w g Sn) = some v) (kk : ∀ S, q_Gd 0 g S0 S → v = q_w g S → post S) : wX1_setGate_b19 (g 0 1 0) x1 x2 x3 Sn post := by
  unfold wX1_setGate_b19; unfold fX1_setGate_b19 at h
  exact q_finv h kk R
def fX1_setGate (x1 : Int32) (x2 : Int32) (x3 : Int32) (S : q_V) : Option q_V :=
  q_bd (fX1_isGate x1 x2 S) (fun y2 T1 =>
  if y2 = 0 then
  fX1_setGate_b19 x1 x2 x3 T1
  else
  if ((2 * x1) + x2) < 0 ∨ 12 ≤ ((2 * x1) + x2).toNatClampNeg then none else
  q_lt (q_sa T1 202 ((upd (q_a T1 202) (((2 * x1) + x2).toNatClampNeg) x3))) (fun T4 =>
  fX1_setGate_b19 x1 x2 x3 T4))
theorem b_X1_setGate {g : q_G} {S0 : kp_S} {x1 : Int32} {x2 : Int32} {x3 : Int32} {S : kp_S} {post : kp_S → Prop} {v : q_V} (R : q_Gd 0 g S0 S)  (h : fX1_setGate x1 x2 x3 (q_w g S) = some v) (kk : ∀ S, q_Gd 0 g S0 S → v = q_w g S → post S) : wX1_setGate (g 0 1 0) x1 x2 x3 S post := by
  unfold wX1_setGate; unfold fX1_setGate at h
  obtain ⟨y2, v1, h1, h⟩ := q_bdi h
  refine b_X1_isGate R h1 (fun T1 R q => ?_)
  subst q
  refine ⟨fun c => ?_, fun c => ?_⟩
  · replace h := q_ifp h c
    exact b_X1_setGate_b19 R h kk
  · replace h := q_ifn h c
    refine ⟨_, q_p202 R, ?_⟩
    rw [q_l202 R]
    obtain ⟨hi, h⟩ := q_in h
    refine ⟨hi, ?_⟩
    intro T4 q
    obtain ⟨R, q⟩ := q_wA R q rfl
    replace h := q_ltw h q
    exact b_X1_setGate_b19 R h kk
def fX1_moveShip (x1 : Int32) (x2 : Int32) (S : q_V) : Option (Int32 × q_V) :=
  q_bd (fX1_isShip x1 S) (fun y2 T1 =>
  if y2 = 0 then
  some ((- 1), T1)
  else
  if (x1) < 0 ∨ 8 ≤ (x1).toNatClampNeg then none else
  q_bd (fX1_placeBeyond ((q_a T1 204 x1.toNatClampNeg)) x2 T1) (fun y5 T4 =>
  if (x1) < 0 ∨ 8 ≤ (x1).toNatClampNeg then none else
  q_lt (q_sa T4 204 ((upd (q_a T4 204) (x1.toNatClampNeg) y5))) (fun T6 =>
  if (x1) < 0 ∨ 8 ≤ (x1).toNatClampNeg then none else
  some ((q_a T6 204 x1.toNatClampNeg), T6))))
theorem b_X1_moveShip {g : q_G} {S0 : kp_S} {x1 : Int32} {x2 : Int32} {S : kp_S} {post : Int32 → kp_S → Prop} {y : Int32} {v : q_V} (R : q_Gd 0 g S0 S)  (h : fX1_moveShip x1 x2 (q_w g S) = some (y, v)) (kk : ∀ S, q_Gd 0 g S0 S → v = q_w g S → post y S) : wX1_moveShip (g 0 1 0) x1 x2 S post := by
  unfold wX1_moveShip; unfold fX1_moveShip at h
  obtain ⟨y2, v1, h1, h⟩ := q_bdi h
  refine b_X1_isShip R h1 (fun T1 R q => ?_)
  subst q
  refine ⟨fun c => ?_, fun c => ?_⟩
  · replace h := q_ifn h c
    refine ⟨_, q_p204 R, ?_⟩
    rw [q_l204 R]
    obtain ⟨hi, h⟩ := q_in h
    refine ⟨hi, ?_⟩
    obtain ⟨y5, v1, h1, h⟩ := q_bdi h
    refine b_X1_placeBeyond R h1 (fun T4 R q => ?_)
    subst q
    rw [q_l204 R]
    obtain ⟨hi, h⟩ := q_in h
    refine ⟨hi, ?_⟩
    intro T6 q
    obtain ⟨R, q⟩ := q_wA R q rfl
    replace h := q_ltw h q
    refine ⟨_, q_p204 R, ?_⟩
    rw [q_l204 R]
    obtain ⟨hi, h⟩ := q_in h
    refine ⟨hi, ?_⟩
    exact q_fin h kk R
  · replace h := q_ifp h c
    exact q_fin h kk R
def fX1_moveUnit_b51 (x1 : Int32) (x2 : Int32) (x3 : Int32) (Sn : q_V) : Option q_V :=
  some Sn
theorem b_X1_moveUnit_b51 {g : q_G} {S0 : kp_S} {x1 : Int32} {x2 : Int32} {x3 : Int32} {Sn : kp_S} {post : kp_S → Prop} {v : q_V} (R : q_Gd 0 g S0 Sn)  (h : fX1_moveUnit_b51 x1 x2 x3 (q_w g Sn) = some v) (kk : ∀ S, q_Gd 0 g S0 S → v = q_w g S → post S) : wX1_moveUnit_b51 (g 0 1 0) x1 x2 x3 Sn post := by
  unfold wX1_moveUnit_b51; unfold fX1_moveUnit_b51 at h
  exact q_finv h kk R
def fX1_moveUnit_b9 (x1 : Int32) (x2 : Int32) (x3 : Int32) (xt0 : Int32) (Sn : q_V) : Option q_V :=
  q_bd (fX1_isLock x1 Sn) (fun y2002 T2001 =>
  if y2002 = 0 then
  fX1_moveUnit_b51 x1 x2 x3 T2001
  else
  q_bd (fX1_isReach ((x1 + x2)) T2001) (fun y2004 T2003 =>
  if y2004 = 0 then
  fX1_moveUnit_b51 x1 x2 x3 T2003
  else
  if (x1) < 0 ∨ 6 ≤ (x1).toNatClampNeg then none else
  if (x1) < 0 ∨ 6 ≤ (x1).toNatClampNeg then none else
  q_lt (q_sa T2003 200 ((upd (q_a T2003 200) (x1.toNatClampNeg) ((q_a T2003 200 x1.toNatClampNeg) - xt0)))) (fun T2006 =>
  if (x1 + x2) < 0 ∨ 7 ≤ (x1 + x2).toNatClampNeg then none else
  if (x1 + x2) < 0 ∨ 7 ≤ (x1 + x2).toNatClampNeg then none else
  q_lt (q_sa T2006 201 ((upd (q_a T2006 201) ((x1 + x2).toNatClampNeg) ((q_a T2006 201 (x1 + x2).toNatClampNeg) + xt0)))) (fun T2008 =>
  fX1_moveUnit_b51 x1 x2 x3 T2008))))
theorem b_X1_moveUnit_b9 {g : q_G} {S0 : kp_S} {x1 : Int32} {x2 : Int32} {x3 : Int32} {xt0 : Int32} {Sn : kp_S} {post : kp_S → Prop} {v : q_V} (R : q_Gd 0 g S0 Sn)  (h : fX1_moveUnit_b9 x1 x2 x3 xt0 (q_w g Sn) = some v) (kk : ∀ S, q_Gd 0 g S0 S → v = q_w g S → post S) : wX1_moveUnit_b9 (g 0 1 0) x1 x2 x3 xt0 Sn post := by
  unfold wX1_moveUnit_b9; unfold fX1_moveUnit_b9 at h
  obtain ⟨y2002, v1, h1, h⟩ := q_bdi h
  refine b_X1_isLock R h1 (fun T2001 R q => ?_)
  subst q
  refine ⟨fun c => ?_, fun c => ?_⟩
  · replace h := q_ifp h c
    exact b_X1_moveUnit_b51 R h kk
  · replace h := q_ifn h c
    obtain ⟨y2004, v1, h1, h⟩ := q_bdi h
    refine b_X1_isReach R h1 (fun T2003 R q => ?_)
    subst q
    refine ⟨fun c => ?_, fun c => ?_⟩
    · replace h := q_ifp h c
      exact b_X1_moveUnit_b51 R h kk
    · replace h := q_ifn h c
      refine ⟨_, q_p200 R, ?_⟩
      rw [q_l200 R]
      obtain ⟨hi, h⟩ := q_in h
      refine ⟨hi, ?_⟩
      obtain ⟨hi, h⟩ := q_in h
      refine ⟨hi, ?_⟩
      intro T2006 q
      obtain ⟨R, q⟩ := q_wA R q rfl
      replace h := q_ltw h q
      refine ⟨_, q_p201 R, ?_⟩
      rw [q_l201 R]
      obtain ⟨hi, h⟩ := q_in h
      refine ⟨hi, ?_⟩
      obtain ⟨hi, h⟩ := q_in h
      refine ⟨hi, ?_⟩
      intro T2008 q
      obtain ⟨R, q⟩ := q_wA R q rfl
      replace h := q_ltw h q
      exact b_X1_moveUnit_b51 R h kk
def fX1_moveUnit (x1 : Int32) (x2 : Int32) (x3 : Int32) (S : q_V) : Option q_V :=
  if x3 ≤ 0 then
  fX1_moveUnit_b9 x1 x2 x3 ((- 1)) S
  else
  fX1_moveUnit_b9 x1 x2 x3 1 S
theorem b_X1_moveUnit {g : q_G} {S0 : kp_S} {x1 : Int32} {x2 : Int32} {x3 : Int32} {S : kp_S} {post : kp_S → Prop} {v : q_V} (R : q_Gd 0 g S0 S)  (h : fX1_moveUnit x1 x2 x3 (q_w g S) = some v) (kk : ∀ S, q_Gd 0 g S0 S → v = q_w g S → post S) : wX1_moveUnit (g 0 1 0) x1 x2 x3 S post := by
  unfold wX1_moveUnit; unfold fX1_moveUnit at h
  refine ⟨fun c => ?_, fun c => ?_⟩
  · replace h := q_ifp h c
    exact b_X1_moveUnit_b9 R h kk
  · replace h := q_ifn h c
    exact b_X1_moveUnit_b9 R h kk
def fX7_clear_b21 (xn1 : Int32) (K2 : Int32 → q_V → Option q_V) (Sn : q_V) : Option q_V :=
  q_lt (xn1 + 1 : Int32) (fun y1001 =>
  K2 y1001 Sn)
theorem b_X7_clear_b21 {g : q_G} {S0 : kp_S} {xn1 : Int32} {K2f : Int32 → q_V → Option q_V} {K2 : Int32 → kp_S → Prop} {Sn : kp_S} {post : kp_S → Prop} {v : q_V} (R : q_Gd 0 g S0 Sn) (hK2 : ∀ (x0 : Int32) (S : kp_S), q_Gd 0 g S0 S → K2f x0 (q_w g S) = some v → K2 x0 S) (h : fX7_clear_b21 xn1 K2f (q_w g Sn) = some v) (kk : ∀ S, q_Gd 0 g S0 S → v = q_w g S → post S) : wX7_clear_b21 (g 0 7 0) xn1 K2 Sn post := by
  unfold wX7_clear_b21; unfold fX7_clear_b21 at h
  intro y1001 q
  replace h := q_ltw h q
  exact hK2 _ _ R h
def fX7_clear_L2  : Nat → Int32 → q_V → Option q_V
  | 0, _, _ => none
  | n + 1, xn1, Sn =>
  if 19 ≤ xn1 then
  if ((4 : Int32)) < 0 ∨ 19 ≤ ((4 : Int32)).toNatClampNeg then none else
  q_lt (q_sa Sn 1400 ((upd (q_a Sn 1400) (((4 : Int32)).toNatClampNeg) (- 1)))) (fun T2002 =>
  some T2002)
  else
  if xn1 = 17 then
  fX7_clear_b21 xn1 (fun xn1_ S_ => fX7_clear_L2 n xn1_ S_) Sn
  else
  if (xn1) < 0 ∨ 19 ≤ (xn1).toNatClampNeg then none else
  q_lt (q_sa Sn 1400 ((upd (q_a Sn 1400) (xn1.toNatClampNeg) 0))) (fun T2004 =>
  fX7_clear_b21 xn1 (fun xn1_ S_ => fX7_clear_L2 n xn1_ S_) T2004)
theorem b_X7_clear_L2 {g : q_G} {S0 : kp_S} {post : kp_S → Prop} {v : q_V}  (kk : ∀ S, q_Gd 0 g S0 S → v = q_w g S → post S) : ∀ (n : Nat) (xn1 : Int32) (Sn : kp_S), q_Gd 0 g S0 Sn → fX7_clear_L2  n xn1 (q_w g Sn) = some v → wX7_clear_L2 (g 0 7 0) post n xn1 Sn := by
  intro n
  induction n with
  | zero => intro xn1 Sn _ h; cases h
  | succ n ih =>
    intro xn1 Sn R h
    unfold wX7_clear_L2; unfold fX7_clear_L2 at h
    refine ⟨fun c => ?_, fun c => ?_⟩
    · replace h := q_ifp h c
      refine ⟨_, q_p1400 R, ?_⟩
      rw [q_l1400 R]
      obtain ⟨hi, h⟩ := q_in h
      refine ⟨hi, ?_⟩
      intro T2002 q
      obtain ⟨R, q⟩ := q_wA R q rfl
      replace h := q_ltw h q
      exact q_finv h kk R
    · replace h := q_ifn h c
      refine ⟨fun c => ?_, fun c => ?_⟩
      · replace h := q_ifp h c
        exact b_X7_clear_b21 R (fun xn1_ S_ R h => ih xn1_ S_ R h) h kk
      · replace h := q_ifn h c
        refine ⟨_, q_p1400 R, ?_⟩
        rw [q_l1400 R]
        obtain ⟨hi, h⟩ := q_in h
        refine ⟨hi, ?_⟩
        intro T2004 q
        obtain ⟨R, q⟩ := q_wA R q rfl
        replace h := q_ltw h q
        exact b_X7_clear_b21 R (fun xn1_ S_ R h => ih xn1_ S_ R h) h kk
def fX7_clear (S : q_V) : Option q_V :=
  fX7_clear_L2 q_N 0 S
theorem b_X7_clear {g : q_G} {S0 : kp_S} {S : kp_S} {post : kp_S → Prop} {v : q_V} (R : q_Gd 0 g S0 S)  (h : fX7_clear (q_w g S) = some v) (kk : ∀ S, q_Gd 0 g S0 S → v = q_w g S → post S) : wX7_clear (g 0 7 0) S post := by
  unfold wX7_clear; unfold fX7_clear at h
  exact ⟨q_N, b_X7_clear_L2 kk q_N _ _ R h⟩
def fX7_get_b20 (x1 : Int32) (xt0 : Int32) (Sn : q_V) : Option (Int32 × q_V) :=
  some (xt0, Sn)
theorem b_X7_get_b20 {g : q_G} {S0 : kp_S} {x1 : Int32} {xt0 : Int32} {Sn : kp_S} {post : Int32 → kp_S → Prop} {y : Int32} {v : q_V} (R : q_Gd 0 g S0 Sn)  (h : fX7_get_b20 x1 xt0 (q_w g Sn) = some (y, v)) (kk : ∀ S, q_Gd 0 g S0 S → v = q_w g S → post y S) : wX7_get_b20 (g 0 7 0) x1 xt0 Sn post := by
  unfold wX7_get_b20; unfold fX7_get_b20 at h
  exact q_fin h kk R
def fX7_get_b19 (x1 : Int32) (Sn : q_V) : Option (Int32 × q_V) :=
  fX7_get_b20 x1 ((- 1)) Sn
theorem b_X7_get_b19 {g : q_G} {S0 : kp_S} {x1 : Int32} {Sn : kp_S} {post : Int32 → kp_S → Prop} {y : Int32} {v : q_V} (R : q_Gd 0 g S0 Sn)  (h : fX7_get_b19 x1 (q_w g Sn) = some (y, v)) (kk : ∀ S, q_Gd 0 g S0 S → v = q_w g S → post y S) : wX7_get_b19 (g 0 7 0) x1 Sn post := by
  unfold wX7_get_b19; unfold fX7_get_b19 at h
  exact b_X7_get_b20 R h kk
def fX7_get (x1 : Int32) (S : q_V) : Option (Int32 × q_V) :=
  if x1 < 0 then
  fX7_get_b19 x1 S
  else
  if 19 ≤ x1 then
  fX7_get_b19 x1 S
  else
  if (x1) < 0 ∨ 19 ≤ (x1).toNatClampNeg then none else
  fX7_get_b20 x1 ((q_a S 1400 x1.toNatClampNeg)) S
theorem b_X7_get {g : q_G} {S0 : kp_S} {x1 : Int32} {S : kp_S} {post : Int32 → kp_S → Prop} {y : Int32} {v : q_V} (R : q_Gd 0 g S0 S)  (h : fX7_get x1 (q_w g S) = some (y, v)) (kk : ∀ S, q_Gd 0 g S0 S → v = q_w g S → post y S) : wX7_get (g 0 7 0) x1 S post := by
  unfold wX7_get; unfold fX7_get at h
  refine ⟨fun c => ?_, fun c => ?_⟩
  · replace h := q_ifp h c
    exact b_X7_get_b19 R h kk
  · replace h := q_ifn h c
    refine ⟨fun c => ?_, fun c => ?_⟩
    · replace h := q_ifp h c
      exact b_X7_get_b19 R h kk
    · replace h := q_ifn h c
      refine ⟨_, q_p1400 R, ?_⟩
      rw [q_l1400 R]
      obtain ⟨hi, h⟩ := q_in h
      refine ⟨hi, ?_⟩
      exact b_X7_get_b20 R h kk
def fX7_set_b17 (x1 : Int32) (x2 : Int32) (Sn : q_V) : Option q_V :=
  some Sn
theorem b_X7_set_b17 {g : q_G} {S0 : kp_S} {x1 : Int32} {x2 : Int32} {Sn : kp_S} {post : kp_S → Prop} {v : q_V} (R : q_Gd 0 g S0 Sn)  (h : fX7_set_b17 x1 x2 (q_w g Sn) = some v) (kk : ∀ S, q_Gd 0 g S0 S → v = q_w g S → post S) : wX7_set_b17 (g 0 7 0) x1 x2 Sn post := by
  unfold wX7_set_b17; unfold fX7_set_b17 at h
  exact q_finv h kk R
def fX7_set (x1 : Int32) (x2 : Int32) (S : q_V) : Option q_V :=
  if x1 < 0 then
  fX7_set_b17 x1 x2 S
  else
  if 19 ≤ x1 then
  fX7_set_b17 x1 x2 S
  else
  if (x1) < 0 ∨ 19 ≤ (x1).toNatClampNeg then none else
  q_lt (q_sa S 1400 ((upd (q_a S 1400) (x1.toNatClampNeg) x2))) (fun T2 =>
  fX7_set_b17 x1 x2 T2)
theorem b_X7_set {g : q_G} {S0 : kp_S} {x1 : Int32} {x2 : Int32} {S : kp_S} {post : kp_S → Prop} {v : q_V} (R : q_Gd 0 g S0 S)  (h : fX7_set x1 x2 (q_w g S) = some v) (kk : ∀ S, q_Gd 0 g S0 S → v = q_w g S → post S) : wX7_set (g 0 7 0) x1 x2 S post := by
  unfold wX7_set; unfold fX7_set at h
  refine ⟨fun c => ?_, fun c => ?_⟩
  · replace h := q_ifp h c
    exact b_X7_set_b17 R h kk
  · replace h := q_ifn h c
    refine ⟨fun c => ?_, fun c => ?_⟩
    · replace h := q_ifp h c
      exact b_X7_set_b17 R h kk
    · replace h := q_ifn h c
      refine ⟨_, q_p1400 R, ?_⟩
      rw [q_l1400 R]
      obtain ⟨hi, h⟩ := q_in h
      refine ⟨hi, ?_⟩
      intro T2 q
      obtain ⟨R, q⟩ := q_wA R q rfl
      replace h := q_ltw h q
      exact b_X7_set_b17 R h kk
def fX7_count_b20 (x1 : Int32) (Sn : q_V) : Option q_V :=
  some Sn
theorem b_X7_count_b20 {g : q_G} {S0 : kp_S} {x1 : Int32} {Sn : kp_S} {post : kp_S → Prop} {v : q_V} (R : q_Gd 0 g S0 Sn)  (h : fX7_count_b20 x1 (q_w g Sn) = some v) (kk : ∀ S, q_Gd 0 g S0 S → v = q_w g S → post S) : wX7_count_b20 (g 0 7 0) x1 Sn post := by
  unfold wX7_count_b20; unfold fX7_count_b20 at h
  exact q_finv h kk R
def fX7_count (x1 : Int32) (S : q_V) : Option q_V :=
  if x1 < 0 then
  fX7_count_b20 x1 S
  else
  if 19 ≤ x1 then
  fX7_count_b20 x1 S
  else
  if (x1) < 0 ∨ 19 ≤ (x1).toNatClampNeg then none else
  if (x1) < 0 ∨ 19 ≤ (x1).toNatClampNeg then none else
  q_lt (q_sa S 1400 ((upd (q_a S 1400) (x1.toNatClampNeg) ((q_a S 1400 x1.toNatClampNeg) + 1)))) (fun T2 =>
  fX7_count_b20 x1 T2)
theorem b_X7_count {g : q_G} {S0 : kp_S} {x1 : Int32} {S : kp_S} {post : kp_S → Prop} {v : q_V} (R : q_Gd 0 g S0 S)  (h : fX7_count x1 (q_w g S) = some v) (kk : ∀ S, q_Gd 0 g S0 S → v = q_w g S → post S) : wX7_count (g 0 7 0) x1 S post := by
  unfold wX7_count; unfold fX7_count at h
  refine ⟨fun c => ?_, fun c => ?_⟩
  · replace h := q_ifp h c
    exact b_X7_count_b20 R h kk
  · replace h := q_ifn h c
    refine ⟨fun c => ?_, fun c => ?_⟩
    · replace h := q_ifp h c
      exact b_X7_count_b20 R h kk
    · replace h := q_ifn h c
      refine ⟨_, q_p1400 R, ?_⟩
      rw [q_l1400 R]
      obtain ⟨hi, h⟩ := q_in h
      refine ⟨hi, ?_⟩
      obtain ⟨hi, h⟩ := q_in h
      refine ⟨hi, ?_⟩
      intro T2 q
      obtain ⟨R, q⟩ := q_wA R q rfl
      replace h := q_ltw h q
      exact b_X7_count_b20 R h kk
def fX7_write_b33 (x1 : Int32) (x2 : Int32) (Sn : q_V) : Option q_V :=
  if ((16 : Int32)) < 0 ∨ 19 ≤ ((16 : Int32)).toNatClampNeg then none else
  if ((16 : Int32)) < 0 ∨ 19 ≤ ((16 : Int32)).toNatClampNeg then none else
  q_lt (q_sa Sn 1400 ((upd (q_a Sn 1400) (((16 : Int32)).toNatClampNeg) ((q_a Sn 1400 ((16 : Int32)).toNatClampNeg) + 1)))) (fun T1002 =>
  some T1002)
theorem b_X7_write_b33 {g : q_G} {S0 : kp_S} {x1 : Int32} {x2 : Int32} {Sn : kp_S} {post : kp_S → Prop} {v : q_V} (R : q_Gd 0 g S0 Sn)  (h : fX7_write_b33 x1 x2 (q_w g Sn) = some v) (kk : ∀ S, q_Gd 0 g S0 S → v = q_w g S → post S) : wX7_write_b33 (g 0 7 0) x1 x2 Sn post := by
  unfold wX7_write_b33; unfold fX7_write_b33 at h
  refine ⟨_, q_p1400 R, ?_⟩
  rw [q_l1400 R]
  obtain ⟨hi, h⟩ := q_in h
  refine ⟨hi, ?_⟩
  obtain ⟨hi, h⟩ := q_in h
  refine ⟨hi, ?_⟩
  intro T1002 q
  obtain ⟨R, q⟩ := q_wA R q rfl
  replace h := q_ltw h q
  exact q_finv h kk R
def fX7_write (x1 : Int32) (x2 : Int32) (S : q_V) : Option q_V :=
  if ((16 : Int32)) < 0 ∨ 19 ≤ ((16 : Int32)).toNatClampNeg then none else
  q_lt ((q_a S 1400 ((16 : Int32)).toNatClampNeg) : Int32) (fun y2 =>
  if y2 < 0 then
  fX7_write_b33 x1 x2 S
  else
  if 300 ≤ y2 then
  fX7_write_b33 x1 x2 S
  else
  if (y2) < 0 ∨ 300 ≤ (y2).toNatClampNeg then none else
  q_lt (q_sa S 1401 ((upd (q_a S 1401) (y2.toNatClampNeg) x1))) (fun T4 =>
  if (y2) < 0 ∨ 300 ≤ (y2).toNatClampNeg then none else
  q_lt (q_sa T4 1402 ((upd (q_a T4 1402) (y2.toNatClampNeg) x2))) (fun T6 =>
  fX7_write_b33 x1 x2 T6)))
theorem b_X7_write {g : q_G} {S0 : kp_S} {x1 : Int32} {x2 : Int32} {S : kp_S} {post : kp_S → Prop} {v : q_V} (R : q_Gd 0 g S0 S)  (h : fX7_write x1 x2 (q_w g S) = some v) (kk : ∀ S, q_Gd 0 g S0 S → v = q_w g S → post S) : wX7_write (g 0 7 0) x1 x2 S post := by
  unfold wX7_write; unfold fX7_write at h
  refine ⟨_, q_p1400 R, ?_⟩
  rw [q_l1400 R]
  obtain ⟨hi, h⟩ := q_in h
  refine ⟨hi, ?_⟩
  intro y2 q
  replace h := q_ltw h q
  refine ⟨fun c => ?_, fun c => ?_⟩
  · replace h := q_ifp h c
    exact b_X7_write_b33 R h kk
  · replace h := q_ifn h c
    refine ⟨fun c => ?_, fun c => ?_⟩
    · replace h := q_ifp h c
      exact b_X7_write_b33 R h kk
    · replace h := q_ifn h c
      refine ⟨_, q_p1401 R, ?_⟩
      rw [q_l1401 R]
      obtain ⟨hi, h⟩ := q_in h
      refine ⟨hi, ?_⟩
      intro T4 q
      obtain ⟨R, q⟩ := q_wA R q rfl
      replace h := q_ltw h q
      refine ⟨_, q_p1402 R, ?_⟩
      rw [q_l1402 R]
      obtain ⟨hi, h⟩ := q_in h
      refine ⟨hi, ?_⟩
      intro T6 q
      obtain ⟨R, q⟩ := q_wA R q rfl
      replace h := q_ltw h q
      exact b_X7_write_b33 R h kk
def fX7_entry_b22 (x1 : Int32) (x2 : Int32) (Sn : q_V) : Option (Int32 × q_V) :=
  some ((- 1), Sn)
theorem b_X7_entry_b22 {g : q_G} {S0 : kp_S} {x1 : Int32} {x2 : Int32} {Sn : kp_S} {post : Int32 → kp_S → Prop} {y : Int32} {v : q_V} (R : q_Gd 0 g S0 Sn)  (h : fX7_entry_b22 x1 x2 (q_w g Sn) = some (y, v)) (kk : ∀ S, q_Gd 0 g S0 S → v = q_w g S → post y S) : wX7_entry_b22 (g 0 7 0) x1 x2 Sn post := by
  unfold wX7_entry_b22; unfold fX7_entry_b22 at h
  exact q_fin h kk R
def fX7_entry_b50 (x1 : Int32) (x2 : Int32) (xt0 : Int32) (Sn : q_V) : Option (Int32 × q_V) :=
  some (xt0, Sn)
theorem b_X7_entry_b50 {g : q_G} {S0 : kp_S} {x1 : Int32} {x2 : Int32} {xt0 : Int32} {Sn : kp_S} {post : Int32 → kp_S → Prop} {y : Int32} {v : q_V} (R : q_Gd 0 g S0 Sn)  (h : fX7_entry_b50 x1 x2 xt0 (q_w g Sn) = some (y, v)) (kk : ∀ S, q_Gd 0 g S0 S → v = q_w g S → post y S) : wX7_entry_b50 (g 0 7 0) x1 x2 xt0 Sn post := by
  unfold wX7_entry_b50; unfold fX7_entry_b50 at h
  exact q_fin h kk R
def fX7_entry (x1 : Int32) (x2 : Int32) (S : q_V) : Option (Int32 × q_V) :=
  if x1 < 0 then
  fX7_entry_b22 x1 x2 S
  else
  if ((16 : Int32)) < 0 ∨ 19 ≤ ((16 : Int32)).toNatClampNeg then none else
  if (q_a S 1400 ((16 : Int32)).toNatClampNeg) ≤ x1 then
  fX7_entry_b22 x1 x2 S
  else
  if x1 < 300 then
  if x2 = 0 then
  if (x1) < 0 ∨ 300 ≤ (x1).toNatClampNeg then none else
  some ((q_a S 1401 x1.toNatClampNeg), S)
  else
  if x2 = 1 then
  if (x1) < 0 ∨ 300 ≤ (x1).toNatClampNeg then none else
  fX7_entry_b50 x1 x2 ((q_a S 1402 x1.toNatClampNeg)) S
  else
  fX7_entry_b50 x1 x2 ((- 1)) S
  else
  fX7_entry_b22 x1 x2 S
theorem b_X7_entry {g : q_G} {S0 : kp_S} {x1 : Int32} {x2 : Int32} {S : kp_S} {post : Int32 → kp_S → Prop} {y : Int32} {v : q_V} (R : q_Gd 0 g S0 S)  (h : fX7_entry x1 x2 (q_w g S) = some (y, v)) (kk : ∀ S, q_Gd 0 g S0 S → v = q_w g S → post y S) : wX7_entry (g 0 7 0) x1 x2 S post := by
  unfold wX7_entry; unfold fX7_entry at h
  refine ⟨fun c => ?_, fun c => ?_⟩
  · replace h := q_ifp h c
    exact b_X7_entry_b22 R h kk
  · replace h := q_ifn h c
    refine ⟨_, q_p1400 R, ?_⟩
    rw [q_l1400 R]
    obtain ⟨hi, h⟩ := q_in h
    refine ⟨hi, ?_⟩
    refine ⟨fun c => ?_, fun c => ?_⟩
    · replace h := q_ifp h c
      exact b_X7_entry_b22 R h kk
    · replace h := q_ifn h c
      refine ⟨fun c => ?_, fun c => ?_⟩
      · replace h := q_ifp h c
        refine ⟨fun c => ?_, fun c => ?_⟩
        · replace h := q_ifn h c
          refine ⟨fun c => ?_, fun c => ?_⟩
          · replace h := q_ifn h c
            exact b_X7_entry_b50 R h kk
          · replace h := q_ifp h c
            refine ⟨_, q_p1402 R, ?_⟩
            rw [q_l1402 R]
            obtain ⟨hi, h⟩ := q_in h
            refine ⟨hi, ?_⟩
            exact b_X7_entry_b50 R h kk
        · replace h := q_ifp h c
          refine ⟨_, q_p1401 R, ?_⟩
          rw [q_l1401 R]
          obtain ⟨hi, h⟩ := q_in h
          refine ⟨hi, ?_⟩
          exact q_fin h kk R
      · replace h := q_ifn h c
        exact b_X7_entry_b22 R h kk
