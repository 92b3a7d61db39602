/-! The functions of the methods, and the rows that they speak for the w. (generated: wip/whole/gen2.py) -/
def fX8_setRound (x1 : Int32) (x2 : Int32) (x3 : Int32) (S : q_V) : Option q_V :=
  q_bv (fX0_set ((x1 + 2)) x2 S) (fun T2 =>
  q_bv (fX0_set ((x1 + 3)) x3 T2) (fun T4 =>
  some T4))
theorem b_X8_setRound {g : q_G} {S0 : kp_S} {x1 : Int32} {x2 : Int32} {x3 : Int32} {S : kp_S} {post : kp_S → Prop} {v : q_V} (R : q_Gd 1 g S0 S)  (h : fX8_setRound x1 x2 x3 (q_w g S) = some v) (kk : ∀ S, q_Gd 1 g S0 S → v = q_w g S → post S) : wX8_setRound (g 0 8 0) x1 x2 x3 S post := by
  unfold wX8_setRound; unfold fX8_setRound at h
  refine ⟨_, q_p1603 R, ?_⟩
  obtain ⟨v1, h1, h⟩ := q_bvi h
  refine b_X0_set R h1 (fun T2 R q => ?_)
  subst q
  refine ⟨_, q_p1603 R, ?_⟩
  obtain ⟨v1, h1, h⟩ := q_bvi h
  refine b_X0_set R h1 (fun T4 R q => ?_)
  subst q
  exact q_finv h kk R
def fX8_ownWays (S : q_V) : Option (Int32 × q_V) :=
  q_bd (fX5_loopsNow S) (fun y3 T2 =>
  q_bd (fX10_leaveOf y3 T2) (fun y5 T4 =>
  q_bd (fX5_loopsNow T4) (fun y8 T7 =>
  q_bd (fX10_againOf y8 T7) (fun y10 T9 =>
  some ((y5 ||| y10), T9)))))
theorem b_X8_ownWays {g : q_G} {S0 : kp_S} {S : kp_S} {post : Int32 → kp_S → Prop} {y : Int32} {v : q_V} (R : q_Gd 1 g S0 S)  (h : fX8_ownWays (q_w g S) = some (y, v)) (kk : ∀ S, q_Gd 1 g S0 S → v = q_w g S → post y S) : wX8_ownWays (g 0 8 0) S post := by
  unfold wX8_ownWays; unfold fX8_ownWays at h
  refine ⟨_, q_p1601 R, ?_⟩
  obtain ⟨y3, v1, h1, h⟩ := q_bdi h
  refine b_X5_loopsNow R h1 (fun T2 R q => ?_)
  subst q
  obtain ⟨y5, v1, h1, h⟩ := q_bdi h
  refine b_X10_leaveOf R h1 (fun T4 R q => ?_)
  subst q
  refine ⟨_, q_p1601 R, ?_⟩
  obtain ⟨y8, v1, h1, h⟩ := q_bdi h
  refine b_X5_loopsNow R h1 (fun T7 R q => ?_)
  subst q
  obtain ⟨y10, v1, h1, h⟩ := q_bdi h
  refine b_X10_againOf R h1 (fun T9 R q => ?_)
  subst q
  exact q_fin h kk R
def fX8_troubleOf_b11 (x0 : Int32) (xt0 : Int32) (Sn : q_V) : Option (Int32 × q_V) :=
  some (xt0, Sn)
theorem b_X8_troubleOf_b11 {g : q_G} {S0 : kp_S} {x0 : Int32} {xt0 : Int32} {Sn : kp_S} {post : Int32 → kp_S → Prop} {y : Int32} {v : q_V} (R : q_Gd 1 g S0 Sn)  (h : fX8_troubleOf_b11 x0 xt0 (q_w g Sn) = some (y, v)) (kk : ∀ S, q_Gd 1 g S0 S → v = q_w g S → post y S) : wX8_troubleOf_b11 x0 xt0 Sn post := by
  unfold wX8_troubleOf_b11; unfold fX8_troubleOf_b11 at h
  exact q_fin h kk R
def fX8_troubleOf (x0 : Int32) (S : q_V) : Option (Int32 × q_V) :=
  if (x0 &&& 1) = 0 then
  fX8_troubleOf_b11 x0 0 S
  else
  fX8_troubleOf_b11 x0 4 S
theorem b_X8_troubleOf {g : q_G} {S0 : kp_S} {x0 : Int32} {S : kp_S} {post : Int32 → kp_S → Prop} {y : Int32} {v : q_V} (R : q_Gd 1 g S0 S)  (h : fX8_troubleOf x0 (q_w g S) = some (y, v)) (kk : ∀ S, q_Gd 1 g S0 S → v = q_w g S → post y S) : wX8_troubleOf x0 S post := by
  unfold wX8_troubleOf; unfold fX8_troubleOf at h
  refine ⟨fun c => ?_, fun c => ?_⟩
  · replace h := q_ifp h c
    exact b_X8_troubleOf_b11 R h kk
  · replace h := q_ifn h c
    exact b_X8_troubleOf_b11 R h kk
def fX8_isHeadToken_b24 (x0 : Int32) (xt0 : Int32) (Sn : q_V) : Option (Int32 × q_V) :=
  if ¬ (xt0 = 0 ∨ xt0 = 1) then none else
  some (xt0, Sn)
theorem b_X8_isHeadToken_b24 {g : q_G} {S0 : kp_S} {x0 : Int32} {xt0 : Int32} {Sn : kp_S} {post : Int32 → kp_S → Prop} {y : Int32} {v : q_V} (R : q_Gd 1 g S0 Sn)  (h : fX8_isHeadToken_b24 x0 xt0 (q_w g Sn) = some (y, v)) (kk : ∀ S, q_Gd 1 g S0 S → v = q_w g S → post y S) : wX8_isHeadToken_b24 x0 xt0 Sn post := by
  unfold wX8_isHeadToken_b24; unfold fX8_isHeadToken_b24 at h
  obtain ⟨hi, h⟩ := q_in h
  refine ⟨Classical.not_not.mp hi, ?_⟩
  exact q_fin h kk R
def fX8_isHeadToken_b19 (x0 : Int32) (Sn : q_V) : Option (Int32 × q_V) :=
  fX8_isHeadToken_b24 x0 1 Sn
theorem b_X8_isHeadToken_b19 {g : q_G} {S0 : kp_S} {x0 : Int32} {Sn : kp_S} {post : Int32 → kp_S → Prop} {y : Int32} {v : q_V} (R : q_Gd 1 g S0 Sn)  (h : fX8_isHeadToken_b19 x0 (q_w g Sn) = some (y, v)) (kk : ∀ S, q_Gd 1 g S0 S → v = q_w g S → post y S) : wX8_isHeadToken_b19 x0 Sn post := by
  unfold wX8_isHeadToken_b19; unfold fX8_isHeadToken_b19 at h
  exact b_X8_isHeadToken_b24 R h kk
def fX8_isHeadToken (x0 : Int32) (S : q_V) : Option (Int32 × q_V) :=
  if x0 = 40 then
  fX8_isHeadToken_b19 x0 S
  else
  if x0 = 44 then
  fX8_isHeadToken_b19 x0 S
  else
  if x0 = 259 then
  fX8_isHeadToken_b19 x0 S
  else
  fX8_isHeadToken_b24 x0 0 S
theorem b_X8_isHeadToken {g : q_G} {S0 : kp_S} {x0 : Int32} {S : kp_S} {post : Int32 → kp_S → Prop} {y : Int32} {v : q_V} (R : q_Gd 1 g S0 S)  (h : fX8_isHeadToken x0 (q_w g S) = some (y, v)) (kk : ∀ S, q_Gd 1 g S0 S → v = q_w g S → post y S) : wX8_isHeadToken x0 S post := by
  unfold wX8_isHeadToken; unfold fX8_isHeadToken at h
  refine ⟨fun c => ?_, fun c => ?_⟩
  · replace h := q_ifp h c
    exact b_X8_isHeadToken_b19 R h kk
  · replace h := q_ifn h c
    refine ⟨fun c => ?_, fun c => ?_⟩
    · replace h := q_ifp h c
      exact b_X8_isHeadToken_b19 R h kk
    · replace h := q_ifn h c
      refine ⟨fun c => ?_, fun c => ?_⟩
      · replace h := q_ifn h c
        exact b_X8_isHeadToken_b24 R h kk
      · replace h := q_ifp h c
        exact b_X8_isHeadToken_b19 R h kk
def fX8_faultKind_b27 (xt0 : Int32) (Sn : q_V) : Option (Int32 × q_V) :=
  some (xt0, Sn)
theorem b_X8_faultKind_b27 {g : q_G} {S0 : kp_S} {xt0 : Int32} {Sn : kp_S} {post : Int32 → kp_S → Prop} {y : Int32} {v : q_V} (R : q_Gd 1 g S0 Sn)  (h : fX8_faultKind_b27 xt0 (q_w g Sn) = some (y, v)) (kk : ∀ S, q_Gd 1 g S0 S → v = q_w g S → post y S) : wX8_faultKind_b27 (g 0 8 0) xt0 Sn post := by
  unfold wX8_faultKind_b27; unfold fX8_faultKind_b27 at h
  exact q_fin h kk R
def fX8_faultKind (S : q_V) : Option (Int32 × q_V) :=
  if (q_i S 1809) = 0 then
  fX8_faultKind_b27 ((q_i S 1011)) S
  else
  fX8_faultKind_b27 ((q_i S 1809)) S
theorem b_X8_faultKind {g : q_G} {S0 : kp_S} {S : kp_S} {post : Int32 → kp_S → Prop} {y : Int32} {v : q_V} (R : q_Gd 1 g S0 S)  (h : fX8_faultKind (q_w g S) = some (y, v)) (kk : ∀ S, q_Gd 1 g S0 S → v = q_w g S → post y S) : wX8_faultKind (g 0 8 0) S post := by
  unfold wX8_faultKind; unfold fX8_faultKind at h
  refine ⟨_, q_p1600 R, ?_⟩
  refine ⟨fun c => ?_, fun c => ?_⟩
  · replace h := q_ifp h c
    refine ⟨_, q_p1601 R, ?_⟩
    exact b_X8_faultKind_b27 R h kk
  · replace h := q_ifn h c
    exact b_X8_faultKind_b27 R h kk
def fX8_faultPlace_b27 (xt0 : Int32) (Sn : q_V) : Option (Int32 × q_V) :=
  some (xt0, Sn)
theorem b_X8_faultPlace_b27 {g : q_G} {S0 : kp_S} {xt0 : Int32} {Sn : kp_S} {post : Int32 → kp_S → Prop} {y : Int32} {v : q_V} (R : q_Gd 1 g S0 Sn)  (h : fX8_faultPlace_b27 xt0 (q_w g Sn) = some (y, v)) (kk : ∀ S, q_Gd 1 g S0 S → v = q_w g S → post y S) : wX8_faultPlace_b27 (g 0 8 0) xt0 Sn post := by
  unfold wX8_faultPlace_b27; unfold fX8_faultPlace_b27 at h
  exact q_fin h kk R
def fX8_faultPlace (S : q_V) : Option (Int32 × q_V) :=
  if (q_i S 1809) = 0 then
  fX8_faultPlace_b27 ((q_i S 1012)) S
  else
  fX8_faultPlace_b27 ((q_i S 1810)) S
theorem b_X8_faultPlace {g : q_G} {S0 : kp_S} {S : kp_S} {post : Int32 → kp_S → Prop} {y : Int32} {v : q_V} (R : q_Gd 1 g S0 S)  (h : fX8_faultPlace (q_w g S) = some (y, v)) (kk : ∀ S, q_Gd 1 g S0 S → v = q_w g S → post y S) : wX8_faultPlace (g 0 8 0) S post := by
  unfold wX8_faultPlace; unfold fX8_faultPlace at h
  refine ⟨_, q_p1600 R, ?_⟩
  refine ⟨fun c => ?_, fun c => ?_⟩
  · replace h := q_ifp h c
    refine ⟨_, q_p1601 R, ?_⟩
    exact b_X8_faultPlace_b27 R h kk
  · replace h := q_ifn h c
    exact b_X8_faultPlace_b27 R h kk
def fX8_collectDuty_b91 (wn1 : Int64) (xn3 : Int32) (Sn : q_V) : Option q_V :=
  q_bv (fX5_tellDuty wn1 xn3 Sn) (fun T1002 =>
  some T1002)
theorem b_X8_collectDuty_b91 {g : q_G} {S0 : kp_S} {wn1 : Int64} {xn3 : Int32} {Sn : kp_S} {post : kp_S → Prop} {v : q_V} (R : q_Gd 1 g S0 Sn)  (h : fX8_collectDuty_b91 wn1 xn3 (q_w g Sn) = some v) (kk : ∀ S, q_Gd 1 g S0 S → v = q_w g S → post S) : wX8_collectDuty_b91 (g 0 8 0) wn1 xn3 Sn post := by
  unfold wX8_collectDuty_b91; unfold fX8_collectDuty_b91 at h
  refine ⟨_, q_p1601 R, ?_⟩
  obtain ⟨v1, h1, h⟩ := q_bvi h
  refine b_X5_tellDuty R h1 (fun T1002 R q => ?_)
  subst q
  exact q_finv h kk R
def fX8_collectDuty_b78 (wn1 : Int64) (xn3 : Int32) (xn4 : Int32) (K41 : Int64 → Int32 → Int32 → q_V → Option q_V) (Sn : q_V) : Option q_V :=
  q_bv (fX9_advance Sn) (fun T2002 =>
  q_lt (xn4 + 1 : Int32) (fun y2003 =>
  K41 wn1 xn3 y2003 T2002))
theorem b_X8_collectDuty_b78 {g : q_G} {S0 : kp_S} {wn1 : Int64} {xn3 : Int32} {xn4 : Int32} {K41f : Int64 → Int32 → Int32 → q_V → Option q_V} {K41 : Int64 → Int32 → Int32 → kp_S → Prop} {Sn : kp_S} {post : kp_S → Prop} {v : q_V} (R : q_Gd 1 g S0 Sn) (hK41 : ∀ (x0 : Int64) (x1 : Int32) (x2 : Int32) (S : kp_S), q_Gd 1 g S0 S → K41f x0 x1 x2 (q_w g S) = some v → K41 x0 x1 x2 S) (h : fX8_collectDuty_b78 wn1 xn3 xn4 K41f (q_w g Sn) = some v) (kk : ∀ S, q_Gd 1 g S0 S → v = q_w g S → post S) : wX8_collectDuty_b78 (g 0 8 0) wn1 xn3 xn4 K41 Sn post := by
  unfold wX8_collectDuty_b78; unfold fX8_collectDuty_b78 at h
  refine ⟨_, q_p1600 R, ?_⟩
  obtain ⟨v1, h1, h⟩ := q_bvi h
  refine b_X9_advance R h1 (fun T2002 R q => ?_)
  subst q
  intro y2003 q
  replace h := q_ltw h q
  exact hK41 _ _ _ _ R h
def fX8_collectDuty_L41  : Nat → Int64 → Int32 → Int32 → q_V → Option q_V
  | 0, _, _, _, _ => none
  | n + 1, wn1, xn3, xn4, Sn =>
  if 3000 ≤ xn4 then
  fX8_collectDuty_b91 wn1 xn3 Sn
  else
  q_bd (fX8_isHeadToken ((q_i Sn 1805)) Sn) (fun y3003 T3002 =>
  if y3003 = 0 then
  fX8_collectDuty_b91 wn1 xn3 T3002
  else
  if (q_i T3002 1805) = 259 then
  q_lt (xn3 + 1 : Int32) (fun y3005 =>
  fX8_collectDuty_b78 wn1 y3005 xn4 (fun wn1_ xn3_ xn4_ S_ => fX8_collectDuty_L41 n wn1_ xn3_ xn4_ S_) T3002)
  else
  fX8_collectDuty_b78 wn1 xn3 xn4 (fun wn1_ xn3_ xn4_ S_ => fX8_collectDuty_L41 n wn1_ xn3_ xn4_ S_) T3002)
theorem b_X8_collectDuty_L41 {g : q_G} {S0 : kp_S} {post : kp_S → Prop} {v : q_V}  (kk : ∀ S, q_Gd 1 g S0 S → v = q_w g S → post S) : ∀ (n : Nat) (wn1 : Int64) (xn3 : Int32) (xn4 : Int32) (Sn : kp_S), q_Gd 1 g S0 Sn → fX8_collectDuty_L41  n wn1 xn3 xn4 (q_w g Sn) = some v → wX8_collectDuty_L41 (g 0 8 0) post n wn1 xn3 xn4 Sn := by
  intro n
  induction n with
  | zero => intro wn1 xn3 xn4 Sn _ h; cases h
  | succ n ih =>
    intro wn1 xn3 xn4 Sn R h
    unfold wX8_collectDuty_L41; unfold fX8_collectDuty_L41 at h
    refine ⟨fun c => ?_, fun c => ?_⟩
    · replace h := q_ifp h c
      exact b_X8_collectDuty_b91 R h kk
    · replace h := q_ifn h c
      refine ⟨_, q_p1600 R, ?_⟩
      obtain ⟨y3003, v1, h1, h⟩ := q_bdi h
      refine b_X8_isHeadToken R h1 (fun T3002 R q => ?_)
      subst q
      refine ⟨fun c => ?_, fun c => ?_⟩
      · replace h := q_ifp h c
        exact b_X8_collectDuty_b91 R h kk
      · replace h := q_ifn h c
        refine ⟨_, q_p1600 R, ?_⟩
        refine ⟨fun c => ?_, fun c => ?_⟩
        · replace h := q_ifn h c
          exact b_X8_collectDuty_b78 R (fun wn1_ xn3_ xn4_ S_ R h => ih wn1_ xn3_ xn4_ S_ R h) h kk
        · replace h := q_ifp h c
          intro y3005 q
          replace h := q_ltw h q
          exact b_X8_collectDuty_b78 R (fun wn1_ xn3_ xn4_ S_ R h => ih wn1_ xn3_ xn4_ S_ R h) h kk
def fX8_collectDuty (S : q_V) : Option q_V :=
  q_bv (fX9_advance S) (fun T2 =>
  if (q_i T2 1805) = 259 then
  q_lt ((q_j T2 1808) : Int64) (fun z4 =>
  q_bv (fX9_advance T2) (fun T5 =>
  fX8_collectDuty_L41 q_N z4 0 0 T5))
  else
  some T2)
theorem b_X8_collectDuty {g : q_G} {S0 : kp_S} {S : kp_S} {post : kp_S → Prop} {v : q_V} (R : q_Gd 1 g S0 S)  (h : fX8_collectDuty (q_w g S) = some v) (kk : ∀ S, q_Gd 1 g S0 S → v = q_w g S → post S) : wX8_collectDuty (g 0 8 0) S post := by
  unfold wX8_collectDuty; unfold fX8_collectDuty at h
  refine ⟨_, q_p1600 R, ?_⟩
  obtain ⟨v1, h1, h⟩ := q_bvi h
  refine b_X9_advance R h1 (fun T2 R q => ?_)
  subst q
  refine ⟨_, q_p1600 R, ?_⟩
  refine ⟨fun c => ?_, fun c => ?_⟩
  · replace h := q_ifp h c
    intro z4 q
    replace h := q_ltw h q
    obtain ⟨v1, h1, h⟩ := q_bvi h
    refine b_X9_advance R h1 (fun T5 R q => ?_)
    subst q
    exact ⟨q_N, b_X8_collectDuty_L41 kk q_N _ _ _ _ R h⟩
  · replace h := q_ifn h c
    exact q_finv h kk R
def fX8_collectDuties_b55 (Sn : q_V) : Option q_V :=
  some Sn
theorem b_X8_collectDuties_b55 {g : q_G} {S0 : kp_S} {Sn : kp_S} {post : kp_S → Prop} {v : q_V} (R : q_Gd 1 g S0 Sn)  (h : fX8_collectDuties_b55 (q_w g Sn) = some v) (kk : ∀ S, q_Gd 1 g S0 S → v = q_w g S → post S) : wX8_collectDuties_b55 (g 0 8 0) Sn post := by
  unfold wX8_collectDuties_b55; unfold fX8_collectDuties_b55 at h
  exact q_finv h kk R
def fX8_collectDuties_b49 (xn1 : Int32) (K2 : Int32 → q_V → Option q_V) (Sn : q_V) : Option q_V :=
  q_lt (xn1 + 1 : Int32) (fun y2001 =>
  K2 y2001 Sn)
theorem b_X8_collectDuties_b49 {g : q_G} {S0 : kp_S} {xn1 : Int32} {K2f : Int32 → q_V → Option q_V} {K2 : Int32 → kp_S → Prop} {Sn : kp_S} {post : kp_S → Prop} {v : q_V} (R : q_Gd 1 g S0 Sn) (hK2 : ∀ (x0 : Int32) (S : kp_S), q_Gd 1 g S0 S → K2f x0 (q_w g S) = some v → K2 x0 S) (h : fX8_collectDuties_b49 xn1 K2f (q_w g Sn) = some v) (kk : ∀ S, q_Gd 1 g S0 S → v = q_w g S → post S) : wX8_collectDuties_b49 (g 0 8 0) xn1 K2 Sn post := by
  unfold wX8_collectDuties_b49; unfold fX8_collectDuties_b49 at h
  intro y2001 q
  replace h := q_ltw h q
  exact hK2 _ _ R h
def fX8_collectDuties_L2  : Nat → Int32 → q_V → Option q_V
  | 0, _, _ => none
  | n + 1, xn1, Sn =>
  if 3000 < xn1 then
  fX8_collectDuties_b55 Sn
  else
  if (q_i Sn 1805) = 261 then
  fX8_collectDuties_b55 Sn
  else
  if (q_i Sn 1805) = 300 then
  q_bv (fX8_collectDuty Sn) (fun T3003 =>
  fX8_collectDuties_b49 xn1 (fun xn1_ S_ => fX8_collectDuties_L2 n xn1_ S_) T3003)
  else
  q_bv (fX9_advance Sn) (fun T3002 =>
  fX8_collectDuties_b49 xn1 (fun xn1_ S_ => fX8_collectDuties_L2 n xn1_ S_) T3002)
theorem b_X8_collectDuties_L2 {g : q_G} {S0 : kp_S} {post : kp_S → Prop} {v : q_V}  (kk : ∀ S, q_Gd 1 g S0 S → v = q_w g S → post S) : ∀ (n : Nat) (xn1 : Int32) (Sn : kp_S), q_Gd 1 g S0 Sn → fX8_collectDuties_L2  n xn1 (q_w g Sn) = some v → wX8_collectDuties_L2 (g 0 8 0) post n xn1 Sn := by
  intro n
  induction n with
  | zero => intro xn1 Sn _ h; cases h
  | succ n ih =>
    intro xn1 Sn R h
    unfold wX8_collectDuties_L2; unfold fX8_collectDuties_L2 at h
    refine ⟨fun c => ?_, fun c => ?_⟩
    · replace h := q_ifp h c
      exact b_X8_collectDuties_b55 R h kk
    · replace h := q_ifn h c
      refine ⟨_, q_p1600 R, ?_⟩
      refine ⟨fun c => ?_, fun c => ?_⟩
      · replace h := q_ifp h c
        exact b_X8_collectDuties_b55 R h kk
      · replace h := q_ifn h c
        refine ⟨fun c => ?_, fun c => ?_⟩
        · replace h := q_ifn h c
          obtain ⟨v1, h1, h⟩ := q_bvi h
          refine b_X9_advance R h1 (fun T3002 R q => ?_)
          subst q
          exact b_X8_collectDuties_b49 R (fun xn1_ S_ R h => ih xn1_ S_ R h) h kk
        · replace h := q_ifp h c
          obtain ⟨v1, h1, h⟩ := q_bvi h
          refine b_X8_collectDuty R h1 (fun T3003 R q => ?_)
          subst q
          exact b_X8_collectDuties_b49 R (fun xn1_ S_ R h => ih xn1_ S_ R h) h kk
def fX8_collectDuties (S : q_V) : Option q_V :=
  fX8_collectDuties_L2 q_N 0 S
theorem b_X8_collectDuties {g : q_G} {S0 : kp_S} {S : kp_S} {post : kp_S → Prop} {v : q_V} (R : q_Gd 1 g S0 S)  (h : fX8_collectDuties (q_w g S) = some v) (kk : ∀ S, q_Gd 1 g S0 S → v = q_w g S → post S) : wX8_collectDuties (g 0 8 0) S post := by
  unfold wX8_collectDuties; unfold fX8_collectDuties at h
  exact ⟨q_N, b_X8_collectDuties_L2 kk q_N _ _ R h⟩
def fX8_readParameters_b84 (Sn : q_V) : Option q_V :=
  some Sn
theorem b_X8_readParameters_b84 {g : q_G} {S0 : kp_S} {Sn : kp_S} {post : kp_S → Prop} {v : q_V} (R : q_Gd 1 g S0 Sn)  (h : fX8_readParameters_b84 (q_w g Sn) = some v) (kk : ∀ S, q_Gd 1 g S0 S → v = q_w g S → post S) : wX8_readParameters_b84 (g 0 8 0) Sn post := by
  unfold wX8_readParameters_b84; unfold fX8_readParameters_b84 at h
  exact q_finv h kk R
def fX8_readParameters_b56 (xn1 : Int32) (K2 : Int32 → q_V → Option q_V) (Sn : q_V) : Option q_V :=
  if (q_i Sn 1805) = 44 then
  q_bv (fX9_advance Sn) (fun T2002 =>
  q_lt (xn1 + 1 : Int32) (fun y2003 =>
  K2 y2003 T2002))
  else
  fX8_readParameters_b84 Sn
theorem b_X8_readParameters_b56 {g : q_G} {S0 : kp_S} {xn1 : Int32} {K2f : Int32 → q_V → Option q_V} {K2 : Int32 → kp_S → Prop} {Sn : kp_S} {post : kp_S → Prop} {v : q_V} (R : q_Gd 1 g S0 Sn) (hK2 : ∀ (x0 : Int32) (S : kp_S), q_Gd 1 g S0 S → K2f x0 (q_w g S) = some v → K2 x0 S) (h : fX8_readParameters_b56 xn1 K2f (q_w g Sn) = some v) (kk : ∀ S, q_Gd 1 g S0 S → v = q_w g S → post S) : wX8_readParameters_b56 (g 0 8 0) xn1 K2 Sn post := by
  unfold wX8_readParameters_b56; unfold fX8_readParameters_b56 at h
  refine ⟨_, q_p1600 R, ?_⟩
  refine ⟨fun c => ?_, fun c => ?_⟩
  · replace h := q_ifp h c
    obtain ⟨v1, h1, h⟩ := q_bvi h
    refine b_X9_advance R h1 (fun T2002 R q => ?_)
    subst q
    intro y2003 q
    replace h := q_ltw h q
    exact hK2 _ _ R h
  · replace h := q_ifn h c
    exact b_X8_readParameters_b84 R h kk
def fX8_readParameters_L2  : Nat → Int32 → q_V → Option q_V
  | 0, _, _ => none
  | n + 1, xn1, Sn =>
  if 3000 ≤ xn1 then
  fX8_readParameters_b84 Sn
  else
  q_lt ((q_j Sn 1808) : Int64) (fun z3002 =>
  q_lt ((q_i Sn 1806) : Int32) (fun y3003 =>
  q_bv (fX9_expect 259 Sn) (fun T3004 =>
  q_bd (fX9_isStopped T3004) (fun y3007 T3006 =>
  if y3007 = 0 then
  q_bv (fX5_tellParameter z3002 y3003 T3006) (fun T3009 =>
  fX8_readParameters_b56 xn1 (fun xn1_ S_ => fX8_readParameters_L2 n xn1_ S_) T3009)
  else
  fX8_readParameters_b56 xn1 (fun xn1_ S_ => fX8_readParameters_L2 n xn1_ S_) T3006))))
theorem b_X8_readParameters_L2 {g : q_G} {S0 : kp_S} {post : kp_S → Prop} {v : q_V}  (kk : ∀ S, q_Gd 1 g S0 S → v = q_w g S → post S) : ∀ (n : Nat) (xn1 : Int32) (Sn : kp_S), q_Gd 1 g S0 Sn → fX8_readParameters_L2  n xn1 (q_w g Sn) = some v → wX8_readParameters_L2 (g 0 8 0) post n xn1 Sn := by
  intro n
  induction n with
  | zero => intro xn1 Sn _ h; cases h
  | succ n ih =>
    intro xn1 Sn R h
    unfold wX8_readParameters_L2; unfold fX8_readParameters_L2 at h
    refine ⟨fun c => ?_, fun c => ?_⟩
    · replace h := q_ifp h c
      exact b_X8_readParameters_b84 R h kk
    · replace h := q_ifn h c
      refine ⟨_, q_p1600 R, ?_⟩
      intro z3002 q
      replace h := q_ltw h q
      intro y3003 q
      replace h := q_ltw h q
      obtain ⟨v1, h1, h⟩ := q_bvi h
      refine b_X9_expect R h1 (fun T3004 R q => ?_)
      subst q
      refine ⟨_, q_p1600 R, ?_⟩
      obtain ⟨y3007, v1, h1, h⟩ := q_bdi h
      refine b_X9_isStopped R h1 (fun T3006 R q => ?_)
      subst q
      refine ⟨fun c => ?_, fun c => ?_⟩
      · replace h := q_ifn h c
        exact b_X8_readParameters_b56 R (fun xn1_ S_ R h => ih xn1_ S_ R h) h kk
      · replace h := q_ifp h c
        refine ⟨_, q_p1601 R, ?_⟩
        obtain ⟨v1, h1, h⟩ := q_bvi h
        refine b_X5_tellParameter R h1 (fun T3009 R q => ?_)
        subst q
        exact b_X8_readParameters_b56 R (fun xn1_ S_ R h => ih xn1_ S_ R h) h kk
def fX8_readParameters (S : q_V) : Option q_V :=
  fX8_readParameters_L2 q_N 0 S
theorem b_X8_readParameters {g : q_G} {S0 : kp_S} {S : kp_S} {post : kp_S → Prop} {v : q_V} (R : q_Gd 1 g S0 S)  (h : fX8_readParameters (q_w g S) = some v) (kk : ∀ S, q_Gd 1 g S0 S → v = q_w g S → post S) : wX8_readParameters (g 0 8 0) S post := by
  unfold wX8_readParameters; unfold fX8_readParameters at h
  exact ⟨q_N, b_X8_readParameters_L2 kk q_N _ _ R h⟩
def fX8_assign (x1 : Int32) (S : q_V) : Option (Int32 × q_V) :=
  q_bv (fX9_advance S) (fun T2 =>
  q_bd (fX2_whole_t T2) (fun y5 T4 =>
  q_bd (fX0_add_ 27 x1 T4) (fun y8 T7 =>
  q_bv (fX9_expect 59 T7) (fun T10 =>
  q_bd (fX8_troubleOf y5 T10) (fun y12 T11 =>
  some ((1 ||| y12), T11))))))
theorem b_X8_assign {g : q_G} {S0 : kp_S} {x1 : Int32} {S : kp_S} {post : Int32 → kp_S → Prop} {y : Int32} {v : q_V} (R : q_Gd 1 g S0 S)  (h : fX8_assign x1 (q_w g S) = some (y, v)) (kk : ∀ S, q_Gd 1 g S0 S → v = q_w g S → post y S) : wX8_assign (g 0 8 0) x1 S post := by
  unfold wX8_assign; unfold fX8_assign at h
  refine ⟨_, q_p1600 R, ?_⟩
  obtain ⟨v1, h1, h⟩ := q_bvi h
  refine b_X9_advance R h1 (fun T2 R q => ?_)
  subst q
  refine ⟨_, q_p1602 R, ?_⟩
  obtain ⟨y5, v1, h1, h⟩ := q_bdi h
  refine b_X2_whole_t R h1 (fun T4 R q => ?_)
  subst q
  refine ⟨_, q_p1603 R, ?_⟩
  obtain ⟨y8, v1, h1, h⟩ := q_bdi h
  refine b_X0_add_ R h1 (fun T7 R q => ?_)
  subst q
  refine ⟨_, q_p1600 R, ?_⟩
  obtain ⟨v1, h1, h⟩ := q_bvi h
  refine b_X9_expect R h1 (fun T10 R q => ?_)
  subst q
  obtain ⟨y12, v1, h1, h⟩ := q_bdi h
  refine b_X8_troubleOf R h1 (fun T11 R q => ?_)
  subst q
  exact q_fin h kk R
def fX8_variable_b80 (xn4 : Int32) (Sn : q_V) : Option (Int32 × q_V) :=
  q_bv (fX9_expect 59 Sn) (fun T1002 =>
  q_bd (fX8_troubleOf xn4 T1002) (fun y1004 T1003 =>
  some ((1 ||| y1004), T1003)))
theorem b_X8_variable_b80 {g : q_G} {S0 : kp_S} {xn4 : Int32} {Sn : kp_S} {post : Int32 → kp_S → Prop} {y : Int32} {v : q_V} (R : q_Gd 1 g S0 Sn)  (h : fX8_variable_b80 xn4 (q_w g Sn) = some (y, v)) (kk : ∀ S, q_Gd 1 g S0 S → v = q_w g S → post y S) : wX8_variable_b80 (g 0 8 0) xn4 Sn post := by
  unfold wX8_variable_b80; unfold fX8_variable_b80 at h
  refine ⟨_, q_p1600 R, ?_⟩
  obtain ⟨v1, h1, h⟩ := q_bvi h
  refine b_X9_expect R h1 (fun T1002 R q => ?_)
  subst q
  obtain ⟨y1004, v1, h1, h⟩ := q_bdi h
  refine b_X8_troubleOf R h1 (fun T1003 R q => ?_)
  subst q
  exact q_fin h kk R
def fX8_variable (S : q_V) : Option (Int32 × q_V) :=
  q_bv (fX9_advance S) (fun T2 =>
  q_lt ((q_j T2 1808) : Int64) (fun z4 =>
  q_lt ((q_i T2 1806) : Int32) (fun y5 =>
  q_bv (fX9_expect 259 T2) (fun T6 =>
  q_bv (fX9_expect 61 T6) (fun T8 =>
  q_bd (fX2_whole_t T8) (fun y11 T10 =>
  q_bd (fX9_isStopped T10) (fun y14 T13 =>
  if y14 = 0 then
  q_bd (fX5_tellVariable z4 y5 T13) (fun y18 T17 =>
  q_bd (fX0_add_ 27 y18 T17) (fun y20 T19 =>
  fX8_variable_b80 y11 T19))
  else
  fX8_variable_b80 y11 T13)))))))
theorem b_X8_variable {g : q_G} {S0 : kp_S} {S : kp_S} {post : Int32 → kp_S → Prop} {y : Int32} {v : q_V} (R : q_Gd 1 g S0 S)  (h : fX8_variable (q_w g S) = some (y, v)) (kk : ∀ S, q_Gd 1 g S0 S → v = q_w g S → post y S) : wX8_variable (g 0 8 0) S post := by
  unfold wX8_variable; unfold fX8_variable at h
  refine ⟨_, q_p1600 R, ?_⟩
  obtain ⟨v1, h1, h⟩ := q_bvi h
  refine b_X9_advance R h1 (fun T2 R q => ?_)
  subst q
  refine ⟨_, q_p1600 R, ?_⟩
  intro z4 q
  replace h := q_ltw h q
  intro y5 q
  replace h := q_ltw h q
  obtain ⟨v1, h1, h⟩ := q_bvi h
  refine b_X9_expect R h1 (fun T6 R q => ?_)
  subst q
  refine ⟨_, q_p1600 R, ?_⟩
  obtain ⟨v1, h1, h⟩ := q_bvi h
  refine b_X9_expect R h1 (fun T8 R q => ?_)
  subst q
  refine ⟨_, q_p1602 R, ?_⟩
  obtain ⟨y11, v1, h1, h⟩ := q_bdi h
  refine b_X2_whole_t R h1 (fun T10 R q => ?_)
  subst q
  refine ⟨_, q_p1600 R, ?_⟩
  obtain ⟨y14, v1, h1, h⟩ := q_bdi h
  refine b_X9_isStopped R h1 (fun T13 R q => ?_)
  subst q
  refine ⟨fun c => ?_, fun c => ?_⟩
  · replace h := q_ifn h c
    exact b_X8_variable_b80 R h kk
  · replace h := q_ifp h c
    refine ⟨_, q_p1603 R, ?_⟩
    refine ⟨_, q_p1601 R, ?_⟩
    obtain ⟨y18, v1, h1, h⟩ := q_bdi h
    refine b_X5_tellVariable R h1 (fun T17 R q => ?_)
    subst q
    obtain ⟨y20, v1, h1, h⟩ := q_bdi h
    refine b_X0_add_ R h1 (fun T19 R q => ?_)
    subst q
    exact b_X8_variable_b80 R h kk
def fX8_order_L19 (x1 : Int32) (x2 : Int32) (x3 : Int32) : Nat → Int32 → Int32 → q_V → Option (Int32 × q_V)
  | 0, _, _, _ => none
  | n + 1, xn4, xn5, Sn =>
  if x2 ≤ xn5 then
  q_bd (fX0_add x1 Sn) (fun y1003 T1002 =>
  q_bv (fX9_expect 59 T1002) (fun T1005 =>
  q_bd (fX8_troubleOf xn4 T1005) (fun y1007 T1006 =>
  some ((x3 ||| y1007), T1006))))
  else
  q_bv (fX9_expect 44 Sn) (fun T1009 =>
  q_bd (fX2_whole_t T1009) (fun y1012 T1011 =>
  q_lt ((xn4 ||| y1012) : Int32) (fun y1013 =>
  q_lt (xn5 + 1 : Int32) (fun y1014 =>
  fX8_order_L19 x1 x2 x3 n y1013 y1014 T1011))))
theorem b_X8_order_L19 {g : q_G} {S0 : kp_S} {x1 : Int32} {x2 : Int32} {x3 : Int32} {post : Int32 → kp_S → Prop} {y : Int32} {v : q_V}  (kk : ∀ S, q_Gd 1 g S0 S → v = q_w g S → post y S) : ∀ (n : Nat) (xn4 : Int32) (xn5 : Int32) (Sn : kp_S), q_Gd 1 g S0 Sn → fX8_order_L19 x1 x2 x3 n xn4 xn5 (q_w g Sn) = some (y, v) → wX8_order_L19 (g 0 8 0) x1 x2 x3 post n xn4 xn5 Sn := by
  intro n
  induction n with
  | zero => intro xn4 xn5 Sn _ h; cases h
  | succ n ih =>
    intro xn4 xn5 Sn R h
    unfold wX8_order_L19; unfold fX8_order_L19 at h
    refine ⟨fun c => ?_, fun c => ?_⟩
    · replace h := q_ifp h c
      refine ⟨_, q_p1603 R, ?_⟩
      obtain ⟨y1003, v1, h1, h⟩ := q_bdi h
      refine b_X0_add R h1 (fun T1002 R q => ?_)
      subst q
      refine ⟨_, q_p1600 R, ?_⟩
      obtain ⟨v1, h1, h⟩ := q_bvi h
      refine b_X9_expect R h1 (fun T1005 R q => ?_)
      subst q
      obtain ⟨y1007, v1, h1, h⟩ := q_bdi h
      refine b_X8_troubleOf R h1 (fun T1006 R q => ?_)
      subst q
      exact q_fin h kk R
    · replace h := q_ifn h c
      refine ⟨_, q_p1600 R, ?_⟩
      obtain ⟨v1, h1, h⟩ := q_bvi h
      refine b_X9_expect R h1 (fun T1009 R q => ?_)
      subst q
      refine ⟨_, q_p1602 R, ?_⟩
      obtain ⟨y1012, v1, h1, h⟩ := q_bdi h
      refine b_X2_whole_t R h1 (fun T1011 R q => ?_)
      subst q
      intro y1013 q
      replace h := q_ltw h q
      intro y1014 q
      replace h := q_ltw h q
      exact ih _ _ _ R h
def fX8_order (x1 : Int32) (x2 : Int32) (x3 : Int32) (S : q_V) : Option (Int32 × q_V) :=
  q_bv (fX9_advance S) (fun T2 =>
  q_bd (fX2_whole_t T2) (fun y5 T4 =>
  fX8_order_L19 x1 x2 x3 q_N y5 1 T4))
theorem b_X8_order {g : q_G} {S0 : kp_S} {x1 : Int32} {x2 : Int32} {x3 : Int32} {S : kp_S} {post : Int32 → kp_S → Prop} {y : Int32} {v : q_V} (R : q_Gd 1 g S0 S)  (h : fX8_order x1 x2 x3 (q_w g S) = some (y, v)) (kk : ∀ S, q_Gd 1 g S0 S → v = q_w g S → post y S) : wX8_order (g 0 8 0) x1 x2 x3 S post := by
  unfold wX8_order; unfold fX8_order at h
  refine ⟨_, q_p1600 R, ?_⟩
  obtain ⟨v1, h1, h⟩ := q_bvi h
  refine b_X9_advance R h1 (fun T2 R q => ?_)
  subst q
  refine ⟨_, q_p1602 R, ?_⟩
  obtain ⟨y5, v1, h1, h⟩ := q_bdi h
  refine b_X2_whole_t R h1 (fun T4 R q => ?_)
  subst q
  exact ⟨q_N, b_X8_order_L19 kk q_N _ _ _ R h⟩
def fX8_answer_b42 (xn1 : Int32) (Sn : q_V) : Option (Int32 × q_V) :=
  q_bd (fX0_add 42 Sn) (fun y1003 T1002 =>
  q_bv (fX9_expect 59 T1002) (fun T1005 =>
  q_bd (fX8_troubleOf xn1 T1005) (fun y1007 T1006 =>
  some ((2 ||| y1007), T1006))))
theorem b_X8_answer_b42 {g : q_G} {S0 : kp_S} {xn1 : Int32} {Sn : kp_S} {post : Int32 → kp_S → Prop} {y : Int32} {v : q_V} (R : q_Gd 1 g S0 Sn)  (h : fX8_answer_b42 xn1 (q_w g Sn) = some (y, v)) (kk : ∀ S, q_Gd 1 g S0 S → v = q_w g S → post y S) : wX8_answer_b42 (g 0 8 0) xn1 Sn post := by
  unfold wX8_answer_b42; unfold fX8_answer_b42 at h
  refine ⟨_, q_p1603 R, ?_⟩
  obtain ⟨y1003, v1, h1, h⟩ := q_bdi h
  refine b_X0_add R h1 (fun T1002 R q => ?_)
  subst q
  refine ⟨_, q_p1600 R, ?_⟩
  obtain ⟨v1, h1, h⟩ := q_bvi h
  refine b_X9_expect R h1 (fun T1005 R q => ?_)
  subst q
  obtain ⟨y1007, v1, h1, h⟩ := q_bdi h
  refine b_X8_troubleOf R h1 (fun T1006 R q => ?_)
  subst q
  exact q_fin h kk R
def fX8_answer (S : q_V) : Option (Int32 × q_V) :=
  q_bv (fX9_advance S) (fun T2 =>
  if (q_i T2 1805) = 59 then
  q_bd (fX0_add_ 1 0 T2) (fun y9 T8 =>
  fX8_answer_b42 0 T8)
  else
  q_bd (fX2_whole_t T2) (fun y6 T5 =>
  fX8_answer_b42 y6 T5))
theorem b_X8_answer {g : q_G} {S0 : kp_S} {S : kp_S} {post : Int32 → kp_S → Prop} {y : Int32} {v : q_V} (R : q_Gd 1 g S0 S)  (h : fX8_answer (q_w g S) = some (y, v)) (kk : ∀ S, q_Gd 1 g S0 S → v = q_w g S → post y S) : wX8_answer (g 0 8 0) S post := by
  unfold wX8_answer; unfold fX8_answer at h
  refine ⟨_, q_p1600 R, ?_⟩
  obtain ⟨v1, h1, h⟩ := q_bvi h
  refine b_X9_advance R h1 (fun T2 R q => ?_)
  subst q
  refine ⟨_, q_p1600 R, ?_⟩
  refine ⟨fun c => ?_, fun c => ?_⟩
  · replace h := q_ifn h c
    refine ⟨_, q_p1602 R, ?_⟩
    obtain ⟨y6, v1, h1, h⟩ := q_bdi h
    refine b_X2_whole_t R h1 (fun T5 R q => ?_)
    subst q
    exact b_X8_answer_b42 R h kk
  · replace h := q_ifp h c
    refine ⟨_, q_p1603 R, ?_⟩
    obtain ⟨y9, v1, h1, h⟩ := q_bdi h
    refine b_X0_add_ R h1 (fun T8 R q => ?_)
    subst q
    exact b_X8_answer_b42 R h kk
def fX8_leaveOrAgain_b112 (x1 : Int32) (xt0 : Int32) (Sn : q_V) : Option (Int32 × q_V) :=
  some (xt0, Sn)
theorem b_X8_leaveOrAgain_b112 {g : q_G} {S0 : kp_S} {x1 : Int32} {xt0 : Int32} {Sn : kp_S} {post : Int32 → kp_S → Prop} {y : Int32} {v : q_V} (R : q_Gd 1 g S0 Sn)  (h : fX8_leaveOrAgain_b112 x1 xt0 (q_w g Sn) = some (y, v)) (kk : ∀ S, q_Gd 1 g S0 S → v = q_w g S → post y S) : wX8_leaveOrAgain_b112 (g 0 8 0) x1 xt0 Sn post := by
  unfold wX8_leaveOrAgain_b112; unfold fX8_leaveOrAgain_b112 at h
  exact q_fin h kk R
def fX8_leaveOrAgain_b69 (x1 : Int32) (xn3 : Int32) (Sn : q_V) : Option (Int32 × q_V) :=
  q_bd (fX5_roundOf xn3 Sn) (fun y2004 T2003 =>
  q_bd (fX0_add_ x1 y2004 T2003) (fun y2006 T2005 =>
  q_bv (fX9_expect 59 T2005) (fun T2008 =>
  if x1 = 40 then
  q_bd (fX10_leaveOf xn3 T2008) (fun y2012 T2011 =>
  fX8_leaveOrAgain_b112 x1 y2012 T2011)
  else
  q_bd (fX10_againOf xn3 T2008) (fun y2010 T2009 =>
  fX8_leaveOrAgain_b112 x1 y2010 T2009))))
theorem b_X8_leaveOrAgain_b69 {g : q_G} {S0 : kp_S} {x1 : Int32} {xn3 : Int32} {Sn : kp_S} {post : Int32 → kp_S → Prop} {y : Int32} {v : q_V} (R : q_Gd 1 g S0 Sn)  (h : fX8_leaveOrAgain_b69 x1 xn3 (q_w g Sn) = some (y, v)) (kk : ∀ S, q_Gd 1 g S0 S → v = q_w g S → post y S) : wX8_leaveOrAgain_b69 (g 0 8 0) x1 xn3 Sn post := by
  unfold wX8_leaveOrAgain_b69; unfold fX8_leaveOrAgain_b69 at h
  refine ⟨_, q_p1603 R, ?_⟩
  refine ⟨_, q_p1601 R, ?_⟩
  obtain ⟨y2004, v1, h1, h⟩ := q_bdi h
  refine b_X5_roundOf R h1 (fun T2003 R q => ?_)
  subst q
  obtain ⟨y2006, v1, h1, h⟩ := q_bdi h
  refine b_X0_add_ R h1 (fun T2005 R q => ?_)
  subst q
  refine ⟨_, q_p1600 R, ?_⟩
  obtain ⟨v1, h1, h⟩ := q_bvi h
  refine b_X9_expect R h1 (fun T2008 R q => ?_)
  subst q
  refine ⟨fun c => ?_, fun c => ?_⟩
  · replace h := q_ifn h c
    obtain ⟨y2010, v1, h1, h⟩ := q_bdi h
    refine b_X10_againOf R h1 (fun T2009 R q => ?_)
    subst q
    exact b_X8_leaveOrAgain_b112 R h kk
  · replace h := q_ifp h c
    obtain ⟨y2012, v1, h1, h⟩ := q_bdi h
    refine b_X10_leaveOf R h1 (fun T2011 R q => ?_)
    subst q
    exact b_X8_leaveOrAgain_b112 R h kk
def fX8_leaveOrAgain (x1 : Int32) (S : q_V) : Option (Int32 × q_V) :=
  q_lt ((q_i S 1806) : Int32) (fun y2 =>
  q_bv (fX9_advance S) (fun T3 =>
  if (q_i T3 1805) = 259 then
  q_bd (fX5_loopLabelled ((q_j T3 1808)) ((q_i T3 1806)) T3) (fun y10 T9 =>
  q_bv (fX9_advance T9) (fun T12 =>
  fX8_leaveOrAgain_b69 x1 y10 T12))
  else
  q_bd (fX5_innermostLoop y2 T3) (fun y7 T6 =>
  fX8_leaveOrAgain_b69 x1 y7 T6)))
theorem b_X8_leaveOrAgain {g : q_G} {S0 : kp_S} {x1 : Int32} {S : kp_S} {post : Int32 → kp_S → Prop} {y : Int32} {v : q_V} (R : q_Gd 1 g S0 S)  (h : fX8_leaveOrAgain x1 (q_w g S) = some (y, v)) (kk : ∀ S, q_Gd 1 g S0 S → v = q_w g S → post y S) : wX8_leaveOrAgain (g 0 8 0) x1 S post := by
  unfold wX8_leaveOrAgain; unfold fX8_leaveOrAgain at h
  refine ⟨_, q_p1600 R, ?_⟩
  intro y2 q
  replace h := q_ltw h q
  obtain ⟨v1, h1, h⟩ := q_bvi h
  refine b_X9_advance R h1 (fun T3 R q => ?_)
  subst q
  refine ⟨_, q_p1600 R, ?_⟩
  refine ⟨fun c => ?_, fun c => ?_⟩
  · replace h := q_ifn h c
    refine ⟨_, q_p1601 R, ?_⟩
    obtain ⟨y7, v1, h1, h⟩ := q_bdi h
    refine b_X5_innermostLoop R h1 (fun T6 R q => ?_)
    subst q
    exact b_X8_leaveOrAgain_b69 R h kk
  · replace h := q_ifp h c
    refine ⟨_, q_p1601 R, ?_⟩
    obtain ⟨y10, v1, h1, h⟩ := q_bdi h
    refine b_X5_loopLabelled R h1 (fun T9 R q => ?_)
    subst q
    refine ⟨_, q_p1600 R, ?_⟩
    obtain ⟨v1, h1, h⟩ := q_bvi h
    refine b_X9_advance R h1 (fun T12 R q => ?_)
    subst q
    exact b_X8_leaveOrAgain_b69 R h kk
def fX8_stop (S : q_V) : Option (Int32 × q_V) :=
  q_bv (fX9_advance S) (fun T2 =>
  q_bd (fX0_add 44 T2) (fun y5 T4 =>
  q_bv (fX9_expect 59 T4) (fun T7 =>
  some (0, T7))))
theorem b_X8_stop {g : q_G} {S0 : kp_S} {S : kp_S} {post : Int32 → kp_S → Prop} {y : Int32} {v : q_V} (R : q_Gd 1 g S0 S)  (h : fX8_stop (q_w g S) = some (y, v)) (kk : ∀ S, q_Gd 1 g S0 S → v = q_w g S → post y S) : wX8_stop (g 0 8 0) S post := by
  unfold wX8_stop; unfold fX8_stop at h
  refine ⟨_, q_p1600 R, ?_⟩
  obtain ⟨v1, h1, h⟩ := q_bvi h
  refine b_X9_advance R h1 (fun T2 R q => ?_)
  subst q
  refine ⟨_, q_p1603 R, ?_⟩
  obtain ⟨y5, v1, h1, h⟩ := q_bdi h
  refine b_X0_add R h1 (fun T4 R q => ?_)
  subst q
  refine ⟨_, q_p1600 R, ?_⟩
  obtain ⟨v1, h1, h⟩ := q_bvi h
  refine b_X9_expect R h1 (fun T7 R q => ?_)
  subst q
  exact q_fin h kk R
def fX8_list_b65 (x1 : Int32) (xn2 : Int32) (xn3 : Int32) (Sn : q_V) : Option (Int32 × q_V) :=
  q_bd (fX0_add_ 22 0 Sn) (fun y1003 T1002 =>
  q_bv (fX0_setChain xn3 ((y1003 + 2)) T1002) (fun T1005 =>
  some (xn2, T1005)))
theorem b_X8_list_b65 {g : q_G} {S0 : kp_S} {x1 : Int32} {xn2 : Int32} {xn3 : Int32} {Sn : kp_S} {post : Int32 → kp_S → Prop} {y : Int32} {v : q_V} (R : q_Gd 1 g S0 Sn)  (h : fX8_list_b65 x1 xn2 xn3 (q_w g Sn) = some (y, v)) (kk : ∀ S, q_Gd 1 g S0 S → v = q_w g S → post y S) : wX8_list_b65 (g 0 8 0) x1 xn2 xn3 Sn post := by
  unfold wX8_list_b65; unfold fX8_list_b65 at h
  refine ⟨_, q_p1603 R, ?_⟩
  obtain ⟨y1003, v1, h1, h⟩ := q_bdi h
  refine b_X0_add_ R h1 (fun T1002 R q => ?_)
  subst q
  refine ⟨_, q_p1603 R, ?_⟩
  obtain ⟨v1, h1, h⟩ := q_bvi h
  refine b_X0_setChain R h1 (fun T1005 R q => ?_)
  subst q
  exact q_fin h kk R
def fX8_list_L7 (x1 : Int32) : Nat → Int32 → Int32 → Int32 → q_V → Option (Int32 × q_V)
  | 0, _, _, _, _ => none
  | n + 1, xn2, xn3, xn4, Sn =>
  if 3000 ≤ xn4 then
  fX8_list_b65 x1 xn2 xn3 Sn
  else
  q_bd (fX2_whole_t Sn) (fun y2003 T2002 =>
  q_lt ((xn2 ||| y2003) : Int32) (fun y2004 =>
  q_bd (fX0_add_ x1 xn3 T2002) (fun y2007 T2006 =>
  q_lt ((y2007 + 1) : Int32) (fun y2008 =>
  if (q_i T2006 1805) = 44 then
  q_bv (fX9_advance T2006) (fun T2010 =>
  q_lt (xn4 + 1 : Int32) (fun y2011 =>
  fX8_list_L7 x1 n y2004 y2008 y2011 T2010))
  else
  fX8_list_b65 x1 y2004 y2008 T2006))))
theorem b_X8_list_L7 {g : q_G} {S0 : kp_S} {x1 : Int32} {post : Int32 → kp_S → Prop} {y : Int32} {v : q_V}  (kk : ∀ S, q_Gd 1 g S0 S → v = q_w g S → post y S) : ∀ (n : Nat) (xn2 : Int32) (xn3 : Int32) (xn4 : Int32) (Sn : kp_S), q_Gd 1 g S0 Sn → fX8_list_L7 x1 n xn2 xn3 xn4 (q_w g Sn) = some (y, v) → wX8_list_L7 (g 0 8 0) x1 post n xn2 xn3 xn4 Sn := by
  intro n
  induction n with
  | zero => intro xn2 xn3 xn4 Sn _ h; cases h
  | succ n ih =>
    intro xn2 xn3 xn4 Sn R h
    unfold wX8_list_L7; unfold fX8_list_L7 at h
    refine ⟨fun c => ?_, fun c => ?_⟩
    · replace h := q_ifp h c
      exact b_X8_list_b65 R h kk
    · replace h := q_ifn h c
      refine ⟨_, q_p1602 R, ?_⟩
      obtain ⟨y2003, v1, h1, h⟩ := q_bdi h
      refine b_X2_whole_t R h1 (fun T2002 R q => ?_)
      subst q
      intro y2004 q
      replace h := q_ltw h q
      refine ⟨_, q_p1603 R, ?_⟩
      obtain ⟨y2007, v1, h1, h⟩ := q_bdi h
      refine b_X0_add_ R h1 (fun T2006 R q => ?_)
      subst q
      intro y2008 q
      replace h := q_ltw h q
      refine ⟨_, q_p1600 R, ?_⟩
      refine ⟨fun c => ?_, fun c => ?_⟩
      · replace h := q_ifp h c
        obtain ⟨v1, h1, h⟩ := q_bvi h
        refine b_X9_advance R h1 (fun T2010 R q => ?_)
        subst q
        intro y2011 q
        replace h := q_ltw h q
        exact ih _ _ _ _ R h
      · replace h := q_ifn h c
        exact b_X8_list_b65 R h kk
def fX8_list (x1 : Int32) (S : q_V) : Option (Int32 × q_V) :=
  fX8_list_L7 x1 q_N 0 0 0 S
theorem b_X8_list {g : q_G} {S0 : kp_S} {x1 : Int32} {S : kp_S} {post : Int32 → kp_S → Prop} {y : Int32} {v : q_V} (R : q_Gd 1 g S0 S)  (h : fX8_list x1 (q_w g S) = some (y, v)) (kk : ∀ S, q_Gd 1 g S0 S → v = q_w g S → post y S) : wX8_list (g 0 8 0) x1 S post := by
  unfold wX8_list; unfold fX8_list at h
  exact ⟨q_N, b_X8_list_L7 kk q_N _ _ _ _ R h⟩
def fX8_dropForAny (S : q_V) : Option (Int32 × q_V) :=
  q_bv (fX9_advance S) (fun T2 =>
  q_bd (fX0_add_ 26 1 T2) (fun y5 T4 =>
  some (0, T4)))
theorem b_X8_dropForAny {g : q_G} {S0 : kp_S} {S : kp_S} {post : Int32 → kp_S → Prop} {y : Int32} {v : q_V} (R : q_Gd 1 g S0 S)  (h : fX8_dropForAny (q_w g S) = some (y, v)) (kk : ∀ S, q_Gd 1 g S0 S → v = q_w g S → post y S) : wX8_dropForAny (g 0 8 0) S post := by
  unfold wX8_dropForAny; unfold fX8_dropForAny at h
  refine ⟨_, q_p1600 R, ?_⟩
  obtain ⟨v1, h1, h⟩ := q_bvi h
  refine b_X9_advance R h1 (fun T2 R q => ?_)
  subst q
  refine ⟨_, q_p1603 R, ?_⟩
  obtain ⟨y5, v1, h1, h⟩ := q_bdi h
  refine b_X0_add_ R h1 (fun T4 R q => ?_)
  subst q
  exact q_fin h kk R
def fX8_alwaysPart_b76 (B : q_V → Option (Int32 × q_V)) (x1 : Int32) (x2 : Int32) (xt0 : Int32) (Sn : q_V) : Option (Int32 × q_V) :=
  some (xt0, Sn)
theorem b_X8_alwaysPart_b76 {g : q_G} {S0 : kp_S} {Bf : q_V → Option (Int32 × q_V)} {B : Nat → kp_S → (Int32 → kp_S → Prop) → Prop} {x1 : Int32} {x2 : Int32} {xt0 : Int32} {Sn : kp_S} {post : Int32 → kp_S → Prop} {y : Int32} {v : q_V} (R : q_Gd 1 g S0 Sn) (hB : ∀ (S : kp_S) (y : Int32) (v : q_V) (post : Int32 → kp_S → Prop), q_Gd 1 g S0 S → Bf (q_w g S) = some (y, v) → (∀ S, q_Gd 1 g S0 S → v = q_w g S → post y S) → B (g 0 8 0) S post) (h : fX8_alwaysPart_b76 Bf x1 x2 xt0 (q_w g Sn) = some (y, v)) (kk : ∀ S, q_Gd 1 g S0 S → v = q_w g S → post y S) : wX8_alwaysPart_b76 B (g 0 8 0) x1 x2 xt0 Sn post := by
  unfold wX8_alwaysPart_b76; unfold fX8_alwaysPart_b76 at h
  exact q_fin h kk R
def fX8_alwaysPart (B : q_V → Option (Int32 × q_V)) (x1 : Int32) (x2 : Int32) (S : q_V) : Option (Int32 × q_V) :=
  if (q_i S 1805) = 317 then
  q_bv (fX9_advance S) (fun T2 =>
  q_bd (fX0_size T2) (fun y5 T4 =>
  q_bv (fX0_set ((x1 + 4)) y5 T4) (fun T6 =>
  q_bd (B T6) (fun y8 T7 =>
  q_bd (fX0_add 54 T7) (fun y11 T10 =>
  if x2 = 0 then
  some (0, T10)
  else
  if (y8 &&& 1) = 0 then
  fX8_alwaysPart_b76 B x1 x2 y8 T10
  else
  fX8_alwaysPart_b76 B x1 x2 (((y8 &&& (- 2)) ||| x2)) T10)))))
  else
  some (x2, S)
theorem b_X8_alwaysPart {g : q_G} {S0 : kp_S} {Bf : q_V → Option (Int32 × q_V)} {B : Nat → kp_S → (Int32 → kp_S → Prop) → Prop} {x1 : Int32} {x2 : Int32} {S : kp_S} {post : Int32 → kp_S → Prop} {y : Int32} {v : q_V} (R : q_Gd 1 g S0 S) (hB : ∀ (S : kp_S) (y : Int32) (v : q_V) (post : Int32 → kp_S → Prop), q_Gd 1 g S0 S → Bf (q_w g S) = some (y, v) → (∀ S, q_Gd 1 g S0 S → v = q_w g S → post y S) → B (g 0 8 0) S post) (h : fX8_alwaysPart Bf x1 x2 (q_w g S) = some (y, v)) (kk : ∀ S, q_Gd 1 g S0 S → v = q_w g S → post y S) : wX8_alwaysPart B (g 0 8 0) x1 x2 S post := by
  unfold wX8_alwaysPart; unfold fX8_alwaysPart at h
  refine ⟨_, q_p1600 R, ?_⟩
  refine ⟨fun c => ?_, fun c => ?_⟩
  · replace h := q_ifp h c
    obtain ⟨v1, h1, h⟩ := q_bvi h
    refine b_X9_advance R h1 (fun T2 R q => ?_)
    subst q
    refine ⟨_, q_p1603 R, ?_⟩
    obtain ⟨y5, v1, h1, h⟩ := q_bdi h
    refine b_X0_size R h1 (fun T4 R q => ?_)
    subst q
    obtain ⟨v1, h1, h⟩ := q_bvi h
    refine b_X0_set R h1 (fun T6 R q => ?_)
    subst q
    obtain ⟨y8, v1, h1, h⟩ := q_bdi h
    refine hB _ _ _ _ R h1 (fun T7 R q => ?_)
    subst q
    refine ⟨_, q_p1603 R, ?_⟩
    obtain ⟨y11, v1, h1, h⟩ := q_bdi h
    refine b_X0_add R h1 (fun T10 R q => ?_)
    subst q
    refine ⟨fun c => ?_, fun c => ?_⟩
    · replace h := q_ifn h c
      refine ⟨fun c => ?_, fun c => ?_⟩
      · replace h := q_ifp h c
        exact b_X8_alwaysPart_b76 R hB h kk
      · replace h := q_ifn h c
        exact b_X8_alwaysPart_b76 R hB h kk
    · replace h := q_ifp h c
      exact q_fin h kk R
  · replace h := q_ifn h c
    exact q_fin h kk R
def fX8_round (B : q_V → Option (Int32 × q_V)) (w1 : Int64) (x3 : Int32) (S : q_V) : Option (Int32 × q_V) :=
  q_bv (fX5_enterLoop w1 x3 S) (fun T2 =>
  q_bd (B T2) (fun y4 T3 =>
  q_bd (fX0_add 54 T3) (fun y7 T6 =>
  q_bd (fX8_alwaysPart B x3 y4 T6) (fun y9 T8 =>
  q_bv (fX5_leaveLoop T8) (fun T11 =>
  some (y9, T11))))))
theorem b_X8_round {g : q_G} {S0 : kp_S} {Bf : q_V → Option (Int32 × q_V)} {B : Nat → kp_S → (Int32 → kp_S → Prop) → Prop} {w1 : Int64} {x3 : Int32} {S : kp_S} {post : Int32 → kp_S → Prop} {y : Int32} {v : q_V} (R : q_Gd 1 g S0 S) (hB : ∀ (S : kp_S) (y : Int32) (v : q_V) (post : Int32 → kp_S → Prop), q_Gd 1 g S0 S → Bf (q_w g S) = some (y, v) → (∀ S, q_Gd 1 g S0 S → v = q_w g S → post y S) → B (g 0 8 0) S post) (h : fX8_round Bf w1 x3 (q_w g S) = some (y, v)) (kk : ∀ S, q_Gd 1 g S0 S → v = q_w g S → post y S) : wX8_round B (g 0 8 0) w1 x3 S post := by
  unfold wX8_round; unfold fX8_round at h
  refine ⟨_, q_p1601 R, ?_⟩
  obtain ⟨v1, h1, h⟩ := q_bvi h
  refine b_X5_enterLoop R h1 (fun T2 R q => ?_)
  subst q
  obtain ⟨y4, v1, h1, h⟩ := q_bdi h
  refine hB _ _ _ _ R h1 (fun T3 R q => ?_)
  subst q
  refine ⟨_, q_p1603 R, ?_⟩
  obtain ⟨y7, v1, h1, h⟩ := q_bdi h
  refine b_X0_add R h1 (fun T6 R q => ?_)
  subst q
  obtain ⟨y9, v1, h1, h⟩ := q_bdi h
  refine b_X8_alwaysPart R hB h1 (fun T8 R q => ?_)
  subst q
  refine ⟨_, q_p1601 R, ?_⟩
  obtain ⟨v1, h1, h⟩ := q_bvi h
  refine b_X5_leaveLoop R h1 (fun T11 R q => ?_)
  subst q
  exact q_fin h kk R
def fX8_whileLoop (B : q_V → Option (Int32 × q_V)) (w1 : Int64) (x3 : Int32) (S : q_V) : Option (Int32 × q_V) :=
  q_bv (fX9_advance S) (fun T2 =>
  q_bd (fX0_add_ 30 x3 T2) (fun y5 T4 =>
  q_bd (fX2_whole_t T4) (fun y8 T7 =>
  q_bd (fX8_troubleOf y8 T7) (fun y10 T9 =>
  q_bd (fX0_add_ 23 0 T9) (fun y13 T12 =>
  q_bd (fX0_addPart 46 x3 T12) (fun y16 T15 =>
  q_bd (fX8_round B w1 y16 T15) (fun y18 T17 =>
  q_bd (fX0_size T17) (fun y21 T20 =>
  q_bv (fX0_set ((y13 + 1)) y21 T20) (fun T22 =>
  q_bd (fX0_size T22) (fun y25 T24 =>
  q_bv (fX8_setRound y16 y5 y25 T24) (fun T26 =>
  q_bd (fX8_ownWays T26) (fun y28 T27 =>
  some (((((y18 &&& (y28 ^^^ (- 1))) &&& (- 2)) ||| 1) ||| y10), T27)))))))))))))
theorem b_X8_whileLoop {g : q_G} {S0 : kp_S} {Bf : q_V → Option (Int32 × q_V)} {B : Nat → kp_S → (Int32 → kp_S → Prop) → Prop} {w1 : Int64} {x3 : Int32} {S : kp_S} {post : Int32 → kp_S → Prop} {y : Int32} {v : q_V} (R : q_Gd 1 g S0 S) (hB : ∀ (S : kp_S) (y : Int32) (v : q_V) (post : Int32 → kp_S → Prop), q_Gd 1 g S0 S → Bf (q_w g S) = some (y, v) → (∀ S, q_Gd 1 g S0 S → v = q_w g S → post y S) → B (g 0 8 0) S post) (h : fX8_whileLoop Bf w1 x3 (q_w g S) = some (y, v)) (kk : ∀ S, q_Gd 1 g S0 S → v = q_w g S → post y S) : wX8_whileLoop B (g 0 8 0) w1 x3 S post := by
  unfold wX8_whileLoop; unfold fX8_whileLoop at h
  refine ⟨_, q_p1600 R, ?_⟩
  obtain ⟨v1, h1, h⟩ := q_bvi h
  refine b_X9_advance R h1 (fun T2 R q => ?_)
  subst q
  refine ⟨_, q_p1603 R, ?_⟩
  obtain ⟨y5, v1, h1, h⟩ := q_bdi h
  refine b_X0_add_ R h1 (fun T4 R q => ?_)
  subst q
  refine ⟨_, q_p1602 R, ?_⟩
  obtain ⟨y8, v1, h1, h⟩ := q_bdi h
  refine b_X2_whole_t R h1 (fun T7 R q => ?_)
  subst q
  obtain ⟨y10, v1, h1, h⟩ := q_bdi h
  refine b_X8_troubleOf R h1 (fun T9 R q => ?_)
  subst q
  refine ⟨_, q_p1603 R, ?_⟩
  obtain ⟨y13, v1, h1, h⟩ := q_bdi h
  refine b_X0_add_ R h1 (fun T12 R q => ?_)
  subst q
  refine ⟨_, q_p1603 R, ?_⟩
  obtain ⟨y16, v1, h1, h⟩ := q_bdi h
  refine b_X0_addPart R h1 (fun T15 R q => ?_)
  subst q
  obtain ⟨y18, v1, h1, h⟩ := q_bdi h
  refine b_X8_round R hB h1 (fun T17 R q => ?_)
  subst q
  refine ⟨_, q_p1603 R, ?_⟩
  obtain ⟨y21, v1, h1, h⟩ := q_bdi h
  refine b_X0_size R h1 (fun T20 R q => ?_)
  subst q
  obtain ⟨v1, h1, h⟩ := q_bvi h
  refine b_X0_set R h1 (fun T22 R q => ?_)
  subst q
  refine ⟨_, q_p1603 R, ?_⟩
  obtain ⟨y25, v1, h1, h⟩ := q_bdi h
  refine b_X0_size R h1 (fun T24 R q => ?_)
  subst q
  obtain ⟨v1, h1, h⟩ := q_bvi h
  refine b_X8_setRound R h1 (fun T26 R q => ?_)
  subst q
  obtain ⟨y28, v1, h1, h⟩ := q_bdi h
  refine b_X8_ownWays R h1 (fun T27 R q => ?_)
  subst q
  exact q_fin h kk R
def fX8_eachLoop_b110 (B : q_V → Option (Int32 × q_V)) (w1 : Int64) (x3 : Int32) (xn7 : Int32) (xn8 : Int32) (xt0 : Int32) (Sn : q_V) : Option (Int32 × q_V) :=
  q_bd (fX0_add_ 33 xt0 Sn) (fun y1003 T1002 =>
  q_bd (fX0_add 0 T1002) (fun y1006 T1005 =>
  q_bd (fX0_addPart 46 x3 T1005) (fun y1009 T1008 =>
  q_bd (fX8_round B w1 y1009 T1008) (fun y1011 T1010 =>
  q_bv (fX5_forgetBehind xn8 T1010) (fun T1013 =>
  q_bd (fX0_add_ 34 y1003 T1013) (fun y1016 T1015 =>
  q_bd (fX0_size T1015) (fun y1019 T1018 =>
  q_bv (fX0_set y1006 y1019 T1018) (fun T1020 =>
  q_bd (fX0_size T1020) (fun y1023 T1022 =>
  q_bv (fX8_setRound y1009 y1016 y1023 T1022) (fun T1024 =>
  q_bd (fX0_add_ 26 2 T1024) (fun y1027 T1026 =>
  q_bd (fX8_ownWays T1026) (fun y1029 T1028 =>
  q_bd (fX8_troubleOf xn7 T1028) (fun y1031 T1030 =>
  some (((((y1011 &&& (y1029 ^^^ (- 1))) &&& (- 2)) ||| 1) ||| y1031), T1030))))))))))))))
theorem b_X8_eachLoop_b110 {g : q_G} {S0 : kp_S} {Bf : q_V → Option (Int32 × q_V)} {B : Nat → kp_S → (Int32 → kp_S → Prop) → Prop} {w1 : Int64} {x3 : Int32} {xn7 : Int32} {xn8 : Int32} {xt0 : Int32} {Sn : kp_S} {post : Int32 → kp_S → Prop} {y : Int32} {v : q_V} (R : q_Gd 1 g S0 Sn) (hB : ∀ (S : kp_S) (y : Int32) (v : q_V) (post : Int32 → kp_S → Prop), q_Gd 1 g S0 S → Bf (q_w g S) = some (y, v) → (∀ S, q_Gd 1 g S0 S → v = q_w g S → post y S) → B (g 0 8 0) S post) (h : fX8_eachLoop_b110 Bf w1 x3 xn7 xn8 xt0 (q_w g Sn) = some (y, v)) (kk : ∀ S, q_Gd 1 g S0 S → v = q_w g S → post y S) : wX8_eachLoop_b110 B (g 0 8 0) w1 x3 xn7 xn8 xt0 Sn post := by
  unfold wX8_eachLoop_b110; unfold fX8_eachLoop_b110 at h
  refine ⟨_, q_p1603 R, ?_⟩
  obtain ⟨y1003, v1, h1, h⟩ := q_bdi h
  refine b_X0_add_ R h1 (fun T1002 R q => ?_)
  subst q
  refine ⟨_, q_p1603 R, ?_⟩
  obtain ⟨y1006, v1, h1, h⟩ := q_bdi h
  refine b_X0_add R h1 (fun T1005 R q => ?_)
  subst q
  refine ⟨_, q_p1603 R, ?_⟩
  obtain ⟨y1009, v1, h1, h⟩ := q_bdi h
  refine b_X0_addPart R h1 (fun T1008 R q => ?_)
  subst q
  obtain ⟨y1011, v1, h1, h⟩ := q_bdi h
  refine b_X8_round R hB h1 (fun T1010 R q => ?_)
  subst q
  refine ⟨_, q_p1601 R, ?_⟩
  obtain ⟨v1, h1, h⟩ := q_bvi h
  refine b_X5_forgetBehind R h1 (fun T1013 R q => ?_)
  subst q
  refine ⟨_, q_p1603 R, ?_⟩
  obtain ⟨y1016, v1, h1, h⟩ := q_bdi h
  refine b_X0_add_ R h1 (fun T1015 R q => ?_)
  subst q
  refine ⟨_, q_p1603 R, ?_⟩
  obtain ⟨y1019, v1, h1, h⟩ := q_bdi h
  refine b_X0_size R h1 (fun T1018 R q => ?_)
  subst q
  obtain ⟨v1, h1, h⟩ := q_bvi h
  refine b_X0_set R h1 (fun T1020 R q => ?_)
  subst q
  refine ⟨_, q_p1603 R, ?_⟩
  obtain ⟨y1023, v1, h1, h⟩ := q_bdi h
  refine b_X0_size R h1 (fun T1022 R q => ?_)
  subst q
  obtain ⟨v1, h1, h⟩ := q_bvi h
  refine b_X8_setRound R h1 (fun T1024 R q => ?_)
  subst q
  refine ⟨_, q_p1603 R, ?_⟩
  obtain ⟨y1027, v1, h1, h⟩ := q_bdi h
  refine b_X0_add_ R h1 (fun T1026 R q => ?_)
  subst q
  obtain ⟨y1029, v1, h1, h⟩ := q_bdi h
  refine b_X8_ownWays R h1 (fun T1028 R q => ?_)
  subst q
  obtain ⟨y1031, v1, h1, h⟩ := q_bdi h
  refine b_X8_troubleOf R h1 (fun T1030 R q => ?_)
  subst q
  exact q_fin h kk R
def fX8_eachLoop (B : q_V → Option (Int32 × q_V)) (w1 : Int64) (x3 : Int32) (S : q_V) : Option (Int32 × q_V) :=
  q_bv (fX9_advance S) (fun T2 =>
  q_lt ((q_j T2 1808) : Int64) (fun z4 =>
  q_lt ((q_i T2 1806) : Int32) (fun y5 =>
  q_bv (fX9_expect 259 T2) (fun T6 =>
  q_bv (fX9_expect 307 T6) (fun T8 =>
  q_bd (fX2_whole_t T8) (fun y11 T10 =>
  q_bv (fX9_expect 308 T10) (fun T13 =>
  q_bd (fX2_whole_t T13) (fun y16 T15 =>
  q_lt ((y11 ||| y16) : Int32) (fun y17 =>
  q_bd (fX5_knownNow T15) (fun y20 T19 =>
  q_bd (fX9_isStopped T19) (fun y23 T22 =>
  if y23 = 0 then
  q_bd (fX5_tellVariable z4 y5 T22) (fun y26 T25 =>
  fX8_eachLoop_b110 B w1 x3 y17 y20 y26 T25)
  else
  fX8_eachLoop_b110 B w1 x3 y17 y20 0 T22)))))))))))
theorem b_X8_eachLoop {g : q_G} {S0 : kp_S} {Bf : q_V → Option (Int32 × q_V)} {B : Nat → kp_S → (Int32 → kp_S → Prop) → Prop} {w1 : Int64} {x3 : Int32} {S : kp_S} {post : Int32 → kp_S → Prop} {y : Int32} {v : q_V} (R : q_Gd 1 g S0 S) (hB : ∀ (S : kp_S) (y : Int32) (v : q_V) (post : Int32 → kp_S → Prop), q_Gd 1 g S0 S → Bf (q_w g S) = some (y, v) → (∀ S, q_Gd 1 g S0 S → v = q_w g S → post y S) → B (g 0 8 0) S post) (h : fX8_eachLoop Bf w1 x3 (q_w g S) = some (y, v)) (kk : ∀ S, q_Gd 1 g S0 S → v = q_w g S → post y S) : wX8_eachLoop B (g 0 8 0) w1 x3 S post := by
  unfold wX8_eachLoop; unfold fX8_eachLoop at h
  refine ⟨_, q_p1600 R, ?_⟩
  obtain ⟨v1, h1, h⟩ := q_bvi h
  refine b_X9_advance R h1 (fun T2 R q => ?_)
  subst q
  refine ⟨_, q_p1600 R, ?_⟩
  intro z4 q
  replace h := q_ltw h q
  intro y5 q
  replace h := q_ltw h q
  obtain ⟨v1, h1, h⟩ := q_bvi h
  refine b_X9_expect R h1 (fun T6 R q => ?_)
  subst q
  refine ⟨_, q_p1600 R, ?_⟩
  obtain ⟨v1, h1, h⟩ := q_bvi h
  refine b_X9_expect R h1 (fun T8 R q => ?_)
  subst q
  refine ⟨_, q_p1602 R, ?_⟩
  obtain ⟨y11, v1, h1, h⟩ := q_bdi h
  refine b_X2_whole_t R h1 (fun T10 R q => ?_)
  subst q
  refine ⟨_, q_p1600 R, ?_⟩
  obtain ⟨v1, h1, h⟩ := q_bvi h
  refine b_X9_expect R h1 (fun T13 R q => ?_)
  subst q
  refine ⟨_, q_p1602 R, ?_⟩
  obtain ⟨y16, v1, h1, h⟩ := q_bdi h
  refine b_X2_whole_t R h1 (fun T15 R q => ?_)
  subst q
  intro y17 q
  replace h := q_ltw h q
  refine ⟨_, q_p1601 R, ?_⟩
  obtain ⟨y20, v1, h1, h⟩ := q_bdi h
  refine b_X5_knownNow R h1 (fun T19 R q => ?_)
  subst q
  refine ⟨_, q_p1600 R, ?_⟩
  obtain ⟨y23, v1, h1, h⟩ := q_bdi h
  refine b_X9_isStopped R h1 (fun T22 R q => ?_)
  subst q
  refine ⟨fun c => ?_, fun c => ?_⟩
  · replace h := q_ifp h c
    refine ⟨_, q_p1601 R, ?_⟩
    obtain ⟨y26, v1, h1, h⟩ := q_bdi h
    refine b_X5_tellVariable R h1 (fun T25 R q => ?_)
    subst q
    exact b_X8_eachLoop_b110 R hB h kk
  · replace h := q_ifn h c
    exact b_X8_eachLoop_b110 R hB h kk
def fX8_repeatLoop_b175 (B : q_V → Option (Int32 × q_V)) (w1 : Int64) (x3 : Int32) (xt0 : Int32) (Sn : q_V) : Option (Int32 × q_V) :=
  some (xt0, Sn)
theorem b_X8_repeatLoop_b175 {g : q_G} {S0 : kp_S} {Bf : q_V → Option (Int32 × q_V)} {B : Nat → kp_S → (Int32 → kp_S → Prop) → Prop} {w1 : Int64} {x3 : Int32} {xt0 : Int32} {Sn : kp_S} {post : Int32 → kp_S → Prop} {y : Int32} {v : q_V} (R : q_Gd 1 g S0 Sn) (hB : ∀ (S : kp_S) (y : Int32) (v : q_V) (post : Int32 → kp_S → Prop), q_Gd 1 g S0 S → Bf (q_w g S) = some (y, v) → (∀ S, q_Gd 1 g S0 S → v = q_w g S → post y S) → B (g 0 8 0) S post) (h : fX8_repeatLoop_b175 Bf w1 x3 xt0 (q_w g Sn) = some (y, v)) (kk : ∀ S, q_Gd 1 g S0 S → v = q_w g S → post y S) : wX8_repeatLoop_b175 B (g 0 8 0) w1 x3 xt0 Sn post := by
  unfold wX8_repeatLoop_b175; unfold fX8_repeatLoop_b175 at h
  exact q_fin h kk R
def fX8_repeatLoop_b156 (B : q_V → Option (Int32 × q_V)) (w1 : Int64) (x3 : Int32) (xn6 : Int32) (xn7 : Int32) (xn11 : Int32) (Sn : q_V) : Option (Int32 × q_V) :=
  if (xn6 &&& (1 ||| xn7)) = 0 then
  fX8_repeatLoop_b175 B w1 x3 xn11 Sn
  else
  fX8_repeatLoop_b175 B w1 x3 ((xn11 ||| 1)) Sn
theorem b_X8_repeatLoop_b156 {g : q_G} {S0 : kp_S} {Bf : q_V → Option (Int32 × q_V)} {B : Nat → kp_S → (Int32 → kp_S → Prop) → Prop} {w1 : Int64} {x3 : Int32} {xn6 : Int32} {xn7 : Int32} {xn11 : Int32} {Sn : kp_S} {post : Int32 → kp_S → Prop} {y : Int32} {v : q_V} (R : q_Gd 1 g S0 Sn) (hB : ∀ (S : kp_S) (y : Int32) (v : q_V) (post : Int32 → kp_S → Prop), q_Gd 1 g S0 S → Bf (q_w g S) = some (y, v) → (∀ S, q_Gd 1 g S0 S → v = q_w g S → post y S) → B (g 0 8 0) S post) (h : fX8_repeatLoop_b156 Bf w1 x3 xn6 xn7 xn11 (q_w g Sn) = some (y, v)) (kk : ∀ S, q_Gd 1 g S0 S → v = q_w g S → post y S) : wX8_repeatLoop_b156 B (g 0 8 0) w1 x3 xn6 xn7 xn11 Sn post := by
  unfold wX8_repeatLoop_b156; unfold fX8_repeatLoop_b156 at h
  refine ⟨fun c => ?_, fun c => ?_⟩
  · replace h := q_ifp h c
    exact b_X8_repeatLoop_b175 R hB h kk
  · replace h := q_ifn h c
    exact b_X8_repeatLoop_b175 R hB h kk
def fX8_repeatLoop (B : q_V → Option (Int32 × q_V)) (w1 : Int64) (x3 : Int32) (S : q_V) : Option (Int32 × q_V) :=
  q_bv (fX9_advance S) (fun T2 =>
  q_bd (fX0_add 32 T2) (fun y5 T4 =>
  q_bd (fX0_addPart 46 x3 T4) (fun y8 T7 =>
  q_bd (fX8_round B w1 y8 T7) (fun y10 T9 =>
  q_bd (fX8_ownWays T9) (fun y12 T11 =>
  q_bd (fX5_loopsNow T11) (fun y15 T14 =>
  q_bd (fX10_againOf y15 T14) (fun y17 T16 =>
  q_bv (fX9_expect 322 T16) (fun T19 =>
  q_bd (fX0_add_ 31 x3 T19) (fun y22 T21 =>
  q_bd (fX2_whole_t T21) (fun y25 T24 =>
  q_bd (fX8_troubleOf y25 T24) (fun y27 T26 =>
  q_bd (fX0_add_ 23 y5 T26) (fun y30 T29 =>
  q_bd (fX0_size T29) (fun y33 T32 =>
  q_bv (fX8_setRound y8 y22 y33 T32) (fun T34 =>
  q_bv (fX9_expect 59 T34) (fun T36 =>
  q_lt (((y10 &&& (y12 ^^^ (- 1))) &&& (- 2)) : Int32) (fun y37 =>
  if (y10 &&& (1 ||| y17)) = 0 then
  fX8_repeatLoop_b156 B w1 x3 y10 y12 y37 T36
  else
  q_lt ((y37 ||| y27) : Int32) (fun y38 =>
  fX8_repeatLoop_b156 B w1 x3 y10 y12 y38 T36)))))))))))))))))
theorem b_X8_repeatLoop {g : q_G} {S0 : kp_S} {Bf : q_V → Option (Int32 × q_V)} {B : Nat → kp_S → (Int32 → kp_S → Prop) → Prop} {w1 : Int64} {x3 : Int32} {S : kp_S} {post : Int32 → kp_S → Prop} {y : Int32} {v : q_V} (R : q_Gd 1 g S0 S) (hB : ∀ (S : kp_S) (y : Int32) (v : q_V) (post : Int32 → kp_S → Prop), q_Gd 1 g S0 S → Bf (q_w g S) = some (y, v) → (∀ S, q_Gd 1 g S0 S → v = q_w g S → post y S) → B (g 0 8 0) S post) (h : fX8_repeatLoop Bf w1 x3 (q_w g S) = some (y, v)) (kk : ∀ S, q_Gd 1 g S0 S → v = q_w g S → post y S) : wX8_repeatLoop B (g 0 8 0) w1 x3 S post := by
  unfold wX8_repeatLoop; unfold fX8_repeatLoop at h
  refine ⟨_, q_p1600 R, ?_⟩
  obtain ⟨v1, h1, h⟩ := q_bvi h
  refine b_X9_advance R h1 (fun T2 R q => ?_)
  subst q
  refine ⟨_, q_p1603 R, ?_⟩
  obtain ⟨y5, v1, h1, h⟩ := q_bdi h
  refine b_X0_add R h1 (fun T4 R q => ?_)
  subst q
  refine ⟨_, q_p1603 R, ?_⟩
  obtain ⟨y8, v1, h1, h⟩ := q_bdi h
  refine b_X0_addPart R h1 (fun T7 R q => ?_)
  subst q
  obtain ⟨y10, v1, h1, h⟩ := q_bdi h
  refine b_X8_round R hB h1 (fun T9 R q => ?_)
  subst q
  obtain ⟨y12, v1, h1, h⟩ := q_bdi h
  refine b_X8_ownWays R h1 (fun T11 R q => ?_)
  subst q
  refine ⟨_, q_p1601 R, ?_⟩
  obtain ⟨y15, v1, h1, h⟩ := q_bdi h
  refine b_X5_loopsNow R h1 (fun T14 R q => ?_)
  subst q
  obtain ⟨y17, v1, h1, h⟩ := q_bdi h
  refine b_X10_againOf R h1 (fun T16 R q => ?_)
  subst q
  refine ⟨_, q_p1600 R, ?_⟩
  obtain ⟨v1, h1, h⟩ := q_bvi h
  refine b_X9_expect R h1 (fun T19 R q => ?_)
  subst q
  refine ⟨_, q_p1603 R, ?_⟩
  obtain ⟨y22, v1, h1, h⟩ := q_bdi h
  refine b_X0_add_ R h1 (fun T21 R q => ?_)
  subst q
  refine ⟨_, q_p1602 R, ?_⟩
  obtain ⟨y25, v1, h1, h⟩ := q_bdi h
  refine b_X2_whole_t R h1 (fun T24 R q => ?_)
  subst q
  obtain ⟨y27, v1, h1, h⟩ := q_bdi h
  refine b_X8_troubleOf R h1 (fun T26 R q => ?_)
  subst q
  refine ⟨_, q_p1603 R, ?_⟩
  obtain ⟨y30, v1, h1, h⟩ := q_bdi h
  refine b_X0_add_ R h1 (fun T29 R q => ?_)
  subst q
  refine ⟨_, q_p1603 R, ?_⟩
  obtain ⟨y33, v1, h1, h⟩ := q_bdi h
  refine b_X0_size R h1 (fun T32 R q => ?_)
  subst q
  obtain ⟨v1, h1, h⟩ := q_bvi h
  refine b_X8_setRound R h1 (fun T34 R q => ?_)
  subst q
  refine ⟨_, q_p1600 R, ?_⟩
  obtain ⟨v1, h1, h⟩ := q_bvi h
  refine b_X9_expect R h1 (fun T36 R q => ?_)
  subst q
  intro y37 q
  replace h := q_ltw h q
  refine ⟨fun c => ?_, fun c => ?_⟩
  · replace h := q_ifp h c
    exact b_X8_repeatLoop_b156 R hB h kk
  · replace h := q_ifn h c
    intro y38 q
    replace h := q_ltw h q
    exact b_X8_repeatLoop_b156 R hB h kk
def fX8_loop (B : q_V → Option (Int32 × q_V)) (w1 : Int64) (x3 : Int32) (S : q_V) : Option (Int32 × q_V) :=
  q_lt ((q_i S 1805) : Int32) (fun y2 =>
  if y2 = 305 then
  q_bd (fX8_whileLoop B w1 x3 S) (fun y5 T4 =>
  some (y5, T4))
  else
  if y2 = 306 then
  q_bd (fX8_eachLoop B w1 x3 S) (fun y8 T7 =>
  some (y8, T7))
  else
  if y2 = 321 then
  q_bd (fX8_repeatLoop B w1 x3 S) (fun y11 T10 =>
  some (y11, T10))
  else
  q_bv (fX9_refuse S) (fun T12 =>
  some (0, T12)))
theorem b_X8_loop {g : q_G} {S0 : kp_S} {Bf : q_V → Option (Int32 × q_V)} {B : Nat → kp_S → (Int32 → kp_S → Prop) → Prop} {w1 : Int64} {x3 : Int32} {S : kp_S} {post : Int32 → kp_S → Prop} {y : Int32} {v : q_V} (R : q_Gd 1 g S0 S) (hB : ∀ (S : kp_S) (y : Int32) (v : q_V) (post : Int32 → kp_S → Prop), q_Gd 1 g S0 S → Bf (q_w g S) = some (y, v) → (∀ S, q_Gd 1 g S0 S → v = q_w g S → post y S) → B (g 0 8 0) S post) (h : fX8_loop Bf w1 x3 (q_w g S) = some (y, v)) (kk : ∀ S, q_Gd 1 g S0 S → v = q_w g S → post y S) : wX8_loop B (g 0 8 0) w1 x3 S post := by
  unfold wX8_loop; unfold fX8_loop at h
  refine ⟨_, q_p1600 R, ?_⟩
  intro y2 q
  replace h := q_ltw h q
  refine ⟨fun c => ?_, fun c => ?_⟩
  · replace h := q_ifp h c
    obtain ⟨y5, v1, h1, h⟩ := q_bdi h
    refine b_X8_whileLoop R hB h1 (fun T4 R q => ?_)
    subst q
    exact q_fin h kk R
  · replace h := q_ifn h c
    refine ⟨fun c => ?_, fun c => ?_⟩
    · replace h := q_ifp h c
      obtain ⟨y8, v1, h1, h⟩ := q_bdi h
      refine b_X8_eachLoop R hB h1 (fun T7 R q => ?_)
      subst q
      exact q_fin h kk R
    · replace h := q_ifn h c
      refine ⟨fun c => ?_, fun c => ?_⟩
      · replace h := q_ifp h c
        obtain ⟨y11, v1, h1, h⟩ := q_bdi h
        refine b_X8_repeatLoop R hB h1 (fun T10 R q => ?_)
        subst q
        exact q_fin h kk R
      · replace h := q_ifn h c
        obtain ⟨v1, h1, h⟩ := q_bvi h
        refine b_X9_refuse R h1 (fun T12 R q => ?_)
        subst q
        exact q_fin h kk R
def fX8_named (B : q_V → Option (Int32 × q_V)) (x1 : Int32) (S : q_V) : Option (Int32 × q_V) :=
  q_lt ((q_j S 1808) : Int64) (fun z2 =>
  q_bv (fX9_advance S) (fun T3 =>
  q_lt ((q_i T3 1805) : Int32) (fun y5 =>
  if y5 = 40 then
  q_bv (fX2_callOf_t z2 x1 T3) (fun T8 =>
  q_bd (fX0_add_ 26 1 T8) (fun y11 T10 =>
  q_bv (fX9_expect 59 T10) (fun T13 =>
  some (5, T13))))
  else
  if y5 = 58 then
  q_bv (fX5_tellLabel z2 x1 T3) (fun T16 =>
  q_bv (fX9_advance T16) (fun T18 =>
  q_bd (fX8_loop B z2 x1 T18) (fun y20 T19 =>
  some (y20, T19))))
  else
  if y5 = 61 then
  q_bd (fX5_slotOf z2 x1 T3) (fun y24 T23 =>
  q_bd (fX8_assign y24 T23) (fun y26 T25 =>
  some (y26, T25)))
  else
  q_bv (fX9_refuse T3) (fun T27 =>
  some (0, T27)))))
theorem b_X8_named {g : q_G} {S0 : kp_S} {Bf : q_V → Option (Int32 × q_V)} {B : Nat → kp_S → (Int32 → kp_S → Prop) → Prop} {x1 : Int32} {S : kp_S} {post : Int32 → kp_S → Prop} {y : Int32} {v : q_V} (R : q_Gd 1 g S0 S) (hB : ∀ (S : kp_S) (y : Int32) (v : q_V) (post : Int32 → kp_S → Prop), q_Gd 1 g S0 S → Bf (q_w g S) = some (y, v) → (∀ S, q_Gd 1 g S0 S → v = q_w g S → post y S) → B (g 0 8 0) S post) (h : fX8_named Bf x1 (q_w g S) = some (y, v)) (kk : ∀ S, q_Gd 1 g S0 S → v = q_w g S → post y S) : wX8_named B (g 0 8 0) x1 S post := by
  unfold wX8_named; unfold fX8_named at h
  refine ⟨_, q_p1600 R, ?_⟩
  intro z2 q
  replace h := q_ltw h q
  obtain ⟨v1, h1, h⟩ := q_bvi h
  refine b_X9_advance R h1 (fun T3 R q => ?_)
  subst q
  refine ⟨_, q_p1600 R, ?_⟩
  intro y5 q
  replace h := q_ltw h q
  refine ⟨fun c => ?_, fun c => ?_⟩
  · replace h := q_ifp h c
    refine ⟨_, q_p1602 R, ?_⟩
    obtain ⟨v1, h1, h⟩ := q_bvi h
    refine b_X2_callOf_t R h1 (fun T8 R q => ?_)
    subst q
    refine ⟨_, q_p1603 R, ?_⟩
    obtain ⟨y11, v1, h1, h⟩ := q_bdi h
    refine b_X0_add_ R h1 (fun T10 R q => ?_)
    subst q
    refine ⟨_, q_p1600 R, ?_⟩
    obtain ⟨v1, h1, h⟩ := q_bvi h
    refine b_X9_expect R h1 (fun T13 R q => ?_)
    subst q
    exact q_fin h kk R
  · replace h := q_ifn h c
    refine ⟨fun c => ?_, fun c => ?_⟩
    · replace h := q_ifp h c
      refine ⟨_, q_p1601 R, ?_⟩
      obtain ⟨v1, h1, h⟩ := q_bvi h
      refine b_X5_tellLabel R h1 (fun T16 R q => ?_)
      subst q
      refine ⟨_, q_p1600 R, ?_⟩
      obtain ⟨v1, h1, h⟩ := q_bvi h
      refine b_X9_advance R h1 (fun T18 R q => ?_)
      subst q
      obtain ⟨y20, v1, h1, h⟩ := q_bdi h
      refine b_X8_loop R hB h1 (fun T19 R q => ?_)
      subst q
      exact q_fin h kk R
    · replace h := q_ifn h c
      refine ⟨fun c => ?_, fun c => ?_⟩
      · replace h := q_ifp h c
        refine ⟨_, q_p1601 R, ?_⟩
        obtain ⟨y24, v1, h1, h⟩ := q_bdi h
        refine b_X5_slotOf R h1 (fun T23 R q => ?_)
        subst q
        obtain ⟨y26, v1, h1, h⟩ := q_bdi h
        refine b_X8_assign R h1 (fun T25 R q => ?_)
        subst q
        exact q_fin h kk R
      · replace h := q_ifn h c
        obtain ⟨v1, h1, h⟩ := q_bvi h
        refine b_X9_refuse R h1 (fun T27 R q => ?_)
        subst q
        exact q_fin h kk R
def fX8_ifElse (B : q_V → Option (Int32 × q_V)) (S : q_V) : Option (Int32 × q_V) :=
  q_bv (fX9_advance S) (fun T2 =>
  q_bd (fX2_whole_t T2) (fun y5 T4 =>
  q_bd (fX8_troubleOf y5 T4) (fun y7 T6 =>
  q_bd (fX0_add_ 23 0 T6) (fun y10 T9 =>
  q_bd (B T9) (fun y12 T11 =>
  if (q_i T11 1805) = 304 then
  q_bv (fX9_advance T11) (fun T14 =>
  q_bd (fX0_add_ 22 0 T14) (fun y17 T16 =>
  q_bd (fX0_size T16) (fun y20 T19 =>
  q_bv (fX0_set ((y10 + 1)) y20 T19) (fun T21 =>
  q_bd (B T21) (fun y23 T22 =>
  q_lt ((y12 ||| y23) : Int32) (fun y24 =>
  q_bd (fX0_size T22) (fun y27 T26 =>
  q_bv (fX0_set ((y17 + 1)) y27 T26) (fun T28 =>
  some ((y24 ||| y7), T28)))))))))
  else
  q_bd (fX0_size T11) (fun y31 T30 =>
  q_bv (fX0_set ((y10 + 1)) y31 T30) (fun T32 =>
  some (((y12 ||| 1) ||| y7), T32))))))))
theorem b_X8_ifElse {g : q_G} {S0 : kp_S} {Bf : q_V → Option (Int32 × q_V)} {B : Nat → kp_S → (Int32 → kp_S → Prop) → Prop} {S : kp_S} {post : Int32 → kp_S → Prop} {y : Int32} {v : q_V} (R : q_Gd 1 g S0 S) (hB : ∀ (S : kp_S) (y : Int32) (v : q_V) (post : Int32 → kp_S → Prop), q_Gd 1 g S0 S → Bf (q_w g S) = some (y, v) → (∀ S, q_Gd 1 g S0 S → v = q_w g S → post y S) → B (g 0 8 0) S post) (h : fX8_ifElse Bf (q_w g S) = some (y, v)) (kk : ∀ S, q_Gd 1 g S0 S → v = q_w g S → post y S) : wX8_ifElse B (g 0 8 0) S post := by
  unfold wX8_ifElse; unfold fX8_ifElse at h
  refine ⟨_, q_p1600 R, ?_⟩
  obtain ⟨v1, h1, h⟩ := q_bvi h
  refine b_X9_advance R h1 (fun T2 R q => ?_)
  subst q
  refine ⟨_, q_p1602 R, ?_⟩
  obtain ⟨y5, v1, h1, h⟩ := q_bdi h
  refine b_X2_whole_t R h1 (fun T4 R q => ?_)
  subst q
  obtain ⟨y7, v1, h1, h⟩ := q_bdi h
  refine b_X8_troubleOf R h1 (fun T6 R q => ?_)
  subst q
  refine ⟨_, q_p1603 R, ?_⟩
  obtain ⟨y10, v1, h1, h⟩ := q_bdi h
  refine b_X0_add_ R h1 (fun T9 R q => ?_)
  subst q
  obtain ⟨y12, v1, h1, h⟩ := q_bdi h
  refine hB _ _ _ _ R h1 (fun T11 R q => ?_)
  subst q
  refine ⟨_, q_p1600 R, ?_⟩
  refine ⟨fun c => ?_, fun c => ?_⟩
  · replace h := q_ifp h c
    obtain ⟨v1, h1, h⟩ := q_bvi h
    refine b_X9_advance R h1 (fun T14 R q => ?_)
    subst q
    refine ⟨_, q_p1603 R, ?_⟩
    obtain ⟨y17, v1, h1, h⟩ := q_bdi h
    refine b_X0_add_ R h1 (fun T16 R q => ?_)
    subst q
    refine ⟨_, q_p1603 R, ?_⟩
    obtain ⟨y20, v1, h1, h⟩ := q_bdi h
    refine b_X0_size R h1 (fun T19 R q => ?_)
    subst q
    obtain ⟨v1, h1, h⟩ := q_bvi h
    refine b_X0_set R h1 (fun T21 R q => ?_)
    subst q
    obtain ⟨y23, v1, h1, h⟩ := q_bdi h
    refine hB _ _ _ _ R h1 (fun T22 R q => ?_)
    subst q
    intro y24 q
    replace h := q_ltw h q
    refine ⟨_, q_p1603 R, ?_⟩
    obtain ⟨y27, v1, h1, h⟩ := q_bdi h
    refine b_X0_size R h1 (fun T26 R q => ?_)
    subst q
    obtain ⟨v1, h1, h⟩ := q_bvi h
    refine b_X0_set R h1 (fun T28 R q => ?_)
    subst q
    exact q_fin h kk R
  · replace h := q_ifn h c
    refine ⟨_, q_p1603 R, ?_⟩
    obtain ⟨y31, v1, h1, h⟩ := q_bdi h
    refine b_X0_size R h1 (fun T30 R q => ?_)
    subst q
    obtain ⟨v1, h1, h⟩ := q_bvi h
    refine b_X0_set R h1 (fun T32 R q => ?_)
    subst q
    exact q_fin h kk R
def fX8_choose_b291 (B : q_V → Option (Int32 × q_V)) (xt0 : Int32) (xt1 : Int32) (Sn : q_V) : Option (Int32 × q_V) :=
  some ((xt1 ||| xt0), Sn)
theorem b_X8_choose_b291 {g : q_G} {S0 : kp_S} {Bf : q_V → Option (Int32 × q_V)} {B : Nat → kp_S → (Int32 → kp_S → Prop) → Prop} {xt0 : Int32} {xt1 : Int32} {Sn : kp_S} {post : Int32 → kp_S → Prop} {y : Int32} {v : q_V} (R : q_Gd 1 g S0 Sn) (hB : ∀ (S : kp_S) (y : Int32) (v : q_V) (post : Int32 → kp_S → Prop), q_Gd 1 g S0 S → Bf (q_w g S) = some (y, v) → (∀ S, q_Gd 1 g S0 S → v = q_w g S → post y S) → B (g 0 8 0) S post) (h : fX8_choose_b291 Bf xt0 xt1 (q_w g Sn) = some (y, v)) (kk : ∀ S, q_Gd 1 g S0 S → v = q_w g S → post y S) : wX8_choose_b291 B (g 0 8 0) xt0 xt1 Sn post := by
  unfold wX8_choose_b291; unfold fX8_choose_b291 at h
  exact q_fin h kk R
def fX8_choose_b247 (B : q_V → Option (Int32 × q_V)) (xn1 : Int32) (xn2 : Int32) (xn3 : Int32) (xn4 : Int32) (Sn : q_V) : Option (Int32 × q_V) :=
  q_bd (fX0_size Sn) (fun y2003 T2002 =>
  q_bv (fX0_setChain xn3 y2003 T2002) (fun T2004 =>
  q_bv (fX9_endNest T2004) (fun T2006 =>
  q_bv (fX9_expect 125 T2006) (fun T2008 =>
  if xn4 = 0 then
  fX8_choose_b291 B 1 ((xn2 ||| xn1)) T2008
  else
  fX8_choose_b291 B 0 ((xn2 ||| xn1)) T2008))))
theorem b_X8_choose_b247 {g : q_G} {S0 : kp_S} {Bf : q_V → Option (Int32 × q_V)} {B : Nat → kp_S → (Int32 → kp_S → Prop) → Prop} {xn1 : Int32} {xn2 : Int32} {xn3 : Int32} {xn4 : Int32} {Sn : kp_S} {post : Int32 → kp_S → Prop} {y : Int32} {v : q_V} (R : q_Gd 1 g S0 Sn) (hB : ∀ (S : kp_S) (y : Int32) (v : q_V) (post : Int32 → kp_S → Prop), q_Gd 1 g S0 S → Bf (q_w g S) = some (y, v) → (∀ S, q_Gd 1 g S0 S → v = q_w g S → post y S) → B (g 0 8 0) S post) (h : fX8_choose_b247 Bf xn1 xn2 xn3 xn4 (q_w g Sn) = some (y, v)) (kk : ∀ S, q_Gd 1 g S0 S → v = q_w g S → post y S) : wX8_choose_b247 B (g 0 8 0) xn1 xn2 xn3 xn4 Sn post := by
  unfold wX8_choose_b247; unfold fX8_choose_b247 at h
  refine ⟨_, q_p1603 R, ?_⟩
  obtain ⟨y2003, v1, h1, h⟩ := q_bdi h
  refine b_X0_size R h1 (fun T2002 R q => ?_)
  subst q
  obtain ⟨v1, h1, h⟩ := q_bvi h
  refine b_X0_setChain R h1 (fun T2004 R q => ?_)
  subst q
  refine ⟨_, q_p1600 R, ?_⟩
  obtain ⟨v1, h1, h⟩ := q_bvi h
  refine b_X9_endNest R h1 (fun T2006 R q => ?_)
  subst q
  refine ⟨_, q_p1600 R, ?_⟩
  obtain ⟨v1, h1, h⟩ := q_bvi h
  refine b_X9_expect R h1 (fun T2008 R q => ?_)
  subst q
  refine ⟨fun c => ?_, fun c => ?_⟩
  · replace h := q_ifp h c
    exact b_X8_choose_b291 R hB h kk
  · replace h := q_ifn h c
    exact b_X8_choose_b291 R hB h kk
def fX8_choose_b242 (B : q_V → Option (Int32 × q_V)) (xn1 : Int32) (xn3 : Int32) (xt0 : Int32) (xt1 : Int32) (Sn : q_V) : Option (Int32 × q_V) :=
  q_lt ((xt1 ||| xt0) : Int32) (fun y3001 =>
  fX8_choose_b247 B xn1 y3001 xn3 1 Sn)
theorem b_X8_choose_b242 {g : q_G} {S0 : kp_S} {Bf : q_V → Option (Int32 × q_V)} {B : Nat → kp_S → (Int32 → kp_S → Prop) → Prop} {xn1 : Int32} {xn3 : Int32} {xt0 : Int32} {xt1 : Int32} {Sn : kp_S} {post : Int32 → kp_S → Prop} {y : Int32} {v : q_V} (R : q_Gd 1 g S0 Sn) (hB : ∀ (S : kp_S) (y : Int32) (v : q_V) (post : Int32 → kp_S → Prop), q_Gd 1 g S0 S → Bf (q_w g S) = some (y, v) → (∀ S, q_Gd 1 g S0 S → v = q_w g S → post y S) → B (g 0 8 0) S post) (h : fX8_choose_b242 Bf xn1 xn3 xt0 xt1 (q_w g Sn) = some (y, v)) (kk : ∀ S, q_Gd 1 g S0 S → v = q_w g S → post y S) : wX8_choose_b242 B (g 0 8 0) xn1 xn3 xt0 xt1 Sn post := by
  unfold wX8_choose_b242; unfold fX8_choose_b242 at h
  intro y3001 q
  replace h := q_ltw h q
  exact b_X8_choose_b247 R hB h kk
def fX8_choose_b193 (B : q_V → Option (Int32 × q_V)) (xn1 : Int32) (xn2 : Int32) (xn3 : Int32) (xn4 : Int32) (Sn : q_V) : Option (Int32 × q_V) :=
  q_bd (fX0_add_ 26 1 Sn) (fun y4003 T4002 =>
  if (q_i T4002 1805) = 325 then
  q_bv (fX9_advance T4002) (fun T4005 =>
  q_bd (B T4005) (fun y4007 T4006 =>
  if xn4 = 0 then
  fX8_choose_b242 B xn1 xn3 y4007 xn2 T4006
  else
  fX8_choose_b242 B xn1 xn3 0 xn2 T4006))
  else
  fX8_choose_b247 B xn1 xn2 xn3 xn4 T4002)
theorem b_X8_choose_b193 {g : q_G} {S0 : kp_S} {Bf : q_V → Option (Int32 × q_V)} {B : Nat → kp_S → (Int32 → kp_S → Prop) → Prop} {xn1 : Int32} {xn2 : Int32} {xn3 : Int32} {xn4 : Int32} {Sn : kp_S} {post : Int32 → kp_S → Prop} {y : Int32} {v : q_V} (R : q_Gd 1 g S0 Sn) (hB : ∀ (S : kp_S) (y : Int32) (v : q_V) (post : Int32 → kp_S → Prop), q_Gd 1 g S0 S → Bf (q_w g S) = some (y, v) → (∀ S, q_Gd 1 g S0 S → v = q_w g S → post y S) → B (g 0 8 0) S post) (h : fX8_choose_b193 Bf xn1 xn2 xn3 xn4 (q_w g Sn) = some (y, v)) (kk : ∀ S, q_Gd 1 g S0 S → v = q_w g S → post y S) : wX8_choose_b193 B (g 0 8 0) xn1 xn2 xn3 xn4 Sn post := by
  unfold wX8_choose_b193; unfold fX8_choose_b193 at h
  refine ⟨_, q_p1603 R, ?_⟩
  obtain ⟨y4003, v1, h1, h⟩ := q_bdi h
  refine b_X0_add_ R h1 (fun T4002 R q => ?_)
  subst q
  refine ⟨_, q_p1600 R, ?_⟩
  refine ⟨fun c => ?_, fun c => ?_⟩
  · replace h := q_ifn h c
    exact b_X8_choose_b247 R hB h kk
  · replace h := q_ifp h c
    obtain ⟨v1, h1, h⟩ := q_bvi h
    refine b_X9_advance R h1 (fun T4005 R q => ?_)
    subst q
    obtain ⟨y4007, v1, h1, h⟩ := q_bdi h
    refine hB _ _ _ _ R h1 (fun T4006 R q => ?_)
    subst q
    refine ⟨fun c => ?_, fun c => ?_⟩
    · replace h := q_ifp h c
      exact b_X8_choose_b242 R hB h kk
    · replace h := q_ifn h c
      exact b_X8_choose_b242 R hB h kk
def fX8_choose_b178 (B : q_V → Option (Int32 × q_V)) (xn1 : Int32) (xn3 : Int32) (xn4 : Int32) (xn5 : Int32) (xn6 : Int32) (xt0 : Int32) (xt1 : Int32) (K37 : Int32 → Int32 → Int32 → Int32 → Int32 → q_V → Option (Int32 × q_V)) (Sn : q_V) : Option (Int32 × q_V) :=
  q_lt ((xt1 ||| xt0) : Int32) (fun y5001 =>
  q_lt ((xn4 ||| xn6) : Int32) (fun y5002 =>
  q_lt (xn5 + 1 : Int32) (fun y5003 =>
  K37 xn1 y5001 xn3 y5002 y5003 Sn)))
theorem b_X8_choose_b178 {g : q_G} {S0 : kp_S} {Bf : q_V → Option (Int32 × q_V)} {B : Nat → kp_S → (Int32 → kp_S → Prop) → Prop} {xn1 : Int32} {xn3 : Int32} {xn4 : Int32} {xn5 : Int32} {xn6 : Int32} {xt0 : Int32} {xt1 : Int32} {K37f : Int32 → Int32 → Int32 → Int32 → Int32 → q_V → Option (Int32 × q_V)} {K37 : Int32 → Int32 → Int32 → Int32 → Int32 → kp_S → Prop} {Sn : kp_S} {post : Int32 → kp_S → Prop} {y : Int32} {v : q_V} (R : q_Gd 1 g S0 Sn) (hB : ∀ (S : kp_S) (y : Int32) (v : q_V) (post : Int32 → kp_S → Prop), q_Gd 1 g S0 S → Bf (q_w g S) = some (y, v) → (∀ S, q_Gd 1 g S0 S → v = q_w g S → post y S) → B (g 0 8 0) S post) (hK37 : ∀ (x0 : Int32) (x1 : Int32) (x2 : Int32) (x3 : Int32) (x4 : Int32) (S : kp_S), q_Gd 1 g S0 S → K37f x0 x1 x2 x3 x4 (q_w g S) = some (y, v) → K37 x0 x1 x2 x3 x4 S) (h : fX8_choose_b178 Bf xn1 xn3 xn4 xn5 xn6 xt0 xt1 K37f (q_w g Sn) = some (y, v)) (kk : ∀ S, q_Gd 1 g S0 S → v = q_w g S → post y S) : wX8_choose_b178 B (g 0 8 0) xn1 xn3 xn4 xn5 xn6 xt0 xt1 K37 Sn post := by
  unfold wX8_choose_b178; unfold fX8_choose_b178 at h
  intro y5001 q
  replace h := q_ltw h q
  intro y5002 q
  replace h := q_ltw h q
  intro y5003 q
  replace h := q_ltw h q
  exact hK37 _ _ _ _ _ _ R h
def fX8_choose_b123 (B : q_V → Option (Int32 × q_V)) (xn1 : Int32) (xn2 : Int32) (xn3 : Int32) (xn4 : Int32) (xn5 : Int32) (xn6 : Int32) (xn7 : Int32) (xt0 : Int32) (K37 : Int32 → Int32 → Int32 → Int32 → Int32 → q_V → Option (Int32 × q_V)) (Sn : q_V) : Option (Int32 × q_V) :=
  q_bd (B Sn) (fun y6002 T6001 =>
  q_bd (fX0_add_ 22 xn3 T6001) (fun y6005 T6004 =>
  q_lt ((y6005 + 1) : Int32) (fun y6006 =>
  q_bd (fX0_size T6004) (fun y6009 T6008 =>
  q_bv (fX0_set xt0 y6009 T6008) (fun T6010 =>
  if xn4 = 0 then
  q_bd (fX8_troubleOf xn7 T6010) (fun y6012 T6011 =>
  fX8_choose_b178 B xn1 y6006 xn4 xn5 xn6 ((y6002 ||| y6012)) xn2 K37 T6011)
  else
  fX8_choose_b178 B xn1 y6006 xn4 xn5 xn6 0 xn2 K37 T6010)))))
theorem b_X8_choose_b123 {g : q_G} {S0 : kp_S} {Bf : q_V → Option (Int32 × q_V)} {B : Nat → kp_S → (Int32 → kp_S → Prop) → Prop} {xn1 : Int32} {xn2 : Int32} {xn3 : Int32} {xn4 : Int32} {xn5 : Int32} {xn6 : Int32} {xn7 : Int32} {xt0 : Int32} {K37f : Int32 → Int32 → Int32 → Int32 → Int32 → q_V → Option (Int32 × q_V)} {K37 : Int32 → Int32 → Int32 → Int32 → Int32 → kp_S → Prop} {Sn : kp_S} {post : Int32 → kp_S → Prop} {y : Int32} {v : q_V} (R : q_Gd 1 g S0 Sn) (hB : ∀ (S : kp_S) (y : Int32) (v : q_V) (post : Int32 → kp_S → Prop), q_Gd 1 g S0 S → Bf (q_w g S) = some (y, v) → (∀ S, q_Gd 1 g S0 S → v = q_w g S → post y S) → B (g 0 8 0) S post) (hK37 : ∀ (x0 : Int32) (x1 : Int32) (x2 : Int32) (x3 : Int32) (x4 : Int32) (S : kp_S), q_Gd 1 g S0 S → K37f x0 x1 x2 x3 x4 (q_w g S) = some (y, v) → K37 x0 x1 x2 x3 x4 S) (h : fX8_choose_b123 Bf xn1 xn2 xn3 xn4 xn5 xn6 xn7 xt0 K37f (q_w g Sn) = some (y, v)) (kk : ∀ S, q_Gd 1 g S0 S → v = q_w g S → post y S) : wX8_choose_b123 B (g 0 8 0) xn1 xn2 xn3 xn4 xn5 xn6 xn7 xt0 K37 Sn post := by
  unfold wX8_choose_b123; unfold fX8_choose_b123 at h
  obtain ⟨y6002, v1, h1, h⟩ := q_bdi h
  refine hB _ _ _ _ R h1 (fun T6001 R q => ?_)
  subst q
  refine ⟨_, q_p1603 R, ?_⟩
  obtain ⟨y6005, v1, h1, h⟩ := q_bdi h
  refine b_X0_add_ R h1 (fun T6004 R q => ?_)
  subst q
  intro y6006 q
  replace h := q_ltw h q
  refine ⟨_, q_p1603 R, ?_⟩
  obtain ⟨y6009, v1, h1, h⟩ := q_bdi h
  refine b_X0_size R h1 (fun T6008 R q => ?_)
  subst q
  obtain ⟨v1, h1, h⟩ := q_bvi h
  refine b_X0_set R h1 (fun T6010 R q => ?_)
  subst q
  refine ⟨fun c => ?_, fun c => ?_⟩
  · replace h := q_ifp h c
    obtain ⟨y6012, v1, h1, h⟩ := q_bdi h
    refine b_X8_troubleOf R h1 (fun T6011 R q => ?_)
    subst q
    exact b_X8_choose_b178 R hB hK37 h kk
  · replace h := q_ifn h c
    exact b_X8_choose_b178 R hB hK37 h kk
def fX8_choose_b103 (B : q_V → Option (Int32 × q_V)) (xn1 : Int32) (xn2 : Int32) (xn3 : Int32) (xn4 : Int32) (xn5 : Int32) (xn6 : Int32) (xt0 : Int32) (K37 : Int32 → Int32 → Int32 → Int32 → Int32 → q_V → Option (Int32 × q_V)) (Sn : q_V) : Option (Int32 × q_V) :=
  if xn6 = 0 then
  q_bd (fX0_size Sn) (fun y7003 T7002 =>
  fX8_choose_b123 B xn1 xn2 xn3 xn4 xn5 xn6 xt0 ((y7003 - 1)) K37 T7002)
  else
  fX8_choose_b123 B xn1 xn2 xn3 xn4 xn5 xn6 xt0 ((- 1)) K37 Sn
theorem b_X8_choose_b103 {g : q_G} {S0 : kp_S} {Bf : q_V → Option (Int32 × q_V)} {B : Nat → kp_S → (Int32 → kp_S → Prop) → Prop} {xn1 : Int32} {xn2 : Int32} {xn3 : Int32} {xn4 : Int32} {xn5 : Int32} {xn6 : Int32} {xt0 : Int32} {K37f : Int32 → Int32 → Int32 → Int32 → Int32 → q_V → Option (Int32 × q_V)} {K37 : Int32 → Int32 → Int32 → Int32 → Int32 → kp_S → Prop} {Sn : kp_S} {post : Int32 → kp_S → Prop} {y : Int32} {v : q_V} (R : q_Gd 1 g S0 Sn) (hB : ∀ (S : kp_S) (y : Int32) (v : q_V) (post : Int32 → kp_S → Prop), q_Gd 1 g S0 S → Bf (q_w g S) = some (y, v) → (∀ S, q_Gd 1 g S0 S → v = q_w g S → post y S) → B (g 0 8 0) S post) (hK37 : ∀ (x0 : Int32) (x1 : Int32) (x2 : Int32) (x3 : Int32) (x4 : Int32) (S : kp_S), q_Gd 1 g S0 S → K37f x0 x1 x2 x3 x4 (q_w g S) = some (y, v) → K37 x0 x1 x2 x3 x4 S) (h : fX8_choose_b103 Bf xn1 xn2 xn3 xn4 xn5 xn6 xt0 K37f (q_w g Sn) = some (y, v)) (kk : ∀ S, q_Gd 1 g S0 S → v = q_w g S → post y S) : wX8_choose_b103 B (g 0 8 0) xn1 xn2 xn3 xn4 xn5 xn6 xt0 K37 Sn post := by
  unfold wX8_choose_b103; unfold fX8_choose_b103 at h
  refine ⟨fun c => ?_, fun c => ?_⟩
  · replace h := q_ifp h c
    refine ⟨_, q_p1603 R, ?_⟩
    obtain ⟨y7003, v1, h1, h⟩ := q_bdi h
    refine b_X0_size R h1 (fun T7002 R q => ?_)
    subst q
    exact b_X8_choose_b123 R hB hK37 h kk
  · replace h := q_ifn h c
    exact b_X8_choose_b123 R hB hK37 h kk
def fX8_choose_b83 (B : q_V → Option (Int32 × q_V)) (xn1 : Int32) (xn2 : Int32) (xn3 : Int32) (xn4 : Int32) (xn5 : Int32) (xt0 : Int32) (K37 : Int32 → Int32 → Int32 → Int32 → Int32 → q_V → Option (Int32 × q_V)) (Sn : q_V) : Option (Int32 × q_V) :=
  if xt0 = 0 then
  q_bd (fX8_list 28 Sn) (fun y8002 T8001 =>
  fX8_choose_b103 B xn1 xn2 xn3 xn4 xn5 xt0 y8002 K37 T8001)
  else
  q_bd (fX8_dropForAny Sn) (fun y8004 T8003 =>
  fX8_choose_b103 B xn1 xn2 xn3 xn4 xn5 xt0 y8004 K37 T8003)
theorem b_X8_choose_b83 {g : q_G} {S0 : kp_S} {Bf : q_V → Option (Int32 × q_V)} {B : Nat → kp_S → (Int32 → kp_S → Prop) → Prop} {xn1 : Int32} {xn2 : Int32} {xn3 : Int32} {xn4 : Int32} {xn5 : Int32} {xt0 : Int32} {K37f : Int32 → Int32 → Int32 → Int32 → Int32 → q_V → Option (Int32 × q_V)} {K37 : Int32 → Int32 → Int32 → Int32 → Int32 → kp_S → Prop} {Sn : kp_S} {post : Int32 → kp_S → Prop} {y : Int32} {v : q_V} (R : q_Gd 1 g S0 Sn) (hB : ∀ (S : kp_S) (y : Int32) (v : q_V) (post : Int32 → kp_S → Prop), q_Gd 1 g S0 S → Bf (q_w g S) = some (y, v) → (∀ S, q_Gd 1 g S0 S → v = q_w g S → post y S) → B (g 0 8 0) S post) (hK37 : ∀ (x0 : Int32) (x1 : Int32) (x2 : Int32) (x3 : Int32) (x4 : Int32) (S : kp_S), q_Gd 1 g S0 S → K37f x0 x1 x2 x3 x4 (q_w g S) = some (y, v) → K37 x0 x1 x2 x3 x4 S) (h : fX8_choose_b83 Bf xn1 xn2 xn3 xn4 xn5 xt0 K37f (q_w g Sn) = some (y, v)) (kk : ∀ S, q_Gd 1 g S0 S → v = q_w g S → post y S) : wX8_choose_b83 B (g 0 8 0) xn1 xn2 xn3 xn4 xn5 xt0 K37 Sn post := by
  unfold wX8_choose_b83; unfold fX8_choose_b83 at h
  refine ⟨fun c => ?_, fun c => ?_⟩
  · replace h := q_ifp h c
    obtain ⟨y8002, v1, h1, h⟩ := q_bdi h
    refine b_X8_list R h1 (fun T8001 R q => ?_)
    subst q
    exact b_X8_choose_b103 R hB hK37 h kk
  · replace h := q_ifn h c
    obtain ⟨y8004, v1, h1, h⟩ := q_bdi h
    refine b_X8_dropForAny R h1 (fun T8003 R q => ?_)
    subst q
    exact b_X8_choose_b103 R hB hK37 h kk
def fX8_choose_L37 (B : q_V → Option (Int32 × q_V)) : Nat → Int32 → Int32 → Int32 → Int32 → Int32 → q_V → Option (Int32 × q_V)
  | 0, _, _, _, _, _, _ => none
  | n + 1, xn1, xn2, xn3, xn4, xn5, Sn =>
  if 3000 ≤ xn5 then
  fX8_choose_b193 B xn1 xn2 xn3 xn4 Sn
  else
  if (q_i Sn 1805) = 324 then
  q_bv (fX9_advance Sn) (fun T9002 =>
  if (q_i T9002 1805) = 316 then
  fX8_choose_b83 B xn1 xn2 xn3 xn4 xn5 1 (fun xn1_ xn2_ xn3_ xn4_ xn5_ S_ => fX8_choose_L37 B n xn1_ xn2_ xn3_ xn4_ xn5_ S_) T9002
  else
  fX8_choose_b83 B xn1 xn2 xn3 xn4 xn5 0 (fun xn1_ xn2_ xn3_ xn4_ xn5_ S_ => fX8_choose_L37 B n xn1_ xn2_ xn3_ xn4_ xn5_ S_) T9002)
  else
  fX8_choose_b193 B xn1 xn2 xn3 xn4 Sn
theorem b_X8_choose_L37 {g : q_G} {S0 : kp_S} {Bf : q_V → Option (Int32 × q_V)} {B : Nat → kp_S → (Int32 → kp_S → Prop) → Prop} {post : Int32 → kp_S → Prop} {y : Int32} {v : q_V} (hB : ∀ (S : kp_S) (y : Int32) (v : q_V) (post : Int32 → kp_S → Prop), q_Gd 1 g S0 S → Bf (q_w g S) = some (y, v) → (∀ S, q_Gd 1 g S0 S → v = q_w g S → post y S) → B (g 0 8 0) S post) (kk : ∀ S, q_Gd 1 g S0 S → v = q_w g S → post y S) : ∀ (n : Nat) (xn1 : Int32) (xn2 : Int32) (xn3 : Int32) (xn4 : Int32) (xn5 : Int32) (Sn : kp_S), q_Gd 1 g S0 Sn → fX8_choose_L37 Bf n xn1 xn2 xn3 xn4 xn5 (q_w g Sn) = some (y, v) → wX8_choose_L37 B (g 0 8 0) post n xn1 xn2 xn3 xn4 xn5 Sn := by
  intro n
  induction n with
  | zero => intro xn1 xn2 xn3 xn4 xn5 Sn _ h; cases h
  | succ n ih =>
    intro xn1 xn2 xn3 xn4 xn5 Sn R h
    unfold wX8_choose_L37; unfold fX8_choose_L37 at h
    refine ⟨fun c => ?_, fun c => ?_⟩
    · replace h := q_ifp h c
      exact b_X8_choose_b193 R hB h kk
    · replace h := q_ifn h c
      refine ⟨_, q_p1600 R, ?_⟩
      refine ⟨fun c => ?_, fun c => ?_⟩
      · replace h := q_ifn h c
        exact b_X8_choose_b193 R hB h kk
      · replace h := q_ifp h c
        obtain ⟨v1, h1, h⟩ := q_bvi h
        refine b_X9_advance R h1 (fun T9002 R q => ?_)
        subst q
        refine ⟨_, q_p1600 R, ?_⟩
        refine ⟨fun c => ?_, fun c => ?_⟩
        · replace h := q_ifn h c
          exact b_X8_choose_b83 R hB (fun xn1_ xn2_ xn3_ xn4_ xn5_ S_ R h => ih xn1_ xn2_ xn3_ xn4_ xn5_ S_ R h) h kk
        · replace h := q_ifp h c
          exact b_X8_choose_b83 R hB (fun xn1_ xn2_ xn3_ xn4_ xn5_ S_ R h => ih xn1_ xn2_ xn3_ xn4_ xn5_ S_ R h) h kk
def fX8_choose (B : q_V → Option (Int32 × q_V)) (S : q_V) : Option (Int32 × q_V) :=
  q_bv (fX9_advance S) (fun T2 =>
  q_bd (fX2_whole_t T2) (fun y5 T4 =>
  q_bd (fX8_troubleOf y5 T4) (fun y7 T6 =>
  q_bv (fX9_expectNest 123 T6) (fun T9 =>
  fX8_choose_L37 B q_N y7 0 0 0 0 T9))))
theorem b_X8_choose {g : q_G} {S0 : kp_S} {Bf : q_V → Option (Int32 × q_V)} {B : Nat → kp_S → (Int32 → kp_S → Prop) → Prop} {S : kp_S} {post : Int32 → kp_S → Prop} {y : Int32} {v : q_V} (R : q_Gd 1 g S0 S) (hB : ∀ (S : kp_S) (y : Int32) (v : q_V) (post : Int32 → kp_S → Prop), q_Gd 1 g S0 S → Bf (q_w g S) = some (y, v) → (∀ S, q_Gd 1 g S0 S → v = q_w g S → post y S) → B (g 0 8 0) S post) (h : fX8_choose Bf (q_w g S) = some (y, v)) (kk : ∀ S, q_Gd 1 g S0 S → v = q_w g S → post y S) : wX8_choose B (g 0 8 0) S post := by
  unfold wX8_choose; unfold fX8_choose at h
  refine ⟨_, q_p1600 R, ?_⟩
  obtain ⟨v1, h1, h⟩ := q_bvi h
  refine b_X9_advance R h1 (fun T2 R q => ?_)
  subst q
  refine ⟨_, q_p1602 R, ?_⟩
  obtain ⟨y5, v1, h1, h⟩ := q_bdi h
  refine b_X2_whole_t R h1 (fun T4 R q => ?_)
  subst q
  obtain ⟨y7, v1, h1, h⟩ := q_bdi h
  refine b_X8_troubleOf R h1 (fun T6 R q => ?_)
  subst q
  refine ⟨_, q_p1600 R, ?_⟩
  obtain ⟨v1, h1, h⟩ := q_bvi h
  refine b_X9_expectNest R h1 (fun T9 R q => ?_)
  subst q
  exact ⟨q_N, b_X8_choose_L37 hB kk q_N _ _ _ _ _ _ R h⟩
def fX8_hold (B : q_V → Option (Int32 × q_V)) (S : q_V) : Option (Int32 × q_V) :=
  q_bv (fX9_advance S) (fun T2 =>
  q_bd (fX2_whole_t T2) (fun y5 T4 =>
  q_bd (fX0_add 45 T4) (fun y8 T7 =>
  q_bd (B T7) (fun y10 T9 =>
  q_bd (fX0_add 54 T9) (fun y13 T12 =>
  some ((y10 ||| 4), T12))))))
theorem b_X8_hold {g : q_G} {S0 : kp_S} {Bf : q_V → Option (Int32 × q_V)} {B : Nat → kp_S → (Int32 → kp_S → Prop) → Prop} {S : kp_S} {post : Int32 → kp_S → Prop} {y : Int32} {v : q_V} (R : q_Gd 1 g S0 S) (hB : ∀ (S : kp_S) (y : Int32) (v : q_V) (post : Int32 → kp_S → Prop), q_Gd 1 g S0 S → Bf (q_w g S) = some (y, v) → (∀ S, q_Gd 1 g S0 S → v = q_w g S → post y S) → B (g 0 8 0) S post) (h : fX8_hold Bf (q_w g S) = some (y, v)) (kk : ∀ S, q_Gd 1 g S0 S → v = q_w g S → post y S) : wX8_hold B (g 0 8 0) S post := by
  unfold wX8_hold; unfold fX8_hold at h
  refine ⟨_, q_p1600 R, ?_⟩
  obtain ⟨v1, h1, h⟩ := q_bvi h
  refine b_X9_advance R h1 (fun T2 R q => ?_)
  subst q
  refine ⟨_, q_p1602 R, ?_⟩
  obtain ⟨y5, v1, h1, h⟩ := q_bdi h
  refine b_X2_whole_t R h1 (fun T4 R q => ?_)
  subst q
  refine ⟨_, q_p1603 R, ?_⟩
  obtain ⟨y8, v1, h1, h⟩ := q_bdi h
  refine b_X0_add R h1 (fun T7 R q => ?_)
  subst q
  obtain ⟨y10, v1, h1, h⟩ := q_bdi h
  refine hB _ _ _ _ R h1 (fun T9 R q => ?_)
  subst q
  refine ⟨_, q_p1603 R, ?_⟩
  obtain ⟨y13, v1, h1, h⟩ := q_bdi h
  refine b_X0_add R h1 (fun T12 R q => ?_)
  subst q
  exact q_fin h kk R
def fX8_ensure_b96 (B : q_V → Option (Int32 × q_V)) (x1 : Int32) (xt0 : Int32) (Sn : q_V) : Option (Int32 × q_V) :=
  some (xt0, Sn)
theorem b_X8_ensure_b96 {g : q_G} {S0 : kp_S} {Bf : q_V → Option (Int32 × q_V)} {B : Nat → kp_S → (Int32 → kp_S → Prop) → Prop} {x1 : Int32} {xt0 : Int32} {Sn : kp_S} {post : Int32 → kp_S → Prop} {y : Int32} {v : q_V} (R : q_Gd 1 g S0 Sn) (hB : ∀ (S : kp_S) (y : Int32) (v : q_V) (post : Int32 → kp_S → Prop), q_Gd 1 g S0 S → Bf (q_w g S) = some (y, v) → (∀ S, q_Gd 1 g S0 S → v = q_w g S → post y S) → B (g 0 8 0) S post) (h : fX8_ensure_b96 Bf x1 xt0 (q_w g Sn) = some (y, v)) (kk : ∀ S, q_Gd 1 g S0 S → v = q_w g S → post y S) : wX8_ensure_b96 B (g 0 8 0) x1 xt0 Sn post := by
  unfold wX8_ensure_b96; unfold fX8_ensure_b96 at h
  exact q_fin h kk R
def fX8_ensure (B : q_V → Option (Int32 × q_V)) (x1 : Int32) (S : q_V) : Option (Int32 × q_V) :=
  q_bv (fX9_advance S) (fun T2 =>
  q_bd (fX0_addPart 50 x1 T2) (fun y5 T4 =>
  q_bd (fX2_whole_t T4) (fun y8 T7 =>
  q_bd (fX0_add 51 T7) (fun y11 T10 =>
  q_bd (fX0_size T10) (fun y14 T13 =>
  q_bv (fX0_set ((y5 + 2)) y14 T13) (fun T15 =>
  q_bd (B T15) (fun y17 T16 =>
  q_bd (fX0_add 54 T16) (fun y20 T19 =>
  q_bd (fX0_size T19) (fun y23 T22 =>
  q_bv (fX0_set ((y5 + 3)) y23 T22) (fun T24 =>
  if y17 = 0 then
  fX8_ensure_b96 B x1 0 T24
  else
  fX8_ensure_b96 B x1 ((y17 ||| 4)) T24))))))))))
theorem b_X8_ensure {g : q_G} {S0 : kp_S} {Bf : q_V → Option (Int32 × q_V)} {B : Nat → kp_S → (Int32 → kp_S → Prop) → Prop} {x1 : Int32} {S : kp_S} {post : Int32 → kp_S → Prop} {y : Int32} {v : q_V} (R : q_Gd 1 g S0 S) (hB : ∀ (S : kp_S) (y : Int32) (v : q_V) (post : Int32 → kp_S → Prop), q_Gd 1 g S0 S → Bf (q_w g S) = some (y, v) → (∀ S, q_Gd 1 g S0 S → v = q_w g S → post y S) → B (g 0 8 0) S post) (h : fX8_ensure Bf x1 (q_w g S) = some (y, v)) (kk : ∀ S, q_Gd 1 g S0 S → v = q_w g S → post y S) : wX8_ensure B (g 0 8 0) x1 S post := by
  unfold wX8_ensure; unfold fX8_ensure at h
  refine ⟨_, q_p1600 R, ?_⟩
  obtain ⟨v1, h1, h⟩ := q_bvi h
  refine b_X9_advance R h1 (fun T2 R q => ?_)
  subst q
  refine ⟨_, q_p1603 R, ?_⟩
  obtain ⟨y5, v1, h1, h⟩ := q_bdi h
  refine b_X0_addPart R h1 (fun T4 R q => ?_)
  subst q
  refine ⟨_, q_p1602 R, ?_⟩
  obtain ⟨y8, v1, h1, h⟩ := q_bdi h
  refine b_X2_whole_t R h1 (fun T7 R q => ?_)
  subst q
  refine ⟨_, q_p1603 R, ?_⟩
  obtain ⟨y11, v1, h1, h⟩ := q_bdi h
  refine b_X0_add R h1 (fun T10 R q => ?_)
  subst q
  refine ⟨_, q_p1603 R, ?_⟩
  obtain ⟨y14, v1, h1, h⟩ := q_bdi h
  refine b_X0_size R h1 (fun T13 R q => ?_)
  subst q
  obtain ⟨v1, h1, h⟩ := q_bvi h
  refine b_X0_set R h1 (fun T15 R q => ?_)
  subst q
  obtain ⟨y17, v1, h1, h⟩ := q_bdi h
  refine hB _ _ _ _ R h1 (fun T16 R q => ?_)
  subst q
  refine ⟨_, q_p1603 R, ?_⟩
  obtain ⟨y20, v1, h1, h⟩ := q_bdi h
  refine b_X0_add R h1 (fun T19 R q => ?_)
  subst q
  refine ⟨_, q_p1603 R, ?_⟩
  obtain ⟨y23, v1, h1, h⟩ := q_bdi h
  refine b_X0_size R h1 (fun T22 R q => ?_)
  subst q
  obtain ⟨v1, h1, h⟩ := q_bvi h
  refine b_X0_set R h1 (fun T24 R q => ?_)
  subst q
  refine ⟨fun c => ?_, fun c => ?_⟩
  · replace h := q_ifn h c
    exact b_X8_ensure_b96 R hB h kk
  · replace h := q_ifp h c
    exact b_X8_ensure_b96 R hB h kk
def fX8_mends_b250 (B : q_V → Option (Int32 × q_V)) (x1 : Int32) (x2 : Int32) (xt0 : Int32) (xt1 : Int32) (Sn : q_V) : Option (Int32 × q_V) :=
  some ((xt1 ||| xt0), Sn)
theorem b_X8_mends_b250 {g : q_G} {S0 : kp_S} {Bf : q_V → Option (Int32 × q_V)} {B : Nat → kp_S → (Int32 → kp_S → Prop) → Prop} {x1 : Int32} {x2 : Int32} {xt0 : Int32} {xt1 : Int32} {Sn : kp_S} {post : Int32 → kp_S → Prop} {y : Int32} {v : q_V} (R : q_Gd 1 g S0 Sn) (hB : ∀ (S : kp_S) (y : Int32) (v : q_V) (post : Int32 → kp_S → Prop), q_Gd 1 g S0 S → Bf (q_w g S) = some (y, v) → (∀ S, q_Gd 1 g S0 S → v = q_w g S → post y S) → B (g 0 8 0) S post) (h : fX8_mends_b250 Bf x1 x2 xt0 xt1 (q_w g Sn) = some (y, v)) (kk : ∀ S, q_Gd 1 g S0 S → v = q_w g S → post y S) : wX8_mends_b250 B (g 0 8 0) x1 x2 xt0 xt1 Sn post := by
  unfold wX8_mends_b250; unfold fX8_mends_b250 at h
  exact q_fin h kk R
def fX8_mends_b213 (B : q_V → Option (Int32 × q_V)) (x1 : Int32) (x2 : Int32) (xn3 : Int32) (xn4 : Int32) (xn5 : Int32) (Sn : q_V) : Option (Int32 × q_V) :=
  q_bd (fX0_add 49 Sn) (fun y2003 T2002 =>
  if (x2 &&& 4) = 0 then
  some (x2, T2002)
  else
  if xn5 = 0 then
  fX8_mends_b250 B x1 x2 4 ((((x2 &&& (- 5)) ||| xn4) ||| xn3)) T2002
  else
  fX8_mends_b250 B x1 x2 0 ((((x2 &&& (- 5)) ||| xn4) ||| xn3)) T2002)
theorem b_X8_mends_b213 {g : q_G} {S0 : kp_S} {Bf : q_V → Option (Int32 × q_V)} {B : Nat → kp_S → (Int32 → kp_S → Prop) → Prop} {x1 : Int32} {x2 : Int32} {xn3 : Int32} {xn4 : Int32} {xn5 : Int32} {Sn : kp_S} {post : Int32 → kp_S → Prop} {y : Int32} {v : q_V} (R : q_Gd 1 g S0 Sn) (hB : ∀ (S : kp_S) (y : Int32) (v : q_V) (post : Int32 → kp_S → Prop), q_Gd 1 g S0 S → Bf (q_w g S) = some (y, v) → (∀ S, q_Gd 1 g S0 S → v = q_w g S → post y S) → B (g 0 8 0) S post) (h : fX8_mends_b213 Bf x1 x2 xn3 xn4 xn5 (q_w g Sn) = some (y, v)) (kk : ∀ S, q_Gd 1 g S0 S → v = q_w g S → post y S) : wX8_mends_b213 B (g 0 8 0) x1 x2 xn3 xn4 xn5 Sn post := by
  unfold wX8_mends_b213; unfold fX8_mends_b213 at h
  refine ⟨_, q_p1603 R, ?_⟩
  obtain ⟨y2003, v1, h1, h⟩ := q_bdi h
  refine b_X0_add R h1 (fun T2002 R q => ?_)
  subst q
  refine ⟨fun c => ?_, fun c => ?_⟩
  · replace h := q_ifn h c
    refine ⟨fun c => ?_, fun c => ?_⟩
    · replace h := q_ifp h c
      exact b_X8_mends_b250 R hB h kk
    · replace h := q_ifn h c
      exact b_X8_mends_b250 R hB h kk
  · replace h := q_ifp h c
    exact q_fin h kk R
def fX8_mends_b198 (B : q_V → Option (Int32 × q_V)) (x1 : Int32) (x2 : Int32) (xn4 : Int32) (xn5 : Int32) (xn6 : Int32) (xn7 : Int32) (xt0 : Int32) (xt1 : Int32) (K28 : Int32 → Int32 → Int32 → Int32 → q_V → Option (Int32 × q_V)) (Sn : q_V) : Option (Int32 × q_V) :=
  q_lt ((xt1 ||| xt0) : Int32) (fun y3001 =>
  q_lt ((xn5 ||| xn7) : Int32) (fun y3002 =>
  q_lt (xn6 + 1 : Int32) (fun y3003 =>
  K28 y3001 xn4 y3002 y3003 Sn)))
theorem b_X8_mends_b198 {g : q_G} {S0 : kp_S} {Bf : q_V → Option (Int32 × q_V)} {B : Nat → kp_S → (Int32 → kp_S → Prop) → Prop} {x1 : Int32} {x2 : Int32} {xn4 : Int32} {xn5 : Int32} {xn6 : Int32} {xn7 : Int32} {xt0 : Int32} {xt1 : Int32} {K28f : Int32 → Int32 → Int32 → Int32 → q_V → Option (Int32 × q_V)} {K28 : Int32 → Int32 → Int32 → Int32 → kp_S → Prop} {Sn : kp_S} {post : Int32 → kp_S → Prop} {y : Int32} {v : q_V} (R : q_Gd 1 g S0 Sn) (hB : ∀ (S : kp_S) (y : Int32) (v : q_V) (post : Int32 → kp_S → Prop), q_Gd 1 g S0 S → Bf (q_w g S) = some (y, v) → (∀ S, q_Gd 1 g S0 S → v = q_w g S → post y S) → B (g 0 8 0) S post) (hK28 : ∀ (x0 : Int32) (x1 : Int32) (x2 : Int32) (x3 : Int32) (S : kp_S), q_Gd 1 g S0 S → K28f x0 x1 x2 x3 (q_w g S) = some (y, v) → K28 x0 x1 x2 x3 S) (h : fX8_mends_b198 Bf x1 x2 xn4 xn5 xn6 xn7 xt0 xt1 K28f (q_w g Sn) = some (y, v)) (kk : ∀ S, q_Gd 1 g S0 S → v = q_w g S → post y S) : wX8_mends_b198 B (g 0 8 0) x1 x2 xn4 xn5 xn6 xn7 xt0 xt1 K28 Sn post := by
  unfold wX8_mends_b198; unfold fX8_mends_b198 at h
  intro y3001 q
  replace h := q_ltw h q
  intro y3002 q
  replace h := q_ltw h q
  intro y3003 q
  replace h := q_ltw h q
  exact hK28 _ _ _ _ _ R h
def fX8_mends_b180 (B : q_V → Option (Int32 × q_V)) (x1 : Int32) (x2 : Int32) (xn3 : Int32) (xn5 : Int32) (xn6 : Int32) (xn7 : Int32) (xn8 : Int32) (xt0 : Int32) (xt1 : Int32) (K28 : Int32 → Int32 → Int32 → Int32 → q_V → Option (Int32 × q_V)) (Sn : q_V) : Option (Int32 × q_V) :=
  q_lt ((xt1 ||| xt0) : Int32) (fun y4001 =>
  if xn5 = 0 then
  q_bd (fX8_troubleOf xn8 Sn) (fun y4003 T4002 =>
  fX8_mends_b198 B x1 x2 y4001 xn5 xn6 xn7 y4003 xn3 K28 T4002)
  else
  fX8_mends_b198 B x1 x2 y4001 xn5 xn6 xn7 0 xn3 K28 Sn)
theorem b_X8_mends_b180 {g : q_G} {S0 : kp_S} {Bf : q_V → Option (Int32 × q_V)} {B : Nat → kp_S → (Int32 → kp_S → Prop) → Prop} {x1 : Int32} {x2 : Int32} {xn3 : Int32} {xn5 : Int32} {xn6 : Int32} {xn7 : Int32} {xn8 : Int32} {xt0 : Int32} {xt1 : Int32} {K28f : Int32 → Int32 → Int32 → Int32 → q_V → Option (Int32 × q_V)} {K28 : Int32 → Int32 → Int32 → Int32 → kp_S → Prop} {Sn : kp_S} {post : Int32 → kp_S → Prop} {y : Int32} {v : q_V} (R : q_Gd 1 g S0 Sn) (hB : ∀ (S : kp_S) (y : Int32) (v : q_V) (post : Int32 → kp_S → Prop), q_Gd 1 g S0 S → Bf (q_w g S) = some (y, v) → (∀ S, q_Gd 1 g S0 S → v = q_w g S → post y S) → B (g 0 8 0) S post) (hK28 : ∀ (x0 : Int32) (x1 : Int32) (x2 : Int32) (x3 : Int32) (S : kp_S), q_Gd 1 g S0 S → K28f x0 x1 x2 x3 (q_w g S) = some (y, v) → K28 x0 x1 x2 x3 S) (h : fX8_mends_b180 Bf x1 x2 xn3 xn5 xn6 xn7 xn8 xt0 xt1 K28f (q_w g Sn) = some (y, v)) (kk : ∀ S, q_Gd 1 g S0 S → v = q_w g S → post y S) : wX8_mends_b180 B (g 0 8 0) x1 x2 xn3 xn5 xn6 xn7 xn8 xt0 xt1 K28 Sn post := by
  unfold wX8_mends_b180; unfold fX8_mends_b180 at h
  intro y4001 q
  replace h := q_ltw h q
  refine ⟨fun c => ?_, fun c => ?_⟩
  · replace h := q_ifp h c
    obtain ⟨y4003, v1, h1, h⟩ := q_bdi h
    refine b_X8_troubleOf R h1 (fun T4002 R q => ?_)
    subst q
    exact b_X8_mends_b198 R hB hK28 h kk
  · replace h := q_ifn h c
    exact b_X8_mends_b198 R hB hK28 h kk
def fX8_mends_b123 (B : q_V → Option (Int32 × q_V)) (x1 : Int32) (x2 : Int32) (xn3 : Int32) (xn4 : Int32) (xn5 : Int32) (xn6 : Int32) (xn7 : Int32) (xn8 : Int32) (xt0 : Int32) (K28 : Int32 → Int32 → Int32 → Int32 → q_V → Option (Int32 × q_V)) (Sn : q_V) : Option (Int32 × q_V) :=
  q_bd (fX0_add 48 Sn) (fun y5003 T5002 =>
  q_bd (B T5002) (fun y5005 T5004 =>
  q_bd (fX0_add 54 T5004) (fun y5008 T5007 =>
  q_bd (fX0_size T5007) (fun y5011 T5010 =>
  q_bv (fX0_set xt0 y5011 T5010) (fun T5012 =>
  if xn5 = 0 then
  fX8_mends_b180 B x1 x2 xn3 xn5 xn6 xn7 xn8 y5005 xn4 K28 T5012
  else
  fX8_mends_b180 B x1 x2 xn3 xn5 xn6 xn7 xn8 0 xn4 K28 T5012)))))
theorem b_X8_mends_b123 {g : q_G} {S0 : kp_S} {Bf : q_V → Option (Int32 × q_V)} {B : Nat → kp_S → (Int32 → kp_S → Prop) → Prop} {x1 : Int32} {x2 : Int32} {xn3 : Int32} {xn4 : Int32} {xn5 : Int32} {xn6 : Int32} {xn7 : Int32} {xn8 : Int32} {xt0 : Int32} {K28f : Int32 → Int32 → Int32 → Int32 → q_V → Option (Int32 × q_V)} {K28 : Int32 → Int32 → Int32 → Int32 → kp_S → Prop} {Sn : kp_S} {post : Int32 → kp_S → Prop} {y : Int32} {v : q_V} (R : q_Gd 1 g S0 Sn) (hB : ∀ (S : kp_S) (y : Int32) (v : q_V) (post : Int32 → kp_S → Prop), q_Gd 1 g S0 S → Bf (q_w g S) = some (y, v) → (∀ S, q_Gd 1 g S0 S → v = q_w g S → post y S) → B (g 0 8 0) S post) (hK28 : ∀ (x0 : Int32) (x1 : Int32) (x2 : Int32) (x3 : Int32) (S : kp_S), q_Gd 1 g S0 S → K28f x0 x1 x2 x3 (q_w g S) = some (y, v) → K28 x0 x1 x2 x3 S) (h : fX8_mends_b123 Bf x1 x2 xn3 xn4 xn5 xn6 xn7 xn8 xt0 K28f (q_w g Sn) = some (y, v)) (kk : ∀ S, q_Gd 1 g S0 S → v = q_w g S → post y S) : wX8_mends_b123 B (g 0 8 0) x1 x2 xn3 xn4 xn5 xn6 xn7 xn8 xt0 K28 Sn post := by
  unfold wX8_mends_b123; unfold fX8_mends_b123 at h
  refine ⟨_, q_p1603 R, ?_⟩
  obtain ⟨y5003, v1, h1, h⟩ := q_bdi h
  refine b_X0_add R h1 (fun T5002 R q => ?_)
  subst q
  obtain ⟨y5005, v1, h1, h⟩ := q_bdi h
  refine hB _ _ _ _ R h1 (fun T5004 R q => ?_)
  subst q
  refine ⟨_, q_p1603 R, ?_⟩
  obtain ⟨y5008, v1, h1, h⟩ := q_bdi h
  refine b_X0_add R h1 (fun T5007 R q => ?_)
  subst q
  refine ⟨_, q_p1603 R, ?_⟩
  obtain ⟨y5011, v1, h1, h⟩ := q_bdi h
  refine b_X0_size R h1 (fun T5010 R q => ?_)
  subst q
  obtain ⟨v1, h1, h⟩ := q_bvi h
  refine b_X0_set R h1 (fun T5012 R q => ?_)
  subst q
  refine ⟨fun c => ?_, fun c => ?_⟩
  · replace h := q_ifp h c
    exact b_X8_mends_b180 R hB hK28 h kk
  · replace h := q_ifn h c
    exact b_X8_mends_b180 R hB hK28 h kk
def fX8_mends_b103 (B : q_V → Option (Int32 × q_V)) (x1 : Int32) (x2 : Int32) (xn3 : Int32) (xn4 : Int32) (xn5 : Int32) (xn6 : Int32) (xn7 : Int32) (xt0 : Int32) (K28 : Int32 → Int32 → Int32 → Int32 → q_V → Option (Int32 × q_V)) (Sn : q_V) : Option (Int32 × q_V) :=
  if xn7 = 0 then
  q_bd (fX0_size Sn) (fun y6003 T6002 =>
  fX8_mends_b123 B x1 x2 xn3 xn4 xn5 xn6 xn7 xt0 ((y6003 - 1)) K28 T6002)
  else
  fX8_mends_b123 B x1 x2 xn3 xn4 xn5 xn6 xn7 xt0 ((- 1)) K28 Sn
theorem b_X8_mends_b103 {g : q_G} {S0 : kp_S} {Bf : q_V → Option (Int32 × q_V)} {B : Nat → kp_S → (Int32 → kp_S → Prop) → Prop} {x1 : Int32} {x2 : Int32} {xn3 : Int32} {xn4 : Int32} {xn5 : Int32} {xn6 : Int32} {xn7 : Int32} {xt0 : Int32} {K28f : Int32 → Int32 → Int32 → Int32 → q_V → Option (Int32 × q_V)} {K28 : Int32 → Int32 → Int32 → Int32 → kp_S → Prop} {Sn : kp_S} {post : Int32 → kp_S → Prop} {y : Int32} {v : q_V} (R : q_Gd 1 g S0 Sn) (hB : ∀ (S : kp_S) (y : Int32) (v : q_V) (post : Int32 → kp_S → Prop), q_Gd 1 g S0 S → Bf (q_w g S) = some (y, v) → (∀ S, q_Gd 1 g S0 S → v = q_w g S → post y S) → B (g 0 8 0) S post) (hK28 : ∀ (x0 : Int32) (x1 : Int32) (x2 : Int32) (x3 : Int32) (S : kp_S), q_Gd 1 g S0 S → K28f x0 x1 x2 x3 (q_w g S) = some (y, v) → K28 x0 x1 x2 x3 S) (h : fX8_mends_b103 Bf x1 x2 xn3 xn4 xn5 xn6 xn7 xt0 K28f (q_w g Sn) = some (y, v)) (kk : ∀ S, q_Gd 1 g S0 S → v = q_w g S → post y S) : wX8_mends_b103 B (g 0 8 0) x1 x2 xn3 xn4 xn5 xn6 xn7 xt0 K28 Sn post := by
  unfold wX8_mends_b103; unfold fX8_mends_b103 at h
  refine ⟨fun c => ?_, fun c => ?_⟩
  · replace h := q_ifp h c
    refine ⟨_, q_p1603 R, ?_⟩
    obtain ⟨y6003, v1, h1, h⟩ := q_bdi h
    refine b_X0_size R h1 (fun T6002 R q => ?_)
    subst q
    exact b_X8_mends_b123 R hB hK28 h kk
  · replace h := q_ifn h c
    exact b_X8_mends_b123 R hB hK28 h kk
def fX8_mends_b88 (B : q_V → Option (Int32 × q_V)) (x1 : Int32) (x2 : Int32) (xn3 : Int32) (xn4 : Int32) (xn5 : Int32) (xn6 : Int32) (xn7 : Int32) (K28 : Int32 → Int32 → Int32 → Int32 → q_V → Option (Int32 × q_V)) (Sn : q_V) : Option (Int32 × q_V) :=
  if xn7 = 0 then
  q_bd (fX8_list 29 Sn) (fun y7002 T7001 =>
  fX8_mends_b103 B x1 x2 xn3 xn4 xn5 xn6 xn7 y7002 K28 T7001)
  else
  fX8_mends_b103 B x1 x2 xn3 xn4 xn5 xn6 xn7 0 K28 Sn
theorem b_X8_mends_b88 {g : q_G} {S0 : kp_S} {Bf : q_V → Option (Int32 × q_V)} {B : Nat → kp_S → (Int32 → kp_S → Prop) → Prop} {x1 : Int32} {x2 : Int32} {xn3 : Int32} {xn4 : Int32} {xn5 : Int32} {xn6 : Int32} {xn7 : Int32} {K28f : Int32 → Int32 → Int32 → Int32 → q_V → Option (Int32 × q_V)} {K28 : Int32 → Int32 → Int32 → Int32 → kp_S → Prop} {Sn : kp_S} {post : Int32 → kp_S → Prop} {y : Int32} {v : q_V} (R : q_Gd 1 g S0 Sn) (hB : ∀ (S : kp_S) (y : Int32) (v : q_V) (post : Int32 → kp_S → Prop), q_Gd 1 g S0 S → Bf (q_w g S) = some (y, v) → (∀ S, q_Gd 1 g S0 S → v = q_w g S → post y S) → B (g 0 8 0) S post) (hK28 : ∀ (x0 : Int32) (x1 : Int32) (x2 : Int32) (x3 : Int32) (S : kp_S), q_Gd 1 g S0 S → K28f x0 x1 x2 x3 (q_w g S) = some (y, v) → K28 x0 x1 x2 x3 S) (h : fX8_mends_b88 Bf x1 x2 xn3 xn4 xn5 xn6 xn7 K28f (q_w g Sn) = some (y, v)) (kk : ∀ S, q_Gd 1 g S0 S → v = q_w g S → post y S) : wX8_mends_b88 B (g 0 8 0) x1 x2 xn3 xn4 xn5 xn6 xn7 K28 Sn post := by
  unfold wX8_mends_b88; unfold fX8_mends_b88 at h
  refine ⟨fun c => ?_, fun c => ?_⟩
  · replace h := q_ifp h c
    obtain ⟨y7002, v1, h1, h⟩ := q_bdi h
    refine b_X8_list R h1 (fun T7001 R q => ?_)
    subst q
    exact b_X8_mends_b103 R hB hK28 h kk
  · replace h := q_ifn h c
    exact b_X8_mends_b103 R hB hK28 h kk
def fX8_mends_b74 (B : q_V → Option (Int32 × q_V)) (x1 : Int32) (x2 : Int32) (xn3 : Int32) (xn4 : Int32) (xn5 : Int32) (xn6 : Int32) (xt0 : Int32) (K28 : Int32 → Int32 → Int32 → Int32 → q_V → Option (Int32 × q_V)) (Sn : q_V) : Option (Int32 × q_V) :=
  if xt0 = 0 then
  fX8_mends_b88 B x1 x2 xn3 xn4 xn5 xn6 xt0 K28 Sn
  else
  q_bv (fX9_advance Sn) (fun T8002 =>
  fX8_mends_b88 B x1 x2 xn3 xn4 xn5 xn6 xt0 K28 T8002)
theorem b_X8_mends_b74 {g : q_G} {S0 : kp_S} {Bf : q_V → Option (Int32 × q_V)} {B : Nat → kp_S → (Int32 → kp_S → Prop) → Prop} {x1 : Int32} {x2 : Int32} {xn3 : Int32} {xn4 : Int32} {xn5 : Int32} {xn6 : Int32} {xt0 : Int32} {K28f : Int32 → Int32 → Int32 → Int32 → q_V → Option (Int32 × q_V)} {K28 : Int32 → Int32 → Int32 → Int32 → kp_S → Prop} {Sn : kp_S} {post : Int32 → kp_S → Prop} {y : Int32} {v : q_V} (R : q_Gd 1 g S0 Sn) (hB : ∀ (S : kp_S) (y : Int32) (v : q_V) (post : Int32 → kp_S → Prop), q_Gd 1 g S0 S → Bf (q_w g S) = some (y, v) → (∀ S, q_Gd 1 g S0 S → v = q_w g S → post y S) → B (g 0 8 0) S post) (hK28 : ∀ (x0 : Int32) (x1 : Int32) (x2 : Int32) (x3 : Int32) (S : kp_S), q_Gd 1 g S0 S → K28f x0 x1 x2 x3 (q_w g S) = some (y, v) → K28 x0 x1 x2 x3 S) (h : fX8_mends_b74 Bf x1 x2 xn3 xn4 xn5 xn6 xt0 K28f (q_w g Sn) = some (y, v)) (kk : ∀ S, q_Gd 1 g S0 S → v = q_w g S → post y S) : wX8_mends_b74 B (g 0 8 0) x1 x2 xn3 xn4 xn5 xn6 xt0 K28 Sn post := by
  unfold wX8_mends_b74; unfold fX8_mends_b74 at h
  refine ⟨fun c => ?_, fun c => ?_⟩
  · replace h := q_ifp h c
    exact b_X8_mends_b88 R hB hK28 h kk
  · replace h := q_ifn h c
    refine ⟨_, q_p1600 R, ?_⟩
    obtain ⟨v1, h1, h⟩ := q_bvi h
    refine b_X9_advance R h1 (fun T8002 R q => ?_)
    subst q
    exact b_X8_mends_b88 R hB hK28 h kk
def fX8_mends_L28 (B : q_V → Option (Int32 × q_V)) (x1 : Int32) (x2 : Int32) : Nat → Int32 → Int32 → Int32 → Int32 → q_V → Option (Int32 × q_V)
  | 0, _, _, _, _, _ => none
  | n + 1, xn3, xn4, xn5, xn6, Sn =>
  if 3000 ≤ xn6 then
  fX8_mends_b213 B x1 x2 xn3 xn4 xn5 Sn
  else
  if (q_i Sn 1805) = 315 then
  q_bv (fX9_advance Sn) (fun T9002 =>
  if (q_i T9002 1805) = 316 then
  fX8_mends_b74 B x1 x2 xn3 xn4 xn5 xn6 1 (fun xn3_ xn4_ xn5_ xn6_ S_ => fX8_mends_L28 B x1 x2 n xn3_ xn4_ xn5_ xn6_ S_) T9002
  else
  fX8_mends_b74 B x1 x2 xn3 xn4 xn5 xn6 0 (fun xn3_ xn4_ xn5_ xn6_ S_ => fX8_mends_L28 B x1 x2 n xn3_ xn4_ xn5_ xn6_ S_) T9002)
  else
  fX8_mends_b213 B x1 x2 xn3 xn4 xn5 Sn
theorem b_X8_mends_L28 {g : q_G} {S0 : kp_S} {Bf : q_V → Option (Int32 × q_V)} {B : Nat → kp_S → (Int32 → kp_S → Prop) → Prop} {x1 : Int32} {x2 : Int32} {post : Int32 → kp_S → Prop} {y : Int32} {v : q_V} (hB : ∀ (S : kp_S) (y : Int32) (v : q_V) (post : Int32 → kp_S → Prop), q_Gd 1 g S0 S → Bf (q_w g S) = some (y, v) → (∀ S, q_Gd 1 g S0 S → v = q_w g S → post y S) → B (g 0 8 0) S post) (kk : ∀ S, q_Gd 1 g S0 S → v = q_w g S → post y S) : ∀ (n : Nat) (xn3 : Int32) (xn4 : Int32) (xn5 : Int32) (xn6 : Int32) (Sn : kp_S), q_Gd 1 g S0 Sn → fX8_mends_L28 Bf x1 x2 n xn3 xn4 xn5 xn6 (q_w g Sn) = some (y, v) → wX8_mends_L28 B (g 0 8 0) x1 x2 post n xn3 xn4 xn5 xn6 Sn := by
  intro n
  induction n with
  | zero => intro xn3 xn4 xn5 xn6 Sn _ h; cases h
  | succ n ih =>
    intro xn3 xn4 xn5 xn6 Sn R h
    unfold wX8_mends_L28; unfold fX8_mends_L28 at h
    refine ⟨fun c => ?_, fun c => ?_⟩
    · replace h := q_ifp h c
      exact b_X8_mends_b213 R hB h kk
    · replace h := q_ifn h c
      refine ⟨_, q_p1600 R, ?_⟩
      refine ⟨fun c => ?_, fun c => ?_⟩
      · replace h := q_ifn h c
        exact b_X8_mends_b213 R hB h kk
      · replace h := q_ifp h c
        obtain ⟨v1, h1, h⟩ := q_bvi h
        refine b_X9_advance R h1 (fun T9002 R q => ?_)
        subst q
        refine ⟨_, q_p1600 R, ?_⟩
        refine ⟨fun c => ?_, fun c => ?_⟩
        · replace h := q_ifn h c
          exact b_X8_mends_b74 R hB (fun xn3_ xn4_ xn5_ xn6_ S_ R h => ih xn3_ xn4_ xn5_ xn6_ S_ R h) h kk
        · replace h := q_ifp h c
          exact b_X8_mends_b74 R hB (fun xn3_ xn4_ xn5_ xn6_ S_ R h => ih xn3_ xn4_ xn5_ xn6_ S_ R h) h kk
def fX8_mends (B : q_V → Option (Int32 × q_V)) (x1 : Int32) (x2 : Int32) (S : q_V) : Option (Int32 × q_V) :=
  q_bd (fX0_size S) (fun y3 T2 =>
  q_bv (fX0_set ((x1 + 2)) y3 T2) (fun T4 =>
  fX8_mends_L28 B x1 x2 q_N 0 0 0 0 T4))
theorem b_X8_mends {g : q_G} {S0 : kp_S} {Bf : q_V → Option (Int32 × q_V)} {B : Nat → kp_S → (Int32 → kp_S → Prop) → Prop} {x1 : Int32} {x2 : Int32} {S : kp_S} {post : Int32 → kp_S → Prop} {y : Int32} {v : q_V} (R : q_Gd 1 g S0 S) (hB : ∀ (S : kp_S) (y : Int32) (v : q_V) (post : Int32 → kp_S → Prop), q_Gd 1 g S0 S → Bf (q_w g S) = some (y, v) → (∀ S, q_Gd 1 g S0 S → v = q_w g S → post y S) → B (g 0 8 0) S post) (h : fX8_mends Bf x1 x2 (q_w g S) = some (y, v)) (kk : ∀ S, q_Gd 1 g S0 S → v = q_w g S → post y S) : wX8_mends B (g 0 8 0) x1 x2 S post := by
  unfold wX8_mends; unfold fX8_mends at h
  refine ⟨_, q_p1603 R, ?_⟩
  obtain ⟨y3, v1, h1, h⟩ := q_bdi h
  refine b_X0_size R h1 (fun T2 R q => ?_)
  subst q
  obtain ⟨v1, h1, h⟩ := q_bvi h
  refine b_X0_set R h1 (fun T4 R q => ?_)
  subst q
  exact ⟨q_N, b_X8_mends_L28 hB kk q_N _ _ _ _ _ R h⟩
def fX8_trial_b76 (B : q_V → Option (Int32 × q_V)) (x1 : Int32) (xn2 : Int32) (xn3 : Int32) (Sn : q_V) : Option (Int32 × q_V) :=
  q_bd (fX8_alwaysPart B xn2 xn3 Sn) (fun y1002 T1001 =>
  q_bd (fX0_size T1001) (fun y1005 T1004 =>
  q_bv (fX0_set ((xn2 + 3)) y1005 T1004) (fun T1006 =>
  some (y1002, T1006))))
theorem b_X8_trial_b76 {g : q_G} {S0 : kp_S} {Bf : q_V → Option (Int32 × q_V)} {B : Nat → kp_S → (Int32 → kp_S → Prop) → Prop} {x1 : Int32} {xn2 : Int32} {xn3 : Int32} {Sn : kp_S} {post : Int32 → kp_S → Prop} {y : Int32} {v : q_V} (R : q_Gd 1 g S0 Sn) (hB : ∀ (S : kp_S) (y : Int32) (v : q_V) (post : Int32 → kp_S → Prop), q_Gd 1 g S0 S → Bf (q_w g S) = some (y, v) → (∀ S, q_Gd 1 g S0 S → v = q_w g S → post y S) → B (g 0 8 0) S post) (h : fX8_trial_b76 Bf x1 xn2 xn3 (q_w g Sn) = some (y, v)) (kk : ∀ S, q_Gd 1 g S0 S → v = q_w g S → post y S) : wX8_trial_b76 B (g 0 8 0) x1 xn2 xn3 Sn post := by
  unfold wX8_trial_b76; unfold fX8_trial_b76 at h
  obtain ⟨y1002, v1, h1, h⟩ := q_bdi h
  refine b_X8_alwaysPart R hB h1 (fun T1001 R q => ?_)
  subst q
  refine ⟨_, q_p1603 R, ?_⟩
  obtain ⟨y1005, v1, h1, h⟩ := q_bdi h
  refine b_X0_size R h1 (fun T1004 R q => ?_)
  subst q
  obtain ⟨v1, h1, h⟩ := q_bvi h
  refine b_X0_set R h1 (fun T1006 R q => ?_)
  subst q
  exact q_fin h kk R
def fX8_trial (B : q_V → Option (Int32 × q_V)) (x1 : Int32) (S : q_V) : Option (Int32 × q_V) :=
  q_bv (fX9_advance S) (fun T2 =>
  q_bd (fX0_addPart 47 x1 T2) (fun y5 T4 =>
  q_bd (B T4) (fun y7 T6 =>
  q_bd (fX0_add 54 T6) (fun y10 T9 =>
  if (q_i T9 1805) = 315 then
  q_bd (fX8_mends B y5 y7 T9) (fun y15 T14 =>
  fX8_trial_b76 B x1 y5 y15 T14)
  else
  if (q_i T9 1805) = 317 then
  fX8_trial_b76 B x1 y5 y7 T9
  else
  q_bv (fX9_refuse T9) (fun T12 =>
  fX8_trial_b76 B x1 y5 y7 T12)))))
theorem b_X8_trial {g : q_G} {S0 : kp_S} {Bf : q_V → Option (Int32 × q_V)} {B : Nat → kp_S → (Int32 → kp_S → Prop) → Prop} {x1 : Int32} {S : kp_S} {post : Int32 → kp_S → Prop} {y : Int32} {v : q_V} (R : q_Gd 1 g S0 S) (hB : ∀ (S : kp_S) (y : Int32) (v : q_V) (post : Int32 → kp_S → Prop), q_Gd 1 g S0 S → Bf (q_w g S) = some (y, v) → (∀ S, q_Gd 1 g S0 S → v = q_w g S → post y S) → B (g 0 8 0) S post) (h : fX8_trial Bf x1 (q_w g S) = some (y, v)) (kk : ∀ S, q_Gd 1 g S0 S → v = q_w g S → post y S) : wX8_trial B (g 0 8 0) x1 S post := by
  unfold wX8_trial; unfold fX8_trial at h
  refine ⟨_, q_p1600 R, ?_⟩
  obtain ⟨v1, h1, h⟩ := q_bvi h
  refine b_X9_advance R h1 (fun T2 R q => ?_)
  subst q
  refine ⟨_, q_p1603 R, ?_⟩
  obtain ⟨y5, v1, h1, h⟩ := q_bdi h
  refine b_X0_addPart R h1 (fun T4 R q => ?_)
  subst q
  obtain ⟨y7, v1, h1, h⟩ := q_bdi h
  refine hB _ _ _ _ R h1 (fun T6 R q => ?_)
  subst q
  refine ⟨_, q_p1603 R, ?_⟩
  obtain ⟨y10, v1, h1, h⟩ := q_bdi h
  refine b_X0_add R h1 (fun T9 R q => ?_)
  subst q
  refine ⟨_, q_p1600 R, ?_⟩
  refine ⟨fun c => ?_, fun c => ?_⟩
  · replace h := q_ifn h c
    refine ⟨fun c => ?_, fun c => ?_⟩
    · replace h := q_ifp h c
      exact b_X8_trial_b76 R hB h kk
    · replace h := q_ifn h c
      obtain ⟨v1, h1, h⟩ := q_bvi h
      refine b_X9_refuse R h1 (fun T12 R q => ?_)
      subst q
      exact b_X8_trial_b76 R hB h kk
  · replace h := q_ifp h c
    obtain ⟨y15, v1, h1, h⟩ := q_bdi h
    refine b_X8_mends R hB h1 (fun T14 R q => ?_)
    subst q
    exact b_X8_trial_b76 R hB h kk
def fX8_later (B : q_V → Option (Int32 × q_V)) (x1 : Int32) (S : q_V) : Option (Int32 × q_V) :=
  q_bv (fX9_advance S) (fun T2 =>
  q_bd (fX0_addPart 52 x1 T2) (fun y5 T4 =>
  q_bd (fX5_enterLater T4) (fun y8 T7 =>
  q_bd (B T7) (fun y10 T9 =>
  q_lt (q_si T9 1604 (((q_i T9 1604) ||| (y10 &&& 6)))) (fun T11 =>
  q_bv (fX5_leaveLater y8 T11) (fun T13 =>
  q_bd (fX0_add 54 T13) (fun y16 T15 =>
  q_bd (fX0_size T15) (fun y19 T18 =>
  q_bv (fX0_set ((y5 + 3)) y19 T18) (fun T20 =>
  some (5, T20))))))))))
theorem b_X8_later {g : q_G} {S0 : kp_S} {Bf : q_V → Option (Int32 × q_V)} {B : Nat → kp_S → (Int32 → kp_S → Prop) → Prop} {x1 : Int32} {S : kp_S} {post : Int32 → kp_S → Prop} {y : Int32} {v : q_V} (R : q_Gd 1 g S0 S) (hB : ∀ (S : kp_S) (y : Int32) (v : q_V) (post : Int32 → kp_S → Prop), q_Gd 1 g S0 S → Bf (q_w g S) = some (y, v) → (∀ S, q_Gd 1 g S0 S → v = q_w g S → post y S) → B (g 0 8 0) S post) (h : fX8_later Bf x1 (q_w g S) = some (y, v)) (kk : ∀ S, q_Gd 1 g S0 S → v = q_w g S → post y S) : wX8_later B (g 0 8 0) x1 S post := by
  unfold wX8_later; unfold fX8_later at h
  refine ⟨_, q_p1600 R, ?_⟩
  obtain ⟨v1, h1, h⟩ := q_bvi h
  refine b_X9_advance R h1 (fun T2 R q => ?_)
  subst q
  refine ⟨_, q_p1603 R, ?_⟩
  obtain ⟨y5, v1, h1, h⟩ := q_bdi h
  refine b_X0_addPart R h1 (fun T4 R q => ?_)
  subst q
  refine ⟨_, q_p1601 R, ?_⟩
  obtain ⟨y8, v1, h1, h⟩ := q_bdi h
  refine b_X5_enterLater R h1 (fun T7 R q => ?_)
  subst q
  obtain ⟨y10, v1, h1, h⟩ := q_bdi h
  refine hB _ _ _ _ R h1 (fun T9 R q => ?_)
  subst q
  intro T11 q
  obtain ⟨R, q⟩ := q_wI R q rfl rfl
  replace h := q_ltw h q
  refine ⟨_, q_p1601 R, ?_⟩
  obtain ⟨v1, h1, h⟩ := q_bvi h
  refine b_X5_leaveLater R h1 (fun T13 R q => ?_)
  subst q
  refine ⟨_, q_p1603 R, ?_⟩
  obtain ⟨y16, v1, h1, h⟩ := q_bdi h
  refine b_X0_add R h1 (fun T15 R q => ?_)
  subst q
  refine ⟨_, q_p1603 R, ?_⟩
  obtain ⟨y19, v1, h1, h⟩ := q_bdi h
  refine b_X0_size R h1 (fun T18 R q => ?_)
  subst q
  obtain ⟨v1, h1, h⟩ := q_bvi h
  refine b_X0_set R h1 (fun T20 R q => ?_)
  subst q
  exact q_fin h kk R
def fX8_statement_b481 (B : q_V → Option (Int32 × q_V)) (Sn : q_V) : Option (Int32 × q_V) :=
  q_bv (fX9_refuse Sn) (fun T1002 =>
  some (0, T1002))
theorem b_X8_statement_b481 {g : q_G} {S0 : kp_S} {Bf : q_V → Option (Int32 × q_V)} {B : Nat → kp_S → (Int32 → kp_S → Prop) → Prop} {Sn : kp_S} {post : Int32 → kp_S → Prop} {y : Int32} {v : q_V} (R : q_Gd 1 g S0 Sn) (hB : ∀ (S : kp_S) (y : Int32) (v : q_V) (post : Int32 → kp_S → Prop), q_Gd 1 g S0 S → Bf (q_w g S) = some (y, v) → (∀ S, q_Gd 1 g S0 S → v = q_w g S → post y S) → B (g 0 8 0) S post) (h : fX8_statement_b481 Bf (q_w g Sn) = some (y, v)) (kk : ∀ S, q_Gd 1 g S0 S → v = q_w g S → post y S) : wX8_statement_b481 B (g 0 8 0) Sn post := by
  unfold wX8_statement_b481; unfold fX8_statement_b481 at h
  refine ⟨_, q_p1600 R, ?_⟩
  obtain ⟨v1, h1, h⟩ := q_bvi h
  refine b_X9_refuse R h1 (fun T1002 R q => ?_)
  subst q
  exact q_fin h kk R
def fX8_statement_b451 (B : q_V → Option (Int32 × q_V)) (xn1 : Int32) (Sn : q_V) : Option (Int32 × q_V) :=
  q_bd (fX8_loop B 0 xn1 Sn) (fun y2002 T2001 =>
  some (y2002, T2001))
theorem b_X8_statement_b451 {g : q_G} {S0 : kp_S} {Bf : q_V → Option (Int32 × q_V)} {B : Nat → kp_S → (Int32 → kp_S → Prop) → Prop} {xn1 : Int32} {Sn : kp_S} {post : Int32 → kp_S → Prop} {y : Int32} {v : q_V} (R : q_Gd 1 g S0 Sn) (hB : ∀ (S : kp_S) (y : Int32) (v : q_V) (post : Int32 → kp_S → Prop), q_Gd 1 g S0 S → Bf (q_w g S) = some (y, v) → (∀ S, q_Gd 1 g S0 S → v = q_w g S → post y S) → B (g 0 8 0) S post) (h : fX8_statement_b451 Bf xn1 (q_w g Sn) = some (y, v)) (kk : ∀ S, q_Gd 1 g S0 S → v = q_w g S → post y S) : wX8_statement_b451 B (g 0 8 0) xn1 Sn post := by
  unfold wX8_statement_b451; unfold fX8_statement_b451 at h
  obtain ⟨y2002, v1, h1, h⟩ := q_bdi h
  refine b_X8_loop R hB h1 (fun T2001 R q => ?_)
  subst q
  exact q_fin h kk R
def fX8_statement (B : q_V → Option (Int32 × q_V)) (S : q_V) : Option (Int32 × q_V) :=
  if (q_i S 1805) = 123 then
  q_bd (B S) (fun y119 T118 =>
  some (y119, T118))
  else
  q_lt ((q_i S 1806) : Int32) (fun y2 =>
  q_bd (fX0_add_ 30 y2 S) (fun y5 T4 =>
  q_lt ((q_i T4 1805) : Int32) (fun y7 =>
  if y7 = 259 then
  q_bd (fX8_named B y2 T4) (fun y10 T9 =>
  some (y10, T9))
  else
  if y7 = 260 then
  fX8_statement_b481 B T4
  else
  if y7 = 261 then
  fX8_statement_b481 B T4
  else
  if y7 = 262 then
  fX8_statement_b481 B T4
  else
  if y7 = 263 then
  fX8_statement_b481 B T4
  else
  if y7 = 264 then
  fX8_statement_b481 B T4
  else
  if y7 = 265 then
  fX8_statement_b481 B T4
  else
  if y7 = 266 then
  fX8_statement_b481 B T4
  else
  if y7 = 267 then
  fX8_statement_b481 B T4
  else
  if y7 = 268 then
  fX8_statement_b481 B T4
  else
  if y7 = 269 then
  fX8_statement_b481 B T4
  else
  if y7 = 270 then
  fX8_statement_b481 B T4
  else
  if y7 = 271 then
  fX8_statement_b481 B T4
  else
  if y7 = 272 then
  fX8_statement_b481 B T4
  else
  if y7 = 273 then
  fX8_statement_b481 B T4
  else
  if y7 = 274 then
  fX8_statement_b481 B T4
  else
  if y7 = 275 then
  fX8_statement_b481 B T4
  else
  if y7 = 276 then
  fX8_statement_b481 B T4
  else
  if y7 = 277 then
  fX8_statement_b481 B T4
  else
  if y7 = 278 then
  fX8_statement_b481 B T4
  else
  if y7 = 279 then
  fX8_statement_b481 B T4
  else
  if y7 = 280 then
  fX8_statement_b481 B T4
  else
  if y7 = 281 then
  fX8_statement_b481 B T4
  else
  if y7 = 282 then
  fX8_statement_b481 B T4
  else
  if y7 = 283 then
  fX8_statement_b481 B T4
  else
  if y7 = 284 then
  fX8_statement_b481 B T4
  else
  if y7 = 285 then
  fX8_statement_b481 B T4
  else
  if y7 = 286 then
  fX8_statement_b481 B T4
  else
  if y7 = 287 then
  fX8_statement_b481 B T4
  else
  if y7 = 288 then
  fX8_statement_b481 B T4
  else
  if y7 = 289 then
  fX8_statement_b481 B T4
  else
  if y7 = 290 then
  fX8_statement_b481 B T4
  else
  if y7 = 291 then
  fX8_statement_b481 B T4
  else
  if y7 = 292 then
  fX8_statement_b481 B T4
  else
  if y7 = 293 then
  fX8_statement_b481 B T4
  else
  if y7 = 294 then
  fX8_statement_b481 B T4
  else
  if y7 = 295 then
  fX8_statement_b481 B T4
  else
  if y7 = 296 then
  fX8_statement_b481 B T4
  else
  if y7 = 297 then
  fX8_statement_b481 B T4
  else
  if y7 = 298 then
  fX8_statement_b481 B T4
  else
  if y7 = 299 then
  fX8_statement_b481 B T4
  else
  if y7 = 300 then
  fX8_statement_b481 B T4
  else
  if y7 = 301 then
  q_bd (fX8_variable T4) (fun y54 T53 =>
  some (y54, T53))
  else
  if y7 = 302 then
  q_bd (fX8_order 35 1 1 T4) (fun y57 T56 =>
  some (y57, T56))
  else
  if y7 = 303 then
  q_bd (fX8_ifElse B T4) (fun y60 T59 =>
  some (y60, T59))
  else
  if y7 = 304 then
  fX8_statement_b481 B T4
  else
  if y7 = 305 then
  fX8_statement_b451 B y2 T4
  else
  if y7 = 306 then
  fX8_statement_b451 B y2 T4
  else
  if y7 = 307 then
  fX8_statement_b481 B T4
  else
  if y7 = 308 then
  fX8_statement_b481 B T4
  else
  if y7 = 309 then
  q_bd (fX8_leaveOrAgain 40 T4) (fun y68 T67 =>
  some (y68, T67))
  else
  if y7 = 310 then
  q_bd (fX8_leaveOrAgain 41 T4) (fun y71 T70 =>
  some (y71, T70))
  else
  if y7 = 311 then
  q_bd (fX8_answer T4) (fun y74 T73 =>
  some (y74, T73))
  else
  if y7 = 312 then
  q_bd (fX8_order 43 1 4 T4) (fun y77 T76 =>
  some (y77, T76))
  else
  if y7 = 313 then
  q_bd (fX8_hold B T4) (fun y80 T79 =>
  some (y80, T79))
  else
  if y7 = 314 then
  q_bd (fX8_trial B y2 T4) (fun y83 T82 =>
  some (y83, T82))
  else
  if y7 = 315 then
  fX8_statement_b481 B T4
  else
  if y7 = 316 then
  fX8_statement_b481 B T4
  else
  if y7 = 317 then
  fX8_statement_b481 B T4
  else
  if y7 = 318 then
  q_bd (fX8_later B y2 T4) (fun y89 T88 =>
  some (y89, T88))
  else
  if y7 = 319 then
  q_bd (fX8_stop T4) (fun y92 T91 =>
  some (y92, T91))
  else
  if y7 = 320 then
  q_bd (fX8_ensure B y2 T4) (fun y95 T94 =>
  some (y95, T94))
  else
  if y7 = 321 then
  fX8_statement_b451 B y2 T4
  else
  if y7 = 322 then
  fX8_statement_b481 B T4
  else
  if y7 = 323 then
  q_bd (fX8_choose B T4) (fun y100 T99 =>
  some (y100, T99))
  else
  if y7 = 324 then
  fX8_statement_b481 B T4
  else
  if y7 = 325 then
  fX8_statement_b481 B T4
  else
  if y7 = 326 then
  fX8_statement_b481 B T4
  else
  if y7 = 327 then
  fX8_statement_b481 B T4
  else
  if y7 = 328 then
  fX8_statement_b481 B T4
  else
  if y7 = 329 then
  q_bd (fX8_order 36 2 5 T4) (fun y108 T107 =>
  some (y108, T107))
  else
  if y7 = 330 then
  q_bd (fX8_order 37 2 5 T4) (fun y111 T110 =>
  some (y111, T110))
  else
  if y7 = 331 then
  q_bd (fX8_order 38 3 5 T4) (fun y114 T113 =>
  some (y114, T113))
  else
  if y7 = 332 then
  q_bd (fX8_order 39 2 5 T4) (fun y117 T116 =>
  some (y117, T116))
  else
  fX8_statement_b481 B T4)))
theorem b_X8_statement {g : q_G} {S0 : kp_S} {Bf : q_V → Option (Int32 × q_V)} {B : Nat → kp_S → (Int32 → kp_S → Prop) → Prop} {S : kp_S} {post : Int32 → kp_S → Prop} {y : Int32} {v : q_V} (R : q_Gd 1 g S0 S) (hB : ∀ (S : kp_S) (y : Int32) (v : q_V) (post : Int32 → kp_S → Prop), q_Gd 1 g S0 S → Bf (q_w g S) = some (y, v) → (∀ S, q_Gd 1 g S0 S → v = q_w g S → post y S) → B (g 0 8 0) S post) (h : fX8_statement Bf (q_w g S) = some (y, v)) (kk : ∀ S, q_Gd 1 g S0 S → v = q_w g S → post y S) : wX8_statement B (g 0 8 0) S post := by
  unfold wX8_statement; unfold fX8_statement at h
  refine ⟨_, q_p1600 R, ?_⟩
  refine ⟨fun c => ?_, fun c => ?_⟩
  · replace h := q_ifn h c
    intro y2 q
    replace h := q_ltw h q
    refine ⟨_, q_p1603 R, ?_⟩
    obtain ⟨y5, v1, h1, h⟩ := q_bdi h
    refine b_X0_add_ R h1 (fun T4 R q => ?_)
    subst q
    refine ⟨_, q_p1600 R, ?_⟩
    intro y7 q
    replace h := q_ltw h q
    refine ⟨fun c => ?_, fun c => ?_⟩
    · replace h := q_ifp h c
      obtain ⟨y10, v1, h1, h⟩ := q_bdi h
      refine b_X8_named R hB h1 (fun T9 R q => ?_)
      subst q
      exact q_fin h kk R
    · replace h := q_ifn h c
      refine ⟨fun c => ?_, fun c => ?_⟩
      · replace h := q_ifp h c
        exact b_X8_statement_b481 R hB h kk
      · replace h := q_ifn h c
        refine ⟨fun c => ?_, fun c => ?_⟩
        · replace h := q_ifp h c
          exact b_X8_statement_b481 R hB h kk
        · replace h := q_ifn h c
          refine ⟨fun c => ?_, fun c => ?_⟩
          · replace h := q_ifp h c
            exact b_X8_statement_b481 R hB h kk
          · replace h := q_ifn h c
            refine ⟨fun c => ?_, fun c => ?_⟩
            · replace h := q_ifp h c
              exact b_X8_statement_b481 R hB h kk
            · replace h := q_ifn h c
              refine ⟨fun c => ?_, fun c => ?_⟩
              · replace h := q_ifp h c
                exact b_X8_statement_b481 R hB h kk
              · replace h := q_ifn h c
                refine ⟨fun c => ?_, fun c => ?_⟩
                · replace h := q_ifp h c
                  exact b_X8_statement_b481 R hB h kk
                · replace h := q_ifn h c
                  refine ⟨fun c => ?_, fun c => ?_⟩
                  · replace h := q_ifp h c
                    exact b_X8_statement_b481 R hB h kk
                  · replace h := q_ifn h c
                    refine ⟨fun c => ?_, fun c => ?_⟩
                    · replace h := q_ifp h c
                      exact b_X8_statement_b481 R hB h kk
                    · replace h := q_ifn h c
                      refine ⟨fun c => ?_, fun c => ?_⟩
                      · replace h := q_ifp h c
                        exact b_X8_statement_b481 R hB h kk
                      · replace h := q_ifn h c
                        refine ⟨fun c => ?_, fun c => ?_⟩
                        · replace h := q_ifp h c
                          exact b_X8_statement_b481 R hB h kk
                        · replace h := q_ifn h c
                          refine ⟨fun c => ?_, fun c => ?_⟩
                          · replace h := q_ifp h c
                            exact b_X8_statement_b481 R hB h kk
                          · replace h := q_ifn h c
                            refine ⟨fun c => ?_, fun c => ?_⟩
                            · replace h := q_ifp h c
                              exact b_X8_statement_b481 R hB h kk
                            · replace h := q_ifn h c
                              refine ⟨fun c => ?_, fun c => ?_⟩
                              · replace h := q_ifp h c
                                exact b_X8_statement_b481 R hB h kk
                              · replace h := q_ifn h c
                                refine ⟨fun c => ?_, fun c => ?_⟩
                                · replace h := q_ifp h c
                                  exact b_X8_statement_b481 R hB h kk
                                · replace h := q_ifn h c
                                  refine ⟨fun c => ?_, fun c => ?_⟩
                                  · replace h := q_ifp h c
                                    exact b_X8_statement_b481 R hB h kk
                                  · replace h := q_ifn h c
                                    refine ⟨fun c => ?_, fun c => ?_⟩
                                    · replace h := q_ifp h c
                                      exact b_X8_statement_b481 R hB h kk
                                    · replace h := q_ifn h c
                                      refine ⟨fun c => ?_, fun c => ?_⟩
                                      · replace h := q_ifp h c
                                        exact b_X8_statement_b481 R hB h kk
                                      · replace h := q_ifn h c
                                        refine ⟨fun c => ?_, fun c => ?_⟩
                                        · replace h := q_ifp h c
                                          exact b_X8_statement_b481 R hB h kk
                                        · replace h := q_ifn h c
                                          refine ⟨fun c => ?_, fun c => ?_⟩
                                          · replace h := q_ifp h c
                                            exact b_X8_statement_b481 R hB h kk
                                          · replace h := q_ifn h c
                                            refine ⟨fun c => ?_, fun c => ?_⟩
                                            · replace h := q_ifp h c
                                              exact b_X8_statement_b481 R hB h kk
                                            · replace h := q_ifn h c
                                              refine ⟨fun c => ?_, fun c => ?_⟩
                                              · replace h := q_ifp h c
                                                exact b_X8_statement_b481 R hB h kk
                                              · replace h := q_ifn h c
                                                refine ⟨fun c => ?_, fun c => ?_⟩
                                                · replace h := q_ifp h c
                                                  exact b_X8_statement_b481 R hB h kk
                                                · replace h := q_ifn h c
                                                  refine ⟨fun c => ?_, fun c => ?_⟩
                                                  · replace h := q_ifp h c
                                                    exact b_X8_statement_b481 R hB h kk
                                                  · replace h := q_ifn h c
                                                    refine ⟨fun c => ?_, fun c => ?_⟩
                                                    · replace h := q_ifp h c
                                                      exact b_X8_statement_b481 R hB h kk
                                                    · replace h := q_ifn h c
                                                      refine ⟨fun c => ?_, fun c => ?_⟩
                                                      · replace h := q_ifp h c
                                                        exact b_X8_statement_b481 R hB h kk
                                                      · replace h := q_ifn h c
                                                        refine ⟨fun c => ?_, fun c => ?_⟩
                                                        · replace h := q_ifp h c
                                                          exact b_X8_statement_b481 R hB h kk
                                                        · replace h := q_ifn h c
                                                          refine ⟨fun c => ?_, fun c => ?_⟩
                                                          · replace h := q_ifp h c
                                                            exact b_X8_statement_b481 R hB h kk
                                                          · replace h := q_ifn h c
                                                            refine ⟨fun c => ?_, fun c => ?_⟩
                                                            · replace h := q_ifp h c
                                                              exact b_X8_statement_b481 R hB h kk
                                                            · replace h := q_ifn h c
                                                              refine ⟨fun c => ?_, fun c => ?_⟩
                                                              · replace h := q_ifp h c
                                                                exact b_X8_statement_b481 R hB h kk
                                                              · replace h := q_ifn h c
                                                                refine ⟨fun c => ?_, fun c => ?_⟩
                                                                · replace h := q_ifp h c
                                                                  exact b_X8_statement_b481 R hB h kk
                                                                · replace h := q_ifn h c
                                                                  refine ⟨fun c => ?_, fun c => ?_⟩
                                                                  · replace h := q_ifp h c
                                                                    exact b_X8_statement_b481 R hB h kk
                                                                  · replace h := q_ifn h c
                                                                    refine ⟨fun c => ?_, fun c => ?_⟩
                                                                    · replace h := q_ifp h c
                                                                      exact b_X8_statement_b481 R hB h kk
                                                                    · replace h := q_ifn h c
                                                                      refine ⟨fun c => ?_, fun c => ?_⟩
                                                                      · replace h := q_ifp h c
                                                                        exact b_X8_statement_b481 R hB h kk
                                                                      · replace h := q_ifn h c
                                                                        refine ⟨fun c => ?_, fun c => ?_⟩
                                                                        · replace h := q_ifp h c
                                                                          exact b_X8_statement_b481 R hB h kk
                                                                        · replace h := q_ifn h c
                                                                          refine ⟨fun c => ?_, fun c => ?_⟩
                                                                          · replace h := q_ifp h c
                                                                            exact b_X8_statement_b481 R hB h kk
                                                                          · replace h := q_ifn h c
                                                                            refine ⟨fun c => ?_, fun c => ?_⟩
                                                                            · replace h := q_ifp h c
                                                                              exact b_X8_statement_b481 R hB h kk
                                                                            · replace h := q_ifn h c
                                                                              refine ⟨fun c => ?_, fun c => ?_⟩
                                                                              · replace h := q_ifp h c
                                                                                exact b_X8_statement_b481 R hB h kk
                                                                              · replace h := q_ifn h c
                                                                                refine ⟨fun c => ?_, fun c => ?_⟩
                                                                                · replace h := q_ifp h c
                                                                                  exact b_X8_statement_b481 R hB h kk
                                                                                · replace h := q_ifn h c
                                                                                  refine ⟨fun c => ?_, fun c => ?_⟩
                                                                                  · replace h := q_ifp h c
                                                                                    exact b_X8_statement_b481 R hB h kk
                                                                                  · replace h := q_ifn h c
                                                                                    refine ⟨fun c => ?_, fun c => ?_⟩
                                                                                    · replace h := q_ifp h c
                                                                                      exact b_X8_statement_b481 R hB h kk
                                                                                    · replace h := q_ifn h c
                                                                                      refine ⟨fun c => ?_, fun c => ?_⟩
                                                                                      · replace h := q_ifp h c
                                                                                        exact b_X8_statement_b481 R hB h kk
                                                                                      · replace h := q_ifn h c
                                                                                        refine ⟨fun c => ?_, fun c => ?_⟩
                                                                                        · replace h := q_ifp h c
                                                                                          obtain ⟨y54, v1, h1, h⟩ := q_bdi h
                                                                                          refine b_X8_variable R h1 (fun T53 R q => ?_)
                                                                                          subst q
                                                                                          exact q_fin h kk R
                                                                                        · replace h := q_ifn h c
                                                                                          refine ⟨fun c => ?_, fun c => ?_⟩
                                                                                          · replace h := q_ifp h c
                                                                                            obtain ⟨y57, v1, h1, h⟩ := q_bdi h
                                                                                            refine b_X8_order R h1 (fun T56 R q => ?_)
                                                                                            subst q
                                                                                            exact q_fin h kk R
                                                                                          · replace h := q_ifn h c
                                                                                            refine ⟨fun c => ?_, fun c => ?_⟩
                                                                                            · replace h := q_ifp h c
                                                                                              obtain ⟨y60, v1, h1, h⟩ := q_bdi h
                                                                                              refine b_X8_ifElse R hB h1 (fun T59 R q => ?_)
                                                                                              subst q
                                                                                              exact q_fin h kk R
                                                                                            · replace h := q_ifn h c
                                                                                              refine ⟨fun c => ?_, fun c => ?_⟩
                                                                                              · replace h := q_ifp h c
                                                                                                exact b_X8_statement_b481 R hB h kk
                                                                                              · replace h := q_ifn h c
                                                                                                refine ⟨fun c => ?_, fun c => ?_⟩
                                                                                                · replace h := q_ifp h c
                                                                                                  exact b_X8_statement_b451 R hB h kk
                                                                                                · replace h := q_ifn h c
                                                                                                  refine ⟨fun c => ?_, fun c => ?_⟩
                                                                                                  · replace h := q_ifp h c
                                                                                                    exact b_X8_statement_b451 R hB h kk
                                                                                                  · replace h := q_ifn h c
                                                                                                    refine ⟨fun c => ?_, fun c => ?_⟩
                                                                                                    · replace h := q_ifp h c
                                                                                                      exact b_X8_statement_b481 R hB h kk
                                                                                                    · replace h := q_ifn h c
                                                                                                      refine ⟨fun c => ?_, fun c => ?_⟩
                                                                                                      · replace h := q_ifp h c
                                                                                                        exact b_X8_statement_b481 R hB h kk
                                                                                                      · replace h := q_ifn h c
                                                                                                        refine ⟨fun c => ?_, fun c => ?_⟩
                                                                                                        · replace h := q_ifp h c
                                                                                                          obtain ⟨y68, v1, h1, h⟩ := q_bdi h
                                                                                                          refine b_X8_leaveOrAgain R h1 (fun T67 R q => ?_)
                                                                                                          subst q
                                                                                                          exact q_fin h kk R
                                                                                                        · replace h := q_ifn h c
                                                                                                          refine ⟨fun c => ?_, fun c => ?_⟩
                                                                                                          · replace h := q_ifp h c
                                                                                                            obtain ⟨y71, v1, h1, h⟩ := q_bdi h
                                                                                                            refine b_X8_leaveOrAgain R h1 (fun T70 R q => ?_)
                                                                                                            subst q
                                                                                                            exact q_fin h kk R
                                                                                                          · replace h := q_ifn h c
                                                                                                            refine ⟨fun c => ?_, fun c => ?_⟩
                                                                                                            · replace h := q_ifp h c
                                                                                                              obtain ⟨y74, v1, h1, h⟩ := q_bdi h
                                                                                                              refine b_X8_answer R h1 (fun T73 R q => ?_)
                                                                                                              subst q
                                                                                                              exact q_fin h kk R
                                                                                                            · replace h := q_ifn h c
                                                                                                              refine ⟨fun c => ?_, fun c => ?_⟩
                                                                                                              · replace h := q_ifp h c
                                                                                                                obtain ⟨y77, v1, h1, h⟩ := q_bdi h
                                                                                                                refine b_X8_order R h1 (fun T76 R q => ?_)
                                                                                                                subst q
                                                                                                                exact q_fin h kk R
                                                                                                              · replace h := q_ifn h c
                                                                                                                refine ⟨fun c => ?_, fun c => ?_⟩
                                                                                                                · replace h := q_ifp h c
                                                                                                                  obtain ⟨y80, v1, h1, h⟩ := q_bdi h
                                                                                                                  refine b_X8_hold R hB h1 (fun T79 R q => ?_)
                                                                                                                  subst q
                                                                                                                  exact q_fin h kk R
                                                                                                                · replace h := q_ifn h c
                                                                                                                  refine ⟨fun c => ?_, fun c => ?_⟩
                                                                                                                  · replace h := q_ifp h c
                                                                                                                    obtain ⟨y83, v1, h1, h⟩ := q_bdi h
                                                                                                                    refine b_X8_trial R hB h1 (fun T82 R q => ?_)
                                                                                                                    subst q
                                                                                                                    exact q_fin h kk R
                                                                                                                  · replace h := q_ifn h c
                                                                                                                    refine ⟨fun c => ?_, fun c => ?_⟩
                                                                                                                    · replace h := q_ifp h c
                                                                                                                      exact b_X8_statement_b481 R hB h kk
                                                                                                                    · replace h := q_ifn h c
                                                                                                                      refine ⟨fun c => ?_, fun c => ?_⟩
                                                                                                                      · replace h := q_ifp h c
                                                                                                                        exact b_X8_statement_b481 R hB h kk
                                                                                                                      · replace h := q_ifn h c
                                                                                                                        refine ⟨fun c => ?_, fun c => ?_⟩
                                                                                                                        · replace h := q_ifp h c
                                                                                                                          exact b_X8_statement_b481 R hB h kk
                                                                                                                        · replace h := q_ifn h c
                                                                                                                          refine ⟨fun c => ?_, fun c => ?_⟩
                                                                                                                          · replace h := q_ifp h c
                                                                                                                            obtain ⟨y89, v1, h1, h⟩ := q_bdi h
                                                                                                                            refine b_X8_later R hB h1 (fun T88 R q => ?_)
                                                                                                                            subst q
                                                                                                                            exact q_fin h kk R
                                                                                                                          · replace h := q_ifn h c
                                                                                                                            refine ⟨fun c => ?_, fun c => ?_⟩
                                                                                                                            · replace h := q_ifp h c
                                                                                                                              obtain ⟨y92, v1, h1, h⟩ := q_bdi h
                                                                                                                              refine b_X8_stop R h1 (fun T91 R q => ?_)
                                                                                                                              subst q
                                                                                                                              exact q_fin h kk R
                                                                                                                            · replace h := q_ifn h c
                                                                                                                              refine ⟨fun c => ?_, fun c => ?_⟩
                                                                                                                              · replace h := q_ifp h c
                                                                                                                                obtain ⟨y95, v1, h1, h⟩ := q_bdi h
                                                                                                                                refine b_X8_ensure R hB h1 (fun T94 R q => ?_)
                                                                                                                                subst q
                                                                                                                                exact q_fin h kk R
                                                                                                                              · replace h := q_ifn h c
                                                                                                                                refine ⟨fun c => ?_, fun c => ?_⟩
                                                                                                                                · replace h := q_ifp h c
                                                                                                                                  exact b_X8_statement_b451 R hB h kk
                                                                                                                                · replace h := q_ifn h c
                                                                                                                                  refine ⟨fun c => ?_, fun c => ?_⟩
                                                                                                                                  · replace h := q_ifp h c
                                                                                                                                    exact b_X8_statement_b481 R hB h kk
                                                                                                                                  · replace h := q_ifn h c
                                                                                                                                    refine ⟨fun c => ?_, fun c => ?_⟩
                                                                                                                                    · replace h := q_ifp h c
                                                                                                                                      obtain ⟨y100, v1, h1, h⟩ := q_bdi h
                                                                                                                                      refine b_X8_choose R hB h1 (fun T99 R q => ?_)
                                                                                                                                      subst q
                                                                                                                                      exact q_fin h kk R
                                                                                                                                    · replace h := q_ifn h c
                                                                                                                                      refine ⟨fun c => ?_, fun c => ?_⟩
                                                                                                                                      · replace h := q_ifp h c
                                                                                                                                        exact b_X8_statement_b481 R hB h kk
                                                                                                                                      · replace h := q_ifn h c
                                                                                                                                        refine ⟨fun c => ?_, fun c => ?_⟩
                                                                                                                                        · replace h := q_ifp h c
                                                                                                                                          exact b_X8_statement_b481 R hB h kk
                                                                                                                                        · replace h := q_ifn h c
                                                                                                                                          refine ⟨fun c => ?_, fun c => ?_⟩
                                                                                                                                          · replace h := q_ifp h c
                                                                                                                                            exact b_X8_statement_b481 R hB h kk
                                                                                                                                          · replace h := q_ifn h c
                                                                                                                                            refine ⟨fun c => ?_, fun c => ?_⟩
                                                                                                                                            · replace h := q_ifp h c
                                                                                                                                              exact b_X8_statement_b481 R hB h kk
                                                                                                                                            · replace h := q_ifn h c
                                                                                                                                              refine ⟨fun c => ?_, fun c => ?_⟩
                                                                                                                                              · replace h := q_ifp h c
                                                                                                                                                exact b_X8_statement_b481 R hB h kk
                                                                                                                                              · replace h := q_ifn h c
                                                                                                                                                refine ⟨fun c => ?_, fun c => ?_⟩
                                                                                                                                                · replace h := q_ifp h c
                                                                                                                                                  obtain ⟨y108, v1, h1, h⟩ := q_bdi h
                                                                                                                                                  refine b_X8_order R h1 (fun T107 R q => ?_)
                                                                                                                                                  subst q
                                                                                                                                                  exact q_fin h kk R
                                                                                                                                                · replace h := q_ifn h c
                                                                                                                                                  refine ⟨fun c => ?_, fun c => ?_⟩
                                                                                                                                                  · replace h := q_ifp h c
                                                                                                                                                    obtain ⟨y111, v1, h1, h⟩ := q_bdi h
                                                                                                                                                    refine b_X8_order R h1 (fun T110 R q => ?_)
                                                                                                                                                    subst q
                                                                                                                                                    exact q_fin h kk R
                                                                                                                                                  · replace h := q_ifn h c
                                                                                                                                                    refine ⟨fun c => ?_, fun c => ?_⟩
                                                                                                                                                    · replace h := q_ifp h c
                                                                                                                                                      obtain ⟨y114, v1, h1, h⟩ := q_bdi h
                                                                                                                                                      refine b_X8_order R h1 (fun T113 R q => ?_)
                                                                                                                                                      subst q
                                                                                                                                                      exact q_fin h kk R
                                                                                                                                                    · replace h := q_ifn h c
                                                                                                                                                      refine ⟨fun c => ?_, fun c => ?_⟩
                                                                                                                                                      · replace h := q_ifp h c
                                                                                                                                                        obtain ⟨y117, v1, h1, h⟩ := q_bdi h
                                                                                                                                                        refine b_X8_order R h1 (fun T116 R q => ?_)
                                                                                                                                                        subst q
                                                                                                                                                        exact q_fin h kk R
                                                                                                                                                      · replace h := q_ifn h c
                                                                                                                                                        exact b_X8_statement_b481 R hB h kk
  · replace h := q_ifp h c
    obtain ⟨y119, v1, h1, h⟩ := q_bdi h
    refine hB _ _ _ _ R h1 (fun T118 R q => ?_)
    subst q
    exact q_fin h kk R
def fX8_block_b76 (B : q_V → Option (Int32 × q_V)) (xn1 : Int32) (xn2 : Int32) (Sn : q_V) : Option (Int32 × q_V) :=
  q_bv (fX5_forgetBehind xn1 Sn) (fun T1002 =>
  q_bv (fX9_endNest T1002) (fun T1004 =>
  q_bv (fX9_expect 125 T1004) (fun T1006 =>
  some (xn2, T1006))))
theorem b_X8_block_b76 {g : q_G} {S0 : kp_S} {Bf : q_V → Option (Int32 × q_V)} {B : Nat → kp_S → (Int32 → kp_S → Prop) → Prop} {xn1 : Int32} {xn2 : Int32} {Sn : kp_S} {post : Int32 → kp_S → Prop} {y : Int32} {v : q_V} (R : q_Gd 1 g S0 Sn) (hB : ∀ (S : kp_S) (y : Int32) (v : q_V) (post : Int32 → kp_S → Prop), q_Gd 1 g S0 S → Bf (q_w g S) = some (y, v) → (∀ S, q_Gd 1 g S0 S → v = q_w g S → post y S) → B (g 0 8 0) S post) (h : fX8_block_b76 Bf xn1 xn2 (q_w g Sn) = some (y, v)) (kk : ∀ S, q_Gd 1 g S0 S → v = q_w g S → post y S) : wX8_block_b76 B (g 0 8 0) xn1 xn2 Sn post := by
  unfold wX8_block_b76; unfold fX8_block_b76 at h
  refine ⟨_, q_p1601 R, ?_⟩
  obtain ⟨v1, h1, h⟩ := q_bvi h
  refine b_X5_forgetBehind R h1 (fun T1002 R q => ?_)
  subst q
  refine ⟨_, q_p1600 R, ?_⟩
  obtain ⟨v1, h1, h⟩ := q_bvi h
  refine b_X9_endNest R h1 (fun T1004 R q => ?_)
  subst q
  refine ⟨_, q_p1600 R, ?_⟩
  obtain ⟨v1, h1, h⟩ := q_bvi h
  refine b_X9_expect R h1 (fun T1006 R q => ?_)
  subst q
  exact q_fin h kk R
def fX8_block_b70 (B : q_V → Option (Int32 × q_V)) (xn1 : Int32) (xn2 : Int32) (xn3 : Int32) (K21 : Int32 → Int32 → Int32 → q_V → Option (Int32 × q_V)) (Sn : q_V) : Option (Int32 × q_V) :=
  q_lt (xn3 + 1 : Int32) (fun y2001 =>
  K21 xn1 xn2 y2001 Sn)
theorem b_X8_block_b70 {g : q_G} {S0 : kp_S} {Bf : q_V → Option (Int32 × q_V)} {B : Nat → kp_S → (Int32 → kp_S → Prop) → Prop} {xn1 : Int32} {xn2 : Int32} {xn3 : Int32} {K21f : Int32 → Int32 → Int32 → q_V → Option (Int32 × q_V)} {K21 : Int32 → Int32 → Int32 → kp_S → Prop} {Sn : kp_S} {post : Int32 → kp_S → Prop} {y : Int32} {v : q_V} (R : q_Gd 1 g S0 Sn) (hB : ∀ (S : kp_S) (y : Int32) (v : q_V) (post : Int32 → kp_S → Prop), q_Gd 1 g S0 S → Bf (q_w g S) = some (y, v) → (∀ S, q_Gd 1 g S0 S → v = q_w g S → post y S) → B (g 0 8 0) S post) (hK21 : ∀ (x0 : Int32) (x1 : Int32) (x2 : Int32) (S : kp_S), q_Gd 1 g S0 S → K21f x0 x1 x2 (q_w g S) = some (y, v) → K21 x0 x1 x2 S) (h : fX8_block_b70 Bf xn1 xn2 xn3 K21f (q_w g Sn) = some (y, v)) (kk : ∀ S, q_Gd 1 g S0 S → v = q_w g S → post y S) : wX8_block_b70 B (g 0 8 0) xn1 xn2 xn3 K21 Sn post := by
  unfold wX8_block_b70; unfold fX8_block_b70 at h
  intro y2001 q
  replace h := q_ltw h q
  exact hK21 _ _ _ _ R h
def fX8_block_L21 (B : q_V → Option (Int32 × q_V)) : Nat → Int32 → Int32 → Int32 → q_V → Option (Int32 × q_V)
  | 0, _, _, _, _ => none
  | n + 1, xn1, xn2, xn3, Sn =>
  if 3000 ≤ xn3 then
  fX8_block_b76 B xn1 xn2 Sn
  else
  if (q_i Sn 1805) = 125 then
  fX8_block_b76 B xn1 xn2 Sn
  else
  q_bd (fX9_isStopped Sn) (fun y3003 T3002 =>
  if y3003 = 0 then
  q_bd (fX8_statement B T3002) (fun y3005 T3004 =>
  if (xn2 &&& 1) = 0 then
  fX8_block_b70 B xn1 xn2 xn3 (fun xn1_ xn2_ xn3_ S_ => fX8_block_L21 B n xn1_ xn2_ xn3_ S_) T3004
  else
  q_lt (((xn2 &&& (- 2)) ||| y3005) : Int32) (fun y3006 =>
  fX8_block_b70 B xn1 y3006 xn3 (fun xn1_ xn2_ xn3_ S_ => fX8_block_L21 B n xn1_ xn2_ xn3_ S_) T3004))
  else
  fX8_block_b76 B xn1 xn2 T3002)
theorem b_X8_block_L21 {g : q_G} {S0 : kp_S} {Bf : q_V → Option (Int32 × q_V)} {B : Nat → kp_S → (Int32 → kp_S → Prop) → Prop} {post : Int32 → kp_S → Prop} {y : Int32} {v : q_V} (hB : ∀ (S : kp_S) (y : Int32) (v : q_V) (post : Int32 → kp_S → Prop), q_Gd 1 g S0 S → Bf (q_w g S) = some (y, v) → (∀ S, q_Gd 1 g S0 S → v = q_w g S → post y S) → B (g 0 8 0) S post) (kk : ∀ S, q_Gd 1 g S0 S → v = q_w g S → post y S) : ∀ (n : Nat) (xn1 : Int32) (xn2 : Int32) (xn3 : Int32) (Sn : kp_S), q_Gd 1 g S0 Sn → fX8_block_L21 Bf n xn1 xn2 xn3 (q_w g Sn) = some (y, v) → wX8_block_L21 B (g 0 8 0) post n xn1 xn2 xn3 Sn := by
  intro n
  induction n with
  | zero => intro xn1 xn2 xn3 Sn _ h; cases h
  | succ n ih =>
    intro xn1 xn2 xn3 Sn R h
    unfold wX8_block_L21; unfold fX8_block_L21 at h
    refine ⟨fun c => ?_, fun c => ?_⟩
    · replace h := q_ifp h c
      exact b_X8_block_b76 R hB h kk
    · replace h := q_ifn h c
      refine ⟨_, q_p1600 R, ?_⟩
      refine ⟨fun c => ?_, fun c => ?_⟩
      · replace h := q_ifp h c
        exact b_X8_block_b76 R hB h kk
      · replace h := q_ifn h c
        obtain ⟨y3003, v1, h1, h⟩ := q_bdi h
        refine b_X9_isStopped R h1 (fun T3002 R q => ?_)
        subst q
        refine ⟨fun c => ?_, fun c => ?_⟩
        · replace h := q_ifn h c
          exact b_X8_block_b76 R hB h kk
        · replace h := q_ifp h c
          obtain ⟨y3005, v1, h1, h⟩ := q_bdi h
          refine b_X8_statement R hB h1 (fun T3004 R q => ?_)
          subst q
          refine ⟨fun c => ?_, fun c => ?_⟩
          · replace h := q_ifp h c
            exact b_X8_block_b70 R hB (fun xn1_ xn2_ xn3_ S_ R h => ih xn1_ xn2_ xn3_ S_ R h) h kk
          · replace h := q_ifn h c
            intro y3006 q
            replace h := q_ltw h q
            exact b_X8_block_b70 R hB (fun xn1_ xn2_ xn3_ S_ R h => ih xn1_ xn2_ xn3_ S_ R h) h kk
def fX8_block (B : q_V → Option (Int32 × q_V)) (S : q_V) : Option (Int32 × q_V) :=
  q_bv (fX9_expectNest 123 S) (fun T2 =>
  q_bd (fX5_knownNow T2) (fun y5 T4 =>
  fX8_block_L21 B q_N y5 1 0 T4))
theorem b_X8_block {g : q_G} {S0 : kp_S} {Bf : q_V → Option (Int32 × q_V)} {B : Nat → kp_S → (Int32 → kp_S → Prop) → Prop} {S : kp_S} {post : Int32 → kp_S → Prop} {y : Int32} {v : q_V} (R : q_Gd 1 g S0 S) (hB : ∀ (S : kp_S) (y : Int32) (v : q_V) (post : Int32 → kp_S → Prop), q_Gd 1 g S0 S → Bf (q_w g S) = some (y, v) → (∀ S, q_Gd 1 g S0 S → v = q_w g S → post y S) → B (g 0 8 0) S post) (h : fX8_block Bf (q_w g S) = some (y, v)) (kk : ∀ S, q_Gd 1 g S0 S → v = q_w g S → post y S) : wX8_block B (g 0 8 0) S post := by
  unfold wX8_block; unfold fX8_block at h
  refine ⟨_, q_p1600 R, ?_⟩
  obtain ⟨v1, h1, h⟩ := q_bvi h
  refine b_X9_expectNest R h1 (fun T2 R q => ?_)
  subst q
  refine ⟨_, q_p1601 R, ?_⟩
  obtain ⟨y5, v1, h1, h⟩ := q_bdi h
  refine b_X5_knownNow R h1 (fun T4 R q => ?_)
  subst q
  exact ⟨q_N, b_X8_block_L21 hB kk q_N _ _ _ _ R h⟩
def fx8_rec : Nat → Nat → q_V → Option (Int32 × q_V)
  | 0, _, _ => none
  | n + 1, _, v => fX8_block (fx8_rec n 0) v
theorem b_x8_rec {g : q_G} {S0 : kp_S} : ∀ n : Nat, (∀ (S : kp_S) (y : Int32) (v : q_V) (post : Int32 → kp_S → Prop), q_Gd 1 g S0 S → fx8_rec n 0 (q_w g S) = some (y, v) → (∀ S, q_Gd 1 g S0 S → v = q_w g S → post y S) → wx8_rec n 0 (g 0 8 0) S post) := by
  intro n
  induction n with
  | zero => intro S y v post R h kk; cases h
  | succ n ih => intro S y v post R h kk; exact b_X8_block R ih h kk
def fX8_block_t (v : q_V) : Option (Int32 × q_V) := fX8_block (fx8_rec 16 0) v
theorem b_X8_block_t {g : q_G} {S0 : kp_S} {S : kp_S} {post : Int32 → kp_S → Prop} {y : Int32} {v : q_V} (R : q_Gd 1 g S0 S) (h : fX8_block_t (q_w g S) = some (y, v)) (kk : ∀ S, q_Gd 1 g S0 S → v = q_w g S → post y S) : wX8_block_t (g 0 8 0) S post := b_X8_block R (b_x8_rec 16) h kk
def fX8_readDuty_b94 (x1 : Int32) (Sn : q_V) : Option q_V :=
  q_bv (fX9_expect 41 Sn) (fun T1002 =>
  q_bd (fX5_variableCount T1002) (fun y1005 T1004 =>
  q_lt (q_si T1004 1604 0) (fun T1006 =>
  q_bd (fX8_block_t T1006) (fun y1008 T1007 =>
  q_bd (fX0_add 54 T1007) (fun y1011 T1010 =>
  q_bd (fX5_variableCount T1010) (fun y1015 T1014 =>
  q_bv (fX0_setCounts x1 y1005 y1015 T1014) (fun T1016 =>
  q_bv (fX0_setWays x1 ((y1008 ||| (q_i T1016 1604))) T1016) (fun T1018 =>
  some T1018))))))))
theorem b_X8_readDuty_b94 {g : q_G} {S0 : kp_S} {x1 : Int32} {Sn : kp_S} {post : kp_S → Prop} {v : q_V} (R : q_Gd 1 g S0 Sn)  (h : fX8_readDuty_b94 x1 (q_w g Sn) = some v) (kk : ∀ S, q_Gd 1 g S0 S → v = q_w g S → post S) : wX8_readDuty_b94 (g 0 8 0) x1 Sn post := by
  unfold wX8_readDuty_b94; unfold fX8_readDuty_b94 at h
  refine ⟨_, q_p1600 R, ?_⟩
  obtain ⟨v1, h1, h⟩ := q_bvi h
  refine b_X9_expect R h1 (fun T1002 R q => ?_)
  subst q
  refine ⟨_, q_p1601 R, ?_⟩
  obtain ⟨y1005, v1, h1, h⟩ := q_bdi h
  refine b_X5_variableCount R h1 (fun T1004 R q => ?_)
  subst q
  intro T1006 q
  obtain ⟨R, q⟩ := q_wI R q rfl rfl
  replace h := q_ltw h q
  obtain ⟨y1008, v1, h1, h⟩ := q_bdi h
  refine b_X8_block_t R h1 (fun T1007 R q => ?_)
  subst q
  refine ⟨_, q_p1603 R, ?_⟩
  obtain ⟨y1011, v1, h1, h⟩ := q_bdi h
  refine b_X0_add R h1 (fun T1010 R q => ?_)
  subst q
  refine ⟨_, q_p1603 R, ?_⟩
  refine ⟨_, q_p1601 R, ?_⟩
  obtain ⟨y1015, v1, h1, h⟩ := q_bdi h
  refine b_X5_variableCount R h1 (fun T1014 R q => ?_)
  subst q
  obtain ⟨v1, h1, h⟩ := q_bvi h
  refine b_X0_setCounts R h1 (fun T1016 R q => ?_)
  subst q
  refine ⟨_, q_p1603 R, ?_⟩
  obtain ⟨v1, h1, h⟩ := q_bvi h
  refine b_X0_setWays R h1 (fun T1018 R q => ?_)
  subst q
  exact q_finv h kk R
def fX8_readDuty (x1 : Int32) (S : q_V) : Option q_V :=
  q_bv (fX9_expect 300 S) (fun T2 =>
  q_lt ((q_j T2 1808) : Int64) (fun z4 =>
  q_lt ((q_i T2 1806) : Int32) (fun y5 =>
  q_bv (fX9_expect 259 T2) (fun T6 =>
  q_bd (fX9_isStopped T6) (fun y9 T8 =>
  if y9 = 0 then
  q_bv (fX5_beginDuty x1 z4 y5 T8) (fun T11 =>
  q_bv (fX0_addDuty x1 y5 T11) (fun T13 =>
  q_bv (fX9_expect 40 T13) (fun T15 =>
  if (q_i T15 1805) = 41 then
  fX8_readDuty_b94 x1 T15
  else
  q_bv (fX8_readParameters T15) (fun T17 =>
  fX8_readDuty_b94 x1 T17))))
  else
  some T8)))))
theorem b_X8_readDuty {g : q_G} {S0 : kp_S} {x1 : Int32} {S : kp_S} {post : kp_S → Prop} {v : q_V} (R : q_Gd 1 g S0 S)  (h : fX8_readDuty x1 (q_w g S) = some v) (kk : ∀ S, q_Gd 1 g S0 S → v = q_w g S → post S) : wX8_readDuty (g 0 8 0) x1 S post := by
  unfold wX8_readDuty; unfold fX8_readDuty at h
  refine ⟨_, q_p1600 R, ?_⟩
  obtain ⟨v1, h1, h⟩ := q_bvi h
  refine b_X9_expect R h1 (fun T2 R q => ?_)
  subst q
  refine ⟨_, q_p1600 R, ?_⟩
  intro z4 q
  replace h := q_ltw h q
  intro y5 q
  replace h := q_ltw h q
  obtain ⟨v1, h1, h⟩ := q_bvi h
  refine b_X9_expect R h1 (fun T6 R q => ?_)
  subst q
  refine ⟨_, q_p1600 R, ?_⟩
  obtain ⟨y9, v1, h1, h⟩ := q_bdi h
  refine b_X9_isStopped R h1 (fun T8 R q => ?_)
  subst q
  refine ⟨fun c => ?_, fun c => ?_⟩
  · replace h := q_ifp h c
    refine ⟨_, q_p1601 R, ?_⟩
    obtain ⟨v1, h1, h⟩ := q_bvi h
    refine b_X5_beginDuty R h1 (fun T11 R q => ?_)
    subst q
    refine ⟨_, q_p1603 R, ?_⟩
    obtain ⟨v1, h1, h⟩ := q_bvi h
    refine b_X0_addDuty R h1 (fun T13 R q => ?_)
    subst q
    refine ⟨_, q_p1600 R, ?_⟩
    obtain ⟨v1, h1, h⟩ := q_bvi h
    refine b_X9_expect R h1 (fun T15 R q => ?_)
    subst q
    refine ⟨_, q_p1600 R, ?_⟩
    refine ⟨fun c => ?_, fun c => ?_⟩
    · replace h := q_ifp h c
      exact b_X8_readDuty_b94 R h kk
    · replace h := q_ifn h c
      obtain ⟨v1, h1, h⟩ := q_bvi h
      refine b_X8_readParameters R h1 (fun T17 R q => ?_)
      subst q
      exact b_X8_readDuty_b94 R h kk
  · replace h := q_ifn h c
    exact q_finv h kk R
def fX8_readText_b98 (x2 : Int32) (Sn : q_V) : Option q_V :=
  some Sn
theorem b_X8_readText_b98 {g : q_G} {S0 : kp_S} {x2 : Int32} {Sn : kp_S} {post : kp_S → Prop} {v : q_V} (R : q_Gd 1 g S0 Sn)  (h : fX8_readText_b98 x2 (q_w g Sn) = some v) (kk : ∀ S, q_Gd 1 g S0 S → v = q_w g S → post S) : wX8_readText_b98 (g 0 8 0) (g 0 0 0) x2 Sn post := by
  unfold wX8_readText_b98; unfold fX8_readText_b98 at h
  exact q_finv h kk R
def fX8_readText_b78 (x2 : Int32) (Sn : q_V) : Option q_V :=
  if (q_i Sn 1805) = 261 then
  fX8_readText_b98 x2 Sn
  else
  q_bv (fX9_refuse Sn) (fun T2002 =>
  fX8_readText_b98 x2 T2002)
theorem b_X8_readText_b78 {g : q_G} {S0 : kp_S} {x2 : Int32} {Sn : kp_S} {post : kp_S → Prop} {v : q_V} (R : q_Gd 1 g S0 Sn)  (h : fX8_readText_b78 x2 (q_w g Sn) = some v) (kk : ∀ S, q_Gd 1 g S0 S → v = q_w g S → post S) : wX8_readText_b78 (g 0 8 0) (g 0 0 0) x2 Sn post := by
  unfold wX8_readText_b78; unfold fX8_readText_b78 at h
  refine ⟨_, q_p1600 R, ?_⟩
  refine ⟨fun c => ?_, fun c => ?_⟩
  · replace h := q_ifp h c
    exact b_X8_readText_b98 R h kk
  · replace h := q_ifn h c
    obtain ⟨v1, h1, h⟩ := q_bvi h
    refine b_X9_refuse R h1 (fun T2002 R q => ?_)
    subst q
    exact b_X8_readText_b98 R h kk
def fX8_readText_L47 (x2 : Int32) : Nat → Int32 → q_V → Option q_V
  | 0, _, _ => none
  | n + 1, xn3, Sn =>
  if 3000 < xn3 then
  fX8_readText_b78 x2 Sn
  else
  if (q_i Sn 1805) = 300 then
  q_bv (fX8_readDuty xn3 Sn) (fun T3002 =>
  q_lt (xn3 + 1 : Int32) (fun y3003 =>
  fX8_readText_L47 x2 n y3003 T3002))
  else
  fX8_readText_b78 x2 Sn
theorem b_X8_readText_L47 {g : q_G} {S0 : kp_S} {x2 : Int32} {post : kp_S → Prop} {v : q_V}  (kk : ∀ S, q_Gd 1 g S0 S → v = q_w g S → post S) : ∀ (n : Nat) (xn3 : Int32) (Sn : kp_S), q_Gd 1 g S0 Sn → fX8_readText_L47 x2 n xn3 (q_w g Sn) = some v → wX8_readText_L47 (g 0 8 0) (g 0 0 0) x2 post n xn3 Sn := by
  intro n
  induction n with
  | zero => intro xn3 Sn _ h; cases h
  | succ n ih =>
    intro xn3 Sn R h
    unfold wX8_readText_L47; unfold fX8_readText_L47 at h
    refine ⟨fun c => ?_, fun c => ?_⟩
    · replace h := q_ifp h c
      exact b_X8_readText_b78 R h kk
    · replace h := q_ifn h c
      refine ⟨_, q_p1600 R, ?_⟩
      refine ⟨fun c => ?_, fun c => ?_⟩
      · replace h := q_ifn h c
        exact b_X8_readText_b78 R h kk
      · replace h := q_ifp h c
        obtain ⟨v1, h1, h⟩ := q_bvi h
        refine b_X8_readDuty R h1 (fun T3002 R q => ?_)
        subst q
        intro y3003 q
        replace h := q_ltw h q
        exact ih _ _ R h
def fX8_readTextR (x2 : Int32) (S : q_V) : Option q_V :=
  q_bv (fX5_clear S) (fun T5 =>
  q_bv (fX9_start x2 T5) (fun T7 =>
  q_bv (fX8_collectDuties T7) (fun T8 =>
  q_bv (fX9_start x2 T8) (fun T10 =>
  q_bv (fX8_readDuty 0 T10) (fun T11 =>
  fX8_readText_L47 x2 q_N 1 T11)))))
theorem b_X8_readTextR {g : q_G} {S0 : kp_S} {x2 : Int32} {S : kp_S} {post : kp_S → Prop} {v : q_V} (R : q_Gd 1 g S0 S)  (h : fX8_readTextR x2 (q_w g S) = some v) (kk : ∀ S, q_Gd 1 g S0 S → v = q_w g S → post S) : wX8_readTextR (g 0 8 0) (g 0 0 0) x2 S post := by
  unfold wX8_readTextR; unfold fX8_readTextR at h
  refine ⟨_, q_p1601 R, ?_⟩
  obtain ⟨v1, h1, h⟩ := q_bvi h
  refine b_X5_clear R h1 (fun T5 R q => ?_)
  subst q
  refine ⟨_, q_p1600 R, ?_⟩
  obtain ⟨v1, h1, h⟩ := q_bvi h
  refine b_X9_start R h1 (fun T7 R q => ?_)
  subst q
  obtain ⟨v1, h1, h⟩ := q_bvi h
  refine b_X8_collectDuties R h1 (fun T8 R q => ?_)
  subst q
  refine ⟨_, q_p1600 R, ?_⟩
  obtain ⟨v1, h1, h⟩ := q_bvi h
  refine b_X9_start R h1 (fun T10 R q => ?_)
  subst q
  obtain ⟨v1, h1, h⟩ := q_bvi h
  refine b_X8_readDuty R h1 (fun T11 R q => ?_)
  subst q
  exact ⟨q_N, b_X8_readText_L47 kk q_N _ _ R h⟩
