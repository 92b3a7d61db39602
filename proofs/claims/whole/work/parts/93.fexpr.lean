/-! The functions of the methods, and the rows that they speak for the w. (generated: wip/whole/gen2.py) -/
def fX2_endJoined (x1 : Int32) (S : q_V) : Option q_V :=
  q_bd (fX0_add 7 S) (fun y3 T2 =>
  q_bd (fX0_size T2) (fun y6 T5 =>
  q_bv (fX0_set ((x1 + 1)) y6 T5) (fun T7 =>
  some T7)))
theorem b_X2_endJoined {g : q_G} {S0 : kp_S} {x1 : Int32} {S : kp_S} {post : kp_S → Prop} {v : q_V} (R : q_Gd 1 g S0 S)  (h : fX2_endJoined x1 (q_w g S) = some v) (kk : ∀ S, q_Gd 1 g S0 S → v = q_w g S → post S) : wX2_endJoined (g 0 2 0) x1 S post := by
  unfold wX2_endJoined; unfold fX2_endJoined at h
  refine ⟨_, q_p402 R, ?_⟩
  obtain ⟨y3, v1, h1, h⟩ := q_bdi h
  refine b_X0_add R h1 (fun T2 R q => ?_)
  subst q
  refine ⟨_, q_p402 R, ?_⟩
  obtain ⟨y6, v1, h1, h⟩ := q_bdi h
  refine b_X0_size R h1 (fun T5 R q => ?_)
  subst q
  obtain ⟨v1, h1, h⟩ := q_bvi h
  refine b_X0_set R h1 (fun T7 R q => ?_)
  subst q
  exact q_finv h kk R
def fX2_comparison (x0 : Int32) (S : q_V) : Option (Int32 × q_V) :=
  if x0 = 60 then
  some (15, S)
  else
  if x0 = 256 then
  some (13, S)
  else
  if x0 = 257 then
  some (14, S)
  else
  if x0 = 258 then
  some (16, S)
  else
  some ((- 1), S)
theorem b_X2_comparison {g : q_G} {S0 : kp_S} {x0 : Int32} {S : kp_S} {post : Int32 → kp_S → Prop} {y : Int32} {v : q_V} (R : q_Gd 1 g S0 S)  (h : fX2_comparison x0 (q_w g S) = some (y, v)) (kk : ∀ S, q_Gd 1 g S0 S → v = q_w g S → post y S) : wX2_comparison x0 S post := by
  unfold wX2_comparison; unfold fX2_comparison at h
  refine ⟨fun c => ?_, fun c => ?_⟩
  · replace h := q_ifp h c
    exact q_fin h kk R
  · replace h := q_ifn h c
    refine ⟨fun c => ?_, fun c => ?_⟩
    · replace h := q_ifp h c
      exact q_fin h kk R
    · replace h := q_ifn h c
      refine ⟨fun c => ?_, fun c => ?_⟩
      · replace h := q_ifp h c
        exact q_fin h kk R
      · replace h := q_ifn h c
        refine ⟨fun c => ?_, fun c => ?_⟩
        · replace h := q_ifp h c
          exact q_fin h kk R
        · replace h := q_ifn h c
          exact q_fin h kk R
def fX2_factor (x0 : Int32) (S : q_V) : Option (Int32 × q_V) :=
  if x0 = 37 then
  some (12, S)
  else
  if x0 = 42 then
  some (10, S)
  else
  if x0 = 47 then
  some (11, S)
  else
  some ((- 1), S)
theorem b_X2_factor {g : q_G} {S0 : kp_S} {x0 : Int32} {S : kp_S} {post : Int32 → kp_S → Prop} {y : Int32} {v : q_V} (R : q_Gd 1 g S0 S)  (h : fX2_factor x0 (q_w g S) = some (y, v)) (kk : ∀ S, q_Gd 1 g S0 S → v = q_w g S → post y S) : wX2_factor x0 S post := by
  unfold wX2_factor; unfold fX2_factor at h
  refine ⟨fun c => ?_, fun c => ?_⟩
  · replace h := q_ifp h c
    exact q_fin h kk R
  · replace h := q_ifn h c
    refine ⟨fun c => ?_, fun c => ?_⟩
    · replace h := q_ifp h c
      exact q_fin h kk R
    · replace h := q_ifn h c
      refine ⟨fun c => ?_, fun c => ?_⟩
      · replace h := q_ifp h c
        exact q_fin h kk R
      · replace h := q_ifn h c
        exact q_fin h kk R
def fX2_number_b34 (xt0 : Int32) (Sn : q_V) : Option (Int32 × q_V) :=
  some (xt0, Sn)
theorem b_X2_number_b34 {g : q_G} {S0 : kp_S} {xt0 : Int32} {Sn : kp_S} {post : Int32 → kp_S → Prop} {y : Int32} {v : q_V} (R : q_Gd 1 g S0 Sn)  (h : fX2_number_b34 xt0 (q_w g Sn) = some (y, v)) (kk : ∀ S, q_Gd 1 g S0 S → v = q_w g S → post y S) : wX2_number_b34 (g 0 2 0) xt0 Sn post := by
  unfold wX2_number_b34; unfold fX2_number_b34 at h
  exact q_fin h kk R
def fX2_number (S : q_V) : Option (Int32 × q_V) :=
  q_lt ((q_i S 1807) : Int32) (fun y2 =>
  q_bv (fX9_advance S) (fun T3 =>
  q_bd (fX0_add_ 1 y2 T3) (fun y6 T5 =>
  if y2 ≤ 0 then
  fX2_number_b34 0 T5
  else
  fX2_number_b34 2 T5)))
theorem b_X2_number {g : q_G} {S0 : kp_S} {S : kp_S} {post : Int32 → kp_S → Prop} {y : Int32} {v : q_V} (R : q_Gd 1 g S0 S)  (h : fX2_number (q_w g S) = some (y, v)) (kk : ∀ S, q_Gd 1 g S0 S → v = q_w g S → post y S) : wX2_number (g 0 2 0) S post := by
  unfold wX2_number; unfold fX2_number at h
  refine ⟨_, q_p400 R, ?_⟩
  intro y2 q
  replace h := q_ltw h q
  obtain ⟨v1, h1, h⟩ := q_bvi h
  refine b_X9_advance R h1 (fun T3 R q => ?_)
  subst q
  refine ⟨_, q_p402 R, ?_⟩
  obtain ⟨y6, v1, h1, h⟩ := q_bdi h
  refine b_X0_add_ R h1 (fun T5 R q => ?_)
  subst q
  refine ⟨fun c => ?_, fun c => ?_⟩
  · replace h := q_ifp h c
    exact b_X2_number_b34 R h kk
  · replace h := q_ifn h c
    exact b_X2_number_b34 R h kk
def fX2_register (x1 : Int32) (S : q_V) : Option (Int32 × q_V) :=
  q_bv (fX9_advance S) (fun T2 =>
  q_bd (fX0_add x1 T2) (fun y5 T4 =>
  some (0, T4)))
theorem b_X2_register {g : q_G} {S0 : kp_S} {x1 : Int32} {S : kp_S} {post : Int32 → kp_S → Prop} {y : Int32} {v : q_V} (R : q_Gd 1 g S0 S)  (h : fX2_register x1 (q_w g S) = some (y, v)) (kk : ∀ S, q_Gd 1 g S0 S → v = q_w g S → post y S) : wX2_register (g 0 2 0) x1 S post := by
  unfold wX2_register; unfold fX2_register at h
  refine ⟨_, q_p400 R, ?_⟩
  obtain ⟨v1, h1, h⟩ := q_bvi h
  refine b_X9_advance R h1 (fun T2 R q => ?_)
  subst q
  refine ⟨_, q_p402 R, ?_⟩
  obtain ⟨y5, v1, h1, h⟩ := q_bdi h
  refine b_X0_add R h1 (fun T4 R q => ?_)
  subst q
  exact q_fin h kk R
def fX2_conjunction_b65 (U : q_V → Option (Int32 × q_V)) (N : q_V → Option (Int32 × q_V)) (xn1 : Int32) (Sn : q_V) : Option (Int32 × q_V) :=
  some (xn1, Sn)
theorem b_X2_conjunction_b65 {g : q_G} {S0 : kp_S} {Uf : q_V → Option (Int32 × q_V)} {U : Nat → kp_S → (Int32 → kp_S → Prop) → Prop} {Nf : q_V → Option (Int32 × q_V)} {N : Nat → kp_S → (Int32 → kp_S → Prop) → Prop} {xn1 : Int32} {Sn : kp_S} {post : Int32 → kp_S → Prop} {y : Int32} {v : q_V} (R : q_Gd 1 g S0 Sn) (hU : ∀ (S : kp_S) (y : Int32) (v : q_V) (post : Int32 → kp_S → Prop), q_Gd 1 g S0 S → Uf (q_w g S) = some (y, v) → (∀ S, q_Gd 1 g S0 S → v = q_w g S → post y S) → U (g 0 2 0) S post) (hN : ∀ (S : kp_S) (y : Int32) (v : q_V) (post : Int32 → kp_S → Prop), q_Gd 1 g S0 S → Nf (q_w g S) = some (y, v) → (∀ S, q_Gd 1 g S0 S → v = q_w g S → post y S) → N (g 0 2 0) S post) (h : fX2_conjunction_b65 Uf Nf xn1 (q_w g Sn) = some (y, v)) (kk : ∀ S, q_Gd 1 g S0 S → v = q_w g S → post y S) : wX2_conjunction_b65 U N (g 0 2 0) xn1 Sn post := by
  unfold wX2_conjunction_b65; unfold fX2_conjunction_b65 at h
  exact q_fin h kk R
def fX2_conjunction_L7 (U : q_V → Option (Int32 × q_V)) (N : q_V → Option (Int32 × q_V)) : Nat → Int32 → Int32 → q_V → Option (Int32 × q_V)
  | 0, _, _, _ => none
  | n + 1, xn1, xn2, Sn =>
  if 3000 ≤ xn2 then
  fX2_conjunction_b65 U N xn1 Sn
  else
  if (q_i Sn 1805) = 327 then
  q_bv (fX9_advance Sn) (fun T2002 =>
  q_bd (fX0_add_ 25 0 T2002) (fun y2005 T2004 =>
  q_bd (N T2004) (fun y2007 T2006 =>
  q_lt (((xn1 ||| y2007) &&& 1) : Int32) (fun y2008 =>
  q_bv (fX2_endJoined y2005 T2006) (fun T2009 =>
  q_lt (xn2 + 1 : Int32) (fun y2010 =>
  fX2_conjunction_L7 U N n y2008 y2010 T2009))))))
  else
  fX2_conjunction_b65 U N xn1 Sn
theorem b_X2_conjunction_L7 {g : q_G} {S0 : kp_S} {Uf : q_V → Option (Int32 × q_V)} {U : Nat → kp_S → (Int32 → kp_S → Prop) → Prop} {Nf : q_V → Option (Int32 × q_V)} {N : Nat → kp_S → (Int32 → kp_S → Prop) → Prop} {post : Int32 → kp_S → Prop} {y : Int32} {v : q_V} (hU : ∀ (S : kp_S) (y : Int32) (v : q_V) (post : Int32 → kp_S → Prop), q_Gd 1 g S0 S → Uf (q_w g S) = some (y, v) → (∀ S, q_Gd 1 g S0 S → v = q_w g S → post y S) → U (g 0 2 0) S post) (hN : ∀ (S : kp_S) (y : Int32) (v : q_V) (post : Int32 → kp_S → Prop), q_Gd 1 g S0 S → Nf (q_w g S) = some (y, v) → (∀ S, q_Gd 1 g S0 S → v = q_w g S → post y S) → N (g 0 2 0) S post) (kk : ∀ S, q_Gd 1 g S0 S → v = q_w g S → post y S) : ∀ (n : Nat) (xn1 : Int32) (xn2 : Int32) (Sn : kp_S), q_Gd 1 g S0 Sn → fX2_conjunction_L7 Uf Nf n xn1 xn2 (q_w g Sn) = some (y, v) → wX2_conjunction_L7 U N (g 0 2 0) post n xn1 xn2 Sn := by
  intro n
  induction n with
  | zero => intro xn1 xn2 Sn _ h; cases h
  | succ n ih =>
    intro xn1 xn2 Sn R h
    unfold wX2_conjunction_L7; unfold fX2_conjunction_L7 at h
    refine ⟨fun c => ?_, fun c => ?_⟩
    · replace h := q_ifp h c
      exact b_X2_conjunction_b65 R hU hN h kk
    · replace h := q_ifn h c
      refine ⟨_, q_p400 R, ?_⟩
      refine ⟨fun c => ?_, fun c => ?_⟩
      · replace h := q_ifn h c
        exact b_X2_conjunction_b65 R hU hN h kk
      · replace h := q_ifp h c
        obtain ⟨v1, h1, h⟩ := q_bvi h
        refine b_X9_advance R h1 (fun T2002 R q => ?_)
        subst q
        refine ⟨_, q_p402 R, ?_⟩
        obtain ⟨y2005, v1, h1, h⟩ := q_bdi h
        refine b_X0_add_ R h1 (fun T2004 R q => ?_)
        subst q
        obtain ⟨y2007, v1, h1, h⟩ := q_bdi h
        refine hN _ _ _ _ R h1 (fun T2006 R q => ?_)
        subst q
        intro y2008 q
        replace h := q_ltw h q
        obtain ⟨v1, h1, h⟩ := q_bvi h
        refine b_X2_endJoined R h1 (fun T2009 R q => ?_)
        subst q
        intro y2010 q
        replace h := q_ltw h q
        exact ih _ _ _ R h
def fX2_conjunction (U : q_V → Option (Int32 × q_V)) (N : q_V → Option (Int32 × q_V)) (S : q_V) : Option (Int32 × q_V) :=
  q_bd (N S) (fun y2 T1 =>
  fX2_conjunction_L7 U N q_N y2 0 T1)
theorem b_X2_conjunction {g : q_G} {S0 : kp_S} {Uf : q_V → Option (Int32 × q_V)} {U : Nat → kp_S → (Int32 → kp_S → Prop) → Prop} {Nf : q_V → Option (Int32 × q_V)} {N : Nat → kp_S → (Int32 → kp_S → Prop) → Prop} {S : kp_S} {post : Int32 → kp_S → Prop} {y : Int32} {v : q_V} (R : q_Gd 1 g S0 S) (hU : ∀ (S : kp_S) (y : Int32) (v : q_V) (post : Int32 → kp_S → Prop), q_Gd 1 g S0 S → Uf (q_w g S) = some (y, v) → (∀ S, q_Gd 1 g S0 S → v = q_w g S → post y S) → U (g 0 2 0) S post) (hN : ∀ (S : kp_S) (y : Int32) (v : q_V) (post : Int32 → kp_S → Prop), q_Gd 1 g S0 S → Nf (q_w g S) = some (y, v) → (∀ S, q_Gd 1 g S0 S → v = q_w g S → post y S) → N (g 0 2 0) S post) (h : fX2_conjunction Uf Nf (q_w g S) = some (y, v)) (kk : ∀ S, q_Gd 1 g S0 S → v = q_w g S → post y S) : wX2_conjunction U N (g 0 2 0) S post := by
  unfold wX2_conjunction; unfold fX2_conjunction at h
  obtain ⟨y2, v1, h1, h⟩ := q_bdi h
  refine hN _ _ _ _ R h1 (fun T1 R q => ?_)
  subst q
  exact ⟨q_N, b_X2_conjunction_L7 hU hN kk q_N _ _ _ R h⟩
def fX2_whole_b65 (U : q_V → Option (Int32 × q_V)) (N : q_V → Option (Int32 × q_V)) (xn1 : Int32) (Sn : q_V) : Option (Int32 × q_V) :=
  some (xn1, Sn)
theorem b_X2_whole_b65 {g : q_G} {S0 : kp_S} {Uf : q_V → Option (Int32 × q_V)} {U : Nat → kp_S → (Int32 → kp_S → Prop) → Prop} {Nf : q_V → Option (Int32 × q_V)} {N : Nat → kp_S → (Int32 → kp_S → Prop) → Prop} {xn1 : Int32} {Sn : kp_S} {post : Int32 → kp_S → Prop} {y : Int32} {v : q_V} (R : q_Gd 1 g S0 Sn) (hU : ∀ (S : kp_S) (y : Int32) (v : q_V) (post : Int32 → kp_S → Prop), q_Gd 1 g S0 S → Uf (q_w g S) = some (y, v) → (∀ S, q_Gd 1 g S0 S → v = q_w g S → post y S) → U (g 0 2 0) S post) (hN : ∀ (S : kp_S) (y : Int32) (v : q_V) (post : Int32 → kp_S → Prop), q_Gd 1 g S0 S → Nf (q_w g S) = some (y, v) → (∀ S, q_Gd 1 g S0 S → v = q_w g S → post y S) → N (g 0 2 0) S post) (h : fX2_whole_b65 Uf Nf xn1 (q_w g Sn) = some (y, v)) (kk : ∀ S, q_Gd 1 g S0 S → v = q_w g S → post y S) : wX2_whole_b65 U N (g 0 2 0) xn1 Sn post := by
  unfold wX2_whole_b65; unfold fX2_whole_b65 at h
  exact q_fin h kk R
def fX2_whole_L7 (U : q_V → Option (Int32 × q_V)) (N : q_V → Option (Int32 × q_V)) : Nat → Int32 → Int32 → q_V → Option (Int32 × q_V)
  | 0, _, _, _ => none
  | n + 1, xn1, xn2, Sn =>
  if 3000 ≤ xn2 then
  fX2_whole_b65 U N xn1 Sn
  else
  if (q_i Sn 1805) = 326 then
  q_bv (fX9_advance Sn) (fun T2002 =>
  q_bd (fX0_add_ 24 0 T2002) (fun y2005 T2004 =>
  q_bd (fX2_conjunction U N T2004) (fun y2007 T2006 =>
  q_lt (((xn1 ||| y2007) &&& 1) : Int32) (fun y2008 =>
  q_bv (fX2_endJoined y2005 T2006) (fun T2009 =>
  q_lt (xn2 + 1 : Int32) (fun y2010 =>
  fX2_whole_L7 U N n y2008 y2010 T2009))))))
  else
  fX2_whole_b65 U N xn1 Sn
theorem b_X2_whole_L7 {g : q_G} {S0 : kp_S} {Uf : q_V → Option (Int32 × q_V)} {U : Nat → kp_S → (Int32 → kp_S → Prop) → Prop} {Nf : q_V → Option (Int32 × q_V)} {N : Nat → kp_S → (Int32 → kp_S → Prop) → Prop} {post : Int32 → kp_S → Prop} {y : Int32} {v : q_V} (hU : ∀ (S : kp_S) (y : Int32) (v : q_V) (post : Int32 → kp_S → Prop), q_Gd 1 g S0 S → Uf (q_w g S) = some (y, v) → (∀ S, q_Gd 1 g S0 S → v = q_w g S → post y S) → U (g 0 2 0) S post) (hN : ∀ (S : kp_S) (y : Int32) (v : q_V) (post : Int32 → kp_S → Prop), q_Gd 1 g S0 S → Nf (q_w g S) = some (y, v) → (∀ S, q_Gd 1 g S0 S → v = q_w g S → post y S) → N (g 0 2 0) S post) (kk : ∀ S, q_Gd 1 g S0 S → v = q_w g S → post y S) : ∀ (n : Nat) (xn1 : Int32) (xn2 : Int32) (Sn : kp_S), q_Gd 1 g S0 Sn → fX2_whole_L7 Uf Nf n xn1 xn2 (q_w g Sn) = some (y, v) → wX2_whole_L7 U N (g 0 2 0) post n xn1 xn2 Sn := by
  intro n
  induction n with
  | zero => intro xn1 xn2 Sn _ h; cases h
  | succ n ih =>
    intro xn1 xn2 Sn R h
    unfold wX2_whole_L7; unfold fX2_whole_L7 at h
    refine ⟨fun c => ?_, fun c => ?_⟩
    · replace h := q_ifp h c
      exact b_X2_whole_b65 R hU hN h kk
    · replace h := q_ifn h c
      refine ⟨_, q_p400 R, ?_⟩
      refine ⟨fun c => ?_, fun c => ?_⟩
      · replace h := q_ifn h c
        exact b_X2_whole_b65 R hU hN h kk
      · replace h := q_ifp h c
        obtain ⟨v1, h1, h⟩ := q_bvi h
        refine b_X9_advance R h1 (fun T2002 R q => ?_)
        subst q
        refine ⟨_, q_p402 R, ?_⟩
        obtain ⟨y2005, v1, h1, h⟩ := q_bdi h
        refine b_X0_add_ R h1 (fun T2004 R q => ?_)
        subst q
        obtain ⟨y2007, v1, h1, h⟩ := q_bdi h
        refine b_X2_conjunction R hU hN h1 (fun T2006 R q => ?_)
        subst q
        intro y2008 q
        replace h := q_ltw h q
        obtain ⟨v1, h1, h⟩ := q_bvi h
        refine b_X2_endJoined R h1 (fun T2009 R q => ?_)
        subst q
        intro y2010 q
        replace h := q_ltw h q
        exact ih _ _ _ R h
def fX2_whole (U : q_V → Option (Int32 × q_V)) (N : q_V → Option (Int32 × q_V)) (S : q_V) : Option (Int32 × q_V) :=
  q_bd (fX2_conjunction U N S) (fun y2 T1 =>
  fX2_whole_L7 U N q_N y2 0 T1)
theorem b_X2_whole {g : q_G} {S0 : kp_S} {Uf : q_V → Option (Int32 × q_V)} {U : Nat → kp_S → (Int32 → kp_S → Prop) → Prop} {Nf : q_V → Option (Int32 × q_V)} {N : Nat → kp_S → (Int32 → kp_S → Prop) → Prop} {S : kp_S} {post : Int32 → kp_S → Prop} {y : Int32} {v : q_V} (R : q_Gd 1 g S0 S) (hU : ∀ (S : kp_S) (y : Int32) (v : q_V) (post : Int32 → kp_S → Prop), q_Gd 1 g S0 S → Uf (q_w g S) = some (y, v) → (∀ S, q_Gd 1 g S0 S → v = q_w g S → post y S) → U (g 0 2 0) S post) (hN : ∀ (S : kp_S) (y : Int32) (v : q_V) (post : Int32 → kp_S → Prop), q_Gd 1 g S0 S → Nf (q_w g S) = some (y, v) → (∀ S, q_Gd 1 g S0 S → v = q_w g S → post y S) → N (g 0 2 0) S post) (h : fX2_whole Uf Nf (q_w g S) = some (y, v)) (kk : ∀ S, q_Gd 1 g S0 S → v = q_w g S → post y S) : wX2_whole U N (g 0 2 0) S post := by
  unfold wX2_whole; unfold fX2_whole at h
  obtain ⟨y2, v1, h1, h⟩ := q_bdi h
  refine b_X2_conjunction R hU hN h1 (fun T1 R q => ?_)
  subst q
  exact ⟨q_N, b_X2_whole_L7 hU hN kk q_N _ _ _ R h⟩
def fX2_inBrackets_b27 (U : q_V → Option (Int32 × q_V)) (N : q_V → Option (Int32 × q_V)) (xt0 : Int32) (Sn : q_V) : Option (Int32 × q_V) :=
  q_bv (fX9_endNest Sn) (fun T1002 =>
  q_bv (fX9_expect 41 T1002) (fun T1004 =>
  some (xt0, T1004)))
theorem b_X2_inBrackets_b27 {g : q_G} {S0 : kp_S} {Uf : q_V → Option (Int32 × q_V)} {U : Nat → kp_S → (Int32 → kp_S → Prop) → Prop} {Nf : q_V → Option (Int32 × q_V)} {N : Nat → kp_S → (Int32 → kp_S → Prop) → Prop} {xt0 : Int32} {Sn : kp_S} {post : Int32 → kp_S → Prop} {y : Int32} {v : q_V} (R : q_Gd 1 g S0 Sn) (hU : ∀ (S : kp_S) (y : Int32) (v : q_V) (post : Int32 → kp_S → Prop), q_Gd 1 g S0 S → Uf (q_w g S) = some (y, v) → (∀ S, q_Gd 1 g S0 S → v = q_w g S → post y S) → U (g 0 2 0) S post) (hN : ∀ (S : kp_S) (y : Int32) (v : q_V) (post : Int32 → kp_S → Prop), q_Gd 1 g S0 S → Nf (q_w g S) = some (y, v) → (∀ S, q_Gd 1 g S0 S → v = q_w g S → post y S) → N (g 0 2 0) S post) (h : fX2_inBrackets_b27 Uf Nf xt0 (q_w g Sn) = some (y, v)) (kk : ∀ S, q_Gd 1 g S0 S → v = q_w g S → post y S) : wX2_inBrackets_b27 U N (g 0 2 0) xt0 Sn post := by
  unfold wX2_inBrackets_b27; unfold fX2_inBrackets_b27 at h
  refine ⟨_, q_p400 R, ?_⟩
  obtain ⟨v1, h1, h⟩ := q_bvi h
  refine b_X9_endNest R h1 (fun T1002 R q => ?_)
  subst q
  refine ⟨_, q_p400 R, ?_⟩
  obtain ⟨v1, h1, h⟩ := q_bvi h
  refine b_X9_expect R h1 (fun T1004 R q => ?_)
  subst q
  exact q_fin h kk R
def fX2_inBrackets (U : q_V → Option (Int32 × q_V)) (N : q_V → Option (Int32 × q_V)) (S : q_V) : Option (Int32 × q_V) :=
  q_bv (fX9_expectNest 40 S) (fun T2 =>
  q_bd (fX9_isStopped T2) (fun y5 T4 =>
  if y5 = 0 then
  q_bd (fX2_whole U N T4) (fun y7 T6 =>
  fX2_inBrackets_b27 U N y7 T6)
  else
  fX2_inBrackets_b27 U N 0 T4))
theorem b_X2_inBrackets {g : q_G} {S0 : kp_S} {Uf : q_V → Option (Int32 × q_V)} {U : Nat → kp_S → (Int32 → kp_S → Prop) → Prop} {Nf : q_V → Option (Int32 × q_V)} {N : Nat → kp_S → (Int32 → kp_S → Prop) → Prop} {S : kp_S} {post : Int32 → kp_S → Prop} {y : Int32} {v : q_V} (R : q_Gd 1 g S0 S) (hU : ∀ (S : kp_S) (y : Int32) (v : q_V) (post : Int32 → kp_S → Prop), q_Gd 1 g S0 S → Uf (q_w g S) = some (y, v) → (∀ S, q_Gd 1 g S0 S → v = q_w g S → post y S) → U (g 0 2 0) S post) (hN : ∀ (S : kp_S) (y : Int32) (v : q_V) (post : Int32 → kp_S → Prop), q_Gd 1 g S0 S → Nf (q_w g S) = some (y, v) → (∀ S, q_Gd 1 g S0 S → v = q_w g S → post y S) → N (g 0 2 0) S post) (h : fX2_inBrackets Uf Nf (q_w g S) = some (y, v)) (kk : ∀ S, q_Gd 1 g S0 S → v = q_w g S → post y S) : wX2_inBrackets U N (g 0 2 0) S post := by
  unfold wX2_inBrackets; unfold fX2_inBrackets at h
  refine ⟨_, q_p400 R, ?_⟩
  obtain ⟨v1, h1, h⟩ := q_bvi h
  refine b_X9_expectNest R h1 (fun T2 R q => ?_)
  subst q
  refine ⟨_, q_p400 R, ?_⟩
  obtain ⟨y5, v1, h1, h⟩ := q_bdi h
  refine b_X9_isStopped R h1 (fun T4 R q => ?_)
  subst q
  refine ⟨fun c => ?_, fun c => ?_⟩
  · replace h := q_ifp h c
    obtain ⟨y7, v1, h1, h⟩ := q_bdi h
    refine b_X2_whole R hU hN h1 (fun T6 R q => ?_)
    subst q
    exact b_X2_inBrackets_b27 R hU hN h kk
  · replace h := q_ifn h c
    exact b_X2_inBrackets_b27 R hU hN h kk
def fX2_callOf_b86 (U : q_V → Option (Int32 × q_V)) (N : q_V → Option (Int32 × q_V)) (w1 : Int64) (x3 : Int32) (xn4 : Int32) (Sn : q_V) : Option q_V :=
  q_bv (fX9_endNest Sn) (fun T1002 =>
  q_bv (fX9_expect 41 T1002) (fun T1004 =>
  q_bd (fX5_callee w1 x3 xn4 T1004) (fun y1008 T1007 =>
  q_bd (fX0_add_ 53 y1008 T1007) (fun y1010 T1009 =>
  some T1009))))
theorem b_X2_callOf_b86 {g : q_G} {S0 : kp_S} {Uf : q_V → Option (Int32 × q_V)} {U : Nat → kp_S → (Int32 → kp_S → Prop) → Prop} {Nf : q_V → Option (Int32 × q_V)} {N : Nat → kp_S → (Int32 → kp_S → Prop) → Prop} {w1 : Int64} {x3 : Int32} {xn4 : Int32} {Sn : kp_S} {post : kp_S → Prop} {v : q_V} (R : q_Gd 1 g S0 Sn) (hU : ∀ (S : kp_S) (y : Int32) (v : q_V) (post : Int32 → kp_S → Prop), q_Gd 1 g S0 S → Uf (q_w g S) = some (y, v) → (∀ S, q_Gd 1 g S0 S → v = q_w g S → post y S) → U (g 0 2 0) S post) (hN : ∀ (S : kp_S) (y : Int32) (v : q_V) (post : Int32 → kp_S → Prop), q_Gd 1 g S0 S → Nf (q_w g S) = some (y, v) → (∀ S, q_Gd 1 g S0 S → v = q_w g S → post y S) → N (g 0 2 0) S post) (h : fX2_callOf_b86 Uf Nf w1 x3 xn4 (q_w g Sn) = some v) (kk : ∀ S, q_Gd 1 g S0 S → v = q_w g S → post S) : wX2_callOf_b86 U N (g 0 2 0) w1 x3 xn4 Sn post := by
  unfold wX2_callOf_b86; unfold fX2_callOf_b86 at h
  refine ⟨_, q_p400 R, ?_⟩
  obtain ⟨v1, h1, h⟩ := q_bvi h
  refine b_X9_endNest R h1 (fun T1002 R q => ?_)
  subst q
  refine ⟨_, q_p400 R, ?_⟩
  obtain ⟨v1, h1, h⟩ := q_bvi h
  refine b_X9_expect R h1 (fun T1004 R q => ?_)
  subst q
  refine ⟨_, q_p402 R, ?_⟩
  refine ⟨_, q_p401 R, ?_⟩
  obtain ⟨y1008, v1, h1, h⟩ := q_bdi h
  refine b_X5_callee R h1 (fun T1007 R q => ?_)
  subst q
  obtain ⟨y1010, v1, h1, h⟩ := q_bdi h
  refine b_X0_add_ R h1 (fun T1009 R q => ?_)
  subst q
  exact q_finv h kk R
def fX2_callOf_L45 (U : q_V → Option (Int32 × q_V)) (N : q_V → Option (Int32 × q_V)) (w1 : Int64) (x3 : Int32) : Nat → Int32 → Int32 → q_V → Option q_V
  | 0, _, _, _ => none
  | n + 1, xn4, xn5, Sn =>
  if 3000 ≤ xn5 then
  fX2_callOf_b86 U N w1 x3 xn4 Sn
  else
  if (q_i Sn 1805) = 44 then
  q_bv (fX9_advance Sn) (fun T2002 =>
  q_bd (fX2_whole U N T2002) (fun y2004 T2003 =>
  q_lt (xn4 + 1 : Int32) (fun y2005 =>
  q_lt (xn5 + 1 : Int32) (fun y2006 =>
  fX2_callOf_L45 U N w1 x3 n y2005 y2006 T2003))))
  else
  fX2_callOf_b86 U N w1 x3 xn4 Sn
theorem b_X2_callOf_L45 {g : q_G} {S0 : kp_S} {Uf : q_V → Option (Int32 × q_V)} {U : Nat → kp_S → (Int32 → kp_S → Prop) → Prop} {Nf : q_V → Option (Int32 × q_V)} {N : Nat → kp_S → (Int32 → kp_S → Prop) → Prop} {w1 : Int64} {x3 : Int32} {post : kp_S → Prop} {v : q_V} (hU : ∀ (S : kp_S) (y : Int32) (v : q_V) (post : Int32 → kp_S → Prop), q_Gd 1 g S0 S → Uf (q_w g S) = some (y, v) → (∀ S, q_Gd 1 g S0 S → v = q_w g S → post y S) → U (g 0 2 0) S post) (hN : ∀ (S : kp_S) (y : Int32) (v : q_V) (post : Int32 → kp_S → Prop), q_Gd 1 g S0 S → Nf (q_w g S) = some (y, v) → (∀ S, q_Gd 1 g S0 S → v = q_w g S → post y S) → N (g 0 2 0) S post) (kk : ∀ S, q_Gd 1 g S0 S → v = q_w g S → post S) : ∀ (n : Nat) (xn4 : Int32) (xn5 : Int32) (Sn : kp_S), q_Gd 1 g S0 Sn → fX2_callOf_L45 Uf Nf w1 x3 n xn4 xn5 (q_w g Sn) = some v → wX2_callOf_L45 U N (g 0 2 0) w1 x3 post n xn4 xn5 Sn := by
  intro n
  induction n with
  | zero => intro xn4 xn5 Sn _ h; cases h
  | succ n ih =>
    intro xn4 xn5 Sn R h
    unfold wX2_callOf_L45; unfold fX2_callOf_L45 at h
    refine ⟨fun c => ?_, fun c => ?_⟩
    · replace h := q_ifp h c
      exact b_X2_callOf_b86 R hU hN h kk
    · replace h := q_ifn h c
      refine ⟨_, q_p400 R, ?_⟩
      refine ⟨fun c => ?_, fun c => ?_⟩
      · replace h := q_ifn h c
        exact b_X2_callOf_b86 R hU hN h kk
      · replace h := q_ifp h c
        obtain ⟨v1, h1, h⟩ := q_bvi h
        refine b_X9_advance R h1 (fun T2002 R q => ?_)
        subst q
        obtain ⟨y2004, v1, h1, h⟩ := q_bdi h
        refine b_X2_whole R hU hN h1 (fun T2003 R q => ?_)
        subst q
        intro y2005 q
        replace h := q_ltw h q
        intro y2006 q
        replace h := q_ltw h q
        exact ih _ _ _ R h
def fX2_callOf (U : q_V → Option (Int32 × q_V)) (N : q_V → Option (Int32 × q_V)) (w1 : Int64) (x3 : Int32) (S : q_V) : Option q_V :=
  q_bv (fX9_expectNest 40 S) (fun T2 =>
  if (q_i T2 1805) = 41 then
  fX2_callOf_b86 U N w1 x3 0 T2
  else
  q_bd (fX9_isStopped T2) (fun y5 T4 =>
  if y5 = 0 then
  q_bd (fX2_whole U N T4) (fun y7 T6 =>
  q_lt (0 + 1 : Int32) (fun y8 =>
  fX2_callOf_L45 U N w1 x3 q_N y8 0 T6))
  else
  fX2_callOf_b86 U N w1 x3 0 T4))
theorem b_X2_callOf {g : q_G} {S0 : kp_S} {Uf : q_V → Option (Int32 × q_V)} {U : Nat → kp_S → (Int32 → kp_S → Prop) → Prop} {Nf : q_V → Option (Int32 × q_V)} {N : Nat → kp_S → (Int32 → kp_S → Prop) → Prop} {w1 : Int64} {x3 : Int32} {S : kp_S} {post : kp_S → Prop} {v : q_V} (R : q_Gd 1 g S0 S) (hU : ∀ (S : kp_S) (y : Int32) (v : q_V) (post : Int32 → kp_S → Prop), q_Gd 1 g S0 S → Uf (q_w g S) = some (y, v) → (∀ S, q_Gd 1 g S0 S → v = q_w g S → post y S) → U (g 0 2 0) S post) (hN : ∀ (S : kp_S) (y : Int32) (v : q_V) (post : Int32 → kp_S → Prop), q_Gd 1 g S0 S → Nf (q_w g S) = some (y, v) → (∀ S, q_Gd 1 g S0 S → v = q_w g S → post y S) → N (g 0 2 0) S post) (h : fX2_callOf Uf Nf w1 x3 (q_w g S) = some v) (kk : ∀ S, q_Gd 1 g S0 S → v = q_w g S → post S) : wX2_callOf U N (g 0 2 0) w1 x3 S post := by
  unfold wX2_callOf; unfold fX2_callOf at h
  refine ⟨_, q_p400 R, ?_⟩
  obtain ⟨v1, h1, h⟩ := q_bvi h
  refine b_X9_expectNest R h1 (fun T2 R q => ?_)
  subst q
  refine ⟨_, q_p400 R, ?_⟩
  refine ⟨fun c => ?_, fun c => ?_⟩
  · replace h := q_ifp h c
    exact b_X2_callOf_b86 R hU hN h kk
  · replace h := q_ifn h c
    obtain ⟨y5, v1, h1, h⟩ := q_bdi h
    refine b_X9_isStopped R h1 (fun T4 R q => ?_)
    subst q
    refine ⟨fun c => ?_, fun c => ?_⟩
    · replace h := q_ifn h c
      exact b_X2_callOf_b86 R hU hN h kk
    · replace h := q_ifp h c
      obtain ⟨y7, v1, h1, h⟩ := q_bdi h
      refine b_X2_whole R hU hN h1 (fun T6 R q => ?_)
      subst q
      intro y8 q
      replace h := q_ltw h q
      exact ⟨q_N, b_X2_callOf_L45 hU hN kk q_N _ _ _ R h⟩
def fX2_nameOrCall (U : q_V → Option (Int32 × q_V)) (N : q_V → Option (Int32 × q_V)) (S : q_V) : Option (Int32 × q_V) :=
  q_lt ((q_j S 1808) : Int64) (fun z2 =>
  q_lt ((q_i S 1806) : Int32) (fun y3 =>
  q_bv (fX9_advance S) (fun T4 =>
  if (q_i T4 1805) = 40 then
  q_bv (fX2_callOf U N z2 y3 T4) (fun T12 =>
  some (1, T12))
  else
  q_bd (fX5_slotOf z2 y3 T4) (fun y9 T8 =>
  q_bd (fX0_add_ 2 y9 T8) (fun y11 T10 =>
  some (0, T10))))))
theorem b_X2_nameOrCall {g : q_G} {S0 : kp_S} {Uf : q_V → Option (Int32 × q_V)} {U : Nat → kp_S → (Int32 → kp_S → Prop) → Prop} {Nf : q_V → Option (Int32 × q_V)} {N : Nat → kp_S → (Int32 → kp_S → Prop) → Prop} {S : kp_S} {post : Int32 → kp_S → Prop} {y : Int32} {v : q_V} (R : q_Gd 1 g S0 S) (hU : ∀ (S : kp_S) (y : Int32) (v : q_V) (post : Int32 → kp_S → Prop), q_Gd 1 g S0 S → Uf (q_w g S) = some (y, v) → (∀ S, q_Gd 1 g S0 S → v = q_w g S → post y S) → U (g 0 2 0) S post) (hN : ∀ (S : kp_S) (y : Int32) (v : q_V) (post : Int32 → kp_S → Prop), q_Gd 1 g S0 S → Nf (q_w g S) = some (y, v) → (∀ S, q_Gd 1 g S0 S → v = q_w g S → post y S) → N (g 0 2 0) S post) (h : fX2_nameOrCall Uf Nf (q_w g S) = some (y, v)) (kk : ∀ S, q_Gd 1 g S0 S → v = q_w g S → post y S) : wX2_nameOrCall U N (g 0 2 0) S post := by
  unfold wX2_nameOrCall; unfold fX2_nameOrCall at h
  refine ⟨_, q_p400 R, ?_⟩
  intro z2 q
  replace h := q_ltw h q
  intro y3 q
  replace h := q_ltw h q
  obtain ⟨v1, h1, h⟩ := q_bvi h
  refine b_X9_advance R h1 (fun T4 R q => ?_)
  subst q
  refine ⟨_, q_p400 R, ?_⟩
  refine ⟨fun c => ?_, fun c => ?_⟩
  · replace h := q_ifn h c
    refine ⟨_, q_p402 R, ?_⟩
    refine ⟨_, q_p401 R, ?_⟩
    obtain ⟨y9, v1, h1, h⟩ := q_bdi h
    refine b_X5_slotOf R h1 (fun T8 R q => ?_)
    subst q
    obtain ⟨y11, v1, h1, h⟩ := q_bdi h
    refine b_X0_add_ R h1 (fun T10 R q => ?_)
    subst q
    exact q_fin h kk R
  · replace h := q_ifp h c
    obtain ⟨v1, h1, h⟩ := q_bvi h
    refine b_X2_callOf R hU hN h1 (fun T12 R q => ?_)
    subst q
    exact q_fin h kk R
def fX2_query_b57 (U : q_V → Option (Int32 × q_V)) (N : q_V → Option (Int32 × q_V)) (x1 : Int32) (x2 : Int32) (Sn : q_V) : Option (Int32 × q_V) :=
  q_bv (fX9_endNest Sn) (fun T1002 =>
  q_bv (fX9_expect 41 T1002) (fun T1004 =>
  q_bd (fX0_add x1 T1004) (fun y1007 T1006 =>
  some (1, T1006))))
theorem b_X2_query_b57 {g : q_G} {S0 : kp_S} {Uf : q_V → Option (Int32 × q_V)} {U : Nat → kp_S → (Int32 → kp_S → Prop) → Prop} {Nf : q_V → Option (Int32 × q_V)} {N : Nat → kp_S → (Int32 → kp_S → Prop) → Prop} {x1 : Int32} {x2 : Int32} {Sn : kp_S} {post : Int32 → kp_S → Prop} {y : Int32} {v : q_V} (R : q_Gd 1 g S0 Sn) (hU : ∀ (S : kp_S) (y : Int32) (v : q_V) (post : Int32 → kp_S → Prop), q_Gd 1 g S0 S → Uf (q_w g S) = some (y, v) → (∀ S, q_Gd 1 g S0 S → v = q_w g S → post y S) → U (g 0 2 0) S post) (hN : ∀ (S : kp_S) (y : Int32) (v : q_V) (post : Int32 → kp_S → Prop), q_Gd 1 g S0 S → Nf (q_w g S) = some (y, v) → (∀ S, q_Gd 1 g S0 S → v = q_w g S → post y S) → N (g 0 2 0) S post) (h : fX2_query_b57 Uf Nf x1 x2 (q_w g Sn) = some (y, v)) (kk : ∀ S, q_Gd 1 g S0 S → v = q_w g S → post y S) : wX2_query_b57 U N (g 0 2 0) x1 x2 Sn post := by
  unfold wX2_query_b57; unfold fX2_query_b57 at h
  refine ⟨_, q_p400 R, ?_⟩
  obtain ⟨v1, h1, h⟩ := q_bvi h
  refine b_X9_endNest R h1 (fun T1002 R q => ?_)
  subst q
  refine ⟨_, q_p400 R, ?_⟩
  obtain ⟨v1, h1, h⟩ := q_bvi h
  refine b_X9_expect R h1 (fun T1004 R q => ?_)
  subst q
  refine ⟨_, q_p402 R, ?_⟩
  obtain ⟨y1007, v1, h1, h⟩ := q_bdi h
  refine b_X0_add R h1 (fun T1006 R q => ?_)
  subst q
  exact q_fin h kk R
def fX2_query_b46 (U : q_V → Option (Int32 × q_V)) (N : q_V → Option (Int32 × q_V)) (x1 : Int32) (x2 : Int32) (xn3 : Int32) (K18 : Int32 → q_V → Option (Int32 × q_V)) (Sn : q_V) : Option (Int32 × q_V) :=
  q_bd (fX2_whole U N Sn) (fun y2002 T2001 =>
  q_lt (xn3 + 1 : Int32) (fun y2003 =>
  K18 y2003 T2001))
theorem b_X2_query_b46 {g : q_G} {S0 : kp_S} {Uf : q_V → Option (Int32 × q_V)} {U : Nat → kp_S → (Int32 → kp_S → Prop) → Prop} {Nf : q_V → Option (Int32 × q_V)} {N : Nat → kp_S → (Int32 → kp_S → Prop) → Prop} {x1 : Int32} {x2 : Int32} {xn3 : Int32} {K18f : Int32 → q_V → Option (Int32 × q_V)} {K18 : Int32 → kp_S → Prop} {Sn : kp_S} {post : Int32 → kp_S → Prop} {y : Int32} {v : q_V} (R : q_Gd 1 g S0 Sn) (hU : ∀ (S : kp_S) (y : Int32) (v : q_V) (post : Int32 → kp_S → Prop), q_Gd 1 g S0 S → Uf (q_w g S) = some (y, v) → (∀ S, q_Gd 1 g S0 S → v = q_w g S → post y S) → U (g 0 2 0) S post) (hN : ∀ (S : kp_S) (y : Int32) (v : q_V) (post : Int32 → kp_S → Prop), q_Gd 1 g S0 S → Nf (q_w g S) = some (y, v) → (∀ S, q_Gd 1 g S0 S → v = q_w g S → post y S) → N (g 0 2 0) S post) (hK18 : ∀ (x0 : Int32) (S : kp_S), q_Gd 1 g S0 S → K18f x0 (q_w g S) = some (y, v) → K18 x0 S) (h : fX2_query_b46 Uf Nf x1 x2 xn3 K18f (q_w g Sn) = some (y, v)) (kk : ∀ S, q_Gd 1 g S0 S → v = q_w g S → post y S) : wX2_query_b46 U N (g 0 2 0) x1 x2 xn3 K18 Sn post := by
  unfold wX2_query_b46; unfold fX2_query_b46 at h
  obtain ⟨y2002, v1, h1, h⟩ := q_bdi h
  refine b_X2_whole R hU hN h1 (fun T2001 R q => ?_)
  subst q
  intro y2003 q
  replace h := q_ltw h q
  exact hK18 _ _ R h
def fX2_query_L18 (U : q_V → Option (Int32 × q_V)) (N : q_V → Option (Int32 × q_V)) (x1 : Int32) (x2 : Int32) : Nat → Int32 → q_V → Option (Int32 × q_V)
  | 0, _, _ => none
  | n + 1, xn3, Sn =>
  if x2 ≤ xn3 then
  fX2_query_b57 U N x1 x2 Sn
  else
  q_bd (fX9_isStopped Sn) (fun y3003 T3002 =>
  if y3003 = 0 then
  if xn3 ≤ 0 then
  fX2_query_b46 U N x1 x2 xn3 (fun xn3_ S_ => fX2_query_L18 U N x1 x2 n xn3_ S_) T3002
  else
  q_bv (fX9_expect 44 T3002) (fun T3005 =>
  fX2_query_b46 U N x1 x2 xn3 (fun xn3_ S_ => fX2_query_L18 U N x1 x2 n xn3_ S_) T3005)
  else
  fX2_query_b57 U N x1 x2 T3002)
theorem b_X2_query_L18 {g : q_G} {S0 : kp_S} {Uf : q_V → Option (Int32 × q_V)} {U : Nat → kp_S → (Int32 → kp_S → Prop) → Prop} {Nf : q_V → Option (Int32 × q_V)} {N : Nat → kp_S → (Int32 → kp_S → Prop) → Prop} {x1 : Int32} {x2 : Int32} {post : Int32 → kp_S → Prop} {y : Int32} {v : q_V} (hU : ∀ (S : kp_S) (y : Int32) (v : q_V) (post : Int32 → kp_S → Prop), q_Gd 1 g S0 S → Uf (q_w g S) = some (y, v) → (∀ S, q_Gd 1 g S0 S → v = q_w g S → post y S) → U (g 0 2 0) S post) (hN : ∀ (S : kp_S) (y : Int32) (v : q_V) (post : Int32 → kp_S → Prop), q_Gd 1 g S0 S → Nf (q_w g S) = some (y, v) → (∀ S, q_Gd 1 g S0 S → v = q_w g S → post y S) → N (g 0 2 0) S post) (kk : ∀ S, q_Gd 1 g S0 S → v = q_w g S → post y S) : ∀ (n : Nat) (xn3 : Int32) (Sn : kp_S), q_Gd 1 g S0 Sn → fX2_query_L18 Uf Nf x1 x2 n xn3 (q_w g Sn) = some (y, v) → wX2_query_L18 U N (g 0 2 0) x1 x2 post n xn3 Sn := by
  intro n
  induction n with
  | zero => intro xn3 Sn _ h; cases h
  | succ n ih =>
    intro xn3 Sn R h
    unfold wX2_query_L18; unfold fX2_query_L18 at h
    refine ⟨fun c => ?_, fun c => ?_⟩
    · replace h := q_ifp h c
      exact b_X2_query_b57 R hU hN h kk
    · replace h := q_ifn h c
      refine ⟨_, q_p400 R, ?_⟩
      obtain ⟨y3003, v1, h1, h⟩ := q_bdi h
      refine b_X9_isStopped R h1 (fun T3002 R q => ?_)
      subst q
      refine ⟨fun c => ?_, fun c => ?_⟩
      · replace h := q_ifn h c
        exact b_X2_query_b57 R hU hN h kk
      · replace h := q_ifp h c
        refine ⟨fun c => ?_, fun c => ?_⟩
        · replace h := q_ifp h c
          exact b_X2_query_b46 R hU hN (fun xn3_ S_ R h => ih xn3_ S_ R h) h kk
        · replace h := q_ifn h c
          refine ⟨_, q_p400 R, ?_⟩
          obtain ⟨v1, h1, h⟩ := q_bvi h
          refine b_X9_expect R h1 (fun T3005 R q => ?_)
          subst q
          exact b_X2_query_b46 R hU hN (fun xn3_ S_ R h => ih xn3_ S_ R h) h kk
def fX2_query (U : q_V → Option (Int32 × q_V)) (N : q_V → Option (Int32 × q_V)) (x1 : Int32) (x2 : Int32) (S : q_V) : Option (Int32 × q_V) :=
  q_bv (fX9_advance S) (fun T2 =>
  q_bv (fX9_expectNest 40 T2) (fun T4 =>
  fX2_query_L18 U N x1 x2 q_N 0 T4))
theorem b_X2_query {g : q_G} {S0 : kp_S} {Uf : q_V → Option (Int32 × q_V)} {U : Nat → kp_S → (Int32 → kp_S → Prop) → Prop} {Nf : q_V → Option (Int32 × q_V)} {N : Nat → kp_S → (Int32 → kp_S → Prop) → Prop} {x1 : Int32} {x2 : Int32} {S : kp_S} {post : Int32 → kp_S → Prop} {y : Int32} {v : q_V} (R : q_Gd 1 g S0 S) (hU : ∀ (S : kp_S) (y : Int32) (v : q_V) (post : Int32 → kp_S → Prop), q_Gd 1 g S0 S → Uf (q_w g S) = some (y, v) → (∀ S, q_Gd 1 g S0 S → v = q_w g S → post y S) → U (g 0 2 0) S post) (hN : ∀ (S : kp_S) (y : Int32) (v : q_V) (post : Int32 → kp_S → Prop), q_Gd 1 g S0 S → Nf (q_w g S) = some (y, v) → (∀ S, q_Gd 1 g S0 S → v = q_w g S → post y S) → N (g 0 2 0) S post) (h : fX2_query Uf Nf x1 x2 (q_w g S) = some (y, v)) (kk : ∀ S, q_Gd 1 g S0 S → v = q_w g S → post y S) : wX2_query U N (g 0 2 0) x1 x2 S post := by
  unfold wX2_query; unfold fX2_query at h
  refine ⟨_, q_p400 R, ?_⟩
  obtain ⟨v1, h1, h⟩ := q_bvi h
  refine b_X9_advance R h1 (fun T2 R q => ?_)
  subst q
  refine ⟨_, q_p400 R, ?_⟩
  obtain ⟨v1, h1, h⟩ := q_bvi h
  refine b_X9_expectNest R h1 (fun T4 R q => ?_)
  subst q
  exact ⟨q_N, b_X2_query_L18 hU hN kk q_N _ _ R h⟩
def fX2_negative_b29 (U : q_V → Option (Int32 × q_V)) (N : q_V → Option (Int32 × q_V)) (xt0 : Int32) (Sn : q_V) : Option (Int32 × q_V) :=
  q_bv (fX9_endNest Sn) (fun T1002 =>
  q_bd (fX0_add 5 T1002) (fun y1005 T1004 =>
  some (xt0, T1004)))
theorem b_X2_negative_b29 {g : q_G} {S0 : kp_S} {Uf : q_V → Option (Int32 × q_V)} {U : Nat → kp_S → (Int32 → kp_S → Prop) → Prop} {Nf : q_V → Option (Int32 × q_V)} {N : Nat → kp_S → (Int32 → kp_S → Prop) → Prop} {xt0 : Int32} {Sn : kp_S} {post : Int32 → kp_S → Prop} {y : Int32} {v : q_V} (R : q_Gd 1 g S0 Sn) (hU : ∀ (S : kp_S) (y : Int32) (v : q_V) (post : Int32 → kp_S → Prop), q_Gd 1 g S0 S → Uf (q_w g S) = some (y, v) → (∀ S, q_Gd 1 g S0 S → v = q_w g S → post y S) → U (g 0 2 0) S post) (hN : ∀ (S : kp_S) (y : Int32) (v : q_V) (post : Int32 → kp_S → Prop), q_Gd 1 g S0 S → Nf (q_w g S) = some (y, v) → (∀ S, q_Gd 1 g S0 S → v = q_w g S → post y S) → N (g 0 2 0) S post) (h : fX2_negative_b29 Uf Nf xt0 (q_w g Sn) = some (y, v)) (kk : ∀ S, q_Gd 1 g S0 S → v = q_w g S → post y S) : wX2_negative_b29 U N (g 0 2 0) xt0 Sn post := by
  unfold wX2_negative_b29; unfold fX2_negative_b29 at h
  refine ⟨_, q_p400 R, ?_⟩
  obtain ⟨v1, h1, h⟩ := q_bvi h
  refine b_X9_endNest R h1 (fun T1002 R q => ?_)
  subst q
  refine ⟨_, q_p402 R, ?_⟩
  obtain ⟨y1005, v1, h1, h⟩ := q_bdi h
  refine b_X0_add R h1 (fun T1004 R q => ?_)
  subst q
  exact q_fin h kk R
def fX2_negative (U : q_V → Option (Int32 × q_V)) (N : q_V → Option (Int32 × q_V)) (S : q_V) : Option (Int32 × q_V) :=
  q_bv (fX9_expectNest 45 S) (fun T2 =>
  q_bd (fX9_isStopped T2) (fun y5 T4 =>
  if y5 = 0 then
  q_bd (U T4) (fun y7 T6 =>
  fX2_negative_b29 U N ((y7 &&& 1)) T6)
  else
  fX2_negative_b29 U N 0 T4))
theorem b_X2_negative {g : q_G} {S0 : kp_S} {Uf : q_V → Option (Int32 × q_V)} {U : Nat → kp_S → (Int32 → kp_S → Prop) → Prop} {Nf : q_V → Option (Int32 × q_V)} {N : Nat → kp_S → (Int32 → kp_S → Prop) → Prop} {S : kp_S} {post : Int32 → kp_S → Prop} {y : Int32} {v : q_V} (R : q_Gd 1 g S0 S) (hU : ∀ (S : kp_S) (y : Int32) (v : q_V) (post : Int32 → kp_S → Prop), q_Gd 1 g S0 S → Uf (q_w g S) = some (y, v) → (∀ S, q_Gd 1 g S0 S → v = q_w g S → post y S) → U (g 0 2 0) S post) (hN : ∀ (S : kp_S) (y : Int32) (v : q_V) (post : Int32 → kp_S → Prop), q_Gd 1 g S0 S → Nf (q_w g S) = some (y, v) → (∀ S, q_Gd 1 g S0 S → v = q_w g S → post y S) → N (g 0 2 0) S post) (h : fX2_negative Uf Nf (q_w g S) = some (y, v)) (kk : ∀ S, q_Gd 1 g S0 S → v = q_w g S → post y S) : wX2_negative U N (g 0 2 0) S post := by
  unfold wX2_negative; unfold fX2_negative at h
  refine ⟨_, q_p400 R, ?_⟩
  obtain ⟨v1, h1, h⟩ := q_bvi h
  refine b_X9_expectNest R h1 (fun T2 R q => ?_)
  subst q
  refine ⟨_, q_p400 R, ?_⟩
  obtain ⟨y5, v1, h1, h⟩ := q_bdi h
  refine b_X9_isStopped R h1 (fun T4 R q => ?_)
  subst q
  refine ⟨fun c => ?_, fun c => ?_⟩
  · replace h := q_ifp h c
    obtain ⟨y7, v1, h1, h⟩ := q_bdi h
    refine hU _ _ _ _ R h1 (fun T6 R q => ?_)
    subst q
    exact b_X2_negative_b29 R hU hN h kk
  · replace h := q_ifn h c
    exact b_X2_negative_b29 R hU hN h kk
def fX2_product_b102 (U : q_V → Option (Int32 × q_V)) (N : q_V → Option (Int32 × q_V)) (xn1 : Int32) (Sn : q_V) : Option (Int32 × q_V) :=
  some (xn1, Sn)
theorem b_X2_product_b102 {g : q_G} {S0 : kp_S} {Uf : q_V → Option (Int32 × q_V)} {U : Nat → kp_S → (Int32 → kp_S → Prop) → Prop} {Nf : q_V → Option (Int32 × q_V)} {N : Nat → kp_S → (Int32 → kp_S → Prop) → Prop} {xn1 : Int32} {Sn : kp_S} {post : Int32 → kp_S → Prop} {y : Int32} {v : q_V} (R : q_Gd 1 g S0 Sn) (hU : ∀ (S : kp_S) (y : Int32) (v : q_V) (post : Int32 → kp_S → Prop), q_Gd 1 g S0 S → Uf (q_w g S) = some (y, v) → (∀ S, q_Gd 1 g S0 S → v = q_w g S → post y S) → U (g 0 2 0) S post) (hN : ∀ (S : kp_S) (y : Int32) (v : q_V) (post : Int32 → kp_S → Prop), q_Gd 1 g S0 S → Nf (q_w g S) = some (y, v) → (∀ S, q_Gd 1 g S0 S → v = q_w g S → post y S) → N (g 0 2 0) S post) (h : fX2_product_b102 Uf Nf xn1 (q_w g Sn) = some (y, v)) (kk : ∀ S, q_Gd 1 g S0 S → v = q_w g S → post y S) : wX2_product_b102 U N (g 0 2 0) xn1 Sn post := by
  unfold wX2_product_b102; unfold fX2_product_b102 at h
  exact q_fin h kk R
def fX2_product_b86 (U : q_V → Option (Int32 × q_V)) (N : q_V → Option (Int32 × q_V)) (xn2 : Int32) (xn3 : Int32) (xt0 : Int32) (K7 : Int32 → Int32 → q_V → Option (Int32 × q_V)) (Sn : q_V) : Option (Int32 × q_V) :=
  q_bd (fX0_add xn3 Sn) (fun y2003 T2002 =>
  q_lt (xn2 + 1 : Int32) (fun y2004 =>
  K7 xt0 y2004 T2002))
theorem b_X2_product_b86 {g : q_G} {S0 : kp_S} {Uf : q_V → Option (Int32 × q_V)} {U : Nat → kp_S → (Int32 → kp_S → Prop) → Prop} {Nf : q_V → Option (Int32 × q_V)} {N : Nat → kp_S → (Int32 → kp_S → Prop) → Prop} {xn2 : Int32} {xn3 : Int32} {xt0 : Int32} {K7f : Int32 → Int32 → q_V → Option (Int32 × q_V)} {K7 : Int32 → Int32 → kp_S → Prop} {Sn : kp_S} {post : Int32 → kp_S → Prop} {y : Int32} {v : q_V} (R : q_Gd 1 g S0 Sn) (hU : ∀ (S : kp_S) (y : Int32) (v : q_V) (post : Int32 → kp_S → Prop), q_Gd 1 g S0 S → Uf (q_w g S) = some (y, v) → (∀ S, q_Gd 1 g S0 S → v = q_w g S → post y S) → U (g 0 2 0) S post) (hN : ∀ (S : kp_S) (y : Int32) (v : q_V) (post : Int32 → kp_S → Prop), q_Gd 1 g S0 S → Nf (q_w g S) = some (y, v) → (∀ S, q_Gd 1 g S0 S → v = q_w g S → post y S) → N (g 0 2 0) S post) (hK7 : ∀ (x0 : Int32) (x1 : Int32) (S : kp_S), q_Gd 1 g S0 S → K7f x0 x1 (q_w g S) = some (y, v) → K7 x0 x1 S) (h : fX2_product_b86 Uf Nf xn2 xn3 xt0 K7f (q_w g Sn) = some (y, v)) (kk : ∀ S, q_Gd 1 g S0 S → v = q_w g S → post y S) : wX2_product_b86 U N (g 0 2 0) xn2 xn3 xt0 K7 Sn post := by
  unfold wX2_product_b86; unfold fX2_product_b86 at h
  refine ⟨_, q_p402 R, ?_⟩
  obtain ⟨y2003, v1, h1, h⟩ := q_bdi h
  refine b_X0_add R h1 (fun T2002 R q => ?_)
  subst q
  intro y2004 q
  replace h := q_ltw h q
  exact hK7 _ _ _ R h
def fX2_product_b69 (U : q_V → Option (Int32 × q_V)) (N : q_V → Option (Int32 × q_V)) (xn1 : Int32) (xn2 : Int32) (xn3 : Int32) (xn4 : Int32) (xt0 : Int32) (K7 : Int32 → Int32 → q_V → Option (Int32 × q_V)) (Sn : q_V) : Option (Int32 × q_V) :=
  if xt0 = 0 then
  fX2_product_b86 U N xn2 xn3 (((xn1 ||| xn4) &&& 1)) K7 Sn
  else
  fX2_product_b86 U N xn2 xn3 1 K7 Sn
theorem b_X2_product_b69 {g : q_G} {S0 : kp_S} {Uf : q_V → Option (Int32 × q_V)} {U : Nat → kp_S → (Int32 → kp_S → Prop) → Prop} {Nf : q_V → Option (Int32 × q_V)} {N : Nat → kp_S → (Int32 → kp_S → Prop) → Prop} {xn1 : Int32} {xn2 : Int32} {xn3 : Int32} {xn4 : Int32} {xt0 : Int32} {K7f : Int32 → Int32 → q_V → Option (Int32 × q_V)} {K7 : Int32 → Int32 → kp_S → Prop} {Sn : kp_S} {post : Int32 → kp_S → Prop} {y : Int32} {v : q_V} (R : q_Gd 1 g S0 Sn) (hU : ∀ (S : kp_S) (y : Int32) (v : q_V) (post : Int32 → kp_S → Prop), q_Gd 1 g S0 S → Uf (q_w g S) = some (y, v) → (∀ S, q_Gd 1 g S0 S → v = q_w g S → post y S) → U (g 0 2 0) S post) (hN : ∀ (S : kp_S) (y : Int32) (v : q_V) (post : Int32 → kp_S → Prop), q_Gd 1 g S0 S → Nf (q_w g S) = some (y, v) → (∀ S, q_Gd 1 g S0 S → v = q_w g S → post y S) → N (g 0 2 0) S post) (hK7 : ∀ (x0 : Int32) (x1 : Int32) (S : kp_S), q_Gd 1 g S0 S → K7f x0 x1 (q_w g S) = some (y, v) → K7 x0 x1 S) (h : fX2_product_b69 Uf Nf xn1 xn2 xn3 xn4 xt0 K7f (q_w g Sn) = some (y, v)) (kk : ∀ S, q_Gd 1 g S0 S → v = q_w g S → post y S) : wX2_product_b69 U N (g 0 2 0) xn1 xn2 xn3 xn4 xt0 K7 Sn post := by
  unfold wX2_product_b69; unfold fX2_product_b69 at h
  refine ⟨fun c => ?_, fun c => ?_⟩
  · replace h := q_ifp h c
    exact b_X2_product_b86 R hU hN hK7 h kk
  · replace h := q_ifn h c
    exact b_X2_product_b86 R hU hN hK7 h kk
def fX2_product_b68 (U : q_V → Option (Int32 × q_V)) (N : q_V → Option (Int32 × q_V)) (xn1 : Int32) (xn2 : Int32) (xn3 : Int32) (xn4 : Int32) (K7 : Int32 → Int32 → q_V → Option (Int32 × q_V)) (Sn : q_V) : Option (Int32 × q_V) :=
  fX2_product_b69 U N xn1 xn2 xn3 xn4 0 K7 Sn
theorem b_X2_product_b68 {g : q_G} {S0 : kp_S} {Uf : q_V → Option (Int32 × q_V)} {U : Nat → kp_S → (Int32 → kp_S → Prop) → Prop} {Nf : q_V → Option (Int32 × q_V)} {N : Nat → kp_S → (Int32 → kp_S → Prop) → Prop} {xn1 : Int32} {xn2 : Int32} {xn3 : Int32} {xn4 : Int32} {K7f : Int32 → Int32 → q_V → Option (Int32 × q_V)} {K7 : Int32 → Int32 → kp_S → Prop} {Sn : kp_S} {post : Int32 → kp_S → Prop} {y : Int32} {v : q_V} (R : q_Gd 1 g S0 Sn) (hU : ∀ (S : kp_S) (y : Int32) (v : q_V) (post : Int32 → kp_S → Prop), q_Gd 1 g S0 S → Uf (q_w g S) = some (y, v) → (∀ S, q_Gd 1 g S0 S → v = q_w g S → post y S) → U (g 0 2 0) S post) (hN : ∀ (S : kp_S) (y : Int32) (v : q_V) (post : Int32 → kp_S → Prop), q_Gd 1 g S0 S → Nf (q_w g S) = some (y, v) → (∀ S, q_Gd 1 g S0 S → v = q_w g S → post y S) → N (g 0 2 0) S post) (hK7 : ∀ (x0 : Int32) (x1 : Int32) (S : kp_S), q_Gd 1 g S0 S → K7f x0 x1 (q_w g S) = some (y, v) → K7 x0 x1 S) (h : fX2_product_b68 Uf Nf xn1 xn2 xn3 xn4 K7f (q_w g Sn) = some (y, v)) (kk : ∀ S, q_Gd 1 g S0 S → v = q_w g S → post y S) : wX2_product_b68 U N (g 0 2 0) xn1 xn2 xn3 xn4 K7 Sn post := by
  unfold wX2_product_b68; unfold fX2_product_b68 at h
  exact b_X2_product_b69 R hU hN hK7 h kk
def fX2_product_L7 (U : q_V → Option (Int32 × q_V)) (N : q_V → Option (Int32 × q_V)) : Nat → Int32 → Int32 → q_V → Option (Int32 × q_V)
  | 0, _, _, _ => none
  | n + 1, xn1, xn2, Sn =>
  if 3000 ≤ xn2 then
  fX2_product_b102 U N xn1 Sn
  else
  q_bd (fX2_factor ((q_i Sn 1805)) Sn) (fun y5003 T5002 =>
  if y5003 = (- 1) then
  fX2_product_b102 U N xn1 T5002
  else
  q_bd (fX2_factor ((q_i T5002 1805)) T5002) (fun y5006 T5005 =>
  q_bv (fX9_advance T5005) (fun T5008 =>
  q_bd (U T5008) (fun y5010 T5009 =>
  if y5006 = 10 then
  fX2_product_b68 U N xn1 xn2 y5006 y5010 (fun xn1_ xn2_ S_ => fX2_product_L7 U N n xn1_ xn2_ S_) T5009
  else
  if y5010 = 2 then
  fX2_product_b68 U N xn1 xn2 y5006 y5010 (fun xn1_ xn2_ S_ => fX2_product_L7 U N n xn1_ xn2_ S_) T5009
  else
  fX2_product_b69 U N xn1 xn2 y5006 y5010 1 (fun xn1_ xn2_ S_ => fX2_product_L7 U N n xn1_ xn2_ S_) T5009))))
theorem b_X2_product_L7 {g : q_G} {S0 : kp_S} {Uf : q_V → Option (Int32 × q_V)} {U : Nat → kp_S → (Int32 → kp_S → Prop) → Prop} {Nf : q_V → Option (Int32 × q_V)} {N : Nat → kp_S → (Int32 → kp_S → Prop) → Prop} {post : Int32 → kp_S → Prop} {y : Int32} {v : q_V} (hU : ∀ (S : kp_S) (y : Int32) (v : q_V) (post : Int32 → kp_S → Prop), q_Gd 1 g S0 S → Uf (q_w g S) = some (y, v) → (∀ S, q_Gd 1 g S0 S → v = q_w g S → post y S) → U (g 0 2 0) S post) (hN : ∀ (S : kp_S) (y : Int32) (v : q_V) (post : Int32 → kp_S → Prop), q_Gd 1 g S0 S → Nf (q_w g S) = some (y, v) → (∀ S, q_Gd 1 g S0 S → v = q_w g S → post y S) → N (g 0 2 0) S post) (kk : ∀ S, q_Gd 1 g S0 S → v = q_w g S → post y S) : ∀ (n : Nat) (xn1 : Int32) (xn2 : Int32) (Sn : kp_S), q_Gd 1 g S0 Sn → fX2_product_L7 Uf Nf n xn1 xn2 (q_w g Sn) = some (y, v) → wX2_product_L7 U N (g 0 2 0) post n xn1 xn2 Sn := by
  intro n
  induction n with
  | zero => intro xn1 xn2 Sn _ h; cases h
  | succ n ih =>
    intro xn1 xn2 Sn R h
    unfold wX2_product_L7; unfold fX2_product_L7 at h
    refine ⟨fun c => ?_, fun c => ?_⟩
    · replace h := q_ifp h c
      exact b_X2_product_b102 R hU hN h kk
    · replace h := q_ifn h c
      refine ⟨_, q_p400 R, ?_⟩
      obtain ⟨y5003, v1, h1, h⟩ := q_bdi h
      refine b_X2_factor R h1 (fun T5002 R q => ?_)
      subst q
      refine ⟨fun c => ?_, fun c => ?_⟩
      · replace h := q_ifp h c
        exact b_X2_product_b102 R hU hN h kk
      · replace h := q_ifn h c
        refine ⟨_, q_p400 R, ?_⟩
        obtain ⟨y5006, v1, h1, h⟩ := q_bdi h
        refine b_X2_factor R h1 (fun T5005 R q => ?_)
        subst q
        refine ⟨_, q_p400 R, ?_⟩
        obtain ⟨v1, h1, h⟩ := q_bvi h
        refine b_X9_advance R h1 (fun T5008 R q => ?_)
        subst q
        obtain ⟨y5010, v1, h1, h⟩ := q_bdi h
        refine hU _ _ _ _ R h1 (fun T5009 R q => ?_)
        subst q
        refine ⟨fun c => ?_, fun c => ?_⟩
        · replace h := q_ifp h c
          exact b_X2_product_b68 R hU hN (fun xn1_ xn2_ S_ R h => ih xn1_ xn2_ S_ R h) h kk
        · replace h := q_ifn h c
          refine ⟨fun c => ?_, fun c => ?_⟩
          · replace h := q_ifp h c
            exact b_X2_product_b68 R hU hN (fun xn1_ xn2_ S_ R h => ih xn1_ xn2_ S_ R h) h kk
          · replace h := q_ifn h c
            exact b_X2_product_b69 R hU hN (fun xn1_ xn2_ S_ R h => ih xn1_ xn2_ S_ R h) h kk
def fX2_product (U : q_V → Option (Int32 × q_V)) (N : q_V → Option (Int32 × q_V)) (S : q_V) : Option (Int32 × q_V) :=
  q_bd (U S) (fun y2 T1 =>
  fX2_product_L7 U N q_N y2 0 T1)
theorem b_X2_product {g : q_G} {S0 : kp_S} {Uf : q_V → Option (Int32 × q_V)} {U : Nat → kp_S → (Int32 → kp_S → Prop) → Prop} {Nf : q_V → Option (Int32 × q_V)} {N : Nat → kp_S → (Int32 → kp_S → Prop) → Prop} {S : kp_S} {post : Int32 → kp_S → Prop} {y : Int32} {v : q_V} (R : q_Gd 1 g S0 S) (hU : ∀ (S : kp_S) (y : Int32) (v : q_V) (post : Int32 → kp_S → Prop), q_Gd 1 g S0 S → Uf (q_w g S) = some (y, v) → (∀ S, q_Gd 1 g S0 S → v = q_w g S → post y S) → U (g 0 2 0) S post) (hN : ∀ (S : kp_S) (y : Int32) (v : q_V) (post : Int32 → kp_S → Prop), q_Gd 1 g S0 S → Nf (q_w g S) = some (y, v) → (∀ S, q_Gd 1 g S0 S → v = q_w g S → post y S) → N (g 0 2 0) S post) (h : fX2_product Uf Nf (q_w g S) = some (y, v)) (kk : ∀ S, q_Gd 1 g S0 S → v = q_w g S → post y S) : wX2_product U N (g 0 2 0) S post := by
  unfold wX2_product; unfold fX2_product at h
  obtain ⟨y2, v1, h1, h⟩ := q_bdi h
  refine hU _ _ _ _ R h1 (fun T1 R q => ?_)
  subst q
  exact ⟨q_N, b_X2_product_L7 hU hN kk q_N _ _ _ R h⟩
def fX2_sum_b89 (U : q_V → Option (Int32 × q_V)) (N : q_V → Option (Int32 × q_V)) (xn1 : Int32) (Sn : q_V) : Option (Int32 × q_V) :=
  some (xn1, Sn)
theorem b_X2_sum_b89 {g : q_G} {S0 : kp_S} {Uf : q_V → Option (Int32 × q_V)} {U : Nat → kp_S → (Int32 → kp_S → Prop) → Prop} {Nf : q_V → Option (Int32 × q_V)} {N : Nat → kp_S → (Int32 → kp_S → Prop) → Prop} {xn1 : Int32} {Sn : kp_S} {post : Int32 → kp_S → Prop} {y : Int32} {v : q_V} (R : q_Gd 1 g S0 Sn) (hU : ∀ (S : kp_S) (y : Int32) (v : q_V) (post : Int32 → kp_S → Prop), q_Gd 1 g S0 S → Uf (q_w g S) = some (y, v) → (∀ S, q_Gd 1 g S0 S → v = q_w g S → post y S) → U (g 0 2 0) S post) (hN : ∀ (S : kp_S) (y : Int32) (v : q_V) (post : Int32 → kp_S → Prop), q_Gd 1 g S0 S → Nf (q_w g S) = some (y, v) → (∀ S, q_Gd 1 g S0 S → v = q_w g S → post y S) → N (g 0 2 0) S post) (h : fX2_sum_b89 Uf Nf xn1 (q_w g Sn) = some (y, v)) (kk : ∀ S, q_Gd 1 g S0 S → v = q_w g S → post y S) : wX2_sum_b89 U N (g 0 2 0) xn1 Sn post := by
  unfold wX2_sum_b89; unfold fX2_sum_b89 at h
  exact q_fin h kk R
def fX2_sum_b57 (U : q_V → Option (Int32 × q_V)) (N : q_V → Option (Int32 × q_V)) (xn1 : Int32) (xn2 : Int32) (xt0 : Int32) (K7 : Int32 → Int32 → q_V → Option (Int32 × q_V)) (Sn : q_V) : Option (Int32 × q_V) :=
  q_bv (fX9_advance Sn) (fun T2002 =>
  q_bd (fX2_product U N T2002) (fun y2004 T2003 =>
  q_lt (((xn1 ||| y2004) &&& 1) : Int32) (fun y2005 =>
  q_bd (fX0_add xt0 T2003) (fun y2008 T2007 =>
  q_lt (xn2 + 1 : Int32) (fun y2009 =>
  K7 y2005 y2009 T2007)))))
theorem b_X2_sum_b57 {g : q_G} {S0 : kp_S} {Uf : q_V → Option (Int32 × q_V)} {U : Nat → kp_S → (Int32 → kp_S → Prop) → Prop} {Nf : q_V → Option (Int32 × q_V)} {N : Nat → kp_S → (Int32 → kp_S → Prop) → Prop} {xn1 : Int32} {xn2 : Int32} {xt0 : Int32} {K7f : Int32 → Int32 → q_V → Option (Int32 × q_V)} {K7 : Int32 → Int32 → kp_S → Prop} {Sn : kp_S} {post : Int32 → kp_S → Prop} {y : Int32} {v : q_V} (R : q_Gd 1 g S0 Sn) (hU : ∀ (S : kp_S) (y : Int32) (v : q_V) (post : Int32 → kp_S → Prop), q_Gd 1 g S0 S → Uf (q_w g S) = some (y, v) → (∀ S, q_Gd 1 g S0 S → v = q_w g S → post y S) → U (g 0 2 0) S post) (hN : ∀ (S : kp_S) (y : Int32) (v : q_V) (post : Int32 → kp_S → Prop), q_Gd 1 g S0 S → Nf (q_w g S) = some (y, v) → (∀ S, q_Gd 1 g S0 S → v = q_w g S → post y S) → N (g 0 2 0) S post) (hK7 : ∀ (x0 : Int32) (x1 : Int32) (S : kp_S), q_Gd 1 g S0 S → K7f x0 x1 (q_w g S) = some (y, v) → K7 x0 x1 S) (h : fX2_sum_b57 Uf Nf xn1 xn2 xt0 K7f (q_w g Sn) = some (y, v)) (kk : ∀ S, q_Gd 1 g S0 S → v = q_w g S → post y S) : wX2_sum_b57 U N (g 0 2 0) xn1 xn2 xt0 K7 Sn post := by
  unfold wX2_sum_b57; unfold fX2_sum_b57 at h
  refine ⟨_, q_p400 R, ?_⟩
  obtain ⟨v1, h1, h⟩ := q_bvi h
  refine b_X9_advance R h1 (fun T2002 R q => ?_)
  subst q
  obtain ⟨y2004, v1, h1, h⟩ := q_bdi h
  refine b_X2_product R hU hN h1 (fun T2003 R q => ?_)
  subst q
  intro y2005 q
  replace h := q_ltw h q
  refine ⟨_, q_p402 R, ?_⟩
  obtain ⟨y2008, v1, h1, h⟩ := q_bdi h
  refine b_X0_add R h1 (fun T2007 R q => ?_)
  subst q
  intro y2009 q
  replace h := q_ltw h q
  exact hK7 _ _ _ R h
def fX2_sum_b38 (U : q_V → Option (Int32 × q_V)) (N : q_V → Option (Int32 × q_V)) (xn1 : Int32) (xn2 : Int32) (K7 : Int32 → Int32 → q_V → Option (Int32 × q_V)) (Sn : q_V) : Option (Int32 × q_V) :=
  if (q_i Sn 1805) = 43 then
  fX2_sum_b57 U N xn1 xn2 8 K7 Sn
  else
  fX2_sum_b57 U N xn1 xn2 9 K7 Sn
theorem b_X2_sum_b38 {g : q_G} {S0 : kp_S} {Uf : q_V → Option (Int32 × q_V)} {U : Nat → kp_S → (Int32 → kp_S → Prop) → Prop} {Nf : q_V → Option (Int32 × q_V)} {N : Nat → kp_S → (Int32 → kp_S → Prop) → Prop} {xn1 : Int32} {xn2 : Int32} {K7f : Int32 → Int32 → q_V → Option (Int32 × q_V)} {K7 : Int32 → Int32 → kp_S → Prop} {Sn : kp_S} {post : Int32 → kp_S → Prop} {y : Int32} {v : q_V} (R : q_Gd 1 g S0 Sn) (hU : ∀ (S : kp_S) (y : Int32) (v : q_V) (post : Int32 → kp_S → Prop), q_Gd 1 g S0 S → Uf (q_w g S) = some (y, v) → (∀ S, q_Gd 1 g S0 S → v = q_w g S → post y S) → U (g 0 2 0) S post) (hN : ∀ (S : kp_S) (y : Int32) (v : q_V) (post : Int32 → kp_S → Prop), q_Gd 1 g S0 S → Nf (q_w g S) = some (y, v) → (∀ S, q_Gd 1 g S0 S → v = q_w g S → post y S) → N (g 0 2 0) S post) (hK7 : ∀ (x0 : Int32) (x1 : Int32) (S : kp_S), q_Gd 1 g S0 S → K7f x0 x1 (q_w g S) = some (y, v) → K7 x0 x1 S) (h : fX2_sum_b38 Uf Nf xn1 xn2 K7f (q_w g Sn) = some (y, v)) (kk : ∀ S, q_Gd 1 g S0 S → v = q_w g S → post y S) : wX2_sum_b38 U N (g 0 2 0) xn1 xn2 K7 Sn post := by
  unfold wX2_sum_b38; unfold fX2_sum_b38 at h
  refine ⟨_, q_p400 R, ?_⟩
  refine ⟨fun c => ?_, fun c => ?_⟩
  · replace h := q_ifn h c
    exact b_X2_sum_b57 R hU hN hK7 h kk
  · replace h := q_ifp h c
    exact b_X2_sum_b57 R hU hN hK7 h kk
def fX2_sum_L7 (U : q_V → Option (Int32 × q_V)) (N : q_V → Option (Int32 × q_V)) : Nat → Int32 → Int32 → q_V → Option (Int32 × q_V)
  | 0, _, _, _ => none
  | n + 1, xn1, xn2, Sn =>
  if 3000 ≤ xn2 then
  fX2_sum_b89 U N xn1 Sn
  else
  if (q_i Sn 1805) = 43 then
  fX2_sum_b38 U N xn1 xn2 (fun xn1_ xn2_ S_ => fX2_sum_L7 U N n xn1_ xn2_ S_) Sn
  else
  if (q_i Sn 1805) = 45 then
  fX2_sum_b38 U N xn1 xn2 (fun xn1_ xn2_ S_ => fX2_sum_L7 U N n xn1_ xn2_ S_) Sn
  else
  fX2_sum_b89 U N xn1 Sn
theorem b_X2_sum_L7 {g : q_G} {S0 : kp_S} {Uf : q_V → Option (Int32 × q_V)} {U : Nat → kp_S → (Int32 → kp_S → Prop) → Prop} {Nf : q_V → Option (Int32 × q_V)} {N : Nat → kp_S → (Int32 → kp_S → Prop) → Prop} {post : Int32 → kp_S → Prop} {y : Int32} {v : q_V} (hU : ∀ (S : kp_S) (y : Int32) (v : q_V) (post : Int32 → kp_S → Prop), q_Gd 1 g S0 S → Uf (q_w g S) = some (y, v) → (∀ S, q_Gd 1 g S0 S → v = q_w g S → post y S) → U (g 0 2 0) S post) (hN : ∀ (S : kp_S) (y : Int32) (v : q_V) (post : Int32 → kp_S → Prop), q_Gd 1 g S0 S → Nf (q_w g S) = some (y, v) → (∀ S, q_Gd 1 g S0 S → v = q_w g S → post y S) → N (g 0 2 0) S post) (kk : ∀ S, q_Gd 1 g S0 S → v = q_w g S → post y S) : ∀ (n : Nat) (xn1 : Int32) (xn2 : Int32) (Sn : kp_S), q_Gd 1 g S0 Sn → fX2_sum_L7 Uf Nf n xn1 xn2 (q_w g Sn) = some (y, v) → wX2_sum_L7 U N (g 0 2 0) post n xn1 xn2 Sn := by
  intro n
  induction n with
  | zero => intro xn1 xn2 Sn _ h; cases h
  | succ n ih =>
    intro xn1 xn2 Sn R h
    unfold wX2_sum_L7; unfold fX2_sum_L7 at h
    refine ⟨fun c => ?_, fun c => ?_⟩
    · replace h := q_ifp h c
      exact b_X2_sum_b89 R hU hN h kk
    · replace h := q_ifn h c
      refine ⟨_, q_p400 R, ?_⟩
      refine ⟨fun c => ?_, fun c => ?_⟩
      · replace h := q_ifp h c
        exact b_X2_sum_b38 R hU hN (fun xn1_ xn2_ S_ R h => ih xn1_ xn2_ S_ R h) h kk
      · replace h := q_ifn h c
        refine ⟨fun c => ?_, fun c => ?_⟩
        · replace h := q_ifn h c
          exact b_X2_sum_b89 R hU hN h kk
        · replace h := q_ifp h c
          exact b_X2_sum_b38 R hU hN (fun xn1_ xn2_ S_ R h => ih xn1_ xn2_ S_ R h) h kk
def fX2_sum (U : q_V → Option (Int32 × q_V)) (N : q_V → Option (Int32 × q_V)) (S : q_V) : Option (Int32 × q_V) :=
  q_bd (fX2_product U N S) (fun y2 T1 =>
  fX2_sum_L7 U N q_N y2 0 T1)
theorem b_X2_sum {g : q_G} {S0 : kp_S} {Uf : q_V → Option (Int32 × q_V)} {U : Nat → kp_S → (Int32 → kp_S → Prop) → Prop} {Nf : q_V → Option (Int32 × q_V)} {N : Nat → kp_S → (Int32 → kp_S → Prop) → Prop} {S : kp_S} {post : Int32 → kp_S → Prop} {y : Int32} {v : q_V} (R : q_Gd 1 g S0 S) (hU : ∀ (S : kp_S) (y : Int32) (v : q_V) (post : Int32 → kp_S → Prop), q_Gd 1 g S0 S → Uf (q_w g S) = some (y, v) → (∀ S, q_Gd 1 g S0 S → v = q_w g S → post y S) → U (g 0 2 0) S post) (hN : ∀ (S : kp_S) (y : Int32) (v : q_V) (post : Int32 → kp_S → Prop), q_Gd 1 g S0 S → Nf (q_w g S) = some (y, v) → (∀ S, q_Gd 1 g S0 S → v = q_w g S → post y S) → N (g 0 2 0) S post) (h : fX2_sum Uf Nf (q_w g S) = some (y, v)) (kk : ∀ S, q_Gd 1 g S0 S → v = q_w g S → post y S) : wX2_sum U N (g 0 2 0) S post := by
  unfold wX2_sum; unfold fX2_sum at h
  obtain ⟨y2, v1, h1, h⟩ := q_bdi h
  refine b_X2_product R hU hN h1 (fun T1 R q => ?_)
  subst q
  exact ⟨q_N, b_X2_sum_L7 hU hN kk q_N _ _ _ R h⟩
def fX2_test_b46 (U : q_V → Option (Int32 × q_V)) (N : q_V → Option (Int32 × q_V)) (xn1 : Int32) (Sn : q_V) : Option (Int32 × q_V) :=
  some (xn1, Sn)
theorem b_X2_test_b46 {g : q_G} {S0 : kp_S} {Uf : q_V → Option (Int32 × q_V)} {U : Nat → kp_S → (Int32 → kp_S → Prop) → Prop} {Nf : q_V → Option (Int32 × q_V)} {N : Nat → kp_S → (Int32 → kp_S → Prop) → Prop} {xn1 : Int32} {Sn : kp_S} {post : Int32 → kp_S → Prop} {y : Int32} {v : q_V} (R : q_Gd 1 g S0 Sn) (hU : ∀ (S : kp_S) (y : Int32) (v : q_V) (post : Int32 → kp_S → Prop), q_Gd 1 g S0 S → Uf (q_w g S) = some (y, v) → (∀ S, q_Gd 1 g S0 S → v = q_w g S → post y S) → U (g 0 2 0) S post) (hN : ∀ (S : kp_S) (y : Int32) (v : q_V) (post : Int32 → kp_S → Prop), q_Gd 1 g S0 S → Nf (q_w g S) = some (y, v) → (∀ S, q_Gd 1 g S0 S → v = q_w g S → post y S) → N (g 0 2 0) S post) (h : fX2_test_b46 Uf Nf xn1 (q_w g Sn) = some (y, v)) (kk : ∀ S, q_Gd 1 g S0 S → v = q_w g S → post y S) : wX2_test_b46 U N (g 0 2 0) xn1 Sn post := by
  unfold wX2_test_b46; unfold fX2_test_b46 at h
  exact q_fin h kk R
def fX2_test (U : q_V → Option (Int32 × q_V)) (N : q_V → Option (Int32 × q_V)) (S : q_V) : Option (Int32 × q_V) :=
  q_bd (fX2_sum U N S) (fun y2 T1 =>
  q_bd (fX2_comparison ((q_i T1 1805)) T1) (fun y5 T4 =>
  if y5 = (- 1) then
  fX2_test_b46 U N y2 T4
  else
  q_bv (fX9_advance T4) (fun T7 =>
  q_bd (fX2_sum U N T7) (fun y9 T8 =>
  q_lt (((y2 ||| y9) &&& 1) : Int32) (fun y10 =>
  q_bd (fX0_add y5 T8) (fun y13 T12 =>
  fX2_test_b46 U N y10 T12))))))
theorem b_X2_test {g : q_G} {S0 : kp_S} {Uf : q_V → Option (Int32 × q_V)} {U : Nat → kp_S → (Int32 → kp_S → Prop) → Prop} {Nf : q_V → Option (Int32 × q_V)} {N : Nat → kp_S → (Int32 → kp_S → Prop) → Prop} {S : kp_S} {post : Int32 → kp_S → Prop} {y : Int32} {v : q_V} (R : q_Gd 1 g S0 S) (hU : ∀ (S : kp_S) (y : Int32) (v : q_V) (post : Int32 → kp_S → Prop), q_Gd 1 g S0 S → Uf (q_w g S) = some (y, v) → (∀ S, q_Gd 1 g S0 S → v = q_w g S → post y S) → U (g 0 2 0) S post) (hN : ∀ (S : kp_S) (y : Int32) (v : q_V) (post : Int32 → kp_S → Prop), q_Gd 1 g S0 S → Nf (q_w g S) = some (y, v) → (∀ S, q_Gd 1 g S0 S → v = q_w g S → post y S) → N (g 0 2 0) S post) (h : fX2_test Uf Nf (q_w g S) = some (y, v)) (kk : ∀ S, q_Gd 1 g S0 S → v = q_w g S → post y S) : wX2_test U N (g 0 2 0) S post := by
  unfold wX2_test; unfold fX2_test at h
  obtain ⟨y2, v1, h1, h⟩ := q_bdi h
  refine b_X2_sum R hU hN h1 (fun T1 R q => ?_)
  subst q
  refine ⟨_, q_p400 R, ?_⟩
  obtain ⟨y5, v1, h1, h⟩ := q_bdi h
  refine b_X2_comparison R h1 (fun T4 R q => ?_)
  subst q
  refine ⟨fun c => ?_, fun c => ?_⟩
  · replace h := q_ifp h c
    exact b_X2_test_b46 R hU hN h kk
  · replace h := q_ifn h c
    refine ⟨_, q_p400 R, ?_⟩
    obtain ⟨v1, h1, h⟩ := q_bvi h
    refine b_X9_advance R h1 (fun T7 R q => ?_)
    subst q
    obtain ⟨y9, v1, h1, h⟩ := q_bdi h
    refine b_X2_sum R hU hN h1 (fun T8 R q => ?_)
    subst q
    intro y10 q
    replace h := q_ltw h q
    refine ⟨_, q_p402 R, ?_⟩
    obtain ⟨y13, v1, h1, h⟩ := q_bdi h
    refine b_X0_add R h1 (fun T12 R q => ?_)
    subst q
    exact b_X2_test_b46 R hU hN h kk
def fX2_unit (U : q_V → Option (Int32 × q_V)) (N : q_V → Option (Int32 × q_V)) (S : q_V) : Option (Int32 × q_V) :=
  q_lt ((q_i S 1805) : Int32) (fun y2 =>
  if y2 = 40 then
  q_bd (fX2_inBrackets U N S) (fun y5 T4 =>
  some (y5, T4))
  else
  if y2 = 45 then
  q_bd (fX2_negative U N S) (fun y8 T7 =>
  some (y8, T7))
  else
  if y2 = 259 then
  q_bd (fX2_nameOrCall U N S) (fun y11 T10 =>
  some (y11, T10))
  else
  if y2 = 260 then
  q_bd (fX2_number S) (fun y14 T13 =>
  some (y14, T13))
  else
  if y2 = 333 then
  q_bd (fX2_query U N 17 1 S) (fun y17 T16 =>
  some (y17, T16))
  else
  if y2 = 334 then
  q_bd (fX2_query U N 18 1 S) (fun y20 T19 =>
  some (y20, T19))
  else
  if y2 = 335 then
  q_bd (fX2_query U N 19 2 S) (fun y23 T22 =>
  some (y23, T22))
  else
  if y2 = 336 then
  q_bd (fX2_query U N 20 1 S) (fun y26 T25 =>
  some (y26, T25))
  else
  if y2 = 337 then
  q_bd (fX2_query U N 21 1 S) (fun y29 T28 =>
  some (y29, T28))
  else
  if y2 = 338 then
  q_bd (fX2_register 3 S) (fun y32 T31 =>
  some (y32, T31))
  else
  if y2 = 339 then
  q_bd (fX2_register 4 S) (fun y35 T34 =>
  some (y35, T34))
  else
  q_bv (fX9_refuse S) (fun T36 =>
  some (0, T36)))
theorem b_X2_unit {g : q_G} {S0 : kp_S} {Uf : q_V → Option (Int32 × q_V)} {U : Nat → kp_S → (Int32 → kp_S → Prop) → Prop} {Nf : q_V → Option (Int32 × q_V)} {N : Nat → kp_S → (Int32 → kp_S → Prop) → Prop} {S : kp_S} {post : Int32 → kp_S → Prop} {y : Int32} {v : q_V} (R : q_Gd 1 g S0 S) (hU : ∀ (S : kp_S) (y : Int32) (v : q_V) (post : Int32 → kp_S → Prop), q_Gd 1 g S0 S → Uf (q_w g S) = some (y, v) → (∀ S, q_Gd 1 g S0 S → v = q_w g S → post y S) → U (g 0 2 0) S post) (hN : ∀ (S : kp_S) (y : Int32) (v : q_V) (post : Int32 → kp_S → Prop), q_Gd 1 g S0 S → Nf (q_w g S) = some (y, v) → (∀ S, q_Gd 1 g S0 S → v = q_w g S → post y S) → N (g 0 2 0) S post) (h : fX2_unit Uf Nf (q_w g S) = some (y, v)) (kk : ∀ S, q_Gd 1 g S0 S → v = q_w g S → post y S) : wX2_unit U N (g 0 2 0) S post := by
  unfold wX2_unit; unfold fX2_unit at h
  refine ⟨_, q_p400 R, ?_⟩
  intro y2 q
  replace h := q_ltw h q
  refine ⟨fun c => ?_, fun c => ?_⟩
  · replace h := q_ifp h c
    obtain ⟨y5, v1, h1, h⟩ := q_bdi h
    refine b_X2_inBrackets R hU hN h1 (fun T4 R q => ?_)
    subst q
    exact q_fin h kk R
  · replace h := q_ifn h c
    refine ⟨fun c => ?_, fun c => ?_⟩
    · replace h := q_ifp h c
      obtain ⟨y8, v1, h1, h⟩ := q_bdi h
      refine b_X2_negative R hU hN h1 (fun T7 R q => ?_)
      subst q
      exact q_fin h kk R
    · replace h := q_ifn h c
      refine ⟨fun c => ?_, fun c => ?_⟩
      · replace h := q_ifp h c
        obtain ⟨y11, v1, h1, h⟩ := q_bdi h
        refine b_X2_nameOrCall R hU hN h1 (fun T10 R q => ?_)
        subst q
        exact q_fin h kk R
      · replace h := q_ifn h c
        refine ⟨fun c => ?_, fun c => ?_⟩
        · replace h := q_ifp h c
          obtain ⟨y14, v1, h1, h⟩ := q_bdi h
          refine b_X2_number R h1 (fun T13 R q => ?_)
          subst q
          exact q_fin h kk R
        · replace h := q_ifn h c
          refine ⟨fun c => ?_, fun c => ?_⟩
          · replace h := q_ifp h c
            obtain ⟨y17, v1, h1, h⟩ := q_bdi h
            refine b_X2_query R hU hN h1 (fun T16 R q => ?_)
            subst q
            exact q_fin h kk R
          · replace h := q_ifn h c
            refine ⟨fun c => ?_, fun c => ?_⟩
            · replace h := q_ifp h c
              obtain ⟨y20, v1, h1, h⟩ := q_bdi h
              refine b_X2_query R hU hN h1 (fun T19 R q => ?_)
              subst q
              exact q_fin h kk R
            · replace h := q_ifn h c
              refine ⟨fun c => ?_, fun c => ?_⟩
              · replace h := q_ifp h c
                obtain ⟨y23, v1, h1, h⟩ := q_bdi h
                refine b_X2_query R hU hN h1 (fun T22 R q => ?_)
                subst q
                exact q_fin h kk R
              · replace h := q_ifn h c
                refine ⟨fun c => ?_, fun c => ?_⟩
                · replace h := q_ifp h c
                  obtain ⟨y26, v1, h1, h⟩ := q_bdi h
                  refine b_X2_query R hU hN h1 (fun T25 R q => ?_)
                  subst q
                  exact q_fin h kk R
                · replace h := q_ifn h c
                  refine ⟨fun c => ?_, fun c => ?_⟩
                  · replace h := q_ifp h c
                    obtain ⟨y29, v1, h1, h⟩ := q_bdi h
                    refine b_X2_query R hU hN h1 (fun T28 R q => ?_)
                    subst q
                    exact q_fin h kk R
                  · replace h := q_ifn h c
                    refine ⟨fun c => ?_, fun c => ?_⟩
                    · replace h := q_ifp h c
                      obtain ⟨y32, v1, h1, h⟩ := q_bdi h
                      refine b_X2_register R h1 (fun T31 R q => ?_)
                      subst q
                      exact q_fin h kk R
                    · replace h := q_ifn h c
                      refine ⟨fun c => ?_, fun c => ?_⟩
                      · replace h := q_ifp h c
                        obtain ⟨y35, v1, h1, h⟩ := q_bdi h
                        refine b_X2_register R h1 (fun T34 R q => ?_)
                        subst q
                        exact q_fin h kk R
                      · replace h := q_ifn h c
                        obtain ⟨v1, h1, h⟩ := q_bvi h
                        refine b_X9_refuse R h1 (fun T36 R q => ?_)
                        subst q
                        exact q_fin h kk R
def fX2_negation_b48 (U : q_V → Option (Int32 × q_V)) (N : q_V → Option (Int32 × q_V)) (xt0 : Int32) (Sn : q_V) : Option (Int32 × q_V) :=
  q_bv (fX9_endNest Sn) (fun T1002 =>
  q_bd (fX0_add 6 T1002) (fun y1005 T1004 =>
  some (xt0, T1004)))
theorem b_X2_negation_b48 {g : q_G} {S0 : kp_S} {Uf : q_V → Option (Int32 × q_V)} {U : Nat → kp_S → (Int32 → kp_S → Prop) → Prop} {Nf : q_V → Option (Int32 × q_V)} {N : Nat → kp_S → (Int32 → kp_S → Prop) → Prop} {xt0 : Int32} {Sn : kp_S} {post : Int32 → kp_S → Prop} {y : Int32} {v : q_V} (R : q_Gd 1 g S0 Sn) (hU : ∀ (S : kp_S) (y : Int32) (v : q_V) (post : Int32 → kp_S → Prop), q_Gd 1 g S0 S → Uf (q_w g S) = some (y, v) → (∀ S, q_Gd 1 g S0 S → v = q_w g S → post y S) → U (g 0 2 0) S post) (hN : ∀ (S : kp_S) (y : Int32) (v : q_V) (post : Int32 → kp_S → Prop), q_Gd 1 g S0 S → Nf (q_w g S) = some (y, v) → (∀ S, q_Gd 1 g S0 S → v = q_w g S → post y S) → N (g 0 2 0) S post) (h : fX2_negation_b48 Uf Nf xt0 (q_w g Sn) = some (y, v)) (kk : ∀ S, q_Gd 1 g S0 S → v = q_w g S → post y S) : wX2_negation_b48 U N (g 0 2 0) xt0 Sn post := by
  unfold wX2_negation_b48; unfold fX2_negation_b48 at h
  refine ⟨_, q_p400 R, ?_⟩
  obtain ⟨v1, h1, h⟩ := q_bvi h
  refine b_X9_endNest R h1 (fun T1002 R q => ?_)
  subst q
  refine ⟨_, q_p402 R, ?_⟩
  obtain ⟨y1005, v1, h1, h⟩ := q_bdi h
  refine b_X0_add R h1 (fun T1004 R q => ?_)
  subst q
  exact q_fin h kk R
def fX2_negation (U : q_V → Option (Int32 × q_V)) (N : q_V → Option (Int32 × q_V)) (S : q_V) : Option (Int32 × q_V) :=
  if (q_i S 1805) = 328 then
  q_bv (fX9_expectNest 328 S) (fun T2 =>
  q_bd (fX9_isStopped T2) (fun y5 T4 =>
  if y5 = 0 then
  q_bd (N T4) (fun y7 T6 =>
  fX2_negation_b48 U N ((y7 &&& 1)) T6)
  else
  fX2_negation_b48 U N 0 T4))
  else
  q_bd (fX2_test U N S) (fun y10 T9 =>
  some (y10, T9))
theorem b_X2_negation {g : q_G} {S0 : kp_S} {Uf : q_V → Option (Int32 × q_V)} {U : Nat → kp_S → (Int32 → kp_S → Prop) → Prop} {Nf : q_V → Option (Int32 × q_V)} {N : Nat → kp_S → (Int32 → kp_S → Prop) → Prop} {S : kp_S} {post : Int32 → kp_S → Prop} {y : Int32} {v : q_V} (R : q_Gd 1 g S0 S) (hU : ∀ (S : kp_S) (y : Int32) (v : q_V) (post : Int32 → kp_S → Prop), q_Gd 1 g S0 S → Uf (q_w g S) = some (y, v) → (∀ S, q_Gd 1 g S0 S → v = q_w g S → post y S) → U (g 0 2 0) S post) (hN : ∀ (S : kp_S) (y : Int32) (v : q_V) (post : Int32 → kp_S → Prop), q_Gd 1 g S0 S → Nf (q_w g S) = some (y, v) → (∀ S, q_Gd 1 g S0 S → v = q_w g S → post y S) → N (g 0 2 0) S post) (h : fX2_negation Uf Nf (q_w g S) = some (y, v)) (kk : ∀ S, q_Gd 1 g S0 S → v = q_w g S → post y S) : wX2_negation U N (g 0 2 0) S post := by
  unfold wX2_negation; unfold fX2_negation at h
  refine ⟨_, q_p400 R, ?_⟩
  refine ⟨fun c => ?_, fun c => ?_⟩
  · replace h := q_ifp h c
    obtain ⟨v1, h1, h⟩ := q_bvi h
    refine b_X9_expectNest R h1 (fun T2 R q => ?_)
    subst q
    refine ⟨_, q_p400 R, ?_⟩
    obtain ⟨y5, v1, h1, h⟩ := q_bdi h
    refine b_X9_isStopped R h1 (fun T4 R q => ?_)
    subst q
    refine ⟨fun c => ?_, fun c => ?_⟩
    · replace h := q_ifp h c
      obtain ⟨y7, v1, h1, h⟩ := q_bdi h
      refine hN _ _ _ _ R h1 (fun T6 R q => ?_)
      subst q
      exact b_X2_negation_b48 R hU hN h kk
    · replace h := q_ifn h c
      exact b_X2_negation_b48 R hU hN h kk
  · replace h := q_ifn h c
    obtain ⟨y10, v1, h1, h⟩ := q_bdi h
    refine b_X2_test R hU hN h1 (fun T9 R q => ?_)
    subst q
    exact q_fin h kk R
def fx2_rec : Nat → Nat → q_V → Option (Int32 × q_V)
  | 0, _, _ => none
  | n + 1, 0, v => fX2_unit (fx2_rec n 0) (fx2_rec n 1) v
  | n + 1, _, v => fX2_negation (fx2_rec n 0) (fx2_rec n 1) v
theorem b_x2_rec {g : q_G} {S0 : kp_S} : ∀ n : Nat, (∀ (S : kp_S) (y : Int32) (v : q_V) (post : Int32 → kp_S → Prop), q_Gd 1 g S0 S → fx2_rec n 0 (q_w g S) = some (y, v) → (∀ S, q_Gd 1 g S0 S → v = q_w g S → post y S) → wx2_rec n 0 (g 0 2 0) S post) ∧ (∀ (S : kp_S) (y : Int32) (v : q_V) (post : Int32 → kp_S → Prop), q_Gd 1 g S0 S → fx2_rec n 1 (q_w g S) = some (y, v) → (∀ S, q_Gd 1 g S0 S → v = q_w g S → post y S) → wx2_rec n 1 (g 0 2 0) S post) := by
  intro n
  induction n with
  | zero => exact ⟨fun S y v post R h kk => (by cases h), fun S y v post R h kk => (by cases h)⟩
  | succ n ih => exact ⟨fun S y v post R h kk => b_X2_unit R ih.1 ih.2 h kk, fun S y v post R h kk => b_X2_negation R ih.1 ih.2 h kk⟩
def fX2_whole_t (v : q_V) : Option (Int32 × q_V) := fX2_whole (fx2_rec 36 0) (fx2_rec 36 1) v
theorem b_X2_whole_t {g : q_G} {S0 : kp_S} {S : kp_S} {post : Int32 → kp_S → Prop} {y : Int32} {v : q_V} (R : q_Gd 1 g S0 S) (h : fX2_whole_t (q_w g S) = some (y, v)) (kk : ∀ S, q_Gd 1 g S0 S → v = q_w g S → post y S) : wX2_whole_t (g 0 2 0) S post := b_X2_whole R (b_x2_rec 36).1 (b_x2_rec 36).2 h kk
def fX2_callOf_t (w1 : Int64) (x3 : Int32) (v : q_V) : Option q_V := fX2_callOf (fx2_rec 36 0) (fx2_rec 36 1) w1 x3 v
theorem b_X2_callOf_t {g : q_G} {S0 : kp_S} {w1 : Int64} {x3 : Int32} {S : kp_S} {post : kp_S → Prop} {v : q_V} (R : q_Gd 1 g S0 S) (h : fX2_callOf_t w1 x3 (q_w g S) = some v) (kk : ∀ S, q_Gd 1 g S0 S → v = q_w g S → post S) : wX2_callOf_t (g 0 2 0) w1 x3 S post := b_X2_callOf R (b_x2_rec 36).1 (b_x2_rec 36).2 h kk
