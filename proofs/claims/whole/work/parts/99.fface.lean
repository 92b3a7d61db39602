/-! The functions of the methods, and the rows that they speak for the w. (generated: wip/whole/gen2.py) -/
def fX11_append_b90 (x1 : Int32) (xn2 : Int32) (K3 : Int32 → q_V → Option q_V) (Sn : q_V) : Option q_V :=
  q_lt (xn2 + (- 8) : Int32) (fun y1001 =>
  K3 y1001 Sn)
theorem b_X11_append_b90 {g : q_G} {S0 : kp_S} {x1 : Int32} {xn2 : Int32} {K3f : Int32 → q_V → Option q_V} {K3 : Int32 → kp_S → Prop} {Sn : kp_S} {post : kp_S → Prop} {v : q_V} (R : q_Gd 3 g S0 Sn) (hK3 : ∀ (x0 : Int32) (S : kp_S), q_Gd 3 g S0 S → K3f x0 (q_w g S) = some v → K3 x0 S) (h : fX11_append_b90 x1 xn2 K3f (q_w g Sn) = some v) (kk : ∀ S, q_Gd 3 g S0 S → v = q_w g S → post S) : wX11_append_b90 (g 0 11 0) x1 xn2 K3 Sn post := by
  unfold wX11_append_b90; unfold fX11_append_b90 at h
  intro y1001 q
  replace h := q_ltw h q
  exact hK3 _ _ R h
def fX11_append_b78 (x1 : Int32) (xn2 : Int32) (xt0 : Int32) (xt1 : Int32) (K3 : Int32 → q_V → Option q_V) (Sn : q_V) : Option q_V :=
  if (xt1) < 0 ∨ 3000 ≤ (xt1).toNatClampNeg then none else
  q_lt (q_sa Sn 2200 ((upd (q_a Sn 2200) (xt1.toNatClampNeg) (vp_nar .byte ((xt0 : Int32).toInt8.toInt32))))) (fun T2001 =>
  q_lt (q_si T2001 2206 (((q_i T2001 2206) + 1))) (fun T2002 =>
  fX11_append_b90 x1 xn2 K3 T2002))
theorem b_X11_append_b78 {g : q_G} {S0 : kp_S} {x1 : Int32} {xn2 : Int32} {xt0 : Int32} {xt1 : Int32} {K3f : Int32 → q_V → Option q_V} {K3 : Int32 → kp_S → Prop} {Sn : kp_S} {post : kp_S → Prop} {v : q_V} (R : q_Gd 3 g S0 Sn) (hK3 : ∀ (x0 : Int32) (S : kp_S), q_Gd 3 g S0 S → K3f x0 (q_w g S) = some v → K3 x0 S) (h : fX11_append_b78 x1 xn2 xt0 xt1 K3f (q_w g Sn) = some v) (kk : ∀ S, q_Gd 3 g S0 S → v = q_w g S → post S) : wX11_append_b78 (g 0 11 0) x1 xn2 xt0 xt1 (g 1 2200 0) K3 Sn post := by
  unfold wX11_append_b78; unfold fX11_append_b78 at h
  rw [q_l2200 R]
  obtain ⟨hi, h⟩ := q_in h
  refine ⟨hi, ?_⟩
  intro T2001 q
  obtain ⟨R, q⟩ := q_wA R q rfl
  replace h := q_ltw h q
  intro T2002 q
  obtain ⟨R, q⟩ := q_wI R q rfl rfl
  replace h := q_ltw h q
  exact b_X11_append_b90 R hK3 h kk
def fX11_append_b38 (x1 : Int32) (xn2 : Int32) (xn3 : Int32) (xt0 : Int32) (K3 : Int32 → q_V → Option q_V) (Sn : q_V) : Option q_V :=
  if (q_i Sn 2206) < 0 then
  fX11_append_b90 x1 xn2 K3 Sn
  else
  if (3000) ≤ (q_i Sn 2206) then
  fX11_append_b90 x1 xn2 K3 Sn
  else
  if xt0 = 0 then
  fX11_append_b78 x1 xn2 32 ((q_i Sn 2206)) K3 Sn
  else
  fX11_append_b78 x1 xn2 xn3 ((q_i Sn 2206)) K3 Sn
theorem b_X11_append_b38 {g : q_G} {S0 : kp_S} {x1 : Int32} {xn2 : Int32} {xn3 : Int32} {xt0 : Int32} {K3f : Int32 → q_V → Option q_V} {K3 : Int32 → kp_S → Prop} {Sn : kp_S} {post : kp_S → Prop} {v : q_V} (R : q_Gd 3 g S0 Sn) (hK3 : ∀ (x0 : Int32) (S : kp_S), q_Gd 3 g S0 S → K3f x0 (q_w g S) = some v → K3 x0 S) (h : fX11_append_b38 x1 xn2 xn3 xt0 K3f (q_w g Sn) = some v) (kk : ∀ S, q_Gd 3 g S0 S → v = q_w g S → post S) : wX11_append_b38 (g 0 11 0) x1 xn2 xn3 xt0 K3 Sn post := by
  unfold wX11_append_b38; unfold fX11_append_b38 at h
  refine ⟨fun c => ?_, fun c => ?_⟩
  · replace h := q_ifp h c
    exact b_X11_append_b90 R hK3 h kk
  · replace h := q_ifn h c
    refine ⟨_, q_p2200 R, ?_⟩
    rw [q_l2200 R]
    refine ⟨fun c => ?_, fun c => ?_⟩
    · replace h := q_ifp h c
      exact b_X11_append_b90 R hK3 h kk
    · replace h := q_ifn h c
      refine ⟨fun c => ?_, fun c => ?_⟩
      · replace h := q_ifp h c
        exact b_X11_append_b78 R hK3 h kk
      · replace h := q_ifn h c
        exact b_X11_append_b78 R hK3 h kk
def fX11_append_b33 (x1 : Int32) (xn2 : Int32) (xn3 : Int32) (K3 : Int32 → q_V → Option q_V) (Sn : q_V) : Option q_V :=
  fX11_append_b38 x1 xn2 xn3 1 K3 Sn
theorem b_X11_append_b33 {g : q_G} {S0 : kp_S} {x1 : Int32} {xn2 : Int32} {xn3 : Int32} {K3f : Int32 → q_V → Option q_V} {K3 : Int32 → kp_S → Prop} {Sn : kp_S} {post : kp_S → Prop} {v : q_V} (R : q_Gd 3 g S0 Sn) (hK3 : ∀ (x0 : Int32) (S : kp_S), q_Gd 3 g S0 S → K3f x0 (q_w g S) = some v → K3 x0 S) (h : fX11_append_b33 x1 xn2 xn3 K3f (q_w g Sn) = some v) (kk : ∀ S, q_Gd 3 g S0 S → v = q_w g S → post S) : wX11_append_b33 (g 0 11 0) x1 xn2 xn3 K3 Sn post := by
  unfold wX11_append_b33; unfold fX11_append_b33 at h
  exact b_X11_append_b38 R hK3 h kk
def fX11_append_b37 (x1 : Int32) (xn2 : Int32) (xn3 : Int32) (K3 : Int32 → q_V → Option q_V) (Sn : q_V) : Option q_V :=
  fX11_append_b38 x1 xn2 xn3 0 K3 Sn
theorem b_X11_append_b37 {g : q_G} {S0 : kp_S} {x1 : Int32} {xn2 : Int32} {xn3 : Int32} {K3f : Int32 → q_V → Option q_V} {K3 : Int32 → kp_S → Prop} {Sn : kp_S} {post : kp_S → Prop} {v : q_V} (R : q_Gd 3 g S0 Sn) (hK3 : ∀ (x0 : Int32) (S : kp_S), q_Gd 3 g S0 S → K3f x0 (q_w g S) = some v → K3 x0 S) (h : fX11_append_b37 x1 xn2 xn3 K3f (q_w g Sn) = some v) (kk : ∀ S, q_Gd 3 g S0 S → v = q_w g S → post S) : wX11_append_b37 (g 0 11 0) x1 xn2 xn3 K3 Sn post := by
  unfold wX11_append_b37; unfold fX11_append_b37 at h
  exact b_X11_append_b38 R hK3 h kk
def fX11_append_L3 (x1 : Int32) : Nat → Int32 → q_V → Option q_V
  | 0, _, _ => none
  | n + 1, xn2, Sn =>
  if xn2 < 0 then
  some Sn
  else
  q_lt (((((x1 : Int32).toUInt32 >>> ((xn2 : Int32).toUInt32 &&& Int32.toUInt32 31)).toInt32) &&& 255) : Int32) (fun y6001 =>
  if y6001 = 10 then
  fX11_append_b33 x1 xn2 y6001 (fun xn2_ S_ => fX11_append_L3 x1 n xn2_ S_) Sn
  else
  if y6001 < 32 then
  fX11_append_b37 x1 xn2 y6001 (fun xn2_ S_ => fX11_append_L3 x1 n xn2_ S_) Sn
  else
  if 126 < y6001 then
  fX11_append_b37 x1 xn2 y6001 (fun xn2_ S_ => fX11_append_L3 x1 n xn2_ S_) Sn
  else
  fX11_append_b33 x1 xn2 y6001 (fun xn2_ S_ => fX11_append_L3 x1 n xn2_ S_) Sn)
theorem b_X11_append_L3 {g : q_G} {S0 : kp_S} {x1 : Int32} {post : kp_S → Prop} {v : q_V}  (kk : ∀ S, q_Gd 3 g S0 S → v = q_w g S → post S) : ∀ (n : Nat) (xn2 : Int32) (Sn : kp_S), q_Gd 3 g S0 Sn → fX11_append_L3 x1 n xn2 (q_w g Sn) = some v → wX11_append_L3 (g 0 11 0) x1 post n xn2 Sn := by
  intro n
  induction n with
  | zero => intro xn2 Sn _ h; cases h
  | succ n ih =>
    intro xn2 Sn R h
    unfold wX11_append_L3; unfold fX11_append_L3 at h
    refine ⟨fun c => ?_, fun c => ?_⟩
    · replace h := q_ifp h c
      exact q_finv h kk R
    · replace h := q_ifn h c
      intro y6001 q
      replace h := q_ltw h q
      refine ⟨fun c => ?_, fun c => ?_⟩
      · replace h := q_ifp h c
        exact b_X11_append_b33 R (fun xn2_ S_ R h => ih xn2_ S_ R h) h kk
      · replace h := q_ifn h c
        refine ⟨fun c => ?_, fun c => ?_⟩
        · replace h := q_ifp h c
          exact b_X11_append_b37 R (fun xn2_ S_ R h => ih xn2_ S_ R h) h kk
        · replace h := q_ifn h c
          refine ⟨fun c => ?_, fun c => ?_⟩
          · replace h := q_ifp h c
            exact b_X11_append_b37 R (fun xn2_ S_ R h => ih xn2_ S_ R h) h kk
          · replace h := q_ifn h c
            exact b_X11_append_b33 R (fun xn2_ S_ R h => ih xn2_ S_ R h) h kk
def fX11_append (x1 : Int32) (S : q_V) : Option q_V :=
  fX11_append_L3 x1 q_N 24 S
theorem b_X11_append {g : q_G} {S0 : kp_S} {x1 : Int32} {S : kp_S} {post : kp_S → Prop} {v : q_V} (R : q_Gd 3 g S0 S)  (h : fX11_append x1 (q_w g S) = some v) (kk : ∀ S, q_Gd 3 g S0 S → v = q_w g S → post S) : wX11_append (g 0 11 0) x1 S post := by
  unfold wX11_append; unfold fX11_append at h
  exact ⟨q_N, b_X11_append_L3 kk q_N _ _ R h⟩
def fX11_feed (x1 : Int32) (x2 : Int32) (x3 : Int32) (x4 : Int32) (x5 : Int32) (S : q_V) : Option (Int32 × q_V) :=
  if ((q_i S 2206) + 20) ≤ 3000 then
  q_bv (fX11_append x1 S) (fun T1 =>
  q_bv (fX11_append x2 T1) (fun T2 =>
  q_bv (fX11_append x3 T2) (fun T3 =>
  q_bv (fX11_append x4 T3) (fun T4 =>
  q_bv (fX11_append x5 T4) (fun T5 =>
  some (1, T5))))))
  else
  some (0, S)
theorem b_X11_feed {g : q_G} {S0 : kp_S} {x1 : Int32} {x2 : Int32} {x3 : Int32} {x4 : Int32} {x5 : Int32} {S : kp_S} {post : Int32 → kp_S → Prop} {y : Int32} {v : q_V} (R : q_Gd 3 g S0 S)  (h : fX11_feed x1 x2 x3 x4 x5 (q_w g S) = some (y, v)) (kk : ∀ S, q_Gd 3 g S0 S → v = q_w g S → post y S) : wX11_feed (g 0 11 0) x1 x2 x3 x4 x5 S post := by
  unfold wX11_feed; unfold fX11_feed at h
  refine ⟨fun c => ?_, fun c => ?_⟩
  · replace h := q_ifp h c
    obtain ⟨v1, h1, h⟩ := q_bvi h
    refine b_X11_append R h1 (fun T1 R q => ?_)
    subst q
    obtain ⟨v1, h1, h⟩ := q_bvi h
    refine b_X11_append R h1 (fun T2 R q => ?_)
    subst q
    obtain ⟨v1, h1, h⟩ := q_bvi h
    refine b_X11_append R h1 (fun T3 R q => ?_)
    subst q
    obtain ⟨v1, h1, h⟩ := q_bvi h
    refine b_X11_append R h1 (fun T4 R q => ?_)
    subst q
    obtain ⟨v1, h1, h⟩ := q_bvi h
    refine b_X11_append R h1 (fun T5 R q => ?_)
    subst q
    exact q_fin h kk R
  · replace h := q_ifn h c
    exact q_fin h kk R
def fX11_end_b12 (x1 : Int32) (Sn : q_V) : Option (Int32 × q_V) :=
  some (0, Sn)
theorem b_X11_end_b12 {g : q_G} {S0 : kp_S} {x1 : Int32} {Sn : kp_S} {post : Int32 → kp_S → Prop} {y : Int32} {v : q_V} (R : q_Gd 3 g S0 Sn)  (h : fX11_end_b12 x1 (q_w g Sn) = some (y, v)) (kk : ∀ S, q_Gd 3 g S0 S → v = q_w g S → post y S) : wX11_end_b12 (g 0 11 0) x1 Sn post := by
  unfold wX11_end_b12; unfold fX11_end_b12 at h
  exact q_fin h kk R
def fX11_end (x1 : Int32) (S : q_V) : Option (Int32 × q_V) :=
  if x1 < 0 then
  fX11_end_b12 x1 S
  else
  if x1 ≤ (q_i S 2206) then
  q_lt (q_si S 2206 x1) (fun T1 =>
  some (1, T1))
  else
  fX11_end_b12 x1 S
theorem b_X11_end {g : q_G} {S0 : kp_S} {x1 : Int32} {S : kp_S} {post : Int32 → kp_S → Prop} {y : Int32} {v : q_V} (R : q_Gd 3 g S0 S)  (h : fX11_end x1 (q_w g S) = some (y, v)) (kk : ∀ S, q_Gd 3 g S0 S → v = q_w g S → post y S) : wX11_end (g 0 11 0) x1 S post := by
  unfold wX11_end; unfold fX11_end at h
  refine ⟨fun c => ?_, fun c => ?_⟩
  · replace h := q_ifp h c
    exact b_X11_end_b12 R h kk
  · replace h := q_ifn h c
    refine ⟨fun c => ?_, fun c => ?_⟩
    · replace h := q_ifp h c
      intro T1 q
      obtain ⟨R, q⟩ := q_wI R q rfl rfl
      replace h := q_ltw h q
      exact q_fin h kk R
    · replace h := q_ifn h c
      exact b_X11_end_b12 R h kk
def fX11_fault_b22 (x1 : Int32) (xt0 : Int32) (Sn : q_V) : Option (Int32 × q_V) :=
  some (xt0, Sn)
theorem b_X11_fault_b22 {g : q_G} {S0 : kp_S} {x1 : Int32} {xt0 : Int32} {Sn : kp_S} {post : Int32 → kp_S → Prop} {y : Int32} {v : q_V} (R : q_Gd 3 g S0 Sn)  (h : fX11_fault_b22 x1 xt0 (q_w g Sn) = some (y, v)) (kk : ∀ S, q_Gd 3 g S0 S → v = q_w g S → post y S) : wX11_fault_b22 (g 0 11 0) x1 xt0 Sn post := by
  unfold wX11_fault_b22; unfold fX11_fault_b22 at h
  exact q_fin h kk R
def fX11_fault (x1 : Int32) (S : q_V) : Option (Int32 × q_V) :=
  if x1 = 0 then
  some ((q_i S 2207), S)
  else
  if x1 = 1 then
  fX11_fault_b22 x1 ((q_i S 2208)) S
  else
  fX11_fault_b22 x1 ((- 1)) S
theorem b_X11_fault {g : q_G} {S0 : kp_S} {x1 : Int32} {S : kp_S} {post : Int32 → kp_S → Prop} {y : Int32} {v : q_V} (R : q_Gd 3 g S0 S)  (h : fX11_fault x1 (q_w g S) = some (y, v)) (kk : ∀ S, q_Gd 3 g S0 S → v = q_w g S → post y S) : wX11_fault (g 0 11 0) x1 S post := by
  unfold wX11_fault; unfold fX11_fault at h
  refine ⟨fun c => ?_, fun c => ?_⟩
  · replace h := q_ifn h c
    refine ⟨fun c => ?_, fun c => ?_⟩
    · replace h := q_ifn h c
      exact b_X11_fault_b22 R h kk
    · replace h := q_ifp h c
      exact b_X11_fault_b22 R h kk
  · replace h := q_ifp h c
    exact q_fin h kk R
def fX11_hasBook_b15 (xt0 : Int32) (Sn : q_V) : Option (Int32 × q_V) :=
  if ¬ (xt0 = 0 ∨ xt0 = 1) then none else
  some (xt0, Sn)
theorem b_X11_hasBook_b15 {g : q_G} {S0 : kp_S} {xt0 : Int32} {Sn : kp_S} {post : Int32 → kp_S → Prop} {y : Int32} {v : q_V} (R : q_Gd 3 g S0 Sn)  (h : fX11_hasBook_b15 xt0 (q_w g Sn) = some (y, v)) (kk : ∀ S, q_Gd 3 g S0 S → v = q_w g S → post y S) : wX11_hasBook_b15 (g 0 11 0) xt0 Sn post := by
  unfold wX11_hasBook_b15; unfold fX11_hasBook_b15 at h
  obtain ⟨hi, h⟩ := q_in h
  refine ⟨Classical.not_not.mp hi, ?_⟩
  exact q_fin h kk R
def fX11_hasBook (S : q_V) : Option (Int32 × q_V) :=
  if (q_i S 3) ≤ 0 then
  fX11_hasBook_b15 0 S
  else
  fX11_hasBook_b15 1 S
theorem b_X11_hasBook {g : q_G} {S0 : kp_S} {S : kp_S} {post : Int32 → kp_S → Prop} {y : Int32} {v : q_V} (R : q_Gd 3 g S0 S)  (h : fX11_hasBook (q_w g S) = some (y, v)) (kk : ∀ S, q_Gd 3 g S0 S → v = q_w g S → post y S) : wX11_hasBook (g 0 11 0) S post := by
  unfold wX11_hasBook; unfold fX11_hasBook at h
  refine ⟨_, q_p2205 R, ?_⟩
  refine ⟨fun c => ?_, fun c => ?_⟩
  · replace h := q_ifp h c
    exact b_X11_hasBook_b15 R h kk
  · replace h := q_ifn h c
    exact b_X11_hasBook_b15 R h kk
def fX11_duty_b29 (x1 : Int32) (x2 : Int32) (xt0 : Int32) (Sn : q_V) : Option (Int32 × q_V) :=
  some (xt0, Sn)
theorem b_X11_duty_b29 {g : q_G} {S0 : kp_S} {x1 : Int32} {x2 : Int32} {xt0 : Int32} {Sn : kp_S} {post : Int32 → kp_S → Prop} {y : Int32} {v : q_V} (R : q_Gd 3 g S0 Sn)  (h : fX11_duty_b29 x1 x2 xt0 (q_w g Sn) = some (y, v)) (kk : ∀ S, q_Gd 3 g S0 S → v = q_w g S → post y S) : wX11_duty_b29 (g 0 11 0) x1 x2 xt0 Sn post := by
  unfold wX11_duty_b29; unfold fX11_duty_b29 at h
  exact q_fin h kk R
def fX11_duty (x1 : Int32) (x2 : Int32) (S : q_V) : Option (Int32 × q_V) :=
  q_bd (fX11_hasBook S) (fun y2 T1 =>
  if y2 = 0 then
  some ((- 1), T1)
  else
  if x1 = (- 1) then
  if x2 = 0 then
  fX11_duty_b29 x1 x2 ((q_i T1 3)) T1
  else
  fX11_duty_b29 x1 x2 ((- 1)) T1
  else
  q_bd (fX0_dutyFact x1 x2 T1) (fun y5 T4 =>
  some (y5, T4)))
theorem b_X11_duty {g : q_G} {S0 : kp_S} {x1 : Int32} {x2 : Int32} {S : kp_S} {post : Int32 → kp_S → Prop} {y : Int32} {v : q_V} (R : q_Gd 3 g S0 S)  (h : fX11_duty x1 x2 (q_w g S) = some (y, v)) (kk : ∀ S, q_Gd 3 g S0 S → v = q_w g S → post y S) : wX11_duty (g 0 11 0) x1 x2 S post := by
  unfold wX11_duty; unfold fX11_duty at h
  obtain ⟨y2, v1, h1, h⟩ := q_bdi h
  refine b_X11_hasBook R h1 (fun T1 R q => ?_)
  subst q
  refine ⟨fun c => ?_, fun c => ?_⟩
  · replace h := q_ifn h c
    refine ⟨fun c => ?_, fun c => ?_⟩
    · replace h := q_ifn h c
      refine ⟨_, q_p2205 R, ?_⟩
      obtain ⟨y5, v1, h1, h⟩ := q_bdi h
      refine b_X0_dutyFact R h1 (fun T4 R q => ?_)
      subst q
      exact q_fin h kk R
    · replace h := q_ifp h c
      refine ⟨fun c => ?_, fun c => ?_⟩
      · replace h := q_ifn h c
        exact b_X11_duty_b29 R h kk
      · replace h := q_ifp h c
        refine ⟨_, q_p2205 R, ?_⟩
        exact b_X11_duty_b29 R h kk
  · replace h := q_ifp h c
    exact q_fin h kk R
def fX11_fill (x1 : Int32) (x2 : Int32) (S : q_V) : Option (Int32 × q_V) :=
  q_bd (fX1_fillReach x1 x2 S) (fun y3 T2 =>
  if ¬ (y3 = 0 ∨ y3 = 1) then none else
  some (y3, T2))
theorem b_X11_fill {g : q_G} {S0 : kp_S} {x1 : Int32} {x2 : Int32} {S : kp_S} {post : Int32 → kp_S → Prop} {y : Int32} {v : q_V} (R : q_Gd 0 g S0 S)  (h : fX11_fill x1 x2 (q_w g S) = some (y, v)) (kk : ∀ S, q_Gd 0 g S0 S → v = q_w g S → post y S) : wX11_fill (g 0 11 0) x1 x2 S post := by
  unfold wX11_fill; unfold fX11_fill at h
  refine ⟨_, q_p2202 R, ?_⟩
  obtain ⟨y3, v1, h1, h⟩ := q_bdi h
  refine b_X1_fillReach R h1 (fun T2 R q => ?_)
  subst q
  obtain ⟨hi, h⟩ := q_in h
  refine ⟨Classical.not_not.mp hi, ?_⟩
  exact q_fin h kk R
def fX11_chamber (x1 : Int32) (x2 : Int32) (S : q_V) : Option (Int32 × q_V) :=
  q_bd (fX1_fillChamber x1 x2 S) (fun y3 T2 =>
  if ¬ (y3 = 0 ∨ y3 = 1) then none else
  some (y3, T2))
theorem b_X11_chamber {g : q_G} {S0 : kp_S} {x1 : Int32} {x2 : Int32} {S : kp_S} {post : Int32 → kp_S → Prop} {y : Int32} {v : q_V} (R : q_Gd 0 g S0 S)  (h : fX11_chamber x1 x2 (q_w g S) = some (y, v)) (kk : ∀ S, q_Gd 0 g S0 S → v = q_w g S → post y S) : wX11_chamber (g 0 11 0) x1 x2 S post := by
  unfold wX11_chamber; unfold fX11_chamber at h
  refine ⟨_, q_p2202 R, ?_⟩
  obtain ⟨y3, v1, h1, h⟩ := q_bdi h
  refine b_X1_fillChamber R h1 (fun T2 R q => ?_)
  subst q
  obtain ⟨hi, h⟩ := q_in h
  refine ⟨Classical.not_not.mp hi, ?_⟩
  exact q_fin h kk R
def fX11_berth (x1 : Int32) (x2 : Int32) (S : q_V) : Option (Int32 × q_V) :=
  q_bd (fX1_layShip x1 x2 S) (fun y3 T2 =>
  if ¬ (y3 = 0 ∨ y3 = 1) then none else
  some (y3, T2))
theorem b_X11_berth {g : q_G} {S0 : kp_S} {x1 : Int32} {x2 : Int32} {S : kp_S} {post : Int32 → kp_S → Prop} {y : Int32} {v : q_V} (R : q_Gd 0 g S0 S)  (h : fX11_berth x1 x2 (q_w g S) = some (y, v)) (kk : ∀ S, q_Gd 0 g S0 S → v = q_w g S → post y S) : wX11_berth (g 0 11 0) x1 x2 S post := by
  unfold wX11_berth; unfold fX11_berth at h
  refine ⟨_, q_p2202 R, ?_⟩
  obtain ⟨y3, v1, h1, h⟩ := q_bdi h
  refine b_X1_layShip R h1 (fun T2 R q => ?_)
  subst q
  obtain ⟨hi, h⟩ := q_in h
  refine ⟨Classical.not_not.mp hi, ?_⟩
  exact q_fin h kk R
def fX11_told (x1 : Int32) (S : q_V) : Option (Int32 × q_V) :=
  q_bd (fX7_get x1 S) (fun y3 T2 =>
  some (y3, T2))
theorem b_X11_told {g : q_G} {S0 : kp_S} {x1 : Int32} {S : kp_S} {post : Int32 → kp_S → Prop} {y : Int32} {v : q_V} (R : q_Gd 0 g S0 S)  (h : fX11_told x1 (q_w g S) = some (y, v)) (kk : ∀ S, q_Gd 0 g S0 S → v = q_w g S → post y S) : wX11_told (g 0 11 0) x1 S post := by
  unfold wX11_told; unfold fX11_told at h
  refine ⟨_, q_p2203 R, ?_⟩
  obtain ⟨y3, v1, h1, h⟩ := q_bdi h
  refine b_X7_get R h1 (fun T2 R q => ?_)
  subst q
  exact q_fin h kk R
def fX11_log (x1 : Int32) (x2 : Int32) (S : q_V) : Option (Int32 × q_V) :=
  q_bd (fX7_entry x1 x2 S) (fun y3 T2 =>
  some (y3, T2))
theorem b_X11_log {g : q_G} {S0 : kp_S} {x1 : Int32} {x2 : Int32} {S : kp_S} {post : Int32 → kp_S → Prop} {y : Int32} {v : q_V} (R : q_Gd 0 g S0 S)  (h : fX11_log x1 x2 (q_w g S) = some (y, v)) (kk : ∀ S, q_Gd 0 g S0 S → v = q_w g S → post y S) : wX11_log (g 0 11 0) x1 x2 S post := by
  unfold wX11_log; unfold fX11_log at h
  refine ⟨_, q_p2203 R, ?_⟩
  obtain ⟨y3, v1, h1, h⟩ := q_bdi h
  refine b_X7_entry R h1 (fun T2 R q => ?_)
  subst q
  exact q_fin h kk R
def fX11_look (x1 : Int32) (x2 : Int32) (S : q_V) : Option (Int32 × q_V) :=
  q_bd (fX1_fact x1 x2 S) (fun y3 T2 =>
  some (y3, T2))
theorem b_X11_look {g : q_G} {S0 : kp_S} {x1 : Int32} {x2 : Int32} {S : kp_S} {post : Int32 → kp_S → Prop} {y : Int32} {v : q_V} (R : q_Gd 0 g S0 S)  (h : fX11_look x1 x2 (q_w g S) = some (y, v)) (kk : ∀ S, q_Gd 0 g S0 S → v = q_w g S → post y S) : wX11_look (g 0 11 0) x1 x2 S post := by
  unfold wX11_look; unfold fX11_look at h
  refine ⟨_, q_p2202 R, ?_⟩
  obtain ⟨y3, v1, h1, h⟩ := q_bdi h
  refine b_X1_fact R h1 (fun T2 R q => ?_)
  subst q
  exact q_fin h kk R
